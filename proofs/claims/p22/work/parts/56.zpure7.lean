/-- what a barge waits for, by its place and its goal -/
def c_wv (u g : Nat) : Int32 := if (if nI u = nI g then (1 : Int32) else 0) = 0 then (if (if nI u ≤ nI g then (0 : Int32) else 1) = 0 then nI u else nI u - 1) else -1
-- ===== what the law asks of the tells =====
theorem told_facts {K : CK} {V : CD} {N b : Nat} (hV : okV K V N) (hb : b < kNb K) :
    ¬ dAt V b < 0 ∧ ¬ 5 < dAt V b ∧ ¬ kGoal K b < 0 ∧ ¬ 5 < kGoal K b ∧ ¬ dPur V b < 0 ∧ (c_waits K V b < 0 ↔ dAt V b = kGoal K b) ∧ ¬ 4 < c_waits K V b ∧ (¬ c_waits K V b < 0 → c_waits K V b = dAt V b ∨ c_waits K V b = dAt V b - 1) ∧ (c_come K V b = if c_waits K V b < 0 then 1 else 0) ∧
    (c_waits K V b = -1 ∨ ∃ k, k < 5 ∧ c_waits K V b = nI k) := by
  obtain ⟨v1, v2, v3, v4, v5, v6, v7, v8, v9, v10⟩ := hV
  obtain ⟨u, hu, eu⟩ := v6 b hb
  obtain ⟨g, hg, eg⟩ := v7 b hb
  obtain ⟨y, hy, ey⟩ := v8 b hb
  have h1 : ∀ u, u < 6 → ∀ g, g < 6 → ¬ nI u < 0 ∧ ¬ 5 < nI u ∧ (c_wv u g < 0 ↔ nI u = nI g) := by decide +kernel
  have h2 : ∀ u, u < 6 → ∀ g, g < 6 → ¬ 4 < c_wv u g ∧ (c_wv u g < 0 ∨ c_wv u g = nI u ∨ c_wv u g = nI u - 1) := by decide +kernel
  have h3 : ∀ u, u < 6 → ∀ g, g < 6 → (if nI u = nI g then (1 : Int32) else 0) = if c_wv u g < 0 then 1 else 0 := by decide +kernel
  have h4 : ∀ u, u < 6 → ∀ g, g < 6 → c_wv u g = -1 ∨ c_wv u g = nI 0 ∨ c_wv u g = nI 1 ∨ c_wv u g = nI 2 ∨ c_wv u g = nI 3 ∨ c_wv u g = nI 4 := by decide +kernel
  obtain ⟨a1, a2, a3⟩ := h1 u (by omega) g (by omega)
  obtain ⟨b1, b2, -⟩ := h1 g (by omega) g (by omega)
  obtain ⟨a4, a5⟩ := h2 u (by omega) g (by omega)
  have a6 := h3 u (by omega) g (by omega)
  have a7 := h4 u (by omega) g (by omega)
  have e : c_waits K V b = c_wv u g := by
    unfold c_waits c_come c_down c_wv
    rw [eu, eg]
  have e2 : c_come K V b = (if nI u = nI g then (1 : Int32) else 0) := by unfold c_come; rw [eu, eg]
  rw [e, e2, eu, eg, ey]
  refine ⟨a1, a2, b1, b2, nI_pos (by omega), a3, a4, fun z => a5.resolve_left z, a6, ?_⟩
  rcases a7 with z | z | z | z | z | z
  · exact Or.inl z
  · exact Or.inr ⟨0, by omega, z⟩
  · exact Or.inr ⟨1, by omega, z⟩
  · exact Or.inr ⟨2, by omega, z⟩
  · exact Or.inr ⟨3, by omega, z⟩
  · exact Or.inr ⟨4, by omega, z⟩
theorem cntL_sum (f : Nat → Int32) (x : Int32) : ∀ (m b : Nat) (r : Int32), c_cntL f x m b r = c_sumL (fun j => if f j = x then 1 else 0) m b r := by
  intro m
  induction m with
  | zero => intro b r; rfl
  | succ m ih => intro b r; rw [c_cntL, c_sumL, ih]
theorem sN_swap (f : Nat → Nat → Int32) (n : Nat) : ∀ m, sN (fun p => sN (fun j => f p j) n) m = sN (fun j => sN (fun p => f p j) m) n := by
  intro m
  induction m with
  | zero =>
    induction n with
    | zero => rfl
    | succ n ih => rw [sN] at ih ⊢; rw [sN, ← ih]; rfl
  | succ m ih =>
    rw [sN, ih]
    have h : ∀ k, sN (fun j => sN (fun p => f p j) (m + 1)) k = sN (fun j => sN (fun p => f p j) m) k + sN (fun j => f m j) k := by
      intro k
      induction k with
      | zero => rfl
      | succ k ih2 => rw [sN, sN, sN, ih2, sN]; grind
    rw [h n]
theorem sN_congr {f g : Nat → Int32} : ∀ n, (∀ j, j < n → f j = g j) → sN f n = sN g n := by
  intro n
  induction n with
  | zero => intro _; rfl
  | succ n ih => intro h; rw [sN, sN, ih (fun j hj => h j (by omega)), h n (by omega)]
theorem sN_1 : ∀ n, sN (fun _ => 1) n = nI n := by
  intro n
  induction n with
  | zero => rfl
  | succ n ih => rw [sN, ih]; exact nI_1 n
/-- barges by their pounds -/
theorem at_sum {K : CK} {V : CD} {N : Nat} (hV : okV K V N) : c_sumL (fun p => c_atN K V (nI p)) 6 0 0 = nI (kNb K) := by
  rw [c_sumL_0]
  have h : ∀ p, c_atN K V (nI p) = sN (fun j => if dAt V j = nI p then 1 else 0) (kNb K) := by
    intro p; unfold c_atN; rw [cntL_sum, c_sumL_0]
  rw [show (fun p => c_atN K V (nI p)) = (fun p => sN (fun j => if dAt V j = nI p then 1 else 0) (kNb K)) from funext h, sN_swap (fun p j => if dAt V j = nI p then 1 else 0), ← sN_1]
  refine sN_congr _ (fun j hj => ?_)
  obtain ⟨u, hu, eu⟩ := hV.2.2.2.2.2.1 j hj
  show sN (fun p => if dAt V j = nI p then 1 else 0) 6 = 1
  rw [eu]
  have : ∀ u, u < 6 → sN (fun p => if nI u = nI p then 1 else 0) 6 = 1 := by decide +kernel
  exact this u (by omega)
theorem wait_sum {K : CK} {V : CD} {N : Nat} (hV : okV K V N) : c_sumL (fun k => c_waitN K V (nI k)) 5 0 0 = nI (kNb K) - c_comeN K V := by
  rw [c_sumL_0]
  have h : ∀ p, c_waitN K V (nI p) = sN (fun j => if c_waits K V j = nI p then 1 else 0) (kNb K) := by
    intro p; unfold c_waitN; rw [cntL_sum, c_sumL_0]
  have hc : c_comeN K V = sN (c_come K V) (kNb K) := by unfold c_comeN; rw [← comeL_sum _ _ _ (fun j _ _ => come01 K V j), c_sumL_0]
  rw [show (fun p => c_waitN K V (nI p)) = (fun p => sN (fun j => if c_waits K V j = nI p then 1 else 0) (kNb K)) from funext h, sN_swap (fun p j => if c_waits K V j = nI p then 1 else 0), hc, ← sN_1, ← sN_sub]
  refine sN_congr _ (fun j hj => ?_)
  obtain ⟨-, -, -, -, -, -, -, -, t9, t10⟩ := told_facts hV hj
  show sN (fun p => if c_waits K V j = nI p then 1 else 0) 5 = 1 - c_come K V j
  rw [t9]
  rcases t10 with z | ⟨k, hk, z⟩
  · rw [z]; decide +kernel
  · rw [z]
    have : ∀ k, k < 5 → sN (fun p => if nI k = nI p then (1 : Int32) else 0) 5 = 1 - (if nI k < 0 then 1 else 0) := by decide +kernel
    exact this k hk
theorem come_step {K : CK} {V : CD} {N b : Nat} (hV : okV K V N) (hb : b < kNb K) : (if c_come K V b = 0 then (0 : Int32) else 1) = if c_waits K V b < 0 then 1 else 0 := by
  obtain ⟨-, -, -, -, -, -, -, -, t9, -⟩ := told_facts hV hb
  rw [t9]
  by_cases z : c_waits K V b < 0 <;> simp [z]
theorem fill_rem {m : Nat} (h : 12 * m < 2147483648) : nI (12 * m) - nI (12 * m) / 12 * 12 = 0 := by
  have := pk_rem (a := 12 * m) (d := 12) h (by decide) (by decide)
  rw [Nat.mul_mod_right] at this
  exact this
-- ---- what is foreseen
theorem fore_1 (K : CK) (V : CD) (w : Nat) : c_tellW K (c_hours K (ix 1) V 0).1 w = c_tellW K (c_hour K V).1 w := by
  have h2 : ix 1 = 1 := by decide
  rw [h2]; rfl
theorem stop_cases (K : CK) : ∀ (m h : Nat) (V : CD), c_stopL K m h V = -1 ∨ ∃ u, h ≤ u ∧ u < h + m ∧ c_stopL K m h V = nI u := by
  intro m
  induction m with
  | zero => intro h V; exact Or.inl rfl
  | succ m ih =>
    intro h V
    rw [c_stopL]
    by_cases c : (c_hour K V).2 = 0
    · rw [if_pos c]; exact Or.inr ⟨h, Nat.le_refl _, by omega, rfl⟩
    · rw [if_neg c]
      rcases ih (h + 1) (c_hour K V).1 with z | ⟨u, h1, h2, z⟩
      · exact Or.inl z
      · exact Or.inr ⟨u, by omega, by omega, z⟩
theorem stop_facts (K : CK) (V : CD) : ¬ c_stopL K 60 0 V < -1 ∧ ¬ 59 < c_stopL K 60 0 V ∧ (c_stopL K 60 0 V = 0 ↔ (c_hour K V).2 = 0) := by
  have h1 : ∀ u, u < 60 → ¬ nI u < (-1 : Int32) ∧ ¬ (59 : Int32) < nI u := by decide +kernel
  refine ⟨?_, ?_, ?_⟩
  · rcases stop_cases K 60 0 V with z | ⟨u, -, hu, z⟩
    · rw [z]; decide
    · rw [z]; exact (h1 u (by omega)).1
  · rcases stop_cases K 60 0 V with z | ⟨u, -, hu, z⟩
    · rw [z]; decide
    · rw [z]; exact (h1 u (by omega)).2
  · rw [c_stopL]
    by_cases c : (c_hour K V).2 = 0
    · rw [if_pos c]; exact ⟨fun _ => c, fun _ => rfl⟩
    · rw [if_neg c]
      refine ⟨fun z => ?_, fun z => absurd z c⟩
      rcases stop_cases K 59 (0 + 1) (c_hour K V).1 with y | ⟨u, h2, h3, y⟩
      · rw [y] at z; exact absurd z (by decide)
      · rw [y] at z
        have := (nI_eq (a := u) (b := 0) (by omega) (by decide)).mp z
        omega
theorem arr_s (K : CK) (b m h : Nat) (V : CD) : c_arrL K b (m + 1) h V = if c_come K V b = 0 then c_arrL K b m (h + 1) (c_hour K V).1 else nI h := by rw [c_arrL]
theorem arr_z (K : CK) (b h : Nat) (V : CD) : c_arrL K b 0 h V = if c_come K V b = 0 then -1 else 120 := by rw [c_arrL]
theorem arr_shift (K : CK) (b : Nat) : ∀ (m h : Nat) (V : CD), m + h = 119 → ¬ c_arrL K b m (h + 1) V = -1 → c_arrL K b (m + 1) h V = c_arrL K b m (h + 1) V - 1 := by
  intro m
  induction m with
  | zero =>
    intro h V hm hn
    have e : h = 119 := by omega
    subst e
    rw [arr_z] at hn
    rw [arr_s, arr_z K b (119 + 1) V]
    by_cases c : c_come K V b = 0
    · rw [if_pos c] at hn; exact absurd rfl hn
    · rw [if_neg c, if_neg c]; decide
  | succ m ih =>
    intro h V hm hn
    rw [arr_s] at hn
    rw [arr_s K b (m + 1) h V, arr_s K b m (h + 1) V]
    by_cases c : c_come K V b = 0
    · rw [if_pos c] at hn ⊢
      rw [if_pos c]
      exact ih (h + 1) (c_hour K V).1 (by omega) hn
    · rw [if_neg c, if_neg c]
      have : nI (h + 1) - 1 = nI h := nI_pred h
      rw [this]
theorem arr_cases (K : CK) (b : Nat) : ∀ (m h : Nat) (V : CD), m + h = 120 → c_arrL K b m h V = -1 ∨ ∃ u, h ≤ u ∧ u ≤ 120 ∧ c_arrL K b m h V = nI u := by
  intro m
  induction m with
  | zero =>
    intro h V hm
    rw [c_arrL]
    by_cases c : c_come K V b = 0
    · rw [if_pos c]; exact Or.inl rfl
    · rw [if_neg c]; exact Or.inr ⟨120, by omega, Nat.le_refl _, rfl⟩
  | succ m ih =>
    intro h V hm
    rw [c_arrL]
    by_cases c : c_come K V b = 0
    · rw [if_pos c]
      rcases ih (h + 1) (c_hour K V).1 (by omega) with z | ⟨u, h1, h2, z⟩
      · exact Or.inl z
      · exact Or.inr ⟨u, by omega, h2, z⟩
    · rw [if_neg c]; exact Or.inr ⟨h, Nat.le_refl _, by omega, rfl⟩
theorem arr_0 {K : CK} {V : CD} {N b : Nat} (hV : okV K V N) (hb : b < kNb K) : c_arrL K b 120 0 V = 0 ↔ c_waits K V b < 0 := by
  obtain ⟨-, -, -, -, -, -, -, -, t9, -⟩ := told_facts hV hb
  rw [c_arrL]
  by_cases c : c_come K V b = 0
  · rw [if_pos c]
    rw [c] at t9
    refine ⟨fun z => ?_, fun z => by rw [if_pos z] at t9; exact absurd t9 (by decide)⟩
    rcases arr_cases K b 119 (0 + 1) (c_hour K V).1 (by omega) with y | ⟨u, h1, h2, y⟩
    · rw [y] at z; exact absurd z (by decide)
    · rw [y] at z
      have := (nI_eq (a := u) (b := 0) (by omega) (by decide)).mp z
      omega
  · rw [if_neg c]
    refine ⟨fun _ => ?_, fun _ => rfl⟩
    by_cases z : c_waits K V b < 0
    · exact z
    · rw [if_neg z] at t9; exact absurd t9 c
theorem arr_next {K : CK} {V : CD} {b : Nat} (h : 0 < c_arrL K b 120 0 V) : c_arrL K b 120 0 (c_hour K V).1 = c_arrL K b 120 0 V - 1 := by
  have e : c_arrL K b 120 0 V = if c_come K V b = 0 then c_arrL K b 119 (0 + 1) (c_hour K V).1 else nI 0 := by rw [c_arrL]
  by_cases c : c_come K V b = 0
  · rw [if_pos c] at e
    rw [e] at h ⊢
    exact arr_shift K b 119 0 (c_hour K V).1 rfl (fun z => by rw [z] at h; exact absurd h (by decide))
  · rw [if_neg c] at e
    rw [e] at h; exact absurd h (by decide)
theorem adv_cases (K : CK) (V : CD) (n : Nat) : ∀ (m k : Nat) (bs mo : Int32), m + k = 11 → (∃ q, q ≤ 10 ∧ bs = nI (q * 10)) → ∃ q, q ≤ 10 ∧ c_advL K V n m k bs mo = nI (q * 10) := by
  intro m
  induction m with
  | zero => intro k bs mo _ h; exact h
  | succ m ih =>
    intro k bs mo hm h
    rw [c_advL]
    split
    · exact ih _ _ _ (by omega) h
    · exact ih _ _ _ (by omega) ⟨k, by omega, rfl⟩
theorem adv_facts (K : CK) (V : CD) (n : Nat) : ∃ q, q ≤ 10 ∧ c_advL K V n 11 0 0 0 = nI (q * 10) := adv_cases K V n 11 0 0 0 rfl ⟨0, by omega, rfl⟩
/-- an hour, as the law asks of it -/
def hrAll (K : CK) (V V2 : CD) (t u : Nat) : Prop := V2 = (c_hour K V).1 ∧ (c_hour K V).2 = nI t ∧ t ≤ 5 ∧ u ≤ 2 ∧ wat V2 = wat V + kSpr K (dHour V % 8) ∧ dBank V2 = dBank V + nI u + nI t * kFee K ∧ (∀ k, k < 5 → hrK V V2 k) ∧ sN (dLock V2) 5 = sN (dLock V) 5 + nI t ∧ (∀ b, smB V V2 b ∨ hrB 5 K V V2 b) ∧ sN (dSer V2) (kNb K) = sN (dSer V) (kNb K) + nI t
theorem hr_all {K : CK} {V : CD} {N : Nat} (hK : okK K) (hV : okV K V N) : ∃ t u, hrAll K V (c_hour K V).1 t u := by
  obtain ⟨t, u, ht, hu, -, -, -, a4, -, -, a7, a8, a9, a10, a11, a12⟩ := hour_all hK hV.1 hV.2.1
  exact ⟨t, u, rfl, a7, ht, hu, a4, a8, a9, a10, a11, a12⟩
theorem wat_eq {V : CD} (hF : okF (dFull V)) : wat V = c_water V + 12 * c_fullN V + zA V := by
  unfold wat c_water c_fullN
  rw [← comeL_sum 5 0 0 (fun j _ h => hF j (by omega)), c_sumL_0, c_sumL_0, s6_sN, s5_sN]
theorem ser_sum {K : CK} {V V2 : CD} {t u : Nat} (h : hrAll K V V2 t u) : c_sumL (fun b => dSer V2 b - dSer V b) (kNb K) 0 0 = nI t := by
  obtain ⟨-, -, -, -, -, -, -, -, -, h10⟩ := h
  rw [c_sumL_0, sN_sub, h10]; grind
theorem lock_sum {K : CK} {V V2 : CD} {t u : Nat} (h : hrAll K V V2 t u) : c_sumL (fun b => dLock V2 b - dLock V b) 5 0 0 = nI t := by
  obtain ⟨-, -, -, -, -, -, -, h8, -, -⟩ := h
  rw [c_sumL_0, sN_sub, h8]; grind
/-- the bank behind an hour -/
theorem bank_facts {K : CK} {V V2 : CD} {t u : Nat} (hK : okK K) (h : hrAll K V V2 t u) : ¬ dBank V2 - dBank V < nI t * kFee K ∧ dBank V2 - dBank V ≤ nI t * kFee K + 2 := by
  obtain ⟨-, -, ht, hu, -, h6, -⟩ := h
  obtain ⟨-, -, -, ⟨f, hf, ef⟩, -⟩ := hK
  have hm : t * f ≤ 5 * 20 := Nat.mul_le_mul ht hf
  have e1 : dBank V2 - dBank V = nI (u + t * f) := by
    rw [h6, ef, pk_mul, ← nI_add]; grind
  have e2 : nI t * kFee K = nI (t * f) := by rw [ef, pk_mul]
  have e3 : nI (t * f) + 2 = nI (t * f + 2) := nI_add (t * f) 2
  rw [e1, e2, e3]
  exact ⟨nI_nlt (by omega) (by omega), nI_le (by omega) (by omega)⟩
