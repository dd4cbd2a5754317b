-- ===== what the law's walk reads =====
theorem lg_same (x : Int64) : lg_cmp x x = 0 := by
  unfold lg_cmp
  rw [if_neg (show ¬ x > x from Int64.lt_irrefl), if_pos rfl]
theorem rw_step {F T : Nat → Nat → Int32} {e n : Nat} (h1 : ∀ b9, b9 < e → ∀ w9, w9 < 5 → F b9 w9 = T b9 w9) (h2 : ∀ w9, w9 < n → F e w9 = T e w9) :
    (∀ b9, b9 < e → ∀ w9, w9 < 5 → upd2 F e n (T e n) b9 w9 = T b9 w9) ∧ (∀ w9, w9 < n + 1 → upd2 F e n (T e n) e w9 = T e w9) := by
  constructor
  · intro b9 hb w9 hw
    have : upd2 F e n (T e n) b9 = F b9 := by unfold upd2; exact if_neg (by omega)
    rw [this]; exact h1 b9 hb w9 hw
  · intro w9 hw
    have h : upd2 F e n (T e n) e = upd (F e) n (T e n) := by unfold upd2; exact if_pos rfl
    rw [h]
    by_cases z : w9 = n
    · subst z; exact pk_us
    · rw [pk_un z]; exact h2 w9 (by omega)
theorem rw_next {F T : Nat → Nat → Int32} {e n : Nat} (hn : n = 5) (h1 : ∀ b9, b9 < e → ∀ w9, w9 < 5 → F b9 w9 = T b9 w9) (h2 : ∀ w9, w9 < n → F e w9 = T e w9) : ∀ b9, b9 < e + 1 → ∀ w9, w9 < 5 → F b9 w9 = T b9 w9 := by
  intro b9 hb w9 hw
  by_cases z : b9 = e
  · subst z; exact h2 w9 (by omega)
  · exact h1 b9 (by omega) w9 hw
theorem up_step {f T : Nat → Int32} {n : Nat} (h : ∀ w9, 2 ≤ w9 → w9 < n → f w9 = T w9) : ∀ w9, 2 ≤ w9 → w9 < n + 1 → upd f n (T n) w9 = T w9 := by
  intro w9 h2 hw
  by_cases z : w9 = n
  · subst z; exact pk_us
  · rw [pk_un z]; exact h w9 h2 (by omega)
theorem come_st {f : Nat → Int32} {m b : Nat} {r y T : Int32} (h : c_comeL f (m + 1) b r = T) (e : (if f b = 0 then (0 : Int32) else 1) = y) : c_comeL f m (b + 1) (r + y) = T := by subst e; exact h
theorem sum_step {f : Nat → Int32} {m b : Nat} {r y T : Int32} (h : c_sumL f (m + 1) b r = T) (e : f b = y) : c_sumL f m (b + 1) (r + y) = T := by subst e; exact h
theorem pound_facts {K : CK} {V : CD} {N p : Nat} (hN : N < 100000) (hV : okV K V N) (hp : p < 6) : ¬ dLev V p < 0 ∧ ¬ 100 < dLev V p ∧ ¬ dOver V p < 0 ∧ ¬ dDrawn V p < 0 := by
  obtain ⟨v1, v2, v3, v4, -⟩ := hV
  obtain ⟨u, hu, eu⟩ := v1 p hp
  obtain ⟨y, hy, ey⟩ := v3 p hp
  obtain ⟨z, hz, ez⟩ := v4 p hp
  rw [eu, ey, ez]
  refine ⟨nI_pos (by omega), ?_, nI_pos (by omega), nI_pos (by omega)⟩
  have : ∀ u, u < 101 → ¬ (100 : Int32) < nI u := by decide +kernel
  exact this u (by omega)
theorem lock_facts {K : CK} {V : CD} {N k : Nat} (hN : N < 100000) (hV : okV K V N) (hk : k < 5) : ¬ dFull V k < 0 ∧ ¬ 1 < dFull V k ∧ dFill V k - dFill V k / 12 * 12 = 0 := by
  obtain ⟨-, v2, -, -, -, -, -, -, -, v10⟩ := hV
  obtain ⟨m, hm, em⟩ := v10 k hk
  refine ⟨?_, ?_, by rw [em]; exact fill_rem (by omega)⟩
  · rcases v2 k hk with z | z <;> rw [z] <;> decide
  · rcases v2 k hk with z | z <;> rw [z] <;> decide
theorem best_facts {x : Int32} (h : ∃ q, q ≤ 10 ∧ x = nI (q * 10)) : ¬ x < 0 ∧ ¬ 100 < x ∧ x - x / 10 * 10 = 0 := by
  obtain ⟨q, hq, e⟩ := h
  subst e
  have : ∀ q, q < 11 → ¬ nI (q * 10) < 0 ∧ ¬ (100 : Int32) < nI (q * 10) ∧ nI (q * 10) - nI (q * 10) / 10 * 10 = 0 := by decide +kernel
  exact this q (by omega)
theorem nI_m1 : ∀ k, k < 5 → ¬ nI k = -1 := by decide +kernel
theorem up_facts {K : CK} {V V2 : CD} {b9 k : Nat} (hk : k < 5) (r5 : c_waits K V b9 = nI k) (r6 : dAt V2 b9 = if c_down K V b9 = 0 then nI (k + 1) else nI k) (r7 : dFull V2 k = if c_down K V b9 = 0 then 1 else 0) (c : dAt V b9 ≤ kGoal K b9) :
    dAt V2 b9 = dAt V b9 + 1 ∧ dFull V2 k = 1 ∧ dAt V b9 ≤ dAt V b9 + 1 := by
  have hc : c_down K V b9 = 0 := by unfold c_down; rw [if_pos c]
  rw [hc, if_pos rfl] at r6 r7
  have hw : dAt V b9 = nI k := by
    unfold c_waits at r5
    rw [hc] at r5
    by_cases z : c_come K V b9 = 0
    · rw [if_pos z, if_pos rfl] at r5; exact r5
    · rw [if_neg z] at r5; exact absurd r5.symm (nI_m1 k hk)
  have h1 : nI k + 1 = nI (k + 1) := nI_add k 1
  refine ⟨by rw [r6, hw, h1], r7, ?_⟩
  rw [hw, h1]
  exact nI_le (by omega) (by omega)
theorem dn_facts {K : CK} {V V2 : CD} {b9 k : Nat} (hk : k < 5) (r5 : c_waits K V b9 = nI k) (r6 : dAt V2 b9 = if c_down K V b9 = 0 then nI (k + 1) else nI k) (r7 : dFull V2 k = if c_down K V b9 = 0 then 1 else 0) (c : ¬ dAt V b9 ≤ kGoal K b9) :
    dAt V2 b9 = dAt V b9 + (-1) ∧ dFull V2 k = 0 ∧ ¬ dAt V b9 ≤ dAt V b9 + (-1) := by
  have hc : c_down K V b9 = 1 := by unfold c_down; rw [if_neg c]
  rw [hc, if_neg (by decide)] at r6 r7
  have hw : dAt V b9 - 1 = nI k := by
    unfold c_waits at r5
    rw [hc] at r5
    by_cases z : c_come K V b9 = 0
    · rw [if_pos z, if_neg (by decide)] at r5; exact r5
    · rw [if_neg z] at r5; exact absurd r5.symm (nI_m1 k hk)
  have h1 : nI k + 1 = nI (k + 1) := nI_add k 1
  have h2 : dAt V b9 = nI (k + 1) := by rw [← h1, ← hw]; grind
  have h3 : dAt V b9 + (-1) = nI k := by rw [← hw]; grind
  refine ⟨by rw [r6, h3], r7, ?_⟩
  rw [h3, h2]
  exact fun z => absurd z (Int32.not_le.mpr (nI_lt (by omega) (by omega)))
theorem fill_facts {K : CK} {V V2 : CD} {N k : Nat} (hN : N < 100000) (hV : okV K V N) (hk : k < 5) (h : dFill V2 k = dFill V k ∨ dFill V2 k = dFill V k + 12) : ¬ dFill V2 k < dFill V k ∧ dFill V2 k ≤ dFill V k + 12 := by
  obtain ⟨-, -, -, -, -, -, -, -, -, v10⟩ := hV
  obtain ⟨m, hm, em⟩ := v10 k hk
  have h1 : nI (12 * m) + 12 = nI (12 * m + 12) := nI_add _ 12
  rcases h with z | z
  · rw [z, em, h1]; exact ⟨nI_nlt (by omega) (by omega), nI_le (by omega) (by omega)⟩
  · rw [z, em, h1]; exact ⟨nI_nlt (by omega) (by omega), nI_le (by omega) (by omega)⟩
theorem i_sub0 {x y : Int32} (h : x = y) : x - y = 0 := by subst h; exact Int32.sub_self x
theorem i_sub1 {x y : Int32} (h : x = y + 1) : x - y = 1 := by subst h; grind
theorem five_n {t : Nat} (h : t ≤ 5) : ¬ (5 : Int32) < nI t := by
  have : ∀ t, t < 6 → ¬ (5 : Int32) < nI t := by decide +kernel
  exact this t (by omega)
