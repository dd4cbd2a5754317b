-- ===== the two sides give the same: pouring, fitting, waiting =====
theorem upd_twice (f : Nat → Int32) (k : Nat) (x y : Int32) : upd (upd f k x) k y = upd f k y := by
  funext j
  unfold upd
  split <;> rfl
def okL (f : Nat → Int32) (n : Nat) : Prop := ∀ p, p < n → ∃ u, u ≤ 100 ∧ f p = nI u
theorem okL_upd {f : Nat → Int32} {n k u : Nat} (h : okL f n) (hu : u ≤ 100) : okL (upd f k (nI u)) n := by
  intro p hp
  by_cases e : p = k
  · subst e; exact ⟨u, hu, pk_us⟩
  · rw [pk_un e]; exact h p hp
theorem pour_k1 (w : Nat) (hw : w < 2147483648) : (if (100 : Int32) < nI w then (100 : Int32) else nI w) = nI (min w 100) := by
  by_cases h : 100 < w
  · have h9 : (100 : Int32) < nI w := nI_lt (a := 100) h hw
    rw [if_pos h9, Nat.min_eq_right (Nat.le_of_lt h)]; rfl
  · have h9 : ¬ (100 : Int32) < nI w := nI_nlt (a := 100) (Nat.not_lt.mp h) (by decide)
    rw [if_neg h9, Nat.min_eq_left (Nat.not_lt.mp h)]
theorem pour_k2 (w : Nat) : nI w - nI (min w 100) = nI (w - 100) := by
  rw [pk_sub (Nat.min_le_left w 100)]
  congr 1
  omega
theorem pour_k3 (w : Nat) (hw : w < 1073741824) : (if (0 : Int32) < nI w - 100 then nI w - 100 else 0) = nI (w - 100) := by
  by_cases h : 100 ≤ w
  · have e : nI w - 100 = nI (w - 100) := pk_sub (a := w) (b := 100) h
    rw [e]
    by_cases h0 : w - 100 = 0
    · rw [h0]; rfl
    · have h9 : (0 : Int32) < nI (w - 100) := nI_lt (a := 0) (by omega) (by omega)
      rw [if_pos h9]
  · have e : nI w - 100 < 0 := pk_sneg (a := w) (b := 100) (by decide) (by omega)
    have h9 : ¬ (0 : Int32) < nI w - 100 := Int32.not_lt.mpr (Int32.le_of_lt e)
    rw [if_neg h9, show w - 100 = 0 by omega]; rfl
theorem pour_k4 (w : Nat) : nI w - nI (w - 100) = nI (min w 100) := by
  rw [pk_sub (Nat.sub_le w 100)]
  congr 1
  omega
theorem pourL_eq : ∀ (n a : Nat) (f g : Nat → Int32), a ≤ 1000 → okL f n →
    ∃ R, s_pourL n (nI a) f g = ((c_pourL n (nI a) f g).1, (c_pourL n (nI a) f g).2, R) ∧ (0 < n → (c_pourL n (nI a) f g).2 0 = g 0 + R) ∧ (n = 0 → R = nI a) ∧ okL (c_pourL n (nI a) f g).1 n ∧ (∀ p, n ≤ p → (c_pourL n (nI a) f g).1 p = f p) := by
  intro n
  induction n with
  | zero => intro a f g ha hf; exact ⟨nI a, rfl, fun h => absurd h (Nat.lt_irrefl 0), fun _ => rfl, hf, fun _ _ => rfl⟩
  | succ n ih =>
    intro a f g ha hf
    obtain ⟨u, hu, eu⟩ := hf n (Nat.lt_succ_self n)
    by_cases h0 : a = 0
    · subst h0
      have hz : nI 0 ≤ (0 : Int32) := by decide
      refine ⟨0, ?_, fun _ => ?_, fun h => absurd h (Nat.succ_ne_zero n), ?_, ?_⟩
      · simp only [s_pourL, c_pourL, if_pos hz]; rfl
      · simp only [c_pourL, if_pos hz]; exact (Int32.add_zero _).symm
      · simp only [c_pourL, if_pos hz]; exact hf
      · intro p hp; simp only [c_pourL, if_pos hz]
    · have hn : ¬ nI a ≤ (0 : Int32) := nI_nle (Nat.pos_of_ne_zero h0) (by omega)
      have e1 : f n + nI a = nI (u + a) := by rw [eu, nI_add]
      have hc : c_pourL (n + 1) (nI a) f g = c_pourL n (nI (u + a - 100)) (upd f n (nI (min (u + a) 100))) (upd g n (g n + nI (u + a - 100))) := by
        simp only [c_pourL, if_neg hn, e1, pk_us, pour_k1 (u + a) (by omega), pour_k2]
      have hs : s_pourL (n + 1) (nI a) f g = s_pourL n (nI (u + a - 100)) (upd f n (nI (min (u + a) 100))) (upd g n (g n + nI (u + a - 100))) := by
        simp only [s_pourL, if_neg hn, e1, pk_us, pour_k3 (u + a) (by omega), pour_k4, upd_twice]
      obtain ⟨R, r1, r2, r3, r4, r5⟩ := ih (u + a - 100) (upd f n (nI (min (u + a) 100))) (upd g n (g n + nI (u + a - 100))) (by omega) (fun p hp => by rw [pk_un (Nat.ne_of_lt hp)]; exact hf p (Nat.lt_succ_of_lt hp))
      rw [hc, hs]
      refine ⟨R, r1, fun _ => ?_, fun h => absurd h (Nat.succ_ne_zero n), fun p hp => ?_, fun p hp => ?_⟩
      · by_cases hn0 : n = 0
        · subst hn0
          rw [r3 rfl]
          show upd g 0 (g 0 + nI (u + a - 100)) 0 = _
          rw [pk_us]
        · rw [r2 (Nat.pos_of_ne_zero hn0), pk_un (fun h => hn0 h.symm)]
      · by_cases e : p = n
        · subst e
          rw [r5 p (Nat.le_refl p), pk_us]
          exact ⟨min (u + a) 100, Nat.min_le_right _ _, rfl⟩
        · exact r4 p (by omega)
      · rw [r5 p (by omega), pk_un (by omega)]
/-- pouring into the pound n - 1 (n = 0: away) -/
theorem pour_eq (V : CD) (aw : Int32) (n a : Nat) (ha : a ≤ 1000) (hn : n ≤ 6) (hf : okL (dLev V) 6) (hA : 0 < n → aw = dOver V 0 + dDrawn V 0) (hA0 : n = 0 → aw + nI a = dOver V 0 + dDrawn V 0) :
    (s_pour V aw n (nI a)).1 = c_pour V n (nI a) ∧ (s_pour V aw n (nI a)).2 = dOver (c_pour V n (nI a)) 0 + dDrawn (c_pour V n (nI a)) 0 ∧ okL (dLev (c_pour V n (nI a))) 6 ∧ (∀ p, n ≤ p → dLev (c_pour V n (nI a)) p = dLev V p) := by
  obtain ⟨R, r1, r2, r3, r4, r5⟩ := pourL_eq n a (dLev V) (dOver V) ha (fun p hp => hf p (Nat.lt_of_lt_of_le hp hn))
  refine ⟨?_, ?_, ?_, r5⟩
  · show tOver (tLev V (s_pourL n (nI a) (dLev V) (dOver V)).1) (s_pourL n (nI a) (dLev V) (dOver V)).2.1 = tOver (tLev V (c_pourL n (nI a) (dLev V) (dOver V)).1) (c_pourL n (nI a) (dLev V) (dOver V)).2
    rw [r1]
  · show aw + (s_pourL n (nI a) (dLev V) (dOver V)).2.2 = (c_pourL n (nI a) (dLev V) (dOver V)).2 0 + dDrawn V 0
    rw [r1]
    by_cases h0 : n = 0
    · subst h0
      rw [r3 rfl]
      exact hA0 rfl
    · rw [r2 (Nat.pos_of_ne_zero h0), hA (Nat.pos_of_ne_zero h0)]
      rw [Int32.add_assoc, Int32.add_assoc, Int32.add_comm (dDrawn V 0) R]
  · intro p hp
    by_cases hpn : p < n
    · exact r4 p hpn
    · show ∃ u, u ≤ 100 ∧ (c_pourL n (nI a) (dLev V) (dOver V)).1 p = nI u
      rw [r5 p (Nat.not_lt.mp hpn)]; exact hf p hp
def okF (f : Nat → Int32) : Prop := ∀ k, k < 5 → f k = 0 ∨ f k = 1
theorem down01 (K : CK) (V : CD) (b : Nat) : c_down K V b = 0 ∨ c_down K V b = 1 := by unfold c_down; split <;> simp
theorem fits_eq (K : CK) (V : CD) (k b : Nat) (h : dFull V k = 0 ∨ dFull V k = 1) : m_fits K V k b = c_fits K V k b := by
  unfold m_fits c_fits
  rcases h with h | h <;> rcases down01 K V b with d | d <;> simp [h, d]
theorem lockOf_eq (K : CK) (V : CD) (b : Nat) : m_lockOf K V b = c_waits K V b := by
  unfold m_lockOf c_waits c_come c_down
  by_cases h1 : dAt V b ≤ kGoal K b
  · by_cases h2 : kGoal K b ≤ dAt V b
    · have e : dAt V b = kGoal K b := Int32.le_antisymm h1 h2
      simp [h1, h2, e]
    · have e : ¬ dAt V b = kGoal K b := fun e => h2 (by rw [e]; exact Int32.le_refl _)
      simp [h1, h2, e]
  · have e : ¬ dAt V b = kGoal K b := fun e => h1 (by rw [e]; exact Int32.le_refl _)
    simp [h1, e]
theorem can_eq (K : CK) (V : CD) (k b : Nat) (h : dFull V k = 0 ∨ dFull V k = 1) : m_can K V k b = c_can K V k b := by
  have h2 : m_can2 K V k b = c_can2 K V k b := by
    unfold m_can2 c_can2 c_need
    rcases h with h | h <;> rcases down01 K V b with d | d <;> simp [h, d]
  unfold m_can c_can
  rw [h2, fits_eq K V k b h]
  by_cases hp : dPur V b < kFee K
  · rw [if_pos hp, if_neg (Int32.not_le.mpr hp)]
  · rw [if_neg hp, if_pos (Int32.not_lt.mp hp)]
theorem m_nextL_cases (K : CK) (V : CD) (wh : Nat → Int32) (k N : Nat) : ∀ (m b : Nat) (f : Int32), m + b = N → (f = -1 ∨ ∃ q, q < N ∧ f = nI q) → (m_nextL K V wh k m b f = -1 ∨ ∃ q, q < N ∧ m_nextL K V wh k m b f = nI q) := by
  intro m
  induction m with
  | zero => intro b f h hf; exact hf
  | succ m ih =>
    intro b f h hf
    have hb : ∃ q, q < N ∧ nI b = nI q := ⟨b, by omega, rfl⟩
    simp only [m_nextL]
    split
    · exact ih _ _ (by omega) hf
    · split
      · exact ih _ _ (by omega) hf
      · split
        · split
          · exact ih _ _ (by omega) (Or.inr hb)
          · exact ih _ _ (by omega) hf
        · exact Or.inr hb
theorem m_next_some {K : CK} {V : CD} {wh : Nat → Int32} {k : Nat} (h : ¬ m_next K V wh k = -1) : ∃ q, q < kNb K ∧ m_next K V wh k = nI q := by
  rcases m_nextL_cases K V wh k (kNb K) (kNb K) 0 (-1) (by omega) (Or.inl rfl) with h1 | h1
  · exact absurd h1 h
  · exact h1
theorem dHour_spour (V : CD) (aw : Int32) (n : Nat) (x : Int32) : dHour (s_pour V aw n x).1 = dHour V := rfl
theorem dHour_sfill (V : CD) (k : Nat) : dHour (s_fill V k) = dHour V := rfl
theorem dHour_sempty (V : CD) (aw : Int32) (k : Nat) : dHour (s_empty V aw k).1 = dHour V := by
  unfold s_empty; rw [dHour_spour]; rfl
theorem dHour_tAt (V : CD) (f : Nat → Int32) : dHour (tAt V f) = dHour V := rfl
theorem dHour_mserveA (K : CK) (V : CD) (aw : Int32) (k b : Nat) : dHour (m_serveA K V aw k b).1 = dHour V := by
  unfold m_serveA
  split
  · show dHour (m_upA (m_up1 V aw k).1 k b) = _
    unfold m_upA
    rw [dHour_tAt, dHour_sfill]
    unfold m_up1
    split
    · exact dHour_sempty V aw k
    · rfl
  · unfold m_downA
    show dHour (tAt (s_empty (if dFull V k = 0 then s_fill V k else V) aw k).1 _) = _
    rw [dHour_tAt, dHour_sempty]
    split
    · exact dHour_sfill V k
    · rfl
theorem dHour_mpay (K : CK) (V : CD) (k b : Nat) : dHour (m_pay K V k b) = dHour V := rfl
theorem dHour_mserve (K : CK) (V : CD) (aw : Int32) (wh : Nat → Int32) (k b : Nat) : dHour (m_serve K V aw wh k b).1 = dHour V := by
  show dHour (m_pay K (m_serveA K V aw k b).1 k b) = _
  rw [dHour_mpay, dHour_mserveA]
theorem dHour_mgrind (K : CK) (V : CD) (aw : Int32) : dHour (m_grind K V aw).1 = dHour V := by
  unfold m_grind
  split
  · rfl
  · split
    · unfold m_grind1; rw [dHour_spour]; rfl
    · rfl
theorem dHour_mhourL (K : CK) : ∀ (n : Nat) (V : CD) (aw : Int32) (wh : Nat → Int32) (sv : Int32), dHour (m_hourL K n V aw wh sv).1 = dHour V := by
  intro n
  induction n with
  | zero => intro V aw wh sv; rfl
  | succ n ih =>
    intro V aw wh sv
    simp only [m_hourL]
    split
    · exact ih _ _ _ _
    · rw [ih, dHour_mserve]
theorem dHour_mhour (K : CK) (V : CD) (aw : Int32) (wh : Nat → Int32) : dHour (m_hour K V aw wh).1 = dHour V + 1 := by
  unfold m_hour
  show dHour (tHour (m_hourB K V aw wh).1 (dHour (m_hourB K V aw wh).1 + 1)) = _
  rw [dHour_tHour]
  unfold m_hourB
  rw [dHour_mhourL]
  unfold m_hourA
  rw [dHour_mgrind, dHour_spour]
