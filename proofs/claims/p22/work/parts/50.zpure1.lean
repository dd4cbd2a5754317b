-- ===== the Sim and the class give the same: water =====
def okL (f : Nat → Int32) (n : Nat) : Prop := ∀ p, p < n → ∃ u, u ≤ 100 ∧ f p = nI u
theorem okL_upd {f : Nat → Int32} {n k u : Nat} (h : okL f n) (hu : u ≤ 100) : okL (upd f k (nI u)) n := by
  intro p hp
  by_cases e : p = k
  · subst e; exact ⟨u, hu, pk_us⟩
  · rw [pk_un e]; exact h p hp
theorem upd_twice (f : Nat → Int32) (k : Nat) (x y : Int32) : upd (upd f k x) k y = upd f k y := by
  funext j
  unfold upd
  split <;> rfl
theorem upd_same (f : Nat → Int32) (k : Nat) : upd f k (f k) = f := by
  funext j
  unfold upd
  split
  · rename_i h; rw [h]
  · rfl
theorem pour_k1 (w : Nat) (hw : w < 2147483648) : (if (100 : Int32) < nI w then (100 : Int32) else nI w) = nI (min w 100) := by
  by_cases h : 100 < w
  · have h9 : (100 : Int32) < nI w := nI_lt (a := 100) h hw
    rw [if_pos h9, Nat.min_eq_right (Nat.le_of_lt h)]; rfl
  · have h9 : ¬ (100 : Int32) < nI w := nI_nlt (a := 100) (Nat.not_lt.mp h) (by decide)
    rw [if_neg h9, Nat.min_eq_left (Nat.not_lt.mp h)]
theorem nI_sub {a b : Nat} (h : b ≤ a) : nI a - nI b = nI (a - b) := by
  have := nI_add (a - b) b
  rw [Nat.sub_add_cancel h] at this
  rw [← this, Int32.add_sub_cancel]
theorem pour_k2 (w : Nat) : nI w - nI (min w 100) = nI (w - 100) := by
  rw [pk_sub (Nat.min_le_left w 100)]
  congr 1
  omega
theorem c_pourL_0 : ∀ (n : Nat) (f g : Nat → Int32), c_pourL n (nI 0) f g = (f, g) := by
  intro n
  cases n with
  | zero => intro f g; rfl
  | succ n =>
    intro f g
    have hz : nI 0 ≤ (0 : Int32) := by decide
    simp only [c_pourL, if_pos hz]
/-- the sum of six -/
def s6 (f : Nat → Int32) : Int32 := f 0 + f 1 + f 2 + f 3 + f 4 + f 5
theorem s6_upd (f : Nat → Int32) (n : Nat) (v : Int32) (h : n < 6) : s6 (upd f n v) = s6 f + (v - f n) := by
  rcases (by omega : n = 0 ∨ n = 1 ∨ n = 2 ∨ n = 3 ∨ n = 4 ∨ n = 5) with rfl | rfl | rfl | rfl | rfl | rfl <;> simp [s6, upd] <;> grind
theorem c_pourL_s {n a u : Nat} {f g : Nat → Int32} (eu : f n = nI u) (hu : u ≤ 100) (h0 : a ≠ 0) (ha : a ≤ 1000) : c_pourL (n + 1) (nI a) f g = c_pourL n (nI (u + a - 100)) (upd f n (nI (min (u + a) 100))) (upd g n (g n + nI (u + a - 100))) := by
  have hn' : ¬ nI a ≤ (0 : Int32) := nI_nle (Nat.pos_of_ne_zero h0) (by omega)
  have e1 : f n + nI a = nI (u + a) := by rw [eu, nI_add]
  simp only [c_pourL, if_neg hn', e1, pk_us, pour_k1 (u + a) (by omega), pour_k2]
/-- what pouring a into the pounds below n leaves -/
theorem pourL_facts : ∀ (n a : Nat) (f g : Nat → Int32), a ≤ 1000 → okL f n → n ≤ 6 →
    okL (c_pourL n (nI a) f g).1 n ∧ (∀ p, n ≤ p → (c_pourL n (nI a) f g).1 p = f p) ∧ (∀ p, ∃ d, d ≤ a ∧ (c_pourL n (nI a) f g).2 p = g p + nI d) ∧ (0 < n → s6 (c_pourL n (nI a) f g).1 + (c_pourL n (nI a) f g).2 0 = s6 f + g 0 + nI a) := by
  intro n
  induction n with
  | zero => intro a f g _ hf _; exact ⟨hf, fun _ _ => rfl, fun p => ⟨0, Nat.zero_le _, (Int32.add_zero _).symm⟩, fun h => absurd h (Nat.lt_irrefl 0)⟩
  | succ n ih =>
    intro a f g ha hf hn
    obtain ⟨u, hu, eu⟩ := hf n (Nat.lt_succ_self n)
    by_cases h0 : a = 0
    · subst h0
      rw [c_pourL_0]
      exact ⟨hf, fun _ _ => rfl, fun p => ⟨0, Nat.zero_le _, (Int32.add_zero _).symm⟩, fun _ => (Int32.add_zero _).symm⟩
    · have hn' : ¬ nI a ≤ (0 : Int32) := nI_nle (Nat.pos_of_ne_zero h0) (by omega)
      have e1 : f n + nI a = nI (u + a) := by rw [eu, nI_add]
      have hc : c_pourL (n + 1) (nI a) f g = c_pourL n (nI (u + a - 100)) (upd f n (nI (min (u + a) 100))) (upd g n (g n + nI (u + a - 100))) := by
        simp only [c_pourL, if_neg hn', e1, pk_us, pour_k1 (u + a) (by omega), pour_k2]
      obtain ⟨r1, r2, r3, r4⟩ := ih (u + a - 100) (upd f n (nI (min (u + a) 100))) (upd g n (g n + nI (u + a - 100))) (by omega) (fun p hp => by rw [pk_un (Nat.ne_of_lt hp)]; exact hf p (Nat.lt_succ_of_lt hp)) (by omega)
      rw [hc]
      refine ⟨fun p hp => ?_, fun p hp => ?_, fun p => ?_, fun _ => ?_⟩
      · by_cases e : p = n
        · subst e
          rw [r2 p (Nat.le_refl p), pk_us]
          exact ⟨min (u + a) 100, Nat.min_le_right _ _, rfl⟩
        · exact r1 p (by omega)
      · rw [r2 p (by omega), pk_un (by omega)]
      · obtain ⟨d, hd, ed⟩ := r3 p
        by_cases e : p = n
        · subst e
          rw [ed, pk_us]
          by_cases hp0 : d + (u + a - 100) ≤ a
          · exact ⟨d + (u + a - 100), hp0, by rw [Int32.add_assoc, nI_add, Nat.add_comm d]⟩
          · -- nothing runs into the pound again
            have : (c_pourL p (nI (u + a - 100)) (upd f p (nI (min (u + a) 100))) (upd g p (g p + nI (u + a - 100)))).2 p = upd g p (g p + nI (u + a - 100)) p := pourL_hi p _ _ _ p (Nat.le_refl _)
            rw [pk_us] at this
            rw [← pk_us (f := g) (k := p) (x := g p + nI (u + a - 100)), ← ed, this]
            exact ⟨u + a - 100, by omega, rfl⟩
        · exact ⟨d, by omega, by rw [ed, pk_un e]⟩
      · have hs := s6_upd f n (nI (min (u + a) 100)) (by omega)
        have hm : nI (min (u + a) 100) + nI (u + a - 100) = nI (u + a) := by rw [nI_add]; congr 1; omega
        by_cases hn0 : n = 0
        · subst hn0
          show s6 (upd f 0 (nI (min (u + a) 100))) + upd g 0 (g 0 + nI (u + a - 100)) 0 = _
          rw [hs, pk_us]
          rw [← e1] at hm
          grind
        · rw [r4 (Nat.pos_of_ne_zero hn0), hs, pk_un (fun h => hn0 h.symm)]
          rw [← e1] at hm
          grind
where
  pourL_hi : ∀ (n : Nat) (x : Int32) (f g : Nat → Int32) (p : Nat), n ≤ p → (c_pourL n x f g).2 p = g p := by
    intro n
    induction n with
    | zero => intro x f g p _; rfl
    | succ n ih =>
      intro x f g p hp
      by_cases h : x ≤ 0
      · simp only [c_pourL, if_pos h]
      · simp only [c_pourL, if_neg h]
        rw [ih _ _ _ _ (by omega), pk_un (by omega)]
/-- into and pour -/
theorem into_eq : ∀ (n a : Nat) (V : CD) (aw : Int32), a ≤ 1000 → okL (dLev V) n → n ≤ 6 →
    ∃ R, z_into n (nI a) V aw = (c_pour V n (nI a), aw + R) ∧ (n = 0 → R = nI a) ∧ (0 < n → dOver (c_pour V n (nI a)) 0 = dOver V 0 + R) := by
  intro n
  induction n with
  | zero => intro a V aw _ _ _; exact ⟨nI a, rfl, fun _ => rfl, fun h => absurd h (Nat.lt_irrefl 0)⟩
  | succ n ih =>
    intro a V aw ha hf hn
    obtain ⟨u, hu, eu⟩ := hf n (Nat.lt_succ_self n)
    have e1 : dLev V n + nI a = nI (u + a) := by rw [eu, nI_add]
    rw [z_into, e1]
    by_cases h : 100 < u + a
    · have h1 : (100 : Int32) < nI (u + a) := nI_lt (a := 100) h (by omega)
      have h0 : ¬ nI a ≤ (0 : Int32) := nI_nle (by omega) (by omega)
      have e2 : nI (u + a) - 100 = nI (u + a - 100) := pk_sub (a := u + a) (b := 100) (by omega)
      rw [if_pos h1, upd_twice, e2]
      have e3 : c_pour V (n + 1) (nI a) = c_pour (tOver (tLev V (upd (dLev V) n 100)) (upd (dOver V) n (dOver V n + nI (u + a - 100)))) n (nI (u + a - 100)) := by
        have hm : nI (min (u + a) 100) = 100 := by rw [Nat.min_eq_right (by omega)]; rfl
        have hc : c_pourL (n + 1) (nI a) (dLev V) (dOver V) = c_pourL n (nI (u + a - 100)) (upd (dLev V) n 100) (upd (dOver V) n (dOver V n + nI (u + a - 100))) := by
          rw [c_pourL_s eu hu (by omega) ha, hm]
        unfold c_pour
        rw [hc]
        rfl
      obtain ⟨R, r1, r2, r3⟩ := ih (u + a - 100) (tOver (tLev V (upd (dLev V) n 100)) (upd (dOver V) n (dOver V n + nI (u + a - 100)))) aw (by omega) (fun p hp => by show ∃ u, u ≤ 100 ∧ upd (dLev V) n 100 p = nI u; rw [pk_un (Nat.ne_of_lt hp)]; exact hf p (Nat.lt_succ_of_lt hp)) (by omega)
      rw [e3, r1]
      refine ⟨R, rfl, fun h => absurd h (Nat.succ_ne_zero n), fun _ => ?_⟩
      by_cases hn0 : n = 0
      · subst hn0
        rw [r2 rfl]
        show upd (dOver V) 0 (dOver V 0 + nI (u + a - 100)) 0 = _
        rw [pk_us]
      · rw [r3 (Nat.pos_of_ne_zero hn0)]
        show upd (dOver V) n (dOver V n + nI (u + a - 100)) 0 + R = _
        rw [pk_un (fun h => hn0 h.symm)]
    · have h1 : ¬ (100 : Int32) < nI (u + a) := nI_nlt (a := 100) (by omega) (by decide)
      rw [if_neg h1]
      have e3 : c_pour V (n + 1) (nI a) = tLev V (upd (dLev V) n (nI (u + a))) := by
        by_cases h0 : a = 0
        · subst h0
          unfold c_pour
          rw [c_pourL_0, Nat.add_zero, ← eu, upd_same]
          rfl
        · have h0' : ¬ nI a ≤ (0 : Int32) := nI_nle (by omega) (by omega)
          have hm : nI (min (u + a) 100) = nI (u + a) := by rw [Nat.min_eq_left (by omega)]
          have hz : u + a - 100 = 0 := by omega
          have hc : c_pourL (n + 1) (nI a) (dLev V) (dOver V) = (upd (dLev V) n (nI (u + a)), dOver V) := by
            rw [c_pourL_s eu hu h0 ha, hm, hz, c_pourL_0]
            have : dOver V n + nI 0 = dOver V n := Int32.add_zero _
            rw [this, upd_same]
          unfold c_pour
          rw [hc]
          rfl
      rw [e3]
      exact ⟨0, by rw [Int32.add_zero], fun h => absurd h (Nat.succ_ne_zero n), fun _ => (Int32.add_zero _).symm⟩
