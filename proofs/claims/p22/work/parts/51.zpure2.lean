-- ===== chambers, the mill, a serving =====
def okF (f : Nat → Int32) : Prop := ∀ k, k < 5 → f k = 0 ∨ f k = 1
def zA (V : CD) : Int32 := dOver V 0 + dDrawn V 0
def s5 (f : Nat → Int32) : Int32 := f 0 + f 1 + f 2 + f 3 + f 4
theorem s5_upd (f : Nat → Int32) (n : Nat) (v : Int32) (h : n < 5) : s5 (upd f n v) = s5 f + (v - f n) := by
  rcases (by omega : n = 0 ∨ n = 1 ∨ n = 2 ∨ n = 3 ∨ n = 4) with rfl | rfl | rfl | rfl | rfl <;> simp [s5, upd] <;> grind
/-- all water there is, and what is away -/
def wat (V : CD) : Int32 := s6 (dLev V) + 12 * s5 (dFull V) + zA V
theorem pour_facts (V : CD) (n a : Nat) (ha : a ≤ 1000) (hn : n ≤ 6) (h0 : 0 < n) (hf : okL (dLev V) 6) :
    z_into n (nI a) V (zA V) = (c_pour V n (nI a), zA (c_pour V n (nI a))) ∧ okL (dLev (c_pour V n (nI a))) 6 ∧ (∀ p, n ≤ p → dLev (c_pour V n (nI a)) p = dLev V p) ∧ (∀ p, ∃ d, d ≤ a ∧ dOver (c_pour V n (nI a)) p = dOver V p + nI d) ∧ wat (c_pour V n (nI a)) = wat V + nI a := by
  have hfn : okL (dLev V) n := fun p hp => hf p (Nat.lt_of_lt_of_le hp hn)
  obtain ⟨R, r1, -, r3⟩ := into_eq n a V (zA V) ha hfn hn
  obtain ⟨f1, f2, f3, f4⟩ := pourL_facts n a (dLev V) (dOver V) ha hfn hn
  have hd : dDrawn (c_pour V n (nI a)) = dDrawn V := rfl
  have hfu : dFull (c_pour V n (nI a)) = dFull V := rfl
  have hl : dLev (c_pour V n (nI a)) = (c_pourL n (nI a) (dLev V) (dOver V)).1 := rfl
  have ho : dOver (c_pour V n (nI a)) = (c_pourL n (nI a) (dLev V) (dOver V)).2 := rfl
  refine ⟨?_, ?_, fun p hp => f2 p hp, fun p => f3 p, ?_⟩
  · rw [r1]
    refine Prod.ext rfl ?_
    show zA V + R = dOver _ 0 + dDrawn _ 0
    rw [r3 h0, hd]
    unfold zA
    grind
  · intro p hp
    by_cases hpn : p < n
    · exact f1 p hpn
    · rw [hl, f2 p (Nat.not_lt.mp hpn)]; exact hf p hp
  · have := f4 h0
    unfold wat zA
    rw [hl, ho, hd, hfu]
    grind
theorem turn_full (V : CD) (k : Nat) : dFull (c_turn V k) = upd (dFull V) k (if dFull V k = 0 then 1 else 0) := by
  unfold c_turn
  by_cases c : dFull V k = 0
  · rw [if_pos c, if_pos c]; rfl
  · rw [if_neg c, if_neg c]; rfl
theorem turn_same (V : CD) (k : Nat) : dAt (c_turn V k) = dAt V ∧ dPur (c_turn V k) = dPur V ∧ dBank (c_turn V k) = dBank V ∧ dDrawn (c_turn V k) = dDrawn V ∧ dSer (c_turn V k) = dSer V ∧ dLock (c_turn V k) = dLock V ∧ dHour (c_turn V k) = dHour V := by
  unfold c_turn
  by_cases c : dFull V k = 0
  · rw [if_pos c]; exact ⟨rfl, rfl, rfl, rfl, rfl, rfl, rfl⟩
  · rw [if_neg c]; exact ⟨rfl, rfl, rfl, rfl, rfl, rfl, rfl⟩
theorem turn_fill (V : CD) (k : Nat) : dFill (c_turn V k) = if dFull V k = 0 then upd (dFill V) k (dFill V k + 12) else dFill V := by
  unfold c_turn
  by_cases c : dFull V k = 0
  · rw [if_pos c, if_pos c]; rfl
  · rw [if_neg c, if_neg c]; rfl
theorem okF_turn {V : CD} (k : Nat) (h : okF (dFull V)) : okF (dFull (c_turn V k)) := fun j hj => c_turn_full (h j hj)
theorem can32 {V : CD} {k u : Nat} (hc : ¬ c_canFill V k = 0) (hu : u ≤ 100) (e : dLev V (k + 1) = nI u) : 32 ≤ u := by
  by_cases q : u < 32
  · exfalso; apply hc; unfold c_canFill; rw [e]; exact if_pos (nI_lt (b := 32) q (by decide))
  · omega
/-- one turn of a chamber -/
theorem turn_facts {V : CD} {k : Nat} (hk : k < 5) (hf : okL (dLev V) 6) (hF : okF (dFull V)) (hc : dFull V k = 0 → ¬ c_canFill V k = 0) :
    z_turn V (zA V) k = (c_turn V k, zA (c_turn V k)) ∧ okL (dLev (c_turn V k)) 6 ∧ (∀ p, ∃ d, d ≤ (if dFull V k = 0 then 0 else 12) ∧ dOver (c_turn V k) p = dOver V p + nI d) ∧ wat (c_turn V k) = wat V ∧ (¬ dFull V k = 0 → dLev (c_turn V k) (k + 1) = dLev V (k + 1)) := by
  have hfu := turn_full V k
  rcases hF k hk with h0 | h1
  · have e : c_turn V k = tFill (tLev (tFull V (upd (dFull V) k 1)) (upd (dLev V) (k + 1) (dLev V (k + 1) - 12))) (upd (dFill V) k (dFill V k + 12)) := by unfold c_turn; rw [if_pos h0]
    have hl : dLev (c_turn V k) = upd (dLev V) (k + 1) (dLev V (k + 1) - 12) := by rw [e]; rfl
    have ho : dOver (c_turn V k) = dOver V := by rw [e]; rfl
    have hd : dDrawn (c_turn V k) = dDrawn V := (turn_same V k).2.2.2.1
    obtain ⟨u, hu, eu⟩ := hf (k + 1) (by omega)
    have h32 := can32 (hc h0) hu eu
    refine ⟨?_, ?_, fun p => ⟨0, Nat.zero_le _, by rw [ho]; exact (Int32.add_zero _).symm⟩, ?_, fun z => absurd h0 z⟩
    · have hz : z_turn V (zA V) k = (z_fill V k, zA V) := by unfold z_turn; rw [if_neg (by rw [h0]; decide)]
      rw [hz]
      refine Prod.ext ?_ ?_
      · show z_fill V k = _
        rw [e]; rfl
      · show zA V = zA _
        unfold zA; rw [ho, hd]
    · rw [hl, eu, show (12 : Int32) = nI 12 by decide, nI_sub (by omega)]
      exact okL_upd hf (by omega)
    · unfold wat zA
      rw [hl, ho, hd, hfu, if_pos h0, s6_upd _ _ _ (by omega), s5_upd _ _ _ hk, h0]
      grind
  · have hn : ¬ dFull V k = 0 := by rw [h1]; decide
    have e : c_turn V k = c_pour (tFull V (upd (dFull V) k 0)) (k + 1) 12 := by unfold c_turn; rw [if_neg hn]
    have h12 : nI 12 = (12 : Int32) := by decide
    obtain ⟨p1, p2, p3, p4, p5⟩ := pour_facts (tFull V (upd (dFull V) k 0)) (k + 1) 12 (by decide) (by omega) (by omega) hf
    rw [h12] at p1 p2 p3 p4 p5
    rw [← e] at p1 p2 p3 p4 p5
    have ea : zA (tFull V (upd (dFull V) k 0)) = zA V := rfl
    rw [ea] at p1
    refine ⟨?_, p2, fun p => ?_, ?_, fun _ => p3 (k + 1) (Nat.le_refl _)⟩
    · unfold z_turn; rw [if_pos h1, p1]
    · rw [if_neg hn]; exact p4 p
    · rw [p5]
      have : wat (tFull V (upd (dFull V) k 0)) = s6 (dLev V) + 12 * s5 (upd (dFull V) k 0) + zA V := rfl
      rw [this, s5_upd _ _ _ hk, h1]
      unfold wat
      grind
theorem down01 (K : CK) (V : CD) (b : Nat) : c_down K V b = 0 ∨ c_down K V b = 1 := by unfold c_down; split <;> simp
theorem turn_fits {K : CK} {V : CD} {k b : Nat} : (¬ c_fits K V k b = 0) = (dFull V k = c_down K V b) := by
  unfold c_fits
  by_cases e : dFull V k = c_down K V b <;> simp [e]
theorem can_need {K : CK} {V : CD} {k b : Nat} (hc : ¬ c_can K V k b = 0) : kFee K ≤ dPur V b ∧ (c_need K V k b = 0 ∨ ¬ c_canFill V k = 0) := by
  have hp : kFee K ≤ dPur V b := by
    by_cases q : kFee K ≤ dPur V b
    · exact q
    · exfalso; apply hc; unfold c_can; rw [if_neg q]
  refine ⟨hp, ?_⟩
  have h2 : ¬ c_can2 K V k b = 0 := by
    unfold c_can at hc
    intro z
    apply hc
    rw [if_pos hp]
    split
    · exact z
    · split
      · rfl
      · exact z
  unfold c_can2 at h2
  by_cases q : c_need K V k b = 0
  · exact Or.inl q
  · right; intro z; apply h2; rw [if_neg q, if_pos z]
theorem waits_at {K : CK} {V : CD} {k b : Nat} (hk : k < 5) (hw : c_waits K V b = nI k) : (c_down K V b = 0 → dAt V b = nI k) ∧ (c_down K V b = 1 → dAt V b = nI (k + 1)) ∧ c_come K V b = 0 := by
  unfold c_waits at hw
  by_cases q : c_come K V b = 0
  · rw [if_pos q] at hw
    refine ⟨fun h => ?_, fun h => ?_, q⟩
    · rw [if_pos h] at hw; exact hw
    · rw [if_neg (by rw [h]; decide)] at hw
      rw [← nI_1, ← hw]; exact (Int32.sub_add_cancel _ _).symm
  · rw [if_neg q] at hw; exact absurd hw.symm (xk_nm1 (by omega))
/-- the turns of a serving, as both sides do them -/
theorem serveT_facts {K : CK} {V : CD} {k b : Nat} (hk : k < 5) (hf : okL (dLev V) 6) (hF : okF (dFull V)) (hc : ¬ c_can K V k b = 0) :
    z_serveT K V (zA V) k b = (c_turn (if c_fits K V k b = 0 then c_turn V k else V) k, zA (c_turn (if c_fits K V k b = 0 then c_turn V k else V) k)) ∧ okL (dLev (c_turn (if c_fits K V k b = 0 then c_turn V k else V) k)) 6 ∧
    (∀ p, ∃ d, d ≤ 12 ∧ dOver (c_turn (if c_fits K V k b = 0 then c_turn V k else V) k) p = dOver V p + nI d) ∧ wat (c_turn (if c_fits K V k b = 0 then c_turn V k else V) k) = wat V ∧
    dFull (c_turn (if c_fits K V k b = 0 then c_turn V k else V) k) = upd (dFull V) k (if c_down K V b = 0 then 1 else 0) ∧
    (dFill (c_turn (if c_fits K V k b = 0 then c_turn V k else V) k) = dFill V ∨ dFill (c_turn (if c_fits K V k b = 0 then c_turn V k else V) k) = upd (dFill V) k (dFill V k + 12)) := by
  have h12 := (can_need hc).2
  have hcond : ((if dFull V k = 1 then (1 : Int32) else 0) = (if dAt V b ≤ kGoal K b then 0 else 1)) = (dFull V k = c_down K V b) := by
    unfold c_down
    rcases hF k hk with z | z <;> by_cases q : dAt V b ≤ kGoal K b <;> simp [z, q]
  by_cases hft : c_fits K V k b = 0
  · -- two turns
    rw [if_pos hft]
    have hne : ¬ dFull V k = c_down K V b := fun z => absurd hft (by rw [turn_fits]; exact z)
    have hz : z_serveT K V (zA V) k b = z_turn (z_turn V (zA V) k).1 (z_turn V (zA V) k).2 k := by unfold z_serveT; rw [if_neg (by rw [hcond]; exact hne)]
    have hcf : ¬ c_canFill V k = 0 := by
      rcases h12 with z | z
      · exfalso
        unfold c_need at z
        rcases down01 K V b with hd | hd
        · rw [if_pos hd] at z; exact absurd z (by decide)
        · rw [if_neg (by rw [hd]; decide)] at z
          by_cases h0 : dFull V k = 0
          · rw [if_pos h0] at z; exact absurd z (by decide)
          · rcases hF k hk with y | y
            · exact h0 y
            · exact hne (by rw [y, hd])
      · exact z
    obtain ⟨t1, t2, t3, t4, t5⟩ := turn_facts hk hf hF (fun _ => hcf)
    have hF1 := okF_turn k hF
    have hfu := turn_full V k
    have hc1 : dFull (c_turn V k) k = 0 → ¬ c_canFill (c_turn V k) k = 0 := by
      intro z
      rw [hfu, pk_us] at z
      have hn : ¬ dFull V k = 0 := fun y => by rw [if_pos y] at z; exact absurd z (by decide)
      unfold c_canFill
      rw [t5 hn]
      exact hcf
    obtain ⟨u1, u2, u3, u4, -⟩ := turn_facts hk t2 hF1 hc1
    refine ⟨by rw [hz, t1]; exact u1, u2, fun p => ?_, by rw [u4, t4], ?_, ?_⟩
    · obtain ⟨d, hd, ed⟩ := t3 p
      obtain ⟨d2, hd2, ed2⟩ := u3 p
      rw [hfu, pk_us] at hd2
      refine ⟨d + d2, ?_, by rw [ed2, ed, Int32.add_assoc, nI_add]⟩
      by_cases y : dFull V k = 0
      · rw [if_pos y] at hd hd2
        rw [if_neg (by decide)] at hd2
        omega
      · rw [if_neg y] at hd hd2
        rw [if_pos rfl] at hd2
        omega
    · rw [turn_full (c_turn V k) k, hfu, upd_twice, pk_us]
      rcases hF k hk with y | y <;> rcases down01 K V b with z | z
      · exact absurd (y.trans z.symm) hne
      · rw [y, z]; rfl
      · rw [y, z]; rfl
      · exact absurd (y.trans z.symm) hne
    · rw [turn_fill (c_turn V k) k, turn_fill V k, hfu, pk_us]
      rcases hF k hk with y | y
      · right; simp [y]
      · right; simp [y]
  · rw [if_neg hft]
    have heq : dFull V k = c_down K V b := by rw [turn_fits] at hft; exact hft
    have hz : z_serveT K V (zA V) k b = z_turn V (zA V) k := by unfold z_serveT; rw [if_pos (by rw [hcond]; exact heq)]
    have hcf : dFull V k = 0 → ¬ c_canFill V k = 0 := by
      intro y
      rcases h12 with z | z
      · exfalso
        unfold c_need at z
        rw [if_pos (by rw [← heq]; exact y)] at z
        exact absurd z (by decide)
      · exact z
    obtain ⟨t1, t2, t3, t4, -⟩ := turn_facts hk hf hF hcf
    refine ⟨by rw [hz]; exact t1, t2, fun p => ?_, t4, ?_, ?_⟩
    · obtain ⟨d, hd, ed⟩ := t3 p
      refine ⟨d, ?_, ed⟩
      split at hd <;> omega
    · rw [turn_full, heq]
    · rw [turn_fill]
      by_cases y : dFull V k = 0
      · right; rw [if_pos y]
      · left; rw [if_neg y]
/-- a serving -/
theorem serve_facts {K : CK} {V : CD} {k b : Nat} (hk : k < 5) (hf : okL (dLev V) 6) (hF : okF (dFull V)) (hw : c_waits K V b = nI k) (hc : ¬ c_can K V k b = 0) :
    z_serve K V (zA V) k b = (c_serve K V k b, zA (c_serve K V k b)) ∧ okL (dLev (c_serve K V k b)) 6 ∧ (∀ p, ∃ d, d ≤ 12 ∧ dOver (c_serve K V k b) p = dOver V p + nI d) ∧ wat (c_serve K V k b) = wat V ∧
    dFull (c_serve K V k b) = upd (dFull V) k (if c_down K V b = 0 then 1 else 0) ∧ (dFill (c_serve K V k b) = dFill V ∨ dFill (c_serve K V k b) = upd (dFill V) k (dFill V k + 12)) ∧
    dDrawn (c_serve K V k b) = dDrawn V ∧ dBank (c_serve K V k b) = dBank V + kFee K ∧ dLock (c_serve K V k b) = upd (dLock V) k (dLock V k + 1) ∧
    dAt (c_serve K V k b) = upd (dAt V) b (if c_down K V b = 0 then nI (k + 1) else nI k) ∧ dPur (c_serve K V k b) = upd (dPur V) b (dPur V b - kFee K) ∧ dSer (c_serve K V k b) = upd (dSer V) b (dSer V b + 1) := by
  obtain ⟨t1, t2, t3, t4, t5, t6⟩ := serveT_facts (b := b) hk hf hF hc
  have hsame : ∀ {α : Type} (f : CD → α), (∀ W j, f (c_turn W j) = f W) → f (c_turn (if c_fits K V k b = 0 then c_turn V k else V) k) = f V := by
    intro α f hf9
    rw [hf9]; split
    · rw [hf9]
    · rfl
  generalize hW : c_turn (if c_fits K V k b = 0 then c_turn V k else V) k = W at *
  have hcs : c_serve K V k b = c_serve2 K W k b := by unfold c_serve; rw [hW]
  have w1 : dAt W = dAt V := hsame dAt (fun W j => (turn_same W j).1)
  have w2 : dPur W = dPur V := hsame dPur (fun W j => (turn_same W j).2.1)
  have w3 : dBank W = dBank V := hsame dBank (fun W j => (turn_same W j).2.2.1)
  have w4 : dDrawn W = dDrawn V := hsame dDrawn (fun W j => (turn_same W j).2.2.2.1)
  have w5 : dSer W = dSer V := hsame dSer (fun W j => (turn_same W j).2.2.2.2.1)
  have w6 : dLock W = dLock V := hsame dLock (fun W j => (turn_same W j).2.2.2.2.2.1)
  have wd : c_down K W b = c_down K V b := by unfold c_down; rw [w1]
  obtain ⟨a0, a1, -⟩ := waits_at hk hw
  have hat : dAt V b + (if dAt V b ≤ kGoal K b then 1 else -1) = (if c_down K V b = 0 then nI (k + 1) else nI k) := by
    rcases down01 K V b with z | z
    · have : dAt V b ≤ kGoal K b := by
        unfold c_down at z
        by_cases q : dAt V b ≤ kGoal K b
        · exact q
        · rw [if_neg q] at z; exact absurd z (by decide)
      rw [if_pos this, if_pos z, a0 z, nI_1]
    · have : ¬ dAt V b ≤ kGoal K b := by
        unfold c_down at z
        intro q
        rw [if_pos q] at z; exact absurd z (by decide)
      rw [if_neg this, if_neg (by rw [z]; decide), a1 z, ← nI_1]
      grind
  rw [hcs]
  refine ⟨?_, t2, t3, t4, t5, t6, w4, ?_, ?_, ?_, ?_, ?_⟩
  · have hz : z_serve K V (zA V) k b = (z_serve2 W (kFee K) (if dAt V b ≤ kGoal K b then 1 else -1) k b, zA W) := by unfold z_serve; rw [t1]
    rw [hz]
    refine Prod.ext ?_ rfl
    show z_serve2 W (kFee K) (if dAt V b ≤ kGoal K b then 1 else -1) k b = c_serve2 K W k b
    unfold z_serve2 c_serve2
    rw [wd, w1, hat]
  · show dBank W + kFee K = _
    rw [w3]
  · show upd (dLock W) k (dLock W k + 1) = _
    rw [w6]
  · show upd (dAt W) b (if c_down K W b = 0 then nI (k + 1) else nI k) = _
    rw [w1, wd]
  · show upd (dPur W) b (dPur W b - kFee K) = _
    rw [w2]
  · show upd (dSer W) b (dSer W b + 1) = _
    rw [w5]
