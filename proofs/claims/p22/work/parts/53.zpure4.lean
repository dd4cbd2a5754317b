-- ===== an hour: what it leaves =====
def sN (f : Nat → Int32) : Nat → Int32
  | 0 => 0
  | n + 1 => sN f n + f n
theorem c_sumL_eq (f : Nat → Int32) : ∀ (m b : Nat) (r : Int32), c_sumL f m b r = r + (sN f (b + m) - sN f b) := by
  intro m
  induction m with
  | zero => intro b r; rw [c_sumL, Nat.add_zero]; grind
  | succ m ih =>
    intro b r
    rw [c_sumL, ih, show b + 1 + m = b + (m + 1) by omega, show sN f (b + 1) = sN f b + f b from rfl]
    grind
theorem c_sumL_0 (f : Nat → Int32) (n : Nat) : c_sumL f n 0 0 = sN f n := by
  rw [c_sumL_eq, Nat.zero_add, show sN f 0 = 0 from rfl]; grind
theorem sN_ge (f : Nat → Int32) (b : Nat) (v : Int32) : ∀ n, n ≤ b → sN (upd f b v) n = sN f n := by
  intro n
  induction n with
  | zero => intro _; rfl
  | succ n ih => intro h; rw [sN, sN, ih (by omega), pk_un (by omega)]
theorem sN_upd (f : Nat → Int32) (b : Nat) (v : Int32) : ∀ n, b < n → sN (upd f b v) n = sN f n + (v - f b) := by
  intro n
  induction n with
  | zero => intro h; omega
  | succ n ih =>
    intro h
    rw [sN, sN]
    by_cases e : n = b
    · subst e; rw [sN_ge f n v n (Nat.le_refl _), pk_us]; grind
    · rw [ih (by omega), pk_un e]; grind
theorem sN_sub (f g : Nat → Int32) : ∀ n, sN (fun b => f b - g b) n = sN f n - sN g n := by
  intro n
  induction n with
  | zero => exact (Int32.sub_zero 0).symm ▸ rfl
  | succ n ih => rw [sN, sN, sN, ih]; grind
theorem s6_sN (f : Nat → Int32) : sN f 6 = s6 f := by simp [sN, s6]
theorem s5_sN (f : Nat → Int32) : sN f 5 = s5 f := by simp [sN, s5]
def smB (V V' : CD) (b : Nat) : Prop := dAt V' b = dAt V b ∧ dPur V' b = dPur V b ∧ dSer V' b = dSer V b
/-- the barge b was served, by a lock below n -/
def hrB (n : Nat) (K : CK) (V V' : CD) (b : Nat) : Prop := dSer V' b = dSer V b + 1 ∧ dPur V' b = dPur V b - kFee K ∧ kFee K ≤ dPur V b ∧ b < kNb K ∧
  ∃ k, k < n ∧ c_waits K V b = nI k ∧ dAt V' b = (if c_down K V b = 0 then nI (k + 1) else nI k) ∧ dFull V' k = (if c_down K V b = 0 then 1 else 0)
def hrK (V V' : CD) (k : Nat) : Prop := (dLock V' k = dLock V k ∧ dFull V' k = dFull V k ∧ dFill V' k = dFill V k) ∨ (dLock V' k = dLock V k + 1 ∧ (dFill V' k = dFill V k ∨ dFill V' k = dFill V k + 12))
theorem waits_congr {K : CK} {V V' : CD} {b : Nat} (h : dAt V' b = dAt V b) : c_waits K V' b = c_waits K V b ∧ c_down K V' b = c_down K V b := by
  unfold c_waits c_come c_down
  rw [h]
  exact ⟨rfl, rfl⟩
theorem hourL_all {K : CK} (hn : kNb K ≤ 10) (hd : kDry K = 0 ∨ kDry K = 1) : ∀ (n : Nat) (V : CD) (sb sv : Int32) (wf : Nat → Int32), n ≤ 5 → okL (dLev V) 6 → okF (dFull V) → okS sb wf →
    ∃ t, t ≤ n ∧ z_hourL K n V (zA V) wf sv = ((c_hourL K n V sb sv).1, zA (c_hourL K n V sb sv).1, (c_hourL K n V sb sv).2) ∧ okL (dLev (c_hourL K n V sb sv).1) 6 ∧ okF (dFull (c_hourL K n V sb sv).1) ∧ wat (c_hourL K n V sb sv).1 = wat V ∧
    (∀ p, ∃ d, d ≤ 12 * n ∧ dOver (c_hourL K n V sb sv).1 p = dOver V p + nI d) ∧ dDrawn (c_hourL K n V sb sv).1 = dDrawn V ∧ (c_hourL K n V sb sv).2 = sv + nI t ∧ dBank (c_hourL K n V sb sv).1 = dBank V + nI t * kFee K ∧
    (∀ k, n ≤ k → dFull (c_hourL K n V sb sv).1 k = dFull V k ∧ dLock (c_hourL K n V sb sv).1 k = dLock V k ∧ dFill (c_hourL K n V sb sv).1 k = dFill V k) ∧ (∀ k, k < n → hrK V (c_hourL K n V sb sv).1 k) ∧
    sN (dLock (c_hourL K n V sb sv).1) 5 = sN (dLock V) 5 + nI t ∧
    (∀ b, smB V (c_hourL K n V sb sv).1 b ∨ (b < 10 ∧ (sb >>> (nI b &&& 31)) &&& 1 = 0 ∧ hrB n K V (c_hourL K n V sb sv).1 b)) ∧
    sN (dSer (c_hourL K n V sb sv).1) (kNb K) = sN (dSer V) (kNb K) + nI t := by
  intro n
  induction n with
  | zero =>
    intro V sb sv wf _ hf hF hs
    have z0 : ∀ x : Int32, x = x + nI 0 := fun x => (Int32.add_zero x).symm
    refine ⟨0, Nat.le_refl _, rfl, hf, hF, rfl, fun p => ⟨0, Nat.zero_le _, z0 _⟩, rfl, z0 _, ?_, fun k _ => ⟨rfl, rfl, rfl⟩, fun k h => absurd h (Nat.not_lt_zero k), z0 _, fun b => Or.inl ⟨rfl, rfl, rfl⟩, z0 _⟩
    show dBank V = dBank V + (0 : Int32) * kFee K
    grind
  | succ n ih =>
    intro V sb sv wf hn5 hf hF hs
    have hnx := next_eq (k := n) hn (by omega) hf hF hd hs
    rw [z_hourL, c_hourL, hnx]
    by_cases h : c_next K V n sb = -1
    · rw [if_pos h, if_neg (by rw [h]; decide)]
      obtain ⟨t, ht, a1, a2, a3, a4, a5, a6, a7, a8, a9, a10, a11, a12, a13⟩ := ih V sb sv wf (by omega) hf hF hs
      refine ⟨t, by omega, a1, a2, a3, a4, fun p => ?_, a6, a7, a8, fun k hk => a9 k (by omega), fun k hk => ?_, a11, fun b => ?_, a13⟩
      · obtain ⟨d, h1, h2⟩ := a5 p
        exact ⟨d, by omega, h2⟩
      · by_cases e : k < n
        · exact a10 k e
        · obtain ⟨b1, b2, b3⟩ := a9 k (by omega)
          exact Or.inl ⟨b2, b1, b3⟩
      · rcases a12 b with z | ⟨z1, z2, z3, z4, z5, z6, k, hk, z7⟩
        · exact Or.inl z
        · exact Or.inr ⟨z1, z2, z3, z4, z5, z6, k, by omega, z7⟩
    · obtain ⟨q, hq, e, hw, hc, hb0⟩ := next_P h
      rw [if_neg h, e, if_pos (nI_pos' (by omega)), nI_clamp (by omega)]
      obtain ⟨s1, s2, s3, s4, s5', s6', s7, s8, s9, s10, s11, s12⟩ := serve_facts (b := q) (by omega) hf hF hw hc
      rw [s1]
      generalize hV1 : c_serve K V n q = V1 at *
      have hF1 : okF (dFull V1) := by
        intro j hj
        rw [s5']
        by_cases y : j = n
        · subst y; rw [pk_us]; split <;> simp
        · rw [pk_un y]; exact hF j hj
      have hs1 : okS (sb ||| (1 <<< (nI q &&& 31))) (upd wf q 1) := by
        intro b hb10
        rw [bit_or q b (by omega) hb10]
        by_cases y : b = q
        · subst y; rw [pk_us]; simp
        · rw [pk_un y]
          exact ⟨fun z => (hs b hb10).mp z.2, fun z => ⟨y, (hs b hb10).mpr z⟩⟩
      obtain ⟨t, ht, a1, a2, a3, a4, a5, a6, a7, a8, a9, a10, a11, a12, a13⟩ := ih V1 (sb ||| (1 <<< (nI q &&& 31))) (sv + 1) (upd wf q 1) (by omega) s2 hF1 hs1
      generalize hV2 : (c_hourL K n V1 (sb ||| (1 <<< (nI q &&& 31))) (sv + 1)) = W at *
      have e1 : nI (t + 1) = 1 + nI t := by rw [← nI_1]; exact Int32.add_comm _ _
      refine ⟨t + 1, by omega, a1, a2, a3, by rw [a4, s4], fun p => ?_, by rw [a6, s7], ?_, ?_, fun k hk => ?_, fun k hk => ?_, ?_, fun b => ?_, ?_⟩
      · obtain ⟨d, h1, h2⟩ := a5 p
        obtain ⟨d2, h3, h4⟩ := s3 p
        exact ⟨d2 + d, by omega, by rw [h2, h4, Int32.add_assoc, nI_add]⟩
      · rw [a7, e1]; grind
      · rw [a8, s8, e1]; grind
      · obtain ⟨b1, b2, b3⟩ := a9 k (by omega)
        have hne : k ≠ n := by omega
        refine ⟨by rw [b1, s5', pk_un hne], by rw [b2, s9, pk_un hne], ?_⟩
        rw [b3]
        rcases s6' with z | z <;> rw [z]
        rw [pk_un hne]
      · by_cases y : k = n
        · subst y
          obtain ⟨b1, b2, b3⟩ := a9 k (Nat.le_refl _)
          right
          refine ⟨by rw [b2, s9, pk_us], ?_⟩
          rw [b3]
          rcases s6' with z | z <;> rw [z]
          · exact Or.inl rfl
          · rw [pk_us]; exact Or.inr rfl
        · have hfi : dFill V1 k = dFill V k := by
            rcases s6' with z | z <;> rw [z]
            rw [pk_un y]
          have := a10 k (by omega)
          unfold hrK at this ⊢
          rw [s5', s9, hfi, pk_un y, pk_un y] at this
          exact this
      · rw [a11, s9, sN_upd _ _ _ 5 (by omega), e1]; grind
      · by_cases y : b = q
        · subst y
          rcases a12 b with ⟨z1, z2, z3⟩ | ⟨z1, z2, -⟩
          · right
            refine ⟨by omega, hb0, by rw [z3, s12, pk_us], by rw [z2, s11, pk_us], (can_need hc).1, hq, n, Nat.lt_succ_self n, hw, by rw [z1, s10, pk_us], ?_⟩
            rw [(a9 n (Nat.le_refl _)).1, s5', pk_us]
          · exact absurd rfl ((bit_or b b (by omega) (by omega) sb).mp z2).1
        · have eat : dAt V1 b = dAt V b := by rw [s10, pk_un y]
          have ep : dPur V1 b = dPur V b := by rw [s11, pk_un y]
          have es : dSer V1 b = dSer V b := by rw [s12, pk_un y]
          obtain ⟨ew, ed⟩ := waits_congr (K := K) eat
          rcases a12 b with ⟨z1, z2, z3⟩ | ⟨z1, z2, z3, z4, z5, z6, k, hk, z7, z8, z9⟩
          · left; exact ⟨by rw [z1, eat], by rw [z2, ep], by rw [z3, es]⟩
          · right
            exact ⟨z1, ((bit_or q b (by omega) z1 sb).mp z2).2, by rw [z3, es], by rw [z4, ep], by rw [← ep]; exact z5, z6, k, by omega, by rw [← ew]; exact z7, by rw [z8, ed], by rw [z9, ed]⟩
      · rw [a13, s12, sN_upd _ _ _ _ hq, e1]; grind
theorem div5 : ∀ x : Nat, x < 11 → nI x / 5 = nI (x / 5) := by decide +kernel
theorem mill_facts {K : CK} {V : CD} {mk : Nat} (hm : kMill K ≤ 6) (hmk : kMark K = nI mk) (hmk2 : mk ≤ 100) (hf : okL (dLev V) 6) :
    z_mill K V (zA V) = (c_mill K V, zA (c_mill K V)) ∧ okL (dLev (c_mill K V)) 6 ∧ wat (c_mill K V) = wat V ∧ (∀ p, ∃ d, d ≤ 10 ∧ dOver (c_mill K V) p = dOver V p + nI d) ∧ (∀ p, ∃ d, d ≤ 10 ∧ dDrawn (c_mill K V) p = dDrawn V p + nI d) ∧ (∃ d, d ≤ 2 ∧ dBank (c_mill K V) = dBank V + nI d) ∧
    dFull (c_mill K V) = dFull V ∧ dLock (c_mill K V) = dLock V ∧ dFill (c_mill K V) = dFill V ∧ dAt (c_mill K V) = dAt V ∧ dPur (c_mill K V) = dPur V ∧ dSer (c_mill K V) = dSer V := by
  have z0 : ∀ x : Int32, x = x + nI 0 := fun x => (Int32.add_zero x).symm
  unfold z_mill c_mill
  cases hk : kMill K with
  | zero => exact ⟨rfl, hf, rfl, fun p => ⟨0, by omega, z0 _⟩, fun p => ⟨0, by omega, z0 _⟩, ⟨0, by omega, z0 _⟩, rfl, rfl, rfl, rfl, rfl, rfl⟩
  | succ q =>
    have hq : q < 6 := by omega
    obtain ⟨lv, h1, h2⟩ := hf q hq
    simp only [hmk]
    by_cases c : nI mk < dLev V q
    · rw [if_pos c, if_neg (Int32.not_le.mpr c)]
      rw [h2] at c
      have hlt : mk < lv := (nI_ltI (by omega) (by omega)).mp c
      obtain ⟨x, hx, ex1, ex2, hxl⟩ : ∃ x : Nat, x ≤ 10 ∧ (if dLev V q - nI mk ≤ 10 then dLev V q - nI mk else 10) = nI x ∧ (if 10 < dLev V q - nI mk then 10 else dLev V q - nI mk) = nI x ∧ x ≤ lv := by
        rw [h2, nI_sub (by omega)]
        by_cases z : lv - mk ≤ 10
        · exact ⟨lv - mk, z, if_pos (nI_le (b := 10) z (by decide)), if_neg (nI_nlt (b := lv - mk) (a := 10) z (by decide)), by omega⟩
        · exact ⟨10, by omega, if_neg (Int32.not_le.mpr (nI_lt (a := 10) (b := lv - mk) (by omega) (by omega))), if_pos (nI_lt (a := 10) (b := lv - mk) (by omega) (by omega)), by omega⟩
      rw [ex1, ex2]
      unfold z_mill1 c_mill1
      have hx5 := div5 x (by omega)
      have hl : okL (upd (dLev V) q (dLev V q - nI x)) 6 := by rw [h2, nI_sub hxl]; exact okL_upd hf (by omega)
      have hdr : ∀ p, ∃ d, d ≤ 10 ∧ upd (dDrawn V) q (dDrawn V q + nI x) p = dDrawn V p + nI d := by
        intro p
        by_cases y : p = q
        · subst y; rw [pk_us]; exact ⟨x, hx, rfl⟩
        · rw [pk_un y]; exact ⟨0, by omega, z0 _⟩
      have hw1 : s6 (upd (dLev V) q (dLev V q - nI x)) = s6 (dLev V) - nI x := by rw [s6_upd _ _ _ hq]; grind
      by_cases hq0 : q = 0
      · subst hq0
        refine ⟨Prod.ext rfl ?_, hl, ?_, fun p => ⟨0, by omega, z0 _⟩, hdr, ⟨x / 5, by omega, by show dBank V + nI x / 5 = _; rw [hx5]⟩, rfl, rfl, rfl, rfl, rfl, rfl⟩
        · show zA V + nI x = dOver V 0 + upd (dDrawn V) 0 (dDrawn V 0 + nI x) 0
          rw [pk_us]; unfold zA; grind
        · show s6 (upd (dLev V) 0 (dLev V 0 - nI x)) + 12 * s5 (dFull V) + (dOver V 0 + upd (dDrawn V) 0 (dDrawn V 0 + nI x) 0) = wat V
          rw [hw1, pk_us]; unfold wat zA; grind
      · obtain ⟨p1, p2, -, p4, p5⟩ := pour_facts (tBank (tDrawn (tLev V (upd (dLev V) q (dLev V q - nI x))) (upd (dDrawn V) q (dDrawn V q + nI x))) (dBank V + nI x / 5)) q x (by omega) (by omega) (by omega) hl
        have ez : zA (tBank (tDrawn (tLev V (upd (dLev V) q (dLev V q - nI x))) (upd (dDrawn V) q (dDrawn V q + nI x))) (dBank V + nI x / 5)) = zA V := by
          show dOver V 0 + upd (dDrawn V) q (dDrawn V q + nI x) 0 = _
          rw [pk_un (fun h => hq0 h.symm)]; rfl
        rw [ez] at p1
        refine ⟨p1, p2, ?_, fun p => let ⟨d, h1, h2⟩ := p4 p; ⟨d, by omega, h2⟩, hdr, ⟨x / 5, by omega, by show dBank V + nI x / 5 = _; rw [hx5]⟩, rfl, rfl, rfl, rfl, rfl, rfl⟩
        rw [p5]
        show s6 (upd (dLev V) q (dLev V q - nI x)) + 12 * s5 (dFull V) + zA (tBank (tDrawn (tLev V (upd (dLev V) q (dLev V q - nI x))) (upd (dDrawn V) q (dDrawn V q + nI x))) (dBank V + nI x / 5)) + nI x = wat V
        rw [hw1, ez]; unfold wat; grind
    · rw [if_neg c, if_pos (Int32.not_lt.mp c)]
      exact ⟨rfl, hf, rfl, fun p => ⟨0, by omega, z0 _⟩, fun p => ⟨0, by omega, z0 _⟩, ⟨0, by omega, z0 _⟩, rfl, rfl, rfl, rfl, rfl, rfl⟩
/-- what stands between two calls: what they set -/
def okK (K : CK) : Prop := kNb K ≤ 10 ∧ kMill K ≤ 6 ∧ (kDry K = 0 ∨ kDry K = 1) ∧ (∃ f, f ≤ 20 ∧ kFee K = nI f) ∧ (∃ mk, mk ≤ 100 ∧ kMark K = nI mk) ∧ ∀ p, p < 8 → ∃ x, x ≤ 30 ∧ kSpr K p = nI x
/-- an hour, on both sides, and what it leaves: V', the answer -/
theorem hour_all {K : CK} {V : CD} (hK : okK K) (hf : okL (dLev V) 6) (hF : okF (dFull V)) :
    ∃ t u, t ≤ 5 ∧ u ≤ 2 ∧ z_hour K V (zA V) = ((c_hour K V).1, zA (c_hour K V).1, (c_hour K V).2) ∧ okL (dLev (c_hour K V).1) 6 ∧ okF (dFull (c_hour K V).1) ∧ wat (c_hour K V).1 = wat V + kSpr K (dHour V % 8) ∧
    (∀ p, ∃ d, d ≤ 100 ∧ dOver (c_hour K V).1 p = dOver V p + nI d) ∧ (∀ p, ∃ d, d ≤ 10 ∧ dDrawn (c_hour K V).1 p = dDrawn V p + nI d) ∧ (c_hour K V).2 = nI t ∧ dBank (c_hour K V).1 = dBank V + nI u + nI t * kFee K ∧
    (∀ k, k < 5 → hrK V (c_hour K V).1 k) ∧ sN (dLock (c_hour K V).1) 5 = sN (dLock V) 5 + nI t ∧
    (∀ b, smB V (c_hour K V).1 b ∨ hrB 5 K V (c_hour K V).1 b) ∧ sN (dSer (c_hour K V).1) (kNb K) = sN (dSer V) (kNb K) + nI t := by
  obtain ⟨k1, k2, k3, ⟨f, hf20, hfe⟩, ⟨mk, hmk, hme⟩, k6⟩ := hK
  obtain ⟨x, hx, ex⟩ := k6 (dHour V % 8) (Nat.mod_lt _ (by decide))
  obtain ⟨p1, p2, -, p4, p5⟩ := pour_facts V 6 x (by omega) (by omega) (by omega) hf
  rw [← ex] at p1 p2 p4 p5
  obtain ⟨g1, g2, g3, g4, g5, ⟨u, hu, g6⟩, g7, g8, g9, g10, g11, g12⟩ := mill_facts (K := K) (V := c_pour V 6 (kSpr K (dHour V % 8))) k2 hme hmk p2
  have hA : c_hourA K V = c_mill K (c_pour V 6 (kSpr K (dHour V % 8))) := rfl
  have zAe : z_hourA K V (zA V) = (c_hourA K V, zA (c_hourA K V)) := by
    unfold z_hourA
    rw [p1]
    exact g1
  have hs0 : okS 0 (fun _ => 0) := by
    intro b hb
    rw [bit_get b hb]
    simp
  have hFA : okF (dFull (c_hourA K V)) := by rw [hA, g7]; exact hF
  obtain ⟨t, ht, a1, a2, a3, a4, a5, a6, a7, a8, a9, a10, a11, a12, a13⟩ := hourL_all k1 k3 5 (c_hourA K V) 0 0 (fun _ => 0) (Nat.le_refl _) (by rw [hA]; exact g2) hFA hs0
  have hAat : dAt (c_hourA K V) = dAt V := by rw [hA, g10]; rfl
  have hApu : dPur (c_hourA K V) = dPur V := by rw [hA, g11]; rfl
  have hAse : dSer (c_hourA K V) = dSer V := by rw [hA, g12]; rfl
  have hAfu : dFull (c_hourA K V) = dFull V := by rw [hA, g7]; rfl
  have hAlo : dLock (c_hourA K V) = dLock V := by rw [hA, g8]; rfl
  have hAfi : dFill (c_hourA K V) = dFill V := by rw [hA, g9]; rfl
  generalize hW : c_hourL K 5 (c_hourA K V) 0 0 = W at *
  have hc : c_hour K V = (tHour W.1 (dHour W.1 + 1), W.2) := by unfold c_hour; rw [hW]
  rw [hc]
  refine ⟨t, u, ht, hu, ?_, a2, a3, ?_, fun p => ?_, fun p => ?_, ?_, ?_, fun k hk => ?_, ?_, fun b => ?_, ?_⟩
  · have hb : z_hourB K V (zA V) = (W.1, zA W.1, W.2) := by
      unfold z_hourB
      rw [zAe]
      exact a1
    unfold z_hour
    rw [hb]
    rfl
  · show wat W.1 = _
    rw [a4, hA, g3, p5]
  · obtain ⟨d, h1, h2⟩ := a5 p
    obtain ⟨d2, h3, h4⟩ := g4 p
    obtain ⟨d3, h5, h6⟩ := p4 p
    refine ⟨d3 + d2 + d, by omega, ?_⟩
    show dOver W.1 p = _
    rw [h2, hA, h4, h6, Int32.add_assoc, Int32.add_assoc, nI_add, nI_add, Nat.add_assoc]
  · obtain ⟨d, h1, h2⟩ := g5 p
    refine ⟨d, h1, ?_⟩
    show dDrawn W.1 p = _
    rw [a6, hA, h2]; rfl
  · show W.2 = _
    rw [a7]; exact Int32.zero_add _
  · show dBank W.1 = _
    rw [a8, hA, g6]; rfl
  · have := a10 k hk
    unfold hrK at this ⊢
    rw [hAfu, hAlo, hAfi] at this
    exact this
  · show sN (dLock W.1) 5 = _
    rw [a11, hAlo]
  · obtain ⟨ew, ed⟩ := waits_congr (K := K) (V := V) (V' := c_hourA K V) (b := b) (by rw [hAat])
    rcases a12 b with z | ⟨-, -, z⟩
    · left
      unfold smB at z ⊢
      rw [hAat, hApu, hAse] at z
      exact z
    · right
      unfold hrB at z ⊢
      rw [hApu, hAse, ew, ed] at z
      exact z
  · show sN (dSer W.1) (kNb K) = _
    rw [a13, hAse]
