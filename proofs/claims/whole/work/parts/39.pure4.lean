-- ===== the calls keep what stands between them =====
theorem in_nat {x : Int32} (N : Nat) (hN : N < 2147483648) {hi : Int32} (e : hi = nI N) (h : ¬ c_isIn x 0 hi = 0) : ∃ j, j ≤ N ∧ x = nI j := by
  obtain ⟨h1, h2⟩ := isIn_ix N hN e h
  exact ⟨ix x, h2, h1⟩
theorem ok_spring {K : CK} (x y : Int32) (hK : okK K) : okK (K_spring K x y) := by
  unfold K_spring
  by_cases q : q_setSpring x y = 0
  · rw [if_pos q]
    unfold q_setSpring at q
    by_cases c1 : c_isIn x 0 7 = 0
    · rw [if_pos c1] at q; exact absurd q (by decide)
    · rw [if_neg c1] at q
      by_cases c2 : c_isIn y 0 30 = 0
      · rw [if_pos c2] at q; exact absurd q (by decide)
      · obtain ⟨j, hj, e⟩ := in_nat 30 (by decide) rfl c2
        obtain ⟨k1, k2, k3, k4, k5, k6⟩ := hK
        refine ⟨k1, k2, k3, k4, k5, fun p hp => ?_⟩
        show ∃ x1, x1 ≤ 30 ∧ upd (kSpr K) (ix x) y p = nI x1
        by_cases z : p = ix x
        · subst z; rw [pk_us]; exact ⟨j, hj, e⟩
        · rw [pk_un z]; exact k6 p hp
  · rw [if_neg q]; exact hK
theorem ok_mill {K : CK} (x y : Int32) (hK : okK K) : okK (K_mill K x y) := by
  unfold K_mill
  by_cases q : q_setMill x y = 0
  · rw [if_pos q]
    unfold q_setMill at q
    by_cases c1 : c_isIn x (-1) 5 = 0
    · rw [if_pos c1] at q; exact absurd q (by decide)
    · rw [if_neg c1] at q
      by_cases c2 : c_isIn y 0 100 = 0
      · rw [if_pos c2] at q; exact absurd q (by decide)
      · obtain ⟨j, hj, e⟩ := in_nat 100 (by decide) rfl c2
        obtain ⟨k1, k2, k3, k4, k5, k6⟩ := hK
        exact ⟨k1, (isIn_ixm c1).2, k3, k4, ⟨j, hj, e⟩, k6⟩
  · rw [if_neg q]; exact hK
theorem ok_dry {K : CK} {x : Int32} (hx : x = 0 ∨ x = 1) (hK : okK K) : okK (uDry K x) := by
  obtain ⟨k1, k2, k3, k4, k5, k6⟩ := hK
  exact ⟨k1, k2, hx, k4, k5, k6⟩
theorem ok_fee {K : CK} (x : Int32) (hK : okK K) : okK (K_fee K x) := by
  unfold K_fee
  by_cases q : q_setFee x = 0
  · rw [if_pos q]
    unfold q_setFee at q
    by_cases c1 : c_isIn x 0 20 = 0
    · rw [if_pos c1] at q; exact absurd q (by decide)
    · obtain ⟨j, hj, e⟩ := in_nat 20 (by decide) rfl c1
      obtain ⟨k1, k2, k3, k4, k5, k6⟩ := hK
      exact ⟨k1, k2, k3, ⟨j, hj, e⟩, k5, k6⟩
  · rw [if_neg q]; exact hK
theorem ok_bargeK {K : CK} (x y z : Int32) (hK : okK K) : okK (K_barge K x y z) := by
  unfold K_barge
  by_cases q : q_barge K x y z = 0
  · rw [if_pos q]
    unfold q_barge at q
    by_cases c1 : c_isIn x 0 5 = 0
    · rw [if_pos c1] at q; exact absurd q (by decide)
    · rw [if_neg c1] at q
      by_cases c2 : c_isIn y 0 5 = 0
      · rw [if_pos c2] at q; exact absurd q (by decide)
      · rw [if_neg c2] at q
        by_cases c3 : c_isIn z 0 99 = 0
        · rw [if_pos c3] at q; exact absurd q (by decide)
        · rw [if_neg c3] at q
          by_cases c4 : nI (kNb K) = 10
          · rw [if_pos c4] at q; exact absurd q (by decide)
          · obtain ⟨k1, k2, k3, k4, k5, k6⟩ := hK
            have h10 := nb_lt k1 c4
            exact ⟨h10, k2, k3, k4, k5, k6⟩
  · rw [if_neg q]; exact hK
theorem ok_bargeV {K : CK} {V : CD} {aw : Int32} {wh : Nat → Int32} (x y z : Int32) (hV : okV V aw wh) : okV (V_barge K V x y z) aw wh := by
  unfold V_barge
  by_cases q : q_barge K x y z = 0
  · rw [if_pos q]; exact hV
  · rw [if_neg q]; exact hV
theorem ok_send {K : CK} (x y : Int32) (hK : okK K) : okK (K_send K x y) := by
  unfold K_send
  by_cases q : q_send K x y = 0
  · rw [if_pos q]; exact hK
  · rw [if_neg q]; exact hK
theorem dHour_barge (K : CK) (V : CD) (x y z : Int32) : dHour (V_barge K V x y z) = dHour V := by unfold V_barge; split <;> rfl
theorem half : ∀ y : Nat, y < 61 → (nI y + 1) / 2 = nI ((y + 1) / 2) := by decide +kernel
theorem water_eq {V : CD} {aw : Int32} {wh : Nat → Int32} (x y : Int32) (hV : okV V aw wh) (hh : dHour V < 1000000) : (m_water V aw x y).1 = C_water V x y ∧ okV (C_water V x y) (m_water V aw x y).2 wh ∧ dHour (C_water V x y) = dHour V := by
  unfold m_water C_water
  by_cases q : q_water V x y = 0
  · rw [if_pos q, if_pos q]
    unfold q_water at q
    by_cases c1 : c_isIn x 0 5 = 0
    · rw [if_pos c1] at q; exact absurd q (by decide)
    · rw [if_neg c1] at q
      by_cases c2 : c_isIn y 1 60 = 0
      · rw [if_pos c2] at q; exact absurd q (by decide)
      · rw [if_neg c2] at q
        by_cases c3 : (y + 1) / 2 ≤ dBank V
        · obtain ⟨hx1, hx2⟩ := isIn_ix 5 (by decide) rfl c1
          obtain ⟨hy1, hy3, hy2⟩ := isIn_ixl 1 60 (by decide) (by decide) rfl rfl c2
          obtain ⟨v1, v2, v3, v4, u, hu, hb⟩ := hV
          have e1 : (y + 1) / 2 = nI ((ix y + 1) / 2) := by rw [hy1, half _ (by omega), ← hy1]
          rw [e1, hb] at c3
          have hle : (ix y + 1) / 2 ≤ u := (nI_leI (by omega) (by omega)).mp c3
          have hbp : dBank (V_paid V y) = nI (u - (ix y + 1) / 2) := by show dBank V - (y + 1) / 2 = _; rw [e1, hb, nI_sub hle]
          obtain ⟨p1, p2, p3, -⟩ := pour_eq (V_paid V y) aw (ix x + 1) (ix y) (by omega) (by omega) v1 (fun _ => v3) (fun z => absurd z (by omega))
          rw [← hy1] at p1 p2 p3
          exact ⟨p1, ⟨p3, v2, p2, v4, u - (ix y + 1) / 2, by show u - (ix y + 1) / 2 ≤ 102 * dHour V; omega, hbp⟩, rfl⟩
        · rw [if_neg c3] at q; exact absurd q (by decide)
  · rw [if_neg q, if_neg q]
    exact ⟨rfl, hV, rfl⟩
theorem work_eq {V : CD} {aw : Int32} {wh : Nat → Int32} (x : Int32) (hV : okV V aw wh) : (m_work V aw x).1 = C_work V x ∧ okV (C_work V x) (m_work V aw x).2 wh ∧ dHour (C_work V x) = dHour V := by
  unfold m_work C_work
  by_cases q : q_work V x = 0
  · rw [if_pos q, if_pos q]
    unfold q_work at q
    by_cases c1 : c_isIn x 0 4 = 0
    · rw [if_pos c1] at q; exact absurd q (by decide)
    · rw [if_neg c1] at q
      obtain ⟨hx1, hx2⟩ := isIn_ix 4 (by decide) rfl c1
      obtain ⟨v1, v2, v3, v4, u, hu, hb⟩ := hV
      have hs := turn_same V (ix x)
      rcases v2 (ix x) (by omega) with h0 | h1
      · rw [if_pos h0] at q
        have hc : ¬ c_canFill V (ix x) = 0 := by intro z; rw [if_pos z] at q; exact absurd q (by decide)
        rw [if_neg (by rw [h0]; decide)]
        refine ⟨fill_eq V _ h0, ⟨turn_fill_lev V _ h0 (by omega) v1 hc, okF_turn _ v2, ?_, ?_, u, by rw [hs.2.2.2.2.2.2]; exact hu, by rw [hs.2.2.1]; exact hb⟩, hs.2.2.2.2.2.2⟩
        · show aw = _
          rw [turn_over_fill V _ h0, hs.2.2.2.1]; exact v3
        · rw [hs.2.2.2.2.2.2]; exact v4
      · rw [if_pos h1]
        obtain ⟨e1, e2, -⟩ := empty_eq V aw (ix x) (by omega) (by rw [h1]; decide) v1 v3
        rw [e1]
        exact ⟨rfl, ⟨e2, okF_turn _ v2, rfl, by rw [hs.2.2.2.2.2.2]; exact v4, u, by rw [hs.2.2.2.2.2.2]; exact hu, by rw [hs.2.2.1]; exact hb⟩, hs.2.2.2.2.2.2⟩
  · rw [if_neg q, if_neg q]
    exact ⟨rfl, hV, rfl⟩
theorem pass_eq {K : CK} {V : CD} {aw : Int32} {wh : Nat → Int32} (x : Int32) (hK : okK K) (hV : okV V aw wh) (hh : dHour V + 60 ≤ 1000000) :
    (m_passX K V aw wh x).1 = (C_pass K V x).1 ∧ (m_passX K V aw wh x).2.2.2 = (C_pass K V x).2 ∧ okV (C_pass K V x).1 (m_passX K V aw wh x).2.1 (m_passX K V aw wh x).2.2.1 ∧ dHour (C_pass K V x).1 ≤ dHour V + 60 := by
  unfold m_passX C_pass
  by_cases q : q_hours x 60 = 0
  · rw [if_pos q, if_pos q]
    unfold q_hours at q
    by_cases c1 : c_isIn x 1 60 = 0
    · rw [if_pos c1] at q; exact absurd q (by decide)
    · obtain ⟨hx1, hx3, hx2⟩ := isIn_ixl 1 60 (by decide) (by decide) rfl rfl c1
      obtain ⟨a1, a2, a3, a4⟩ := hours_eq hK (ix x) V aw wh 0 (by omega) hV
      exact ⟨a1, a2, a3, by omega⟩
  · rw [if_neg q, if_neg q]
    exact ⟨rfl, rfl, hV, by show dHour V ≤ _; omega⟩
theorem ok_start : okK K_start ∧ okV D_start 0 (fun _ => -1) := by
  refine ⟨⟨by decide, by decide, Or.inl rfl, ⟨1, by decide, rfl⟩, ⟨50, by decide, rfl⟩, fun p _ => ⟨8, by decide, rfl⟩⟩, fun p _ => ⟨60, by decide, rfl⟩, fun k _ => Or.inl rfl, by decide, fun b _ => ⟨0, Nat.le_refl _, by show (-1 : Int32) = nI 0 - 1; decide⟩, 0, Nat.zero_le _, rfl⟩
-- ---- the mean
theorem okL_sum {f : Nat → Int32} (hf : okL f 6) : ∃ w, w ≤ 600 ∧ c_sumL f 6 0 0 = nI w := by
  obtain ⟨a0, h0, e0⟩ := hf 0 (by decide)
  obtain ⟨a1, h1, e1⟩ := hf 1 (by decide)
  obtain ⟨a2, h2, e2⟩ := hf 2 (by decide)
  obtain ⟨a3, h3, e3⟩ := hf 3 (by decide)
  obtain ⟨a4, h4, e4⟩ := hf 4 (by decide)
  obtain ⟨a5, h5, e5⟩ := hf 5 (by decide)
  refine ⟨0 + a0 + a1 + a2 + a3 + a4 + a5, by omega, ?_⟩
  simp only [c_sumL, e0, e1, e2, e3, e4, e5, show (0 : Int32) = nI 0 by decide, nI_add, Nat.zero_add]
