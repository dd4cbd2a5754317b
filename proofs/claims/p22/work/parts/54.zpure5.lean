-- ===== what stands between two calls, and what the calls keep =====
def okN (f : Nat → Int32) (n B : Nat) : Prop := ∀ p, p < n → ∃ u, u ≤ B ∧ f p = nI u
theorem okN_upd {f : Nat → Int32} {n k u B : Nat} (h : okN f n B) (hu : u ≤ B) : okN (upd f k (nI u)) n B := by
  intro p hp
  by_cases e : p = k
  · subst e; exact ⟨u, hu, pk_us⟩
  · rw [pk_un e]; exact h p hp
theorem okN_le {f : Nat → Int32} {n B C : Nat} (h : okN f n B) (hB : B ≤ C) : okN f n C := fun p hp => let ⟨u, h1, h2⟩ := h p hp; ⟨u, by omega, h2⟩
theorem okN_add {f g : Nat → Int32} {n B d : Nat} (h : okN f n B) (hg : ∀ p, ∃ e, e ≤ d ∧ g p = f p + nI e) : okN g n (B + d) := by
  intro p hp
  obtain ⟨u, h1, h2⟩ := h p hp
  obtain ⟨e, h3, h4⟩ := hg p
  exact ⟨u + e, by omega, by rw [h4, h2, nI_add]⟩
/-- N: how much has been done -/
def okV (K : CK) (V : CD) (N : Nat) : Prop := okL (dLev V) 6 ∧ okF (dFull V) ∧ okN (dOver V) 6 (200 * N) ∧ okN (dDrawn V) 6 (200 * N) ∧ (∃ u, u ≤ 200 * N ∧ dBank V = nI u) ∧ okN (dAt V) (kNb K) 5 ∧ okN (kGoal K) (kNb K) 5 ∧ okN (dPur V) (kNb K) 99 ∧ (∀ b, kNb K ≤ b → dSer V b = 0) ∧ (∀ k, k < 5 → ∃ m, m ≤ 200 * N ∧ dFill V k = nI (12 * m))
theorem okV_le {K : CK} {V : CD} {N M : Nat} (h : okV K V N) (hN : N ≤ M) : okV K V M := by
  obtain ⟨v1, v2, v3, v4, ⟨u, hu, eu⟩, v6, v7, v8, v9, v10⟩ := h
  exact ⟨v1, v2, okN_le v3 (by omega), okN_le v4 (by omega), ⟨u, by omega, eu⟩, v6, v7, v8, v9, fun k hk => let ⟨m, h1, h2⟩ := v10 k hk; ⟨m, by omega, h2⟩⟩
theorem okV_K {K K' : CK} {V : CD} {N : Nat} (h : okV K V N) (hn : kNb K' = kNb K) (hg : okN (kGoal K') (kNb K) 5) : okV K' V N := by
  obtain ⟨v1, v2, v3, v4, v5, v6, v7, v8, v9, v10⟩ := h
  exact ⟨v1, v2, v3, v4, v5, by rw [hn]; exact v6, by rw [hn]; exact hg, by rw [hn]; exact v8, by rw [hn]; exact v9, v10⟩
theorem ok_start (N : Nat) : okK K_start ∧ okV K_start D_start N := by
  refine ⟨⟨by decide, by decide, Or.inl rfl, ⟨1, by decide, rfl⟩, ⟨50, by decide, rfl⟩, fun p _ => ⟨8, by decide, rfl⟩⟩, fun p _ => ⟨60, by decide, rfl⟩, fun k _ => Or.inl rfl, fun p _ => ⟨0, Nat.zero_le _, rfl⟩, fun p _ => ⟨0, Nat.zero_le _, rfl⟩, ⟨0, Nat.zero_le _, rfl⟩, fun p hp => absurd hp (Nat.not_lt_zero p), fun p hp => absurd hp (Nat.not_lt_zero p), fun p hp => absurd hp (Nat.not_lt_zero p), fun b _ => rfl, fun k _ => ⟨0, Nat.zero_le _, rfl⟩⟩
theorem zA_start : zA D_start = 0 := by decide
/-- an hour keeps it -/
theorem hour_ok {K : CK} {V : CD} {N : Nat} (hK : okK K) (hV : okV K V N) : okV K (c_hour K V).1 (N + 1) := by
  obtain ⟨v1, v2, v3, v4, ⟨w, hw, ew⟩, v6, v7, v8, v9, v10⟩ := hV
  obtain ⟨t, u, ht, hu, -, a2, a3, -, a5, a6, -, a8, a9, -, a11, -⟩ := hour_all hK v1 v2
  obtain ⟨-, -, -, ⟨f, hf20, hfe⟩, -, -⟩ := hK
  refine ⟨a2, a3, okN_le (okN_add v3 a5) (by omega), okN_le (okN_add v4 a6) (by omega), ⟨w + u + t * f, ?_, ?_⟩, fun b hb => ?_, v7, fun b hb => ?_, fun b hb => ?_, fun k hk => ?_⟩
  · have : t * f ≤ 5 * 20 := Nat.mul_le_mul ht hf20
    omega
  · rw [a8, ew, hfe, pk_mul, nI_add, nI_add]
  · rcases a11 b with ⟨z1, -, -⟩ | ⟨-, -, -, -, k, hk, -, z8, -⟩
    · rw [z1]; exact v6 b hb
    · rw [z8]
      split
      · exact ⟨k + 1, by omega, rfl⟩
      · exact ⟨k, by omega, rfl⟩
  · obtain ⟨y, hy, ey⟩ := v8 b hb
    rcases a11 b with ⟨-, z2, -⟩ | ⟨-, z4, z5, -⟩
    · rw [z2]; exact ⟨y, hy, ey⟩
    · rw [ey, hfe] at z5
      have hle : f ≤ y := (nI_leI (by omega) (by omega)).mp z5
      rw [z4, ey, hfe, nI_sub hle]
      exact ⟨y - f, by omega, rfl⟩
  · rcases a11 b with ⟨-, -, z3⟩ | ⟨-, -, -, z6, -⟩
    · rw [z3]; exact v9 b hb
    · omega
  · obtain ⟨m, hm, em⟩ := v10 k hk
    have e12 : nI (12 * m) + 12 = nI (12 * (m + 1)) := by
      have : (12 : Int32) = nI 12 := by decide
      rw [this, nI_add, Nat.mul_succ]
    rcases a9 k hk with ⟨-, -, z⟩ | ⟨-, z | z⟩
    · rw [z]; exact ⟨m, by omega, em⟩
    · rw [z]; exact ⟨m, by omega, em⟩
    · rw [z, em, e12]; exact ⟨m + 1, by omega, rfl⟩
theorem isIn_v {j a b : Nat} (h1 : a ≤ j) (h2 : j ≤ b) (hb : b < 2147483648) : c_isIn (nI j) (nI a) (nI b) = 1 := by
  unfold c_isIn
  rw [if_neg (nI_nlt h1 (by omega)), if_neg (nI_nlt h2 (by omega))]
theorem isIn_v0 {j : Nat} (b : Nat) {hi : Int32} (e : hi = nI b) (h2 : j ≤ b) (hb : b < 2147483648) : ¬ c_isIn (nI j) 0 hi = 0 := by
  subst e
  have := isIn_v (j := j) (a := 0) (b := b) (Nat.zero_le _) h2 hb
  rw [show c_isIn (nI j) 0 (nI b) = 1 from this]; decide
theorem isIn_v1 {j : Nat} (a b : Nat) {lo hi : Int32} (el : lo = nI a) (e : hi = nI b) (h1 : a ≤ j) (h2 : j ≤ b) (hb : b < 2147483648) : ¬ c_isIn (nI j) lo hi = 0 := by
  subst e
  subst el
  rw [isIn_v h1 h2 hb]; decide
theorem isIn_vn {j n : Nat} (h : j < n) (hn : n < 2147483648) : ¬ c_isIn (nI j) 0 (nI n - 1) = 0 := by
  cases n with
  | zero => omega
  | succ n => rw [nI_pred]; exact isIn_v0 n rfl (by omega) (by omega)
theorem isIn_vm : ∀ i, i < 7 → ¬ c_isIn (nI i - 1) (-1) 5 = 0 ∧ ix (nI i - 1 + 1) = i := by decide +kernel
-- ---- the calls, of numbers in their range
theorem act_spring {K : CK} {j v N : Nat} {V : CD} (hj : j < 8) (hv : v < 31) (hK : okK K) (hV : okV K V N) : q_setSpring (nI j) (nI v) = 0 ∧ K_spring K (nI j) (nI v) = uSpr K (upd (kSpr K) j (nI v)) ∧ okK (uSpr K (upd (kSpr K) j (nI v))) ∧ okV (uSpr K (upd (kSpr K) j (nI v))) V N := by
  have h0 : q_setSpring (nI j) (nI v) = 0 := by unfold q_setSpring; rw [if_neg (isIn_v0 (hi := 7) 7 rfl (by omega) (by decide)), if_neg (isIn_v0 (hi := 30) 30 rfl (by omega) (by decide))]
  refine ⟨h0, by unfold K_spring; rw [if_pos h0, ix_nI (by omega)], ?_, okV_K hV rfl hV.2.2.2.2.2.2.1⟩
  obtain ⟨k1, k2, k3, k4, k5, k6⟩ := hK
  refine ⟨k1, k2, k3, k4, k5, fun p hp => ?_⟩
  show ∃ x, x ≤ 30 ∧ upd (kSpr K) j (nI v) p = nI x
  by_cases z : p = j
  · subst z; rw [pk_us]; exact ⟨v, by omega, rfl⟩
  · rw [pk_un z]; exact k6 p hp
theorem act_mill {K : CK} {i mk N : Nat} {V : CD} (hi : i < 7) (hm : mk < 101) (hK : okK K) (hV : okV K V N) : q_setMill (nI i - 1) (nI mk) = 0 ∧ K_mill K (nI i - 1) (nI mk) = (kFee K, kDry K, i, nI mk, kNb K, kSpr K, kGoal K) ∧ okK (kFee K, kDry K, i, nI mk, kNb K, kSpr K, kGoal K) ∧ okV (kFee K, kDry K, i, nI mk, kNb K, kSpr K, kGoal K) V N := by
  obtain ⟨i1, i2⟩ := isIn_vm i hi
  have h0 : q_setMill (nI i - 1) (nI mk) = 0 := by unfold q_setMill; rw [if_neg i1, if_neg (isIn_v0 (hi := 100) 100 rfl (by omega) (by decide))]
  refine ⟨h0, by unfold K_mill; rw [if_pos h0, i2], ?_, okV_K hV rfl hV.2.2.2.2.2.2.1⟩
  obtain ⟨k1, k2, k3, k4, k5, k6⟩ := hK
  exact ⟨k1, (show i ≤ 6 by omega), k3, k4, ⟨mk, by omega, rfl⟩, k6⟩
theorem act_dry {K : CK} {x : Int32} {N : Nat} {V : CD} (hx : x = 0 ∨ x = 1) (hK : okK K) (hV : okV K V N) : okK (uDry K x) ∧ okV (uDry K x) V N := by
  obtain ⟨k1, k2, k3, k4, k5, k6⟩ := hK
  exact ⟨⟨k1, k2, hx, k4, k5, k6⟩, okV_K hV rfl hV.2.2.2.2.2.2.1⟩
theorem act_fee {K : CK} {f N : Nat} {V : CD} (hf : f < 21) (hK : okK K) (hV : okV K V N) : q_setFee (nI f) = 0 ∧ K_fee K (nI f) = uFee K (nI f) ∧ okK (uFee K (nI f)) ∧ okV (uFee K (nI f)) V N := by
  have h0 : q_setFee (nI f) = 0 := by unfold q_setFee; rw [if_neg (isIn_v0 (hi := 20) 20 rfl (by omega) (by decide))]
  refine ⟨h0, by unfold K_fee; rw [if_pos h0], ?_, okV_K hV rfl hV.2.2.2.2.2.2.1⟩
  obtain ⟨k1, k2, k3, k4, k5, k6⟩ := hK
  exact ⟨k1, k2, k3, ⟨f, by omega, rfl⟩, k5, k6⟩
theorem act_send {K : CK} {b t N : Nat} {V : CD} (hb : b < kNb K) (ht : t < 6) (hK : okK K) (hV : okV K V N) : q_send K (nI b) (nI t) = 0 ∧ K_send K (nI b) (nI t) = uGoal K (upd (kGoal K) b (nI t)) ∧ okK (uGoal K (upd (kGoal K) b (nI t))) ∧ okV (uGoal K (upd (kGoal K) b (nI t))) V N := by
  have hn := hK.1
  have h0 : q_send K (nI b) (nI t) = 0 := by unfold q_send; rw [if_neg (isIn_vn hb (by omega)), if_neg (isIn_v0 (hi := 5) 5 rfl (by omega) (by decide))]
  exact ⟨h0, by unfold K_send; rw [if_pos h0, ix_nI (by omega)], hK, okV_K hV rfl (okN_upd hV.2.2.2.2.2.2.1 (by omega))⟩
theorem half : ∀ y : Nat, y < 61 → (nI y + 1) / 2 = nI ((y + 1) / 2) ∧ nI y / 2 + (nI y - nI y / 2 * 2) = nI ((y + 1) / 2) := by decide +kernel
theorem act_water {K : CK} {V : CD} {j w N : Nat} (hj : j < 6) (hw1 : 1 ≤ w) (hw : w < 61) (hN : N < 100000) (hV : okV K V N) :
    q_water V (nI j) (nI w) = (if dBank V < nI ((w + 1) / 2) then 3 else 0) ∧ (¬ dBank V < nI ((w + 1) / 2) → C_water V (nI j) (nI w) = c_pour (tBank V (dBank V - nI ((w + 1) / 2))) (j + 1) (nI w) ∧
      z_into (j + 1) (nI w) (tBank V (dBank V - nI ((w + 1) / 2))) (zA V) = (c_pour (tBank V (dBank V - nI ((w + 1) / 2))) (j + 1) (nI w), zA (c_pour (tBank V (dBank V - nI ((w + 1) / 2))) (j + 1) (nI w))) ∧
      okV K (c_pour (tBank V (dBank V - nI ((w + 1) / 2))) (j + 1) (nI w)) (N + 1)) ∧ (dBank V < nI ((w + 1) / 2) → C_water V (nI j) (nI w) = V) := by
  have hq : q_water V (nI j) (nI w) = (if dBank V < nI ((w + 1) / 2) then 3 else 0) := by
    unfold q_water
    rw [if_neg (isIn_v0 (hi := 5) 5 rfl (by omega) (by decide)), if_neg (isIn_v1 (lo := 1) (hi := 60) 1 60 rfl rfl hw1 (by omega) (by decide)), (half w hw).1]
    by_cases c : dBank V < nI ((w + 1) / 2)
    · rw [if_pos c, if_neg (Int32.not_le.mpr c)]
    · rw [if_neg c, if_pos (Int32.not_lt.mp c)]
  refine ⟨hq, fun c => ?_, fun c => ?_⟩
  · obtain ⟨v1, v2, v3, v4, ⟨u, hu, eu⟩, v6, v7, v8, v9, v10⟩ := hV
    obtain ⟨p1, p2, -, p4, -⟩ := pour_facts (tBank V (dBank V - nI ((w + 1) / 2))) (j + 1) w (by omega) (by omega) (by omega) v1
    refine ⟨?_, p1, p2, v2, okN_le (okN_add v3 p4) (by omega), okN_le v4 (by omega), ?_, v6, v7, v8, v9, fun k hk => let ⟨m, h1, h2⟩ := v10 k hk; ⟨m, by omega, h2⟩⟩
    · unfold C_water
      rw [hq, if_neg c, if_pos rfl, ix_nI (by omega)]
      unfold V_paid
      rw [(half w hw).1]
    · rw [eu] at c
      have hle : (w + 1) / 2 ≤ u := Nat.not_lt.mp (fun z => c (nI_lt z (by omega)))
      exact ⟨u - (w + 1) / 2, by omega, by show dBank V - nI ((w + 1) / 2) = _; rw [eu, nI_sub hle]⟩
  · unfold C_water
    rw [hq, if_pos c, if_neg (by decide)]
theorem act_work {K : CK} {V : CD} {k N : Nat} (hk : k < 5) (hV : okV K V N) :
    (q_work V (nI k) = if dFull V k = 1 then 0 else if z_has V k = 0 then 2 else 0) ∧
    (q_work V (nI k) = 0 → C_work V (nI k) = c_turn V k ∧ z_turn V (zA V) k = (c_turn V k, zA (c_turn V k)) ∧ okV K (c_turn V k) (N + 1)) ∧ (¬ q_work V (nI k) = 0 → C_work V (nI k) = V) := by
  obtain ⟨v1, v2, v3, v4, ⟨u, hu, eu⟩, v6, v7, v8, v9, v10⟩ := hV
  have hq : q_work V (nI k) = if dFull V k = 1 then 0 else if z_has V k = 0 then 2 else 0 := by
    unfold q_work
    rw [if_neg (isIn_v0 (hi := 4) 4 rfl (by omega) (by decide)), ix_nI (by omega), has_eq hk v1]
    rcases v2 k hk with z | z <;> by_cases y : c_canFill V k = 0 <;> simp [z, y]
  refine ⟨hq, fun c => ?_, fun c => ?_⟩
  · have hc : dFull V k = 0 → ¬ c_canFill V k = 0 := by
      intro z y
      rw [hq, if_neg (by rw [z]; decide), has_eq hk v1, if_pos y] at c
      exact absurd c (by decide)
    obtain ⟨t1, t2, t3, -, -⟩ := turn_facts hk v1 v2 hc
    have ts := turn_same V k
    refine ⟨by unfold C_work; rw [if_pos c, ix_nI (by omega)], t1, t2, okF_turn k v2, ?_, by rw [ts.2.2.2.1]; exact okN_le v4 (by omega), ⟨u, by omega, by rw [ts.2.2.1]; exact eu⟩, by rw [ts.1]; exact v6, v7, by rw [ts.2.1]; exact v8, by rw [ts.2.2.2.2.1]; exact v9, fun j hj => ?_⟩
    · refine okN_le (okN_add (d := 12) v3 (fun p => ?_)) (by omega)
      obtain ⟨d, h1, h2⟩ := t3 p
      exact ⟨d, by split at h1 <;> omega, h2⟩
    · obtain ⟨m, hm, em⟩ := v10 j hj
      rw [turn_fill]
      split
      · by_cases y : j = k
        · subst y
          rw [pk_us, em]
          exact ⟨m + 1, by omega, by rw [show (12 : Int32) = nI 12 by decide, nI_add, Nat.mul_succ]⟩
        · rw [pk_un y]; exact ⟨m, by omega, em⟩
      · exact ⟨m, by omega, em⟩
  · unfold C_work; rw [if_neg c]
theorem act_barge {K : CK} {V : CD} {f t c N : Nat} (hf : f < 6) (ht : t < 6) (hc : c < 100) (hK : okK K) (hV : okV K V N) :
    (q_barge K (nI f) (nI t) (nI c) = if kNb K < 10 then 0 else 3) ∧
    (kNb K < 10 → K_barge K (nI f) (nI t) (nI c) = z_comeK K (nI t) ∧ V_barge K V (nI f) (nI t) (nI c) = z_comeV K V (nI f) (nI c) ∧ okK (z_comeK K (nI t)) ∧ okV (z_comeK K (nI t)) (z_comeV K V (nI f) (nI c)) N) ∧
    (¬ kNb K < 10 → K_barge K (nI f) (nI t) (nI c) = K ∧ V_barge K V (nI f) (nI t) (nI c) = V) := by
  have hn := hK.1
  have hq : q_barge K (nI f) (nI t) (nI c) = if kNb K < 10 then 0 else 3 := by
    unfold q_barge
    rw [if_neg (isIn_v0 (hi := 5) 5 rfl (by omega) (by decide)), if_neg (isIn_v0 (hi := 5) 5 rfl (by omega) (by decide)), if_neg (isIn_v0 (hi := 99) 99 rfl (by omega) (by decide))]
    by_cases z : kNb K < 10
    · rw [if_pos z, if_neg]
      intro e
      have := (nI_eq (a := kNb K) (b := 10) (by omega) (by omega)).mp e
      omega
    · rw [if_neg z, if_pos]
      rw [show kNb K = 10 by omega]; rfl
  refine ⟨hq, fun z => ?_, fun z => ?_⟩
  · rw [if_pos z] at hq
    obtain ⟨k1, k2, k3, k4, k5, k6⟩ := hK
    obtain ⟨v1, v2, v3, v4, v5, v6, v7, v8, v9, v10⟩ := hV
    have hse : upd (dSer V) (kNb K) 0 = dSer V := by
      have := upd_same (dSer V) (kNb K)
      rw [v9 (kNb K) (Nat.le_refl _)] at this
      exact this
    have hnew : ∀ {g : Nat → Int32} {B y : Nat}, okN g (kNb K) B → y ≤ B → okN (upd g (kNb K) (nI y)) (kNb K + 1) B := by
      intro g B y h hy p hp
      by_cases e : p = kNb K
      · subst e; rw [pk_us]; exact ⟨y, hy, rfl⟩
      · rw [pk_un e]; exact h p (by omega)
    refine ⟨?_, ?_, ⟨by show kNb K + 1 ≤ 10; omega, k2, k3, k4, k5, k6⟩, v1, v2, v3, v4, v5, hnew v6 (by omega), hnew v7 (by omega), hnew v8 (by omega), ?_, v10⟩
    · unfold K_barge; rw [if_pos hq]; rfl
    · unfold V_barge z_comeV; rw [if_pos hq, hse]; rfl
    · intro b hb
      show upd (dSer V) (kNb K) 0 b = 0
      rw [hse]
      exact v9 b (by have : kNb K + 1 ≤ b := hb; omega)
  · rw [if_neg z] at hq
    refine ⟨?_, ?_⟩
    · unfold K_barge; rw [if_neg (by rw [hq]; decide)]
    · unfold V_barge; rw [if_neg (by rw [hq]; decide)]
theorem and_max (x : Int32) : ∃ m, m < 2147483648 ∧ x &&& 2147483647 = nI m := by
  refine ⟨(x &&& 2147483647).toBitVec.toNat, ?_, ?_⟩
  · rw [Int32.toBitVec_and, BitVec.toNat_and]
    exact Nat.lt_of_le_of_lt Nat.and_le_right (by decide)
  · apply Int32.toBitVec_inj.mp
    unfold nI
    show _ = BitVec.ofNat 32 _
    rw [BitVec.ofNat_toNat]; simp
