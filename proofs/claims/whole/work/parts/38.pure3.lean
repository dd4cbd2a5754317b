theorem nI_sub {a b : Nat} (h : b ≤ a) : nI a - nI b = nI (a - b) := by
  have := nI_add (a - b) b
  rw [Nat.sub_add_cancel h] at this
  rw [← this, Int32.add_sub_cancel]
-- a turn of a chamber
theorem fill_eq (V : CD) (k : Nat) (h : dFull V k = 0) : s_fill V k = c_turn V k := by
  unfold s_fill c_turn; rw [if_pos h]; rfl
theorem empty_eq (V : CD) (aw : Int32) (k : Nat) (hk : k < 5) (h : ¬ dFull V k = 0) (hf : okL (dLev V) 6) (hA : aw = dOver V 0 + dDrawn V 0) :
    s_empty V aw k = (c_turn V k, dOver (c_turn V k) 0 + dDrawn (c_turn V k) 0) ∧ okL (dLev (c_turn V k)) 6 ∧ dLev (c_turn V k) (k + 1) = dLev V (k + 1) := by
  have e := pour_eq (tFull V (upd (dFull V) k 0)) aw (k + 1) 12 (by decide) (by omega) hf (fun _ => hA) (fun z => absurd z (by omega))
  have h12 : nI 12 = (12 : Int32) := by decide
  rw [h12] at e
  obtain ⟨e1, e2, e3, e4⟩ := e
  have hc : c_turn V k = c_pour (tFull V (upd (dFull V) k 0)) (k + 1) 12 := by unfold c_turn; rw [if_neg h]
  rw [hc]
  exact ⟨Prod.ext e1 e2, e3, e4 (k + 1) (Nat.le_refl _)⟩
theorem turn_full (V : CD) (k : Nat) : dFull (c_turn V k) = upd (dFull V) k (if dFull V k = 0 then 1 else 0) := by
  unfold c_turn
  by_cases c : dFull V k = 0
  · rw [if_pos c, if_pos c]; rfl
  · rw [if_neg c, if_neg c]; rfl
theorem turn_fill_lev (V : CD) (k : Nat) (h : dFull V k = 0) (hk : k < 5) (hf : okL (dLev V) 6) (hc : ¬ c_canFill V k = 0) : okL (dLev (c_turn V k)) 6 := by
  have e : dLev (c_turn V k) = upd (dLev V) (k + 1) (dLev V (k + 1) - 12) := by unfold c_turn; rw [if_pos h]; rfl
  rw [e]
  obtain ⟨u, hu, eu⟩ := hf (k + 1) (by omega)
  have h32 : 32 ≤ u := by
    by_cases q : u < 32
    · exfalso; apply hc; unfold c_canFill; rw [eu]; exact if_pos (nI_lt (b := 32) q (by decide))
    · omega
  rw [eu, show (12 : Int32) = nI 12 by decide, nI_sub (by omega)]
  exact okL_upd hf (by omega)
theorem turn_same (V : CD) (k : Nat) : dAt (c_turn V k) = dAt V ∧ dPur (c_turn V k) = dPur V ∧ dBank (c_turn V k) = dBank V ∧ dDrawn (c_turn V k) = dDrawn V ∧ dSer (c_turn V k) = dSer V ∧ dLock (c_turn V k) = dLock V ∧ dHour (c_turn V k) = dHour V := by
  unfold c_turn
  by_cases c : dFull V k = 0
  · rw [if_pos c]; exact ⟨rfl, rfl, rfl, rfl, rfl, rfl, rfl⟩
  · rw [if_neg c]; exact ⟨rfl, rfl, rfl, rfl, rfl, rfl, rfl⟩
theorem turn_over_fill (V : CD) (k : Nat) (h : dFull V k = 0) : dOver (c_turn V k) = dOver V := by unfold c_turn; rw [if_pos h]; rfl
theorem okF_turn {V : CD} (k : Nat) (h : okF (dFull V)) : okF (dFull (c_turn V k)) := fun j hj => c_turn_full (h j hj)
-- ---- serve
theorem turn_fits {K : CK} {V : CD} {k b : Nat} (h : dFull V k = 0 ∨ dFull V k = 1) : (¬ c_fits K V k b = 0) = (dFull V k = c_down K V b) := by
  unfold c_fits
  by_cases e : dFull V k = c_down K V b <;> simp [e]
theorem serve_eq {K : CK} {V : CD} {aw : Int32} {wh : Nat → Int32} {k b : Nat} (hk : k < 5) (hf : okL (dLev V) 6) (hF : okF (dFull V)) (hA : aw = dOver V 0 + dDrawn V 0)
    (hw : c_waits K V b = nI k) (hc : ¬ c_can K V k b = 0) :
    m_serve K V aw wh k b = (c_serve K V k b, dOver (c_serve K V k b) 0 + dDrawn (c_serve K V k b) 0, upd wh b (nI (dHour V))) ∧ okL (dLev (c_serve K V k b)) 6 ∧ okF (dFull (c_serve K V k b)) ∧ dBank (c_serve K V k b) = dBank V + kFee K := by
  have h12 : c_need K V k b = 0 ∨ ¬ c_canFill V k = 0 := by
    have h2 : ¬ c_can2 K V k b = 0 := by
      unfold c_can at hc
      intro z
      apply hc
      split
      · split
        · exact z
        · split
          · rfl
          · exact z
      · rfl
    unfold c_can2 at h2
    by_cases q : c_need K V k b = 0
    · exact Or.inl q
    · right; intro z; apply h2; rw [if_neg q, if_pos z]
  have key : m_serveA K V aw k b = (tAt (c_turn (if c_fits K V k b = 0 then c_turn V k else V) k) (upd (dAt V) b (if c_down K V b = 0 then nI (k + 1) else nI k)), dOver (c_turn (if c_fits K V k b = 0 then c_turn V k else V) k) 0 + dDrawn (c_turn (if c_fits K V k b = 0 then c_turn V k else V) k) 0) ∧ okL (dLev (c_turn (if c_fits K V k b = 0 then c_turn V k else V) k)) 6 := by
    rcases down01 K V b with hd | hd
    · -- up
      have hcf : ¬ c_canFill V k = 0 := by
        rcases h12 with z | z
        · exfalso; unfold c_need at z; rw [if_pos hd] at z; exact absurd z (by decide)
        · exact z
      have hat : dAt V b + 1 = nI (k + 1) := by
        have : dAt V b = nI k := by
          unfold c_waits at hw
          rw [if_pos hd] at hw
          by_cases q : c_come K V b = 0
          · rw [if_pos q] at hw; exact hw
          · rw [if_neg q] at hw; exact absurd hw.symm (xk_nm1 (by omega))
        rw [this, nI_1]
      rcases hF k hk with h0 | h1
      · have hft : ¬ c_fits K V k b = 0 := by rw [turn_fits (Or.inl h0), h0, hd]
        have e1 : m_up1 V aw k = (V, aw) := by unfold m_up1; rw [if_neg (by rw [h0]; decide)]
        rw [if_neg hft]
        refine ⟨?_, turn_fill_lev V k h0 hk hf hcf⟩
        unfold m_serveA
        rw [if_pos hd, e1, if_pos hd]
        show (m_upA V k b, aw) = _
        unfold m_upA
        rw [fill_eq V k h0, (turn_same V k).1, hat, turn_over_fill V k h0, (turn_same V k).2.2.2.1, ← hA]
      · have h1' : ¬ dFull V k = 0 := by rw [h1]; decide
        have hft : c_fits K V k b = 0 := by
          by_cases z : c_fits K V k b = 0
          · exact z
          · rw [turn_fits (Or.inr h1), h1, hd] at z; exact absurd z (by decide)
        obtain ⟨e1, e2, e3⟩ := empty_eq V aw k hk h1' hf hA
        have e4 : m_up1 V aw k = (c_turn V k, dOver (c_turn V k) 0 + dDrawn (c_turn V k) 0) := by unfold m_up1; rw [if_pos h1, e1]
        have h0 : dFull (c_turn V k) k = 0 := by rw [turn_full, if_neg h1', pk_us]
        have hcf' : ¬ c_canFill (c_turn V k) k = 0 := by unfold c_canFill; rw [e3]; exact hcf
        rw [if_pos hft]
        refine ⟨?_, turn_fill_lev _ k h0 hk e2 hcf'⟩
        unfold m_serveA
        rw [if_pos hd, e4, if_pos hd]
        show (m_upA (c_turn V k) k b, dOver (c_turn V k) 0 + dDrawn (c_turn V k) 0) = _
        unfold m_upA
        rw [fill_eq _ k h0, (turn_same _ k).1, (turn_same V k).1, hat, turn_over_fill _ k h0, (turn_same (c_turn V k) k).2.2.2.1]
    · -- down
      have hd' : ¬ c_down K V b = 0 := by rw [hd]; decide
      have hat : dAt V b - 1 = nI k := by
        unfold c_waits at hw
        rw [if_neg hd'] at hw
        by_cases q : c_come K V b = 0
        · rw [if_pos q] at hw; exact hw
        · rw [if_neg q] at hw; exact absurd hw.symm (xk_nm1 (by omega))
      rcases hF k hk with h0 | h1
      · have hft : c_fits K V k b = 0 := by
          by_cases z : c_fits K V k b = 0
          · exact z
          · rw [turn_fits (Or.inl h0), h0, hd] at z; exact absurd z (by decide)
        have hcf : ¬ c_canFill V k = 0 := by
          rcases h12 with z | z
          · exfalso; unfold c_need at z; rw [if_neg hd', if_pos h0] at z; exact absurd z (by decide)
          · exact z
        have h1 : ¬ dFull (c_turn V k) k = 0 := by rw [turn_full, if_pos h0, pk_us]; decide
        have hf1 := turn_fill_lev V k h0 hk hf hcf
        have hA1 : aw = dOver (c_turn V k) 0 + dDrawn (c_turn V k) 0 := by rw [turn_over_fill V k h0, (turn_same V k).2.2.2.1]; exact hA
        obtain ⟨e1, e2, e3⟩ := empty_eq (c_turn V k) aw k hk h1 hf1 hA1
        rw [if_pos hft]
        refine ⟨?_, e2⟩
        unfold m_serveA m_downA
        rw [if_neg hd', if_neg hd', if_pos h0, fill_eq V k h0, e1]
        show (tAt (c_turn (c_turn V k) k) (upd (dAt (c_turn (c_turn V k) k)) b (dAt (c_turn (c_turn V k) k) b - 1)), _) = _
        rw [(turn_same _ k).1, (turn_same V k).1, hat]
      · have h1' : ¬ dFull V k = 0 := by rw [h1]; decide
        have hft : ¬ c_fits K V k b = 0 := by rw [turn_fits (Or.inr h1), h1, hd]
        obtain ⟨e1, e2, e3⟩ := empty_eq V aw k hk h1' hf hA
        rw [if_neg hft]
        refine ⟨?_, e2⟩
        unfold m_serveA m_downA
        rw [if_neg hd', if_neg hd', if_neg h1', e1]
        show (tAt (c_turn V k) (upd (dAt (c_turn V k)) b (dAt (c_turn V k) b - 1)), _) = _
        rw [(turn_same V k).1, hat]
  obtain ⟨key, kl⟩ := key
  have hsame : ∀ f : CD → Nat → Int32, (∀ W j, f (c_turn W j) = f W) → f (c_turn (if c_fits K V k b = 0 then c_turn V k else V) k) = f V := by
    intro f hf9
    rw [hf9]; split
    · rw [hf9]
    · rfl
  have hsameB : ∀ {α : Type} (f : CD → α), (∀ W j, f (c_turn W j) = f W) → f (c_turn (if c_fits K V k b = 0 then c_turn V k else V) k) = f V := by
    intro α f hf9
    rw [hf9]; split
    · rw [hf9]
    · rfl
  generalize hW : c_turn (if c_fits K V k b = 0 then c_turn V k else V) k = W at *
  have hcs : c_serve K V k b = c_serve2 K W k b := by unfold c_serve; rw [hW]
  have w1 : dAt W = dAt V := hsameB dAt (fun W j => (turn_same W j).1)
  have w2 : dPur W = dPur V := hsameB dPur (fun W j => (turn_same W j).2.1)
  have w3 : dBank W = dBank V := hsameB dBank (fun W j => (turn_same W j).2.2.1)
  have w4 : dHour W = dHour V := hsameB dHour (fun W j => (turn_same W j).2.2.2.2.2.2)
  have wd : c_down K W b = c_down K V b := by unfold c_down; rw [w1]
  rw [hcs]
  refine ⟨?_, kl, ?_, ?_⟩
  · unfold m_serve
    rw [key]
    unfold c_serve2
    rw [wd, w1]
    show (m_pay K (tAt W _) k b, _, upd wh b (nI (dHour (tAt W _)))) = _
    rw [dHour_tAt, w4]
    rfl
  · show okF (dFull W)
    rw [← hW]; apply okF_turn; split
    · exact okF_turn _ hF
    · exact hF
  · show dBank W + kFee K = _
    rw [w3]
-- ---- next
/-- who was served in this hour: the bits and the hours say the same -/
def okS (V : CD) (sb : Int32) (wh : Nat → Int32) : Prop := ∀ b, b < 10 → ((sb >>> (nI b &&& 31)) &&& 1 = 0 ↔ ¬ wh b = nI (dHour V))
theorem wt_eq {K : CK} {V : CD} {sb : Int32} {wh : Nat → Int32} (k b : Nat) (hb : b < 10) (hs : okS V sb wh) : m_wait K V wh k b = c_wt K V k sb b := by
  unfold m_wait c_wt
  rw [lockOf_eq]
  by_cases h : c_waits K V b = nI k
  · rw [if_pos h, if_pos h]
    by_cases q : wh b = nI (dHour V)
    · rw [if_pos q, if_neg (fun z => (hs b hb).mp z q)]
    · rw [if_neg q, if_pos ((hs b hb).mpr q)]
  · rw [if_neg h, if_neg h]
theorem nextL_eq {K : CK} {V : CD} {sb : Int32} {wh : Nat → Int32} {k : Nat} (hF : dFull V k = 0 ∨ dFull V k = 1) (hs : okS V sb wh) : ∀ (m b : Nat) (f : Int32), m + b ≤ 10 → m_nextL K V wh k m b f = c_nextL K V k sb m b f := by
  intro m
  induction m with
  | zero => intro b f _; rfl
  | succ m ih =>
    intro b f hb
    rw [m_nextL, c_nextL, wt_eq k b (by omega) hs, can_eq K V k b hF, fits_eq K V k b hF, ih (b + 1) f (by omega), ih (b + 1) (nI b) (by omega)]
theorem next_eq {K : CK} {V : CD} {sb : Int32} {wh : Nat → Int32} {k : Nat} (hn : kNb K ≤ 10) (hF : dFull V k = 0 ∨ dFull V k = 1) (hs : okS V sb wh) : m_next K V wh k = c_next K V k sb := nextL_eq hF hs _ _ _ (by omega)
theorem nextL_P {K : CK} {V : CD} {sb : Int32} {k : Nat} (N : Nat) : ∀ (m b : Nat) (f : Int32), m + b = N → (f = -1 ∨ ∃ q, q < N ∧ f = nI q ∧ c_waits K V q = nI k ∧ ¬ c_can K V k q = 0) → (c_nextL K V k sb m b f = -1 ∨ ∃ q, q < N ∧ c_nextL K V k sb m b f = nI q ∧ c_waits K V q = nI k ∧ ¬ c_can K V k q = 0) := by
  intro m
  induction m with
  | zero => intro b f _ h; exact h
  | succ m ih =>
    intro b f hb h
    rw [c_nextL]
    by_cases w : c_wt K V k sb b = 0
    · rw [if_pos w]; exact ih _ _ (by omega) h
    · have hw : c_waits K V b = nI k := by
        unfold c_wt at w
        by_cases q : c_waits K V b = nI k
        · exact q
        · rw [if_neg q] at w; exact absurd rfl w
      rw [if_neg w]
      by_cases c : c_can K V k b = 0
      · rw [if_pos c]; exact ih _ _ (by omega) h
      · rw [if_neg c]
        by_cases t : c_fits K V k b = 0
        · rw [if_pos t]
          by_cases e : f = -1
          · rw [if_pos e]; exact ih _ _ (by omega) (Or.inr ⟨b, by omega, rfl, hw, c⟩)
          · rw [if_neg e]; exact ih _ _ (by omega) h
        · rw [if_neg t]; exact Or.inr ⟨b, by omega, rfl, hw, c⟩
theorem next_P {K : CK} {V : CD} {sb : Int32} {k : Nat} (h : ¬ c_next K V k sb = -1) : ∃ q, q < kNb K ∧ c_next K V k sb = nI q ∧ c_waits K V q = nI k ∧ ¬ c_can K V k q = 0 := by
  rcases nextL_P (sb := sb) (kNb K) (kNb K) 0 (-1) (by omega) (Or.inl rfl) with z | z
  · exact absurd z h
  · exact z
-- ---- an hour
theorem bit_1 : ∀ q, q < 10 → ∀ b, b < 10 → ((1 : Int32) <<< (nI q &&& 31)).toBitVec.getLsbD b = decide (b = q) := by decide +kernel
theorem bit_sh : ∀ b, b < 10 → ((nI b &&& 31).toBitVec.smod 32#32).toNat = b := by decide +kernel
theorem bit_get (b : Nat) (hb : b < 10) (x : Int32) : ((x >>> (nI b &&& 31)) &&& 1 = 0) = (x.toBitVec.getLsbD b = false) := by
  apply propext
  rw [← Int32.toBitVec_inj, Int32.toBitVec_and, Int32.toBitVec_shiftRight]
  show (x.toBitVec.sshiftRight ((nI b &&& 31).toBitVec.smod 32#32).toNat &&& 1#32 = 0#32) ↔ _
  rw [bit_sh b hb]
  constructor
  · intro h
    have h1 := congrArg (fun v => v.getLsbD 0) h
    simpa [BitVec.getLsbD_sshiftRight, BitVec.getElem_sshiftRight, show b < 32 by omega] using h1
  · intro h
    apply BitVec.eq_of_getLsbD_eq
    intro i hi
    by_cases h0 : i = 0
    · subst h0
      simpa [BitVec.getLsbD_sshiftRight, BitVec.getElem_sshiftRight, show b < 32 by omega] using h
    · simp [h0, BitVec.getLsbD_one]
theorem bit_or (q b : Nat) (hq : q < 10) (hb : b < 10) (s : Int32) : ((s ||| (1 <<< (nI q &&& 31))) >>> (nI b &&& 31)) &&& 1 = 0 ↔ (¬ b = q ∧ (s >>> (nI b &&& 31)) &&& 1 = 0) := by
  rw [bit_get b hb, bit_get b hb, Int32.toBitVec_or, BitVec.getLsbD_or, bit_1 q hq b hb]
  by_cases e : b = q <;> simp [e]
theorem hourL_eq {K : CK} (hn : kNb K ≤ 10) : ∀ (n : Nat) (V : CD) (sb sv aw : Int32) (wh : Nat → Int32) (u f : Nat), n ≤ 5 → okL (dLev V) 6 → okF (dFull V) → aw = dOver V 0 + dDrawn V 0 → okS V sb wh → dBank V = nI u → kFee K = nI f → f ≤ 20 →
    (m_hourL K n V aw wh sv).1 = (c_hourL K n V sb sv).1 ∧ (m_hourL K n V aw wh sv).2.1 = dOver (c_hourL K n V sb sv).1 0 + dDrawn (c_hourL K n V sb sv).1 0 ∧ (m_hourL K n V aw wh sv).2.2.2 = (c_hourL K n V sb sv).2 ∧
    okL (dLev (c_hourL K n V sb sv).1) 6 ∧ okF (dFull (c_hourL K n V sb sv).1) ∧ (∀ b, b < 10 → (m_hourL K n V aw wh sv).2.2.1 b = wh b ∨ (m_hourL K n V aw wh sv).2.2.1 b = nI (dHour V)) ∧ ∃ u2, u2 ≤ u + 20 * n ∧ dBank (c_hourL K n V sb sv).1 = nI u2 := by
  intro n
  induction n with
  | zero => intro V sb sv aw wh u f _ hf hF hA hs hb _ _; exact ⟨rfl, hA, rfl, hf, hF, fun _ _ => Or.inl rfl, u, by omega, hb⟩
  | succ n ih =>
    intro V sb sv aw wh u f hn5 hf hF hA hs hb hfe hf20
    rw [m_hourL, c_hourL, next_eq hn (hF n (by omega)) hs]
    by_cases h : c_next K V n sb = -1
    · rw [if_pos h, if_pos h]
      obtain ⟨a1, a2, a3, a4, a5, a6, u2, a7, a8⟩ := ih V sb sv aw wh u f (by omega) hf hF hA hs hb hfe hf20
      exact ⟨a1, a2, a3, a4, a5, a6, u2, by omega, a8⟩
    · rw [if_neg h, if_neg h]
      obtain ⟨q, hq, e, hw, hc⟩ := next_P h
      rw [e, nI_clamp (by omega)]
      obtain ⟨s1, s2, s3, s4⟩ := serve_eq (wh := wh) (by omega) hf hF hA hw hc
      rw [s1]
      have hh : dHour (c_serve K V n q) = dHour V := dHour_serve K V n q
      have hs2 : okS (c_serve K V n q) (sb ||| (1 <<< (nI q &&& 31))) (upd wh q (nI (dHour V))) := by
        intro b hb10
        rw [bit_or q b (by omega) hb10, hh]
        by_cases z : b = q
        · subst z; rw [pk_us]; simp
        · rw [pk_un z]
          constructor
          · intro y; exact (hs b hb10).mp y.2
          · intro y; exact ⟨z, (hs b hb10).mpr y⟩
      have hb2 : dBank (c_serve K V n q) = nI (u + f) := by rw [s4, hb, hfe, nI_add]
      obtain ⟨a1, a2, a3, a4, a5, a6, u2, a7, a8⟩ := ih (c_serve K V n q) (sb ||| (1 <<< (nI q &&& 31))) (sv + 1) _ (upd wh q (nI (dHour V))) (u + f) f (by omega) s2 s3 rfl hs2 hb2 hfe hf20
      refine ⟨a1, a2, a3, a4, a5, fun b hb10 => ?_, u2, by omega, a8⟩
      rw [hh] at a6
      rcases a6 b hb10 with z | z
      · by_cases y : b = q
        · subst y; right; rw [z, pk_us]
        · left; rw [z, pk_un y]
      · exact Or.inr z
theorem div5 : ∀ x : Nat, x < 11 → nI x / 5 = nI (x / 5) := by decide +kernel
theorem grind_eq {K : CK} {V : CD} {aw : Int32} {u mk : Nat} (hm : kMill K ≤ 6) (hmk : kMark K = nI mk) (hmk2 : mk ≤ 100) (hf : okL (dLev V) 6) (hA : aw = dOver V 0 + dDrawn V 0) (hb : dBank V = nI u) :
    m_grind K V aw = (c_mill K V, dOver (c_mill K V) 0 + dDrawn (c_mill K V) 0) ∧ okL (dLev (c_mill K V)) 6 ∧ dFull (c_mill K V) = dFull V ∧ ∃ u2, u2 ≤ u + 2 ∧ dBank (c_mill K V) = nI u2 := by
  unfold m_grind c_mill
  cases hk : kMill K with
  | zero => exact ⟨by rw [hA], hf, rfl, u, by omega, hb⟩
  | succ q =>
    have hq : q < 6 := by omega
    obtain ⟨lv, h1, h2⟩ := hf q hq
    simp only [hmk]
    by_cases c : nI mk < dLev V q
    · rw [if_pos c, if_pos c]
      rw [h2] at c
      have hlt : mk < lv := (nI_ltI (by omega) (by omega)).mp c
      obtain ⟨x, hx, ex1, ex2, hxl⟩ : ∃ x : Nat, x ≤ 10 ∧ (if dLev V q - nI mk < 10 then dLev V q - nI mk else 10) = nI x ∧ (if 10 < dLev V q - nI mk then 10 else dLev V q - nI mk) = nI x ∧ x ≤ lv := by
        rw [h2, nI_sub (by omega)]
        by_cases z : lv - mk < 10
        · exact ⟨lv - mk, by omega, if_pos (nI_lt (b := 10) z (by decide)), if_neg (nI_nlt (b := lv - mk) (a := 10) (by omega) (by decide)), by omega⟩
        · refine ⟨10, by omega, if_neg (nI_nlt (a := lv - mk) (b := 10) (by omega) (by omega)), ?_, by omega⟩
          by_cases y : lv - mk = 10
          · rw [y]; rfl
          · exact if_pos (nI_lt (a := 10) (b := lv - mk) (by omega) (by omega))
      rw [ex1, ex2]
      unfold m_grind1 c_mill1
      have hx5 := div5 x (by omega)
      have hl : okL (upd (dLev V) q (dLev V q - nI x)) 6 := by rw [h2, nI_sub hxl]; exact okL_upd hf (by omega)
      obtain ⟨p1, p2, p3, -⟩ := pour_eq (tBank (tDrawn (tLev V (upd (dLev V) q (dLev V q - nI x))) (upd (dDrawn V) q (dDrawn V q + nI x))) (dBank V + nI x / 5)) aw q x (by omega) (by omega) hl
        (fun z => by show aw = dOver V 0 + upd (dDrawn V) q (dDrawn V q + nI x) 0; rw [pk_un (by omega)]; exact hA)
        (fun z => by subst z; show aw + nI x = dOver V 0 + upd (dDrawn V) 0 (dDrawn V 0 + nI x) 0; rw [pk_us, hA, Int32.add_assoc])
      exact ⟨Prod.ext p1 p2, p3, rfl, u + x / 5, by omega, by show dBank V + nI x / 5 = _; rw [hb, hx5, nI_add]⟩
    · rw [if_neg c, if_neg c]
      exact ⟨by rw [hA], hf, rfl, u, by omega, hb⟩
/-- what stands between two calls -/
def okK (K : CK) : Prop := kNb K ≤ 10 ∧ kMill K ≤ 6 ∧ (kDry K = 0 ∨ kDry K = 1) ∧ (∃ f, f ≤ 20 ∧ kFee K = nI f) ∧ (∃ mk, mk ≤ 100 ∧ kMark K = nI mk) ∧ ∀ p, p < 8 → ∃ x, x ≤ 30 ∧ kSpr K p = nI x
def okV (V : CD) (aw : Int32) (wh : Nat → Int32) : Prop := okL (dLev V) 6 ∧ okF (dFull V) ∧ aw = dOver V 0 + dDrawn V 0 ∧ (∀ b, b < 10 → ∃ j, j ≤ dHour V ∧ wh b = nI j - 1) ∧ ∃ u, u ≤ 102 * dHour V ∧ dBank V = nI u
theorem wh_ne {V : CD} {wh : Nat → Int32} (hh : dHour V < 1000000) (h : ∀ b, b < 10 → ∃ j, j ≤ dHour V ∧ wh b = nI j - 1) (b : Nat) (hb : b < 10) : ¬ wh b = nI (dHour V) := by
  obtain ⟨j, hj, e⟩ := h b hb
  rw [e]
  intro z
  have h1 : nI j = nI (dHour V + 1) := by rw [← nI_1, ← z, Int32.sub_add_cancel]
  have h2 := (nI_eq (by omega) (by omega)).mp h1
  omega
theorem okS0 {V : CD} {wh : Nat → Int32} (hh : dHour V < 1000000) (h : ∀ b, b < 10 → ∃ j, j ≤ dHour V ∧ wh b = nI j - 1) : okS V 0 wh := by
  intro b hb
  rw [bit_get b hb]
  exact ⟨fun _ => wh_ne hh h b hb, fun _ => by simp⟩
theorem hour_eq {K : CK} {V : CD} {aw : Int32} {wh : Nat → Int32} (hK : okK K) (hh : dHour V < 1000000) (hV : okV V aw wh) :
    (m_hour K V aw wh).1 = (c_hour K V).1 ∧ (m_hour K V aw wh).2.2.2 = (c_hour K V).2 ∧ okV (c_hour K V).1 (m_hour K V aw wh).2.1 (m_hour K V aw wh).2.2.1 := by
  obtain ⟨k1, k2, k3, ⟨f, hf20, hfe⟩, ⟨mk, hmk, hme⟩, k6⟩ := hK
  obtain ⟨v1, v2, v3, v4, u, hu, hb⟩ := hV
  obtain ⟨x, hx, ex⟩ := k6 (dHour V % 8) (Nat.mod_lt _ (by decide))
  obtain ⟨p1, p2, p3, -⟩ := pour_eq V aw 6 x (by omega) (by omega) v1 (fun _ => v3) (fun z => absurd z (by decide))
  rw [← ex] at p1 p2 p3
  obtain ⟨g1, g2, g3, u2, g4, g5⟩ := grind_eq (K := K) (V := c_pour V 6 (kSpr K (dHour V % 8))) (u := u) k2 hme hmk p3 p2 hb
  have eA : m_hourA K V aw = (c_hourA K V, dOver (c_hourA K V) 0 + dDrawn (c_hourA K V) 0) := by
    unfold m_hourA
    rw [p1, g1]
    rfl
  have hAh : dHour (c_hourA K V) = dHour V := by unfold c_hourA; rw [dHour_mill, dHour_pour]
  have hs : okS (c_hourA K V) 0 wh := by
    intro b hb10
    rw [hAh]
    exact okS0 hh v4 b hb10
  have hFA : okF (dFull (c_hourA K V)) := by
    show okF (dFull (c_mill K (c_pour V 6 (kSpr K (dHour V % 8)))))
    rw [g3]; exact v2
  obtain ⟨a1, a2, a3, a4, a5, a6, u3, a7, a8⟩ := hourL_eq k1 5 (c_hourA K V) 0 0 _ wh u2 f (by omega) g2 hFA rfl hs g5 hfe hf20
  have eB : m_hourB K V aw wh = m_hourL K 5 (c_hourA K V) (dOver (c_hourA K V) 0 + dDrawn (c_hourA K V) 0) wh 0 := by unfold m_hourB; rw [eA]
  refine ⟨?_, ?_, ?_⟩
  · unfold m_hour c_hour
    rw [eB]
    show tHour _ _ = tHour _ _
    rw [a1]
  · unfold m_hour c_hour
    rw [eB]
    exact a3
  · have hH : dHour (c_hour K V).1 = dHour V + 1 := dHour_hour K V
    refine ⟨a4, a5, ?_, ?_, ?_⟩
    · show (m_hourB K V aw wh).2.1 = _
      rw [eB]; exact a2
    · intro b hb10
      show ∃ j, j ≤ dHour (c_hour K V).1 ∧ (m_hourB K V aw wh).2.2.1 b = nI j - 1
      rw [eB, hH]
      rcases a6 b hb10 with z | z
      · obtain ⟨j, hj, e⟩ := v4 b hb10
        exact ⟨j, by omega, by rw [z, e]⟩
      · exact ⟨dHour V + 1, Nat.le_refl _, by rw [z, hAh, nI_pred]⟩
    · rw [hH]
      exact ⟨u3, by omega, a8⟩
theorem hours_eq {K : CK} (hK : okK K) : ∀ (n : Nat) (V : CD) (aw : Int32) (wh : Nat → Int32) (r : Int32), dHour V + n ≤ 1000000 → okV V aw wh →
    (m_hours K n V aw wh r).1 = (c_hours K n V r).1 ∧ (m_hours K n V aw wh r).2.2.2 = (c_hours K n V r).2 ∧ okV (c_hours K n V r).1 (m_hours K n V aw wh r).2.1 (m_hours K n V aw wh r).2.2.1 ∧ dHour (c_hours K n V r).1 = dHour V + n := by
  intro n
  induction n with
  | zero => intro V aw wh r _ h; exact ⟨rfl, rfl, h, rfl⟩
  | succ n ih =>
    intro V aw wh r hh h
    obtain ⟨a1, a2, a3⟩ := hour_eq hK (by omega) h
    have hd := dHour_hour K V
    obtain ⟨b1, b2, b3, b4⟩ := ih (c_hour K V).1 _ _ (r + (c_hour K V).2) (by omega) a3
    rw [m_hours, c_hours, a1, a2]
    exact ⟨b1, b2, b3, by omega⟩
-- ---- what is told
theorem tellB_eq (K : CK) (V : CD) (b : Nat) : ∀ w : Nat, m_tellB K V b w = c_tellB K V b w
  | 0 => rfl
  | 1 => rfl
  | 2 => rfl
  | 3 => rfl
  | _ + 4 => lockOf_eq K V b
theorem tellP_eq (K : CK) (V : CD) (p w : Nat) : m_tellP K V p w = c_tellP K V p w := rfl
theorem waitN_eq (K : CK) (V : CD) (x : Int32) : m_waitN K V x = c_waitN K V x := by
  unfold m_waitN c_waitN
  rw [show m_lockOf K V = c_waits K V from funext (lockOf_eq K V)]
theorem tellL_0 {K : CK} {V : CD} {wh : Nat → Int32} (k : Nat) (h : dFull V k = 0 ∨ dFull V k = 1) : m_tellL K V wh k 0 = c_tellL K V k 0 := by
  rw [m_tellL, c_tellL]
  rcases h with z | z
  · rw [if_pos z, z]
  · rw [if_neg (by rw [z]; decide), z]
theorem tellL_4 {K : CK} {V : CD} {wh : Nat → Int32} (k n : Nat) (h : m_next K V wh k = c_next K V k 0) : m_tellL K V wh k (n + 4) = c_tellL K V k (n + 4) := by
  rw [m_tellL, c_tellL]
  · exact h
  all_goals omega
theorem tellL_1 {K : CK} {V : CD} {wh : Nat → Int32} (k : Nat) : m_tellL K V wh k 1 = c_tellL K V k 1 := by
  rw [m_tellL, c_tellL]; exact waitN_eq K V (nI k)
theorem tellL_2 {K : CK} {V : CD} {wh : Nat → Int32} (k : Nat) : m_tellL K V wh k 2 = c_tellL K V k 2 := by
  rw [m_tellL, c_tellL]
theorem tellL_3 {K : CK} {V : CD} {wh : Nat → Int32} (k : Nat) : m_tellL K V wh k 3 = c_tellL K V k 3 := by
  rw [m_tellL, c_tellL]
theorem tellL_5 {K : CK} {V : CD} {aw : Int32} {wh : Nat → Int32} (hK : okK K) (hh : dHour V < 1000000) (hV : okV V aw wh) (k : Nat) (hk : k < 5) : m_next K V wh k = c_next K V k 0 := next_eq hK.1 (hV.2.1 k hk) (okS0 hh hV.2.2.2.1)
theorem tellL_eq {K : CK} {V : CD} {aw : Int32} {wh : Nat → Int32} (hK : okK K) (hh : dHour V < 1000000) (hV : okV V aw wh) (k : Nat) (hk : k < 5) (w : Nat) : m_tellL K V wh k w = c_tellL K V k w := by
  match w with
  | 0 => exact tellL_0 k (hV.2.1 k hk)
  | 1 => exact tellL_1 k
  | 2 => exact tellL_2 k
  | 3 => exact tellL_3 k
  | n + 4 => exact tellL_4 k n (tellL_5 hK hh hV k hk)
theorem comeL_eq (f g h : Nat → Int32) (e : ∀ b, h b = if f b = g b then 1 else 0) : ∀ (m b : Nat) (r : Int32), m_comeL f g m b r = c_comeL h m b r := by
  intro m
  induction m with
  | zero => intro b r; rfl
  | succ m ih =>
    intro b r
    rw [m_comeL, c_comeL, e b, ih]
    by_cases z : f b = g b <;> simp [z]
theorem fullL_eq {f : Nat → Int32} (hf : okF f) : ∀ (m b : Nat) (r : Int32), m + b ≤ 5 → c_sumL f m b r = c_comeL f m b r := by
  intro m
  induction m with
  | zero => intro b r _; rfl
  | succ m ih =>
    intro b r hb
    rw [c_sumL, c_comeL, ih _ _ (by omega)]
    rcases hf b (by omega) with z | z <;> rw [z] <;> simp
theorem tellW_eq {K : CK} {V : CD} {aw : Int32} {wh : Nat → Int32} (hV : okV V aw wh) : ∀ w : Nat, m_tellW K V aw w = c_tellW K V w
  | 0 => rfl
  | 1 => rfl
  | 2 => comeL_eq _ _ _ (fun b => rfl) _ _ _
  | 3 => rfl
  | 4 => rfl
  | 5 => fullL_eq hV.2.1 5 0 0 (by omega)
  | 6 => hV.2.2.1
  | 7 => rfl
  | 8 => rfl
  | _ + 9 => rfl

-- ---- the look-aheads
theorem arr_eq {K : CK} {b : Nat} (hK : okK K) : ∀ (n h : Nat) (V : CD) (aw : Int32) (wh : Nat → Int32), n + h = 120 → dHour V + n < 1000000 → okV V aw wh → m_arrL K b (n + 1) h V aw wh = c_arrL K b n h V := by
  intro n
  induction n with
  | zero =>
    intro h V aw wh hn _ _
    have e : h = 120 := by omega
    subst e
    rw [m_arrL, c_arrL, m_arrL]
    unfold c_come
    by_cases z : dAt V b = kGoal K b
    · rw [if_pos z, if_pos z]; rfl
    · rw [if_neg z, if_neg z]; rfl
  | succ n ih =>
    intro h V aw wh hn hh hV
    obtain ⟨a1, a2, a3⟩ := hour_eq hK (by omega) hV
    have hd := dHour_hour K V
    rw [m_arrL, c_arrL]
    unfold c_come
    by_cases z : dAt V b = kGoal K b
    · rw [if_pos z, if_pos z, if_neg (by decide)]
    · rw [if_neg z, if_neg z, if_pos rfl, a1]
      exact ih (h + 1) _ _ _ (by omega) (by omega) a3
theorem stop_eq {K : CK} (hK : okK K) : ∀ (n h : Nat) (V : CD) (aw : Int32) (wh : Nat → Int32), dHour V + n < 1000000 → okV V aw wh → m_stopL K n h V aw wh = c_stopL K n h V := by
  intro n
  induction n with
  | zero => intro h V aw wh _ _; rfl
  | succ n ih =>
    intro h V aw wh hh hV
    obtain ⟨a1, a2, a3⟩ := hour_eq hK (by omega) hV
    have hd := dHour_hour K V
    rw [m_stopL, c_stopL, a2, a1]
    by_cases z : (c_hour K V).2 = 0
    · rw [if_pos z, if_pos z]
    · rw [if_neg z, if_neg z]
      exact ih (h + 1) _ _ _ (by omega) a3
theorem okK_mark {K : CK} (hK : okK K) (mk : Nat) (h : mk ≤ 100) : okK (uMark K (nI mk)) := by
  obtain ⟨k1, k2, k3, k4, k5, k6⟩ := hK
  exact ⟨k1, k2, k3, k4, ⟨mk, h, rfl⟩, k6⟩
theorem advB_eq {K : CK} (hK : okK K) {V : CD} {aw : Int32} {wh : Nat → Int32} (n mk : Nat) (hmk : mk ≤ 100) (hh : dHour V + n ≤ 100000) (hV : okV V aw wh) : m_advB K V aw wh n (nI mk) = c_advB K V n (nI mk) ∧ ∃ u, u ≤ 102 * 100000 ∧ c_advB K V n (nI mk) = nI u := by
  obtain ⟨a1, a2, a3, a4⟩ := hours_eq (okK_mark hK mk hmk) n V aw wh 0 (by omega) hV
  obtain ⟨-, -, -, -, u, hu, hb⟩ := a3
  refine ⟨?_, u, by omega, hb⟩
  unfold m_advB c_advB
  rw [a1]
theorem advL_eq {K : CK} (hK : okK K) {V : CD} {aw : Int32} {wh : Nat → Int32} (n : Nat) (hh : dHour V + n ≤ 100000) (hV : okV V aw wh) : ∀ (m k : Nat) (bs mo : Int32), m + k = 11 → m_advL K V aw wh n m k bs mo = c_advL K V n m k bs mo := by
  intro m
  induction m with
  | zero => intro k bs mo _; rfl
  | succ m ih =>
    intro k bs mo hm
    have e := (advB_eq hK (wh := wh) n (k * 10) (by omega) hh hV).1
    rw [m_advL, c_advL, e, ih _ _ _ (by omega), ih _ _ _ (by omega)]
theorem adv_eq {K : CK} (hK : okK K) {V : CD} {aw : Int32} {wh : Nat → Int32} (n : Nat) (hh : dHour V + n ≤ 100000) (hV : okV V aw wh) : m_advL K V aw wh n 11 0 0 (-1) = c_advL K V n 11 0 0 0 := by
  rw [advL_eq hK n hh hV 11 0 0 (-1) rfl]
  obtain ⟨-, u, hu, e⟩ := advB_eq hK (wh := wh) n (0 * 10) (by omega) hh hV
  have h1 : ¬ c_advB K V n (nI (0 * 10)) < -1 := by
    rw [e]
    intro z
    have := Int32.lt_iff_toInt_lt.mp z
    rw [nI_toInt (by omega)] at this
    have h2 : (-1 : Int32).toInt = -1 := by decide
    omega
  have h0 : ¬ c_advB K V n (nI (0 * 10)) < 0 := by rw [e]; exact nI_pos (by omega)
  have e1 : c_advL K V n 11 0 0 (-1) = c_advL K V n 10 1 (nI (0 * 10)) (c_advB K V n (nI (0 * 10))) := by rw [c_advL, if_neg h1]
  have e2 : c_advL K V n 11 0 0 0 = c_advL K V n 10 1 (nI (0 * 10)) (c_advB K V n (nI (0 * 10))) := by rw [c_advL, if_neg h0]
  rw [e1, e2]
-- ---- the digest
theorem dgL_eq {f g : Nat → Int32} (e : ∀ w, f w = g w) (m b : Nat) (d : Int64) : dgL f m b d = dgL g m b d := by rw [show f = g from funext e]
theorem dgN_eq {f g : Nat → Nat → Int32} (w N : Nat) (e : ∀ p, p < N → ∀ w, f p w = g p w) : ∀ (m p : Nat) (d : Int64), m + p = N → dgN f w m p d = dgN g w m p d := by
  intro m
  induction m with
  | zero => intro p d _; rfl
  | succ m ih => intro p d hm; rw [dgN, dgN, dgL_eq (e p (by omega)), ih _ _ (by omega)]
theorem digest_eq {K : CK} {V : CD} {aw : Int32} {wh : Nat → Int32} (hK : okK K) (hh : dHour V < 1000000) (hV : okV V aw wh) :
    dgA (m_tellW K V aw) K (m_tellP K V) (m_tellL K V wh) (m_tellB K V) = dgA (c_tellW K V) K (c_tellP K V) (c_tellL K V) (c_tellB K V) := by
  unfold dgA
  rw [dgL_eq (tellW_eq hV), dgN_eq 4 6 (fun p _ w => tellP_eq K V p w) 6 0 _ rfl, dgN_eq 5 5 (fun k hk w => tellL_eq hK hh hV k hk w) 5 0 _ rfl, dgN_eq 5 (kNb K) (fun b _ w => tellB_eq K V b w) (kNb K) 0 _ (by omega)]
