-- ===== the law's Sim, its methods as functions =====
def z_into : Nat → Int32 → CD → Int32 → CD × Int32
  | 0, x, V, aw => (V, aw + x)
  | n + 1, x, V, aw => if 100 < dLev V n + x then z_into n (dLev V n + x - 100) (tOver (tLev V (upd (upd (dLev V) n (dLev V n + x)) n 100)) (upd (dOver V) n (dOver V n + (dLev V n + x - 100)))) aw else (tLev V (upd (dLev V) n (dLev V n + x)), aw)
def z_fill (V : CD) (k : Nat) : CD := tFill (tFull (tLev V (upd (dLev V) (k + 1) (dLev V (k + 1) - 12))) (upd (dFull V) k 1)) (upd (dFill V) k (dFill V k + 12))
def z_turn (V : CD) (aw : Int32) (k : Nat) : CD × Int32 := if dFull V k = 1 then z_into (k + 1) 12 (tFull V (upd (dFull V) k 0)) aw else (z_fill V k, aw)
def z_has (V : CD) (k : Nat) : Int32 := if dLev V (k + 1) - 12 < 20 then 0 else 1
def z_lock (K : CK) (V : CD) (b : Nat) : Int32 := if dAt V b = kGoal K b then -1 else if kGoal K b ≤ dAt V b then dAt V b - 1 else dAt V b
def z_rankU (K : CK) (V : CD) (k : Nat) : Int32 := if dFull V k = 1 then (if z_has V k = 0 then 0 else if kDry K = 0 then 1 else 0) else if z_has V k = 0 then 0 else 2
def z_rankD (K : CK) (V : CD) (k : Nat) : Int32 := if dFull V k = 1 then 2 else if z_has V k = 0 then 0 else if kDry K = 0 then 1 else 0
def z_rank2 (K : CK) (V : CD) (b k : Nat) : Int32 := if dAt V b ≤ kGoal K b then z_rankU K V k else z_rankD K V k
def z_rank (K : CK) (V : CD) (b k : Nat) : Int32 := if z_lock K V b = nI k then (if kFee K ≤ dPur V b then z_rank2 K V b k else 0) else 0
def z_nextL (K : CK) (V : CD) (k : Nat) (wf : Nat → Int32) : Nat → Int32 → Int32 → Int32
  | 0, best, _ => best
  | m + 1, best, rk => if wf m = 0 then (if z_rank K V m k = 0 then z_nextL K V k wf m best rk else if rk ≤ z_rank K V m k then z_nextL K V k wf m (nI m) (z_rank K V m k) else z_nextL K V k wf m best rk) else z_nextL K V k wf m best rk
def z_next (K : CK) (V : CD) (k : Nat) (wf : Nat → Int32) : Int32 := z_nextL K V k wf (kNb K) (-1) 0
def z_mill1 (V : CD) (aw : Int32) (q : Nat) (x : Int32) : CD × Int32 := z_into q x (tBank (tDrawn (tLev V (upd (dLev V) q (dLev V q - x))) (upd (dDrawn V) q (dDrawn V q + x))) (dBank V + x / 5)) aw
def z_mill (K : CK) (V : CD) (aw : Int32) : CD × Int32 := match kMill K with
  | 0 => (V, aw)
  | q + 1 => if dLev V q ≤ kMark K then (V, aw) else z_mill1 V aw q (if dLev V q - kMark K ≤ 10 then dLev V q - kMark K else 10)
def z_serveT (K : CK) (V : CD) (aw : Int32) (k b : Nat) : CD × Int32 := if (if dFull V k = 1 then (1 : Int32) else 0) = (if dAt V b ≤ kGoal K b then 0 else 1) then z_turn V aw k else z_turn (z_turn V aw k).1 (z_turn V aw k).2 k
def z_serve2 (V : CD) (fee dx : Int32) (k b : Nat) : CD := tLock (tSer (tBank (tPur (tAt V (upd (dAt V) b (dAt V b + dx))) (upd (dPur V) b (dPur V b - fee))) (dBank V + fee)) (upd (dSer V) b (dSer V b + 1))) (upd (dLock V) k (dLock V k + 1))
def z_serve (K : CK) (V : CD) (aw : Int32) (k b : Nat) : CD × Int32 := (z_serve2 (z_serveT K V aw k b).1 (kFee K) (if dAt V b ≤ kGoal K b then 1 else -1) k b, (z_serveT K V aw k b).2)
def z_hourL (K : CK) : Nat → CD → Int32 → (Nat → Int32) → Int32 → CD × Int32 × Int32
  | 0, V, aw, _, sv => (V, aw, sv)
  | n + 1, V, aw, wf, sv => if 0 ≤ z_next K V n wf then z_hourL K n (z_serve K V aw n (z_next K V n wf).toNatClampNeg).1 (z_serve K V aw n (z_next K V n wf).toNatClampNeg).2 (upd wf (z_next K V n wf).toNatClampNeg 1) (sv + 1) else z_hourL K n V aw wf sv
def z_hourA (K : CK) (V : CD) (aw : Int32) : CD × Int32 := z_mill K (z_into 6 (kSpr K (dHour V % 8)) V aw).1 (z_into 6 (kSpr K (dHour V % 8)) V aw).2
def z_hourB (K : CK) (V : CD) (aw : Int32) : CD × Int32 × Int32 := z_hourL K 5 (z_hourA K V aw).1 (z_hourA K V aw).2 (fun _ => 0) 0
/-- V, away, the answer -/
def z_hour (K : CK) (V : CD) (aw : Int32) : CD × Int32 × Int32 := (tHour (z_hourB K V aw).1 (dHour (z_hourB K V aw).1 + 1), (z_hourB K V aw).2)
theorem z_has01 (V : CD) (k : Nat) : z_has V k = 0 ∨ z_has V k = 1 := by unfold z_has; split <;> simp
theorem dHour_zinto : ∀ (n : Nat) (x : Int32) (V : CD) (aw : Int32), dHour (z_into n x V aw).1 = dHour V := by
  intro n
  induction n with
  | zero => intro x V aw; rfl
  | succ n ih =>
    intro x V aw
    rw [z_into]
    split
    · rw [ih]; rfl
    · rfl
theorem z_nextL_cases (K : CK) (V : CD) (k : Nat) (wf : Nat → Int32) (N : Nat) : ∀ (m : Nat) (best rk : Int32), m ≤ N → (best = -1 ∨ ∃ q, q < N ∧ best = nI q) → (z_nextL K V k wf m best rk = -1 ∨ ∃ q, q < N ∧ z_nextL K V k wf m best rk = nI q) := by
  intro m
  induction m with
  | zero => intro best rk _ h; exact h
  | succ m ih =>
    intro best rk hm h
    rw [z_nextL]
    split
    · split
      · exact ih _ _ (by omega) h
      · split
        · exact ih _ _ (by omega) (Or.inr ⟨m, by omega, rfl⟩)
        · exact ih _ _ (by omega) h
    · exact ih _ _ (by omega) h
theorem z_next_some {K : CK} {V : CD} {k : Nat} {wf : Nat → Int32} (h : 0 ≤ z_next K V k wf) : ∃ q, q < kNb K ∧ z_next K V k wf = nI q := by
  rcases z_nextL_cases K V k wf (kNb K) (kNb K) (-1) 0 (Nat.le_refl _) (Or.inl rfl) with h1 | h1
  · rw [show z_next K V k wf = -1 from h1] at h; exact absurd h (by decide)
  · exact h1
/-- what counts makes: ten numbers -/
def z_cnt (a b c d e f g h i j : Int32) : Nat → Int32
  | 0 => a
  | 1 => b
  | 2 => c
  | 3 => d
  | 4 => e
  | 5 => f
  | 6 => g
  | 7 => h
  | 8 => i
  | 9 => j
  | _ => 0
theorem z_cnt2 (a b c d e f g h i j v : Int32) : upd (z_cnt a b c d e f g h i j) 2 v = z_cnt a b v d e f g h i j := by
  funext q; match q with | 0 => rfl | 1 => rfl | 2 => rfl | 3 => rfl | 4 => rfl | 5 => rfl | 6 => rfl | 7 => rfl | 8 => rfl | 9 => rfl | n + 10 => simp [upd, z_cnt]
theorem z_cnt4 (a b c d e f g h i j v : Int32) : upd (z_cnt a b c d e f g h i j) 4 v = z_cnt a b c d v f g h i j := by
  funext q; match q with | 0 => rfl | 1 => rfl | 2 => rfl | 3 => rfl | 4 => rfl | 5 => rfl | 6 => rfl | 7 => rfl | 8 => rfl | 9 => rfl | n + 10 => simp [upd, z_cnt]
theorem z_cnt5 (a b c d e f g h i j v : Int32) : upd (z_cnt a b c d e f g h i j) 5 v = z_cnt a b c d e v g h i j := by
  funext q; match q with | 0 => rfl | 1 => rfl | 2 => rfl | 3 => rfl | 4 => rfl | 5 => rfl | 6 => rfl | 7 => rfl | 8 => rfl | 9 => rfl | n + 10 => simp [upd, z_cnt]
def z_counts (K : CK) (V : CD) (aw : Int32) : Nat → Int32 := z_cnt (nI (dHour V)) (nI (kNb K)) (c_sumL (c_come K V) (kNb K) 0 0) (dBank V) (c_sumL (dLev V) 6 0 0) (c_sumL (dFull V) 5 0 0) aw (kFee K) (kMark K) (nI (kMill K) - 1)
theorem xk_perm5 {α : Type} (S F G H X Y Z : List α) : (((S ++ Y) ++ (F ++ (G ++ H))) ++ (X ++ Z)).Perm (((S ++ X) ++ (F ++ (G ++ (H ++ Z)))) ++ Y) := by
  classical
  rw [List.perm_iff_count]
  intro a
  simp only [List.count_append]
  omega
/-- a barge comes -/
def z_comeK (K : CK) (t : Int32) : CK := (kFee K, kDry K, kMill K, kMark K, kNb K + 1, kSpr K, upd (kGoal K) (kNb K) t)
def z_comeV (K : CK) (V : CD) (f c : Int32) : CD := tSer (tPur (tAt V (upd (dAt V) (kNb K) f)) (upd (dPur V) (kNb K) c)) (upd (dSer V) (kNb K) 0)
/-- the Sim whose object refers to the row bp already, while its barges lie at ba -/
def zwy (yI yL : ClassId) (o : Nat → Nat) (bp ba : Nat) (pa la ra : Nat → Nat) (K : CK) (V : CD) (aw : Int32) : va_W :=
  ([(o 0, .inr (2, [.int (nI (dHour V)), .ref (o 1), .ref (o 2), .int aw, .ref (o 3), .int (nI (kMill K) - 1), .int (kMark K), .int (kDry K), .int (kFee K), .int (dBank V), .ref bp])),
    (o 1, .inl (yI, 8, .inl (kSpr K))), (o 2, .inl (yL, refs 6 pa)), (o 3, .inl (yL, refs 5 la)), (ba, .inl (yL, refs (kNb K) ra))] : va_W) ++
  (fam 6 (fun p => (pa p, .inl (yI, 3, .inl (r3 (dLev V p) (dOver V p) (dDrawn V p))))) ++
  (fam 5 (fun k => (la k, .inl (yI, 3, .inl (r3 (dFull V k) (dLock V k) (dFill V k))))) ++
   fam (kNb K) (fun b => (ra b, .inl (yI, 4, .inl (r4 (dAt V b) (kGoal K b) (dPur V b) (dSer V b)))))))
theorem zwy_come (yI yL : ClassId) (o : Nat → Nat) (bp ba q2 : Nat) (pa la ra : Nat → Nat) (K : CK) (V : CD) (aw f t c : Int32) :
    (zwy yI yL o bp ba pa la ra K V aw ++ (([(bp, .inl (yL, refs (kNb K + 1) (fun j => if j = kNb K then q2 else ra j)))] : va_W) ++ ([(q2, .inl (yI, 4, .inl (r4 f t c 0)))] : va_W))).Perm
    (zw yI yL o bp pa la (fun j => if j = kNb K then q2 else ra j) (z_comeK K t) (z_comeV K V f c) aw ++ ([(ba, .inl (yL, refs (kNb K) ra))] : va_W)) := by
  have e1 : fam (kNb K + 1) (fun b => (((fun j => if j = kNb K then q2 else ra j) b, .inl (yI, 4, .inl (r4 (upd (dAt V) (kNb K) f b) (upd (kGoal K) (kNb K) t b) (upd (dPur V) (kNb K) c b) (upd (dSer V) (kNb K) 0 b)))) : Nat × va_E)) =
      fam (kNb K) (fun b => (ra b, .inl (yI, 4, .inl (r4 (dAt V b) (kGoal K b) (dPur V b) (dSer V b))))) ++ [(q2, .inl (yI, 4, .inl (r4 f t c 0)))] := by
    rw [fam_succ]
    congr 1
    · refine fam_congr (fun k hk => ?_)
      have hne : k ≠ kNb K := Nat.ne_of_lt hk
      show ((if k = kNb K then q2 else ra k), _) = _
      rw [if_neg hne, pk_un hne, pk_un hne, pk_un hne, pk_un hne]
    · show [((if kNb K = kNb K then q2 else ra (kNb K)), _)] = _
      rw [if_pos rfl, pk_us, pk_us, pk_us, pk_us]
  have e2 : zw yI yL o bp pa la (fun j => if j = kNb K then q2 else ra j) (z_comeK K t) (z_comeV K V f c) aw =
      (([(o 0, .inr (2, [.int (nI (dHour V)), .ref (o 1), .ref (o 2), .int aw, .ref (o 3), .int (nI (kMill K) - 1), .int (kMark K), .int (kDry K), .int (kFee K), .int (dBank V), .ref bp])),
        (o 1, .inl (yI, 8, .inl (kSpr K))), (o 2, .inl (yL, refs 6 pa)), (o 3, .inl (yL, refs 5 la))] : va_W) ++ [(bp, .inl (yL, refs (kNb K + 1) (fun j => if j = kNb K then q2 else ra j)))]) ++
      (fam 6 (fun p => (pa p, .inl (yI, 3, .inl (r3 (dLev V p) (dOver V p) (dDrawn V p))))) ++
      (fam 5 (fun k => (la k, .inl (yI, 3, .inl (r3 (dFull V k) (dLock V k) (dFill V k))))) ++
       (fam (kNb K) (fun b => (ra b, .inl (yI, 4, .inl (r4 (dAt V b) (kGoal K b) (dPur V b) (dSer V b))))) ++ [(q2, .inl (yI, 4, .inl (r4 f t c 0)))]))) := by
    rw [← e1]; rfl
  have e3 : zwy yI yL o bp ba pa la ra K V aw =
      (([(o 0, .inr (2, [.int (nI (dHour V)), .ref (o 1), .ref (o 2), .int aw, .ref (o 3), .int (nI (kMill K) - 1), .int (kMark K), .int (kDry K), .int (kFee K), .int (dBank V), .ref bp])),
        (o 1, .inl (yI, 8, .inl (kSpr K))), (o 2, .inl (yL, refs 6 pa)), (o 3, .inl (yL, refs 5 la))] : va_W) ++ [(ba, .inl (yL, refs (kNb K) ra))]) ++
      (fam 6 (fun p => (pa p, .inl (yI, 3, .inl (r3 (dLev V p) (dOver V p) (dDrawn V p))))) ++
      (fam 5 (fun k => (la k, .inl (yI, 3, .inl (r3 (dFull V k) (dLock V k) (dFill V k))))) ++
       fam (kNb K) (fun b => (ra b, .inl (yI, 4, .inl (r4 (dAt V b) (kGoal K b) (dPur V b) (dSer V b))))))) := rfl
  rw [e2, e3]
  generalize ([(o 0, .inr (2, [.int (nI (dHour V)), .ref (o 1), .ref (o 2), .int aw, .ref (o 3), .int (nI (kMill K) - 1), .int (kMark K), .int (kDry K), .int (kFee K), .int (dBank V), .ref bp])), (o 1, .inl (yI, 8, .inl (kSpr K))), (o 2, .inl (yL, refs 6 pa)), (o 3, .inl (yL, refs 5 la))] : va_W) = S4
  generalize (fam 6 (fun p => (pa p, .inl (yI, 3, .inl (r3 (dLev V p) (dOver V p) (dDrawn V p))))) : va_W) = F6
  generalize (fam 5 (fun k => (la k, .inl (yI, 3, .inl (r3 (dFull V k) (dLock V k) (dFill V k))))) : va_W) = F5
  generalize (fam (kNb K) (fun b => (ra b, .inl (yI, 4, .inl (r4 (dAt V b) (kGoal K b) (dPur V b) (dSer V b))))) : va_W) = Fn
  exact xk_perm5 _ _ _ _ _ _ _
