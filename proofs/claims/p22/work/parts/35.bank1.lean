def rm_X1_requireIndex_ok : Room := { frames := 0, cells := 0, slots := 0, locals := 0 }
/-- X1_requireIndex, in range -/
theorem k_X1_requireIndex_ok (l : Launch) (D : va_G) (yI yZ yL : ClassId) (x lo hi : Int32) (h0 : ¬ c_isIn x lo hi = 0) : xMv l yX1_requireIndex wsX1_requireIndex rm_X1_requireIndex_ok D (tysG yI yZ yL) [] [.int x, .int lo, .int hi] 0 0 (fun W1 : va_W => W1 = []) := by
  refine xE_v (cc := cX1_requireIndex) (nL := 3) (by decide) rfl (Nat.le_of_ble_eq_true rfl) ?_
  intro p e s m args below meth c A Q F hnm ret
  show AW p l e rm_X1_requireIndex_ok s m args below meth c 3 D A 0 0 Q [] [(0, .int x), (1, .int lo), (2, .int hi)] 0 []
  refine xr_iload_n F dX1_requireIndex_0 rfl 0 rfl ?_
  refine xr_iload_n F dX1_requireIndex_1 rfl 1 rfl ?_
  refine xr_icmp_lt F 10 dX1_requireIndex_2 (by decide) (fun c2 => ?_) (fun c2 => ?_)
  · exact absurd c2 (isIn_and h0).1
  · skip
    refine xr_iload_n F dX1_requireIndex_5 rfl 0 rfl ?_
    refine xr_iload_n F dX1_requireIndex_6 rfl 2 rfl ?_
    refine xr_icmp_le F 20 dX1_requireIndex_7 (by decide) (fun c7 => ?_) (fun c7 => ?_)
    · skip
      exact ret _ _ _ dX1_requireIndex_20 rfl
    · exact absurd (Int32.not_le.mp c7) (isIn_and h0).2

def rm_X1_requireIndex_bad : Room := { frames := 6, cells := 1, slots := 6, locals := 82 }
/-- X1_requireIndex, out of range -/
theorem k_X1_requireIndex_bad (l : Launch) (D : va_G) (yI yZ yL : ClassId) (hst : l.stackTraces = false) (x lo hi : Int32) (h0 : c_isIn x lo hi = 0) : xXv l yX1_requireIndex wsX1_requireIndex rm_X1_requireIndex_bad D (tysG yI yZ yL) [] [.int x, .int lo, .int hi] 1 6 (fun _ : va_W => False) (fun E W1 => E = xE1 ∧ W1 = []) := by
  refine xEX_v (cc := cX1_requireIndex) (nL := 3) hst (by decide) rfl (Nat.le_of_ble_eq_true rfl) ?_
  intro p e s m args below meth c A Q F G ret out thr
  show AW p l e rm_X1_requireIndex_bad s m args below meth c 3 D A 0 0 Q [] [(0, .int x), (1, .int lo), (2, .int hi)] 0 []
  refine xr_iload_n F dX1_requireIndex_0 rfl 0 rfl ?_
  refine xr_iload_n F dX1_requireIndex_1 rfl 1 rfl ?_
  refine xr_icmp_lt F 10 dX1_requireIndex_2 (by decide) (fun c2 => ?_) (fun c2 => ?_)
  · skip
    obtain ⟨sa, hsa⟩ := G.2.2.1.2.2.1 (129, "there is no such one") (by decide)
    exact thr 10 127 129 131 sa xE1 _ _ [(0, .int x), (1, .int lo), (2, .int hi)] dX1_requireIndex_10 dX1_requireIndex_13 dX1_requireIndex_14 dX1_requireIndex_16 dX1_requireIndex_19 xk_fit1 (List.mem_of_getElem? (i := 1) rfl) (List.mem_of_getElem? (i := 2) rfl) hsa (xk_hat F.hts (fun w h => List.mem_cons_of_mem _ (List.mem_append_right _ h)) xk_n131 G.2.2.1 (by decide)) xk_o131 ⟨rfl, rfl⟩ (Nat.le_of_ble_eq_true rfl) (Nat.le_of_ble_eq_true rfl) (Nat.le_of_ble_eq_true rfl) (Nat.le_of_ble_eq_true rfl) (Nat.le_of_ble_eq_true rfl) (Nat.le_of_ble_eq_true rfl)
  · skip
    refine xr_iload_n F dX1_requireIndex_5 rfl 0 rfl ?_
    refine xr_iload_n F dX1_requireIndex_6 rfl 2 rfl ?_
    refine xr_icmp_le F 20 dX1_requireIndex_7 (by decide) (fun c7 => ?_) (fun c7 => ?_)
    · exact absurd h0 (xk_req c2 c7)
    · skip
      obtain ⟨sa, hsa⟩ := G.2.2.1.2.2.1 (129, "there is no such one") (by decide)
      exact thr 10 127 129 131 sa xE1 _ _ [(0, .int x), (1, .int lo), (2, .int hi)] dX1_requireIndex_10 dX1_requireIndex_13 dX1_requireIndex_14 dX1_requireIndex_16 dX1_requireIndex_19 xk_fit1 (List.mem_of_getElem? (i := 1) rfl) (List.mem_of_getElem? (i := 2) rfl) hsa (xk_hat F.hts (fun w h => List.mem_cons_of_mem _ (List.mem_append_right _ h)) xk_n131 G.2.2.1 (by decide)) xk_o131 ⟨rfl, rfl⟩ (Nat.le_of_ble_eq_true rfl) (Nat.le_of_ble_eq_true rfl) (Nat.le_of_ble_eq_true rfl) (Nat.le_of_ble_eq_true rfl) (Nat.le_of_ble_eq_true rfl) (Nat.le_of_ble_eq_true rfl)

def rm_X1_requireArgument_ok : Room := { frames := 0, cells := 0, slots := 0, locals := 0 }
/-- X1_requireArgument, in range -/
theorem k_X1_requireArgument_ok (l : Launch) (D : va_G) (yI yZ yL : ClassId) (x lo hi : Int32) (h0 : ¬ c_isIn x lo hi = 0) : xMv l yX1_requireArgument wsX1_requireArgument rm_X1_requireArgument_ok D (tysG yI yZ yL) [] [.int x, .int lo, .int hi] 0 0 (fun W1 : va_W => W1 = []) := by
  refine xE_v (cc := cX1_requireArgument) (nL := 3) (by decide) rfl (Nat.le_of_ble_eq_true rfl) ?_
  intro p e s m args below meth c A Q F hnm ret
  show AW p l e rm_X1_requireArgument_ok s m args below meth c 3 D A 0 0 Q [] [(0, .int x), (1, .int lo), (2, .int hi)] 0 []
  refine xr_iload_n F dX1_requireArgument_0 rfl 0 rfl ?_
  refine xr_iload_n F dX1_requireArgument_1 rfl 1 rfl ?_
  refine xr_icmp_lt F 10 dX1_requireArgument_2 (by decide) (fun c2 => ?_) (fun c2 => ?_)
  · exact absurd c2 (isIn_and h0).1
  · skip
    refine xr_iload_n F dX1_requireArgument_5 rfl 0 rfl ?_
    refine xr_iload_n F dX1_requireArgument_6 rfl 2 rfl ?_
    refine xr_icmp_le F 20 dX1_requireArgument_7 (by decide) (fun c7 => ?_) (fun c7 => ?_)
    · skip
      exact ret _ _ _ dX1_requireArgument_20 rfl
    · exact absurd (Int32.not_le.mp c7) (isIn_and h0).2

def rm_X1_requireArgument_bad : Room := { frames := 6, cells := 1, slots := 6, locals := 82 }
/-- X1_requireArgument, out of range -/
theorem k_X1_requireArgument_bad (l : Launch) (D : va_G) (yI yZ yL : ClassId) (hst : l.stackTraces = false) (x lo hi : Int32) (h0 : c_isIn x lo hi = 0) : xXv l yX1_requireArgument wsX1_requireArgument rm_X1_requireArgument_bad D (tysG yI yZ yL) [] [.int x, .int lo, .int hi] 1 6 (fun _ : va_W => False) (fun E W1 => E = xE2 ∧ W1 = []) := by
  refine xEX_v (cc := cX1_requireArgument) (nL := 3) hst (by decide) rfl (Nat.le_of_ble_eq_true rfl) ?_
  intro p e s m args below meth c A Q F G ret out thr
  show AW p l e rm_X1_requireArgument_bad s m args below meth c 3 D A 0 0 Q [] [(0, .int x), (1, .int lo), (2, .int hi)] 0 []
  refine xr_iload_n F dX1_requireArgument_0 rfl 0 rfl ?_
  refine xr_iload_n F dX1_requireArgument_1 rfl 1 rfl ?_
  refine xr_icmp_lt F 10 dX1_requireArgument_2 (by decide) (fun c2 => ?_) (fun c2 => ?_)
  · skip
    obtain ⟨sa, hsa⟩ := G.2.2.1.2.2.1 (134, "the number is out of its range") (by decide)
    exact thr 10 132 134 136 sa xE2 _ _ [(0, .int x), (1, .int lo), (2, .int hi)] dX1_requireArgument_10 dX1_requireArgument_13 dX1_requireArgument_14 dX1_requireArgument_16 dX1_requireArgument_19 xk_fit2 (List.mem_of_getElem? (i := 1) rfl) (List.mem_of_getElem? (i := 2) rfl) hsa (xk_hat F.hts (fun w h => List.mem_cons_of_mem _ (List.mem_append_right _ h)) xk_n136 G.2.2.1 (by decide)) xk_o136 ⟨rfl, rfl⟩ (Nat.le_of_ble_eq_true rfl) (Nat.le_of_ble_eq_true rfl) (Nat.le_of_ble_eq_true rfl) (Nat.le_of_ble_eq_true rfl) (Nat.le_of_ble_eq_true rfl) (Nat.le_of_ble_eq_true rfl)
  · skip
    refine xr_iload_n F dX1_requireArgument_5 rfl 0 rfl ?_
    refine xr_iload_n F dX1_requireArgument_6 rfl 2 rfl ?_
    refine xr_icmp_le F 20 dX1_requireArgument_7 (by decide) (fun c7 => ?_) (fun c7 => ?_)
    · exact absurd h0 (xk_req c2 c7)
    · skip
      obtain ⟨sa, hsa⟩ := G.2.2.1.2.2.1 (134, "the number is out of its range") (by decide)
      exact thr 10 132 134 136 sa xE2 _ _ [(0, .int x), (1, .int lo), (2, .int hi)] dX1_requireArgument_10 dX1_requireArgument_13 dX1_requireArgument_14 dX1_requireArgument_16 dX1_requireArgument_19 xk_fit2 (List.mem_of_getElem? (i := 1) rfl) (List.mem_of_getElem? (i := 2) rfl) hsa (xk_hat F.hts (fun w h => List.mem_cons_of_mem _ (List.mem_append_right _ h)) xk_n136 G.2.2.1 (by decide)) xk_o136 ⟨rfl, rfl⟩ (Nat.le_of_ble_eq_true rfl) (Nat.le_of_ble_eq_true rfl) (Nat.le_of_ble_eq_true rfl) (Nat.le_of_ble_eq_true rfl) (Nat.le_of_ble_eq_true rfl) (Nat.le_of_ble_eq_true rfl)

def rm_X1_setSpring : Room := { frames := 7, cells := 1, slots := 6, locals := 104 }
set_option maxHeartbeats 4000000 in
set_option maxRecDepth 100000 in
/-- setSpring -/
theorem k_X1_setSpring (l : Launch) (D : va_G) (yI yZ yL : ClassId) (hst : l.stackTraces = false) (h : Nat) (a t : Nat → Nat) (K : CK) (V : CD) (x : Int32) (y : Int32)  : xXi l yX1_setSpring wsX1_setSpring rm_X1_setSpring D (tysG yI yZ yL) (bw h a t ++ (cw yI yZ a K V)) [.ref h, .int x, .int y] 1 6 (fun (r : Int32) (W1 : va_W) => q_setSpring x y = 0 ∧ r = kSpr K (ix x) ∧ W1 = bw h a t ++ (cw yI yZ a (K_spring K x y) V)) (fun E W1 => ((q_setSpring x y = 1 ∧ E = xE1) ∨ (q_setSpring x y = 2 ∧ E = xE2)) ∧ W1 = bw h a t ++ (cw yI yZ a K V)) := by
  refine xEX_i (cc := cX1_setSpring) (nL := 4) hst (by decide) rfl (Nat.le_of_ble_eq_true rfl) ?_
  intro p e s m args below meth c A Q F G ret out thr
  have hin0 : ∀ w ∈ u_ws RX0 TX0 18, w ∈ wsX1_setSpring := by decide +kernel
  have hin1 : ∀ w ∈ u_ws RX1 TX1 2, w ∈ wsX1_setSpring := by decide +kernel
  show AW p l e rm_X1_setSpring s m args below meth c 4 D A 0 0 Q (bw h a t ++ (cw yI yZ a K V)) [(0, .ref h), (1, .int x), (2, .int y)] 0 []
  refine xr_iload_n F dX1_setSpring_0 rfl 1 rfl ?_
  refine xr_iconst F dX1_setSpring_1 (v := 0) (by decide) ?_
  refine xr_bipush F dX1_setSpring_2 (v := 7) (by decide) ?_
  by_cases c4 : c_isIn x 0 7 = 0
  · skip
    refine xr_callXSv F G (wr := bw h a t ++ (cw yI yZ a K V)) (rest := []) (As := [.int x, .int 0, .int 7]) (k_X1_requireIndex_bad l D yI yZ yL hst x 0 7 c4) (va_cwS 3 F.hts gX1_setSpring_X1_requireIndex rfl rfl rfl (by decide +kernel) ⟨Nat.le_of_ble_eq_true rfl, Nat.le_of_ble_eq_true rfl⟩) [] [0, 1, 2, 3, 4, 5, 6, 7, 8, 9, 10, 11, 12] rfl rfl (by decide) (by decide) (by decide) rfl rfl (Nat.le_of_ble_eq_true rfl) dX1_setSpring_4 ⟨Nat.le_of_ble_eq_true rfl, Nat.le_of_ble_eq_true rfl⟩ (fun E1 W1 z1 => ?_) (fun W1 z1 => z1.elim)
    obtain ⟨z0, z1⟩ := z1
    subst z0
    subst z1
    exact out _ _ _ _ _ ⟨(Or.inl ⟨by simp only [q_setSpring, K_spring, xk_01, xk_10, xk_20, xk_30, eq_self, c4, ↓reduceIte], rfl⟩), rfl⟩
  · skip
    refine xr_callSv F (wr := bw h a t ++ (cw yI yZ a K V)) (rest := []) (As := [.int x, .int 0, .int 7]) (k_X1_requireIndex_ok l D yI yZ yL x 0 7 c4) (va_cwS 3 F.hts gX1_setSpring_X1_requireIndex rfl rfl rfl (by decide +kernel) ⟨Nat.le_of_ble_eq_true rfl, Nat.le_of_ble_eq_true rfl⟩) [] [0, 1, 2, 3, 4, 5, 6, 7, 8, 9, 10, 11, 12] rfl rfl (by decide) (by decide) (by decide) rfl rfl (Nat.le_of_ble_eq_true rfl) dX1_setSpring_4 ⟨Nat.le_of_ble_eq_true rfl, Nat.le_of_ble_eq_true rfl⟩ (fun W1 z1 => ?_)
    subst z1
    refine xr_ws (ws' := bw h a t ++ (cw yI yZ a K V)) rfl ?_
    obtain ⟨hx1, hx2⟩ := isIn_ix 7 (by decide) rfl c4
    refine xr_iload_n F dX1_setSpring_7 rfl 2 rfl ?_
    refine xr_iconst F dX1_setSpring_8 (v := 0) (by decide) ?_
    refine xr_bipush F dX1_setSpring_9 (v := 30) (by decide) ?_
    by_cases c11 : c_isIn y 0 30 = 0
    · skip
      refine xr_callXSv F G (wr := bw h a t ++ (cw yI yZ a K V)) (rest := []) (As := [.int y, .int 0, .int 30]) (k_X1_requireArgument_bad l D yI yZ yL hst y 0 30 c11) (va_cwS 3 F.hts gX1_setSpring_X1_requireArgument rfl rfl rfl (by decide +kernel) ⟨Nat.le_of_ble_eq_true rfl, Nat.le_of_ble_eq_true rfl⟩) [] [0, 1, 2, 3, 4, 5, 6, 7, 8, 9, 10, 11, 12] rfl rfl (by decide) (by decide) (by decide) rfl rfl (Nat.le_of_ble_eq_true rfl) dX1_setSpring_11 ⟨Nat.le_of_ble_eq_true rfl, Nat.le_of_ble_eq_true rfl⟩ (fun E1 W1 z1 => ?_) (fun W1 z1 => z1.elim)
      obtain ⟨z0, z1⟩ := z1
      subst z0
      subst z1
      exact out _ _ _ _ _ ⟨(Or.inr ⟨by simp only [q_setSpring, K_spring, xk_01, xk_10, xk_20, xk_30, eq_self, c4, c11, ↓reduceIte], rfl⟩), rfl⟩
    · skip
      refine xr_callSv F (wr := bw h a t ++ (cw yI yZ a K V)) (rest := []) (As := [.int y, .int 0, .int 30]) (k_X1_requireArgument_ok l D yI yZ yL y 0 30 c11) (va_cwS 3 F.hts gX1_setSpring_X1_requireArgument rfl rfl rfl (by decide +kernel) ⟨Nat.le_of_ble_eq_true rfl, Nat.le_of_ble_eq_true rfl⟩) [] [0, 1, 2, 3, 4, 5, 6, 7, 8, 9, 10, 11, 12] rfl rfl (by decide) (by decide) (by decide) rfl rfl (Nat.le_of_ble_eq_true rfl) dX1_setSpring_11 ⟨Nat.le_of_ble_eq_true rfl, Nat.le_of_ble_eq_true rfl⟩ (fun W1 z1 => ?_)
      subst z1
      refine xr_ws (ws' := bw h a t ++ (cw yI yZ a K V)) rfl ?_
      refine xr_aload_n F dX1_setSpring_14 rfl 0 rfl ?_
      refine xr_get F hin1 0 rfl rfl 0 (by decide) (List.mem_of_getElem? (i := 1) rfl) (v := .ref (a 0)) rfl dX1_setSpring_15 ?_
      refine xr_get F hin0 1 rfl rfl 6 (by decide) (List.mem_of_getElem? (i := 2) rfl) (v := .ref (a 1)) rfl dX1_setSpring_18 ?_
      refine xr_iload_n F dX1_setSpring_21 rfl 1 rfl ?_
      refine xr_iald F 2 0 rfl rfl (ix x) hx1 (by omega) (by decide) dX1_setSpring_22 ?_
      refine xr_istore_n F [(3, .int ((kSpr K) (ix x))), (0, .ref h), (1, .int x), (2, .int y)] dX1_setSpring_23 rfl (by decide) rfl ?_
      refine xr_aload_n F dX1_setSpring_24 rfl 1 rfl ?_
      refine xr_get F hin1 0 rfl rfl 0 (by decide) (List.mem_of_getElem? (i := 1) rfl) (v := .ref (a 0)) rfl dX1_setSpring_25 ?_
      refine xr_get F hin0 1 rfl rfl 6 (by decide) (List.mem_of_getElem? (i := 2) rfl) (v := .ref (a 1)) rfl dX1_setSpring_28 ?_
      refine xr_iload_n F dX1_setSpring_31 rfl 2 rfl ?_
      refine xr_iload_n F dX1_setSpring_32 rfl 3 rfl ?_
      refine xr_iast F 2 0 rfl rfl (ix x) hx1 (by omega) (by decide) (bw h a t ++ (cwx yI yZ a (kFee K) (kDry K) (kMill K) (kMark K) (kNb K) (upd (kSpr K) (ix x) y) (kGoal K) (dHour V) (dBank V) (dLev V) (dOver V) (dDrawn V) (dFull V) (dLock V) (dFill V) (dAt V) (dPur V) (dSer V))) rfl dX1_setSpring_33 ?_
      refine xr_iload_n F dX1_setSpring_34 rfl 0 rfl ?_
      refine xr_widen (k := 1) (n := 6) (Nat.le_of_ble_eq_true rfl) (Nat.le_of_ble_eq_true rfl) ?_
      refine ret _ _ _ _ dX1_setSpring_35 ⟨?_, ?_, ?_⟩
      · skip
        simp only [q_setSpring, K_spring, xk_01, xk_10, xk_20, xk_30, eq_self, c4, c11, ↓reduceIte]
      · skip
        first | with_reducible rfl | (simp only [q_setSpring, K_spring, xk_01, xk_10, xk_20, xk_30, eq_self, c4, c11, ↓reduceIte]; done) | (simp only [q_setSpring, K_spring, xk_01, xk_10, xk_20, xk_30, eq_self, c4, c11, ↓reduceIte]; rfl) | rfl
      · skip
        have f0 : K_spring K x y = (kFee K, kDry K, kMill K, kMark K, kNb K, upd (kSpr K) (ix x) y, kGoal K) := by
          simp only [q_setSpring, K_spring, xk_01, xk_10, xk_20, xk_30, eq_self, c4, c11, ↓reduceIte]
          try simp only [tHour, tBank, tLev, tOver, tDrawn, tFull, tLock, tFill, tAt, tPur, tSer, dHour, dBank, dLev, dOver, dDrawn, dFull, dLock, dFill, dAt, dPur, dSer, uFee, uDry, uMill, uMark, uNb, uSpr, uGoal, kFee, kDry, kMill, kMark, kNb, kSpr, kGoal]
        rw [f0, cw_mkK]

def rm_X1_setMill : Room := { frames := 7, cells := 1, slots := 6, locals := 104 }
set_option maxHeartbeats 4000000 in
set_option maxRecDepth 100000 in
/-- setMill -/
theorem k_X1_setMill (l : Launch) (D : va_G) (yI yZ yL : ClassId) (hst : l.stackTraces = false) (h : Nat) (a t : Nat → Nat) (K : CK) (V : CD) (x : Int32) (y : Int32)  : xXi l yX1_setMill wsX1_setMill rm_X1_setMill D (tysG yI yZ yL) (bw h a t ++ (cw yI yZ a K V)) [.ref h, .int x, .int y] 1 6 (fun (r : Int32) (W1 : va_W) => q_setMill x y = 0 ∧ r = kMark K ∧ W1 = bw h a t ++ (cw yI yZ a (K_mill K x y) V)) (fun E W1 => ((q_setMill x y = 1 ∧ E = xE1) ∨ (q_setMill x y = 2 ∧ E = xE2)) ∧ W1 = bw h a t ++ (cw yI yZ a K V)) := by
  refine xEX_i (cc := cX1_setMill) (nL := 4) hst (by decide) rfl (Nat.le_of_ble_eq_true rfl) ?_
  intro p e s m args below meth c A Q F G ret out thr
  have hin0 : ∀ w ∈ u_ws RX0 TX0 18, w ∈ wsX1_setMill := by decide +kernel
  have hin1 : ∀ w ∈ u_ws RX1 TX1 2, w ∈ wsX1_setMill := by decide +kernel
  show AW p l e rm_X1_setMill s m args below meth c 4 D A 0 0 Q (bw h a t ++ (cw yI yZ a K V)) [(0, .ref h), (1, .int x), (2, .int y)] 0 []
  refine xr_iload_n F dX1_setMill_0 rfl 1 rfl ?_
  refine xr_iconst F dX1_setMill_1 (v := (-1)) (by decide) ?_
  refine xr_iconst F dX1_setMill_2 (v := 5) (by decide) ?_
  by_cases c3 : c_isIn x (-1) 5 = 0
  · skip
    refine xr_callXSv F G (wr := bw h a t ++ (cw yI yZ a K V)) (rest := []) (As := [.int x, .int ((-1)), .int 5]) (k_X1_requireIndex_bad l D yI yZ yL hst x (-1) 5 c3) (va_cwS 3 F.hts gX1_setMill_X1_requireIndex rfl rfl rfl (by decide +kernel) ⟨Nat.le_of_ble_eq_true rfl, Nat.le_of_ble_eq_true rfl⟩) [] [0, 1, 2, 3, 4, 5, 6, 7, 8, 9, 10, 11, 12] rfl rfl (by decide) (by decide) (by decide) rfl rfl (Nat.le_of_ble_eq_true rfl) dX1_setMill_3 ⟨Nat.le_of_ble_eq_true rfl, Nat.le_of_ble_eq_true rfl⟩ (fun E1 W1 z1 => ?_) (fun W1 z1 => z1.elim)
    obtain ⟨z0, z1⟩ := z1
    subst z0
    subst z1
    exact out _ _ _ _ _ ⟨(Or.inl ⟨by simp only [q_setMill, K_mill, xk_01, xk_10, xk_20, xk_30, eq_self, c3, ↓reduceIte], rfl⟩), rfl⟩
  · skip
    refine xr_callSv F (wr := bw h a t ++ (cw yI yZ a K V)) (rest := []) (As := [.int x, .int ((-1)), .int 5]) (k_X1_requireIndex_ok l D yI yZ yL x (-1) 5 c3) (va_cwS 3 F.hts gX1_setMill_X1_requireIndex rfl rfl rfl (by decide +kernel) ⟨Nat.le_of_ble_eq_true rfl, Nat.le_of_ble_eq_true rfl⟩) [] [0, 1, 2, 3, 4, 5, 6, 7, 8, 9, 10, 11, 12] rfl rfl (by decide) (by decide) (by decide) rfl rfl (Nat.le_of_ble_eq_true rfl) dX1_setMill_3 ⟨Nat.le_of_ble_eq_true rfl, Nat.le_of_ble_eq_true rfl⟩ (fun W1 z1 => ?_)
    subst z1
    refine xr_ws (ws' := bw h a t ++ (cw yI yZ a K V)) rfl ?_
    obtain ⟨hx1, hx2⟩ := isIn_ixm c3
    refine xr_iload_n F dX1_setMill_6 rfl 2 rfl ?_
    refine xr_iconst F dX1_setMill_7 (v := 0) (by decide) ?_
    refine xr_bipush F dX1_setMill_8 (v := 100) (by decide) ?_
    by_cases c10 : c_isIn y 0 100 = 0
    · skip
      refine xr_callXSv F G (wr := bw h a t ++ (cw yI yZ a K V)) (rest := []) (As := [.int y, .int 0, .int 100]) (k_X1_requireArgument_bad l D yI yZ yL hst y 0 100 c10) (va_cwS 3 F.hts gX1_setMill_X1_requireArgument rfl rfl rfl (by decide +kernel) ⟨Nat.le_of_ble_eq_true rfl, Nat.le_of_ble_eq_true rfl⟩) [] [0, 1, 2, 3, 4, 5, 6, 7, 8, 9, 10, 11, 12] rfl rfl (by decide) (by decide) (by decide) rfl rfl (Nat.le_of_ble_eq_true rfl) dX1_setMill_10 ⟨Nat.le_of_ble_eq_true rfl, Nat.le_of_ble_eq_true rfl⟩ (fun E1 W1 z1 => ?_) (fun W1 z1 => z1.elim)
      obtain ⟨z0, z1⟩ := z1
      subst z0
      subst z1
      exact out _ _ _ _ _ ⟨(Or.inr ⟨by simp only [q_setMill, K_mill, xk_01, xk_10, xk_20, xk_30, eq_self, c3, c10, ↓reduceIte], rfl⟩), rfl⟩
    · skip
      refine xr_callSv F (wr := bw h a t ++ (cw yI yZ a K V)) (rest := []) (As := [.int y, .int 0, .int 100]) (k_X1_requireArgument_ok l D yI yZ yL y 0 100 c10) (va_cwS 3 F.hts gX1_setMill_X1_requireArgument rfl rfl rfl (by decide +kernel) ⟨Nat.le_of_ble_eq_true rfl, Nat.le_of_ble_eq_true rfl⟩) [] [0, 1, 2, 3, 4, 5, 6, 7, 8, 9, 10, 11, 12] rfl rfl (by decide) (by decide) (by decide) rfl rfl (Nat.le_of_ble_eq_true rfl) dX1_setMill_10 ⟨Nat.le_of_ble_eq_true rfl, Nat.le_of_ble_eq_true rfl⟩ (fun W1 z1 => ?_)
      subst z1
      refine xr_ws (ws' := bw h a t ++ (cw yI yZ a K V)) rfl ?_
      refine xr_aload_n F dX1_setMill_13 rfl 0 rfl ?_
      refine xr_get F hin1 0 rfl rfl 0 (by decide) (List.mem_of_getElem? (i := 1) rfl) (v := .ref (a 0)) rfl dX1_setMill_14 ?_
      refine xr_get F hin0 1 rfl rfl 5 (by decide) (List.mem_of_getElem? (i := 2) rfl) (v := .int (kMark K)) rfl dX1_setMill_17 ?_
      refine xr_istore_n F [(3, .int (kMark K)), (0, .ref h), (1, .int x), (2, .int y)] dX1_setMill_20 rfl (by decide) rfl ?_
      refine xr_aload_n F dX1_setMill_21 rfl 1 rfl ?_
      refine xr_get F hin1 0 rfl rfl 0 (by decide) (List.mem_of_getElem? (i := 1) rfl) (v := .ref (a 0)) rfl dX1_setMill_22 ?_
      refine xr_iload_n F dX1_setMill_25 rfl 2 rfl ?_
      refine xr_top (y := nI (ix (x + 1)) - 1) hx1 ?_
      refine xr_put (ty := .int) F hin0 1 rfl rfl 4 (by decide) tyX0 tyX0_ok nmX0 (List.mem_of_getElem? (i := 3) rfl) rfl (by decide) rfl rfl (Nat.le_of_ble_eq_true rfl) (bw h a t ++ (cwx yI yZ a (kFee K) (kDry K) (ix (x + 1)) (kMark K) (kNb K) (kSpr K) (kGoal K) (dHour V) (dBank V) (dLev V) (dOver V) (dDrawn V) (dFull V) (dLock V) (dFill V) (dAt V) (dPur V) (dSer V))) rfl dX1_setMill_26 ?_
      refine xr_aload_n F dX1_setMill_29 rfl 1 rfl ?_
      refine xr_get F hin1 0 rfl rfl 0 (by decide) (List.mem_of_getElem? (i := 1) rfl) (v := .ref (a 0)) rfl dX1_setMill_30 ?_
      refine xr_iload_n F dX1_setMill_33 rfl 3 rfl ?_
      refine xr_put (ty := .int) F hin0 1 rfl rfl 5 (by decide) tyX0 tyX0_ok nmX0 (List.mem_of_getElem? (i := 2) rfl) rfl (by decide) rfl rfl (Nat.le_of_ble_eq_true rfl) (bw h a t ++ (cwx yI yZ a (kFee K) (kDry K) (ix (x + 1)) y (kNb K) (kSpr K) (kGoal K) (dHour V) (dBank V) (dLev V) (dOver V) (dDrawn V) (dFull V) (dLock V) (dFill V) (dAt V) (dPur V) (dSer V))) rfl dX1_setMill_34 ?_
      refine xr_iload_n F dX1_setMill_37 rfl 0 rfl ?_
      refine xr_widen (k := 1) (n := 6) (Nat.le_of_ble_eq_true rfl) (Nat.le_of_ble_eq_true rfl) ?_
      refine ret _ _ _ _ dX1_setMill_38 ⟨?_, ?_, ?_⟩
      · skip
        simp only [q_setMill, K_mill, xk_01, xk_10, xk_20, xk_30, eq_self, c3, c10, ↓reduceIte]
      · skip
        first | with_reducible rfl | (simp only [q_setMill, K_mill, xk_01, xk_10, xk_20, xk_30, eq_self, c3, c10, ↓reduceIte]; done) | (simp only [q_setMill, K_mill, xk_01, xk_10, xk_20, xk_30, eq_self, c3, c10, ↓reduceIte]; rfl) | rfl
      · skip
        have f0 : K_mill K x y = (kFee K, kDry K, ix (x + 1), y, kNb K, kSpr K, kGoal K) := by
          simp only [q_setMill, K_mill, xk_01, xk_10, xk_20, xk_30, eq_self, c3, c10, ↓reduceIte]
          try simp only [tHour, tBank, tLev, tOver, tDrawn, tFull, tLock, tFill, tAt, tPur, tSer, dHour, dBank, dLev, dOver, dDrawn, dFull, dLock, dFill, dAt, dPur, dSer, uFee, uDry, uMill, uMark, uNb, uSpr, uGoal, kFee, kDry, kMill, kMark, kNb, kSpr, kGoal]
        rw [f0, cw_mkK]

def rm_X1_setDrought : Room := { frames := 0, cells := 0, slots := 0, locals := 0 }
set_option maxHeartbeats 4000000 in
set_option maxRecDepth 100000 in
/-- setDrought -/
theorem k_X1_setDrought (l : Launch) (D : va_G) (yI yZ yL : ClassId) (h : Nat) (a t : Nat → Nat) (K : CK) (V : CD) (x : Int32) (h0 : kDry K = 0 ∨ kDry K = 1) (h1 : x = 0 ∨ x = 1) : xMi l yX1_setDrought wsX1_setDrought rm_X1_setDrought D (tysG yI yZ yL) (bw h a t ++ (cw yI yZ a K V)) [.ref h, .int x] 0 0 (fun (r : Int32) (W1 : va_W) => r = kDry K ∧ W1 = bw h a t ++ (cw yI yZ a (uDry K x) V)) := by
  refine xE_z (cc := cX1_setDrought) (nL := 3) (by decide) rfl (Nat.le_of_ble_eq_true rfl) ?_
  intro p e s m args below meth c A Q F hnm ret
  have hin0 : ∀ w ∈ u_ws RX0 TX0 18, w ∈ wsX1_setDrought := by decide +kernel
  have hin1 : ∀ w ∈ u_ws RX1 TX1 2, w ∈ wsX1_setDrought := by decide +kernel
  show AW p l e rm_X1_setDrought s m args below meth c 3 D A 0 0 Q (bw h a t ++ (cw yI yZ a K V)) [(0, .ref h), (1, .int x)] 0 []
  refine xr_aload_n F dX1_setDrought_0 rfl 0 rfl ?_
  refine xr_get F hin1 0 rfl rfl 0 (by decide) (List.mem_of_getElem? (i := 1) rfl) (v := .ref (a 0)) rfl dX1_setDrought_1 ?_
  refine xr_get F hin0 1 rfl rfl 3 (by decide) (List.mem_of_getElem? (i := 2) rfl) (v := .int (kDry K)) rfl dX1_setDrought_4 ?_
  refine xr_istore_n F [(2, .int (kDry K)), (0, .ref h), (1, .int x)] dX1_setDrought_7 rfl (by decide) rfl ?_
  refine xr_aload_n F dX1_setDrought_8 rfl 1 rfl ?_
  refine xr_get F hin1 0 rfl rfl 0 (by decide) (List.mem_of_getElem? (i := 1) rfl) (v := .ref (a 0)) rfl dX1_setDrought_9 ?_
  refine xr_iload_n F dX1_setDrought_12 rfl 2 rfl ?_
  refine xr_put (ty := .boolean) F hin0 1 rfl rfl 3 (by decide) tyX0 tyX0_ok nmX0 (List.mem_of_getElem? (i := 2) rfl) rfl (by decide) (nz01 h1) (fz01 h1) (Nat.le_of_ble_eq_true rfl) (bw h a t ++ (cwx yI yZ a (kFee K) x (kMill K) (kMark K) (kNb K) (kSpr K) (kGoal K) (dHour V) (dBank V) (dLev V) (dOver V) (dDrawn V) (dFull V) (dLock V) (dFill V) (dAt V) (dPur V) (dSer V))) rfl dX1_setDrought_13 ?_
  refine xr_iload_n F dX1_setDrought_16 rfl 0 rfl ?_
  refine ret _ _ _ _ dX1_setDrought_17 (nz01 h0) ⟨?_, ?_⟩
  · skip
    first | with_reducible rfl | (simp only [uDry, ↓reduceIte]; done) | (simp only [uDry, ↓reduceIte]; rfl) | rfl
  · skip
    have f0 : uDry K x = (kFee K, x, kMill K, kMark K, kNb K, kSpr K, kGoal K) := by
      simp only [uDry, ↓reduceIte]
      try simp only [tHour, tBank, tLev, tOver, tDrawn, tFull, tLock, tFill, tAt, tPur, tSer, dHour, dBank, dLev, dOver, dDrawn, dFull, dLock, dFill, dAt, dPur, dSer, uFee, uDry, uMill, uMark, uNb, uSpr, uGoal, kFee, kDry, kMill, kMark, kNb, kSpr, kGoal]
    rw [f0, cw_mkK]

def rm_X1_setFee : Room := { frames := 7, cells := 1, slots := 6, locals := 104 }
set_option maxHeartbeats 4000000 in
set_option maxRecDepth 100000 in
/-- setFee -/
theorem k_X1_setFee (l : Launch) (D : va_G) (yI yZ yL : ClassId) (hst : l.stackTraces = false) (h : Nat) (a t : Nat → Nat) (K : CK) (V : CD) (x : Int32)  : xXi l yX1_setFee wsX1_setFee rm_X1_setFee D (tysG yI yZ yL) (bw h a t ++ (cw yI yZ a K V)) [.ref h, .int x] 1 6 (fun (r : Int32) (W1 : va_W) => q_setFee x = 0 ∧ r = kFee K ∧ W1 = bw h a t ++ (cw yI yZ a (K_fee K x) V)) (fun E W1 => ((q_setFee x = 1 ∧ E = xE2)) ∧ W1 = bw h a t ++ (cw yI yZ a K V)) := by
  refine xEX_i (cc := cX1_setFee) (nL := 3) hst (by decide) rfl (Nat.le_of_ble_eq_true rfl) ?_
  intro p e s m args below meth c A Q F G ret out thr
  have hin0 : ∀ w ∈ u_ws RX0 TX0 18, w ∈ wsX1_setFee := by decide +kernel
  have hin1 : ∀ w ∈ u_ws RX1 TX1 2, w ∈ wsX1_setFee := by decide +kernel
  show AW p l e rm_X1_setFee s m args below meth c 3 D A 0 0 Q (bw h a t ++ (cw yI yZ a K V)) [(0, .ref h), (1, .int x)] 0 []
  refine xr_iload_n F dX1_setFee_0 rfl 1 rfl ?_
  refine xr_iconst F dX1_setFee_1 (v := 0) (by decide) ?_
  refine xr_bipush F dX1_setFee_2 (v := 20) (by decide) ?_
  by_cases c4 : c_isIn x 0 20 = 0
  · skip
    refine xr_callXSv F G (wr := bw h a t ++ (cw yI yZ a K V)) (rest := []) (As := [.int x, .int 0, .int 20]) (k_X1_requireArgument_bad l D yI yZ yL hst x 0 20 c4) (va_cwS 3 F.hts gX1_setFee_X1_requireArgument rfl rfl rfl (by decide +kernel) ⟨Nat.le_of_ble_eq_true rfl, Nat.le_of_ble_eq_true rfl⟩) [] [0, 1, 2, 3, 4, 5, 6, 7, 8, 9, 10, 11, 12] rfl rfl (by decide) (by decide) (by decide) rfl rfl (Nat.le_of_ble_eq_true rfl) dX1_setFee_4 ⟨Nat.le_of_ble_eq_true rfl, Nat.le_of_ble_eq_true rfl⟩ (fun E1 W1 z1 => ?_) (fun W1 z1 => z1.elim)
    obtain ⟨z0, z1⟩ := z1
    subst z0
    subst z1
    exact out _ _ _ _ _ ⟨⟨by simp only [q_setFee, K_fee, xk_01, xk_10, xk_20, xk_30, eq_self, c4, ↓reduceIte], rfl⟩, rfl⟩
  · skip
    refine xr_callSv F (wr := bw h a t ++ (cw yI yZ a K V)) (rest := []) (As := [.int x, .int 0, .int 20]) (k_X1_requireArgument_ok l D yI yZ yL x 0 20 c4) (va_cwS 3 F.hts gX1_setFee_X1_requireArgument rfl rfl rfl (by decide +kernel) ⟨Nat.le_of_ble_eq_true rfl, Nat.le_of_ble_eq_true rfl⟩) [] [0, 1, 2, 3, 4, 5, 6, 7, 8, 9, 10, 11, 12] rfl rfl (by decide) (by decide) (by decide) rfl rfl (Nat.le_of_ble_eq_true rfl) dX1_setFee_4 ⟨Nat.le_of_ble_eq_true rfl, Nat.le_of_ble_eq_true rfl⟩ (fun W1 z1 => ?_)
    subst z1
    refine xr_ws (ws' := bw h a t ++ (cw yI yZ a K V)) rfl ?_
    refine xr_aload_n F dX1_setFee_7 rfl 0 rfl ?_
    refine xr_get F hin1 0 rfl rfl 0 (by decide) (List.mem_of_getElem? (i := 1) rfl) (v := .ref (a 0)) rfl dX1_setFee_8 ?_
    refine xr_get F hin0 1 rfl rfl 2 (by decide) (List.mem_of_getElem? (i := 2) rfl) (v := .int (kFee K)) rfl dX1_setFee_11 ?_
    refine xr_istore_n F [(2, .int (kFee K)), (0, .ref h), (1, .int x)] dX1_setFee_14 rfl (by decide) rfl ?_
    refine xr_aload_n F dX1_setFee_15 rfl 1 rfl ?_
    refine xr_get F hin1 0 rfl rfl 0 (by decide) (List.mem_of_getElem? (i := 1) rfl) (v := .ref (a 0)) rfl dX1_setFee_16 ?_
    refine xr_iload_n F dX1_setFee_19 rfl 2 rfl ?_
    refine xr_put (ty := .int) F hin0 1 rfl rfl 2 (by decide) tyX0 tyX0_ok nmX0 (List.mem_of_getElem? (i := 2) rfl) rfl (by decide) rfl rfl (Nat.le_of_ble_eq_true rfl) (bw h a t ++ (cwx yI yZ a x (kDry K) (kMill K) (kMark K) (kNb K) (kSpr K) (kGoal K) (dHour V) (dBank V) (dLev V) (dOver V) (dDrawn V) (dFull V) (dLock V) (dFill V) (dAt V) (dPur V) (dSer V))) rfl dX1_setFee_20 ?_
    refine xr_iload_n F dX1_setFee_23 rfl 0 rfl ?_
    refine xr_widen (k := 1) (n := 6) (Nat.le_of_ble_eq_true rfl) (Nat.le_of_ble_eq_true rfl) ?_
    refine ret _ _ _ _ dX1_setFee_24 ⟨?_, ?_, ?_⟩
    · skip
      simp only [q_setFee, K_fee, xk_01, xk_10, xk_20, xk_30, eq_self, c4, ↓reduceIte]
    · skip
      first | with_reducible rfl | (simp only [q_setFee, K_fee, xk_01, xk_10, xk_20, xk_30, eq_self, c4, ↓reduceIte]; done) | (simp only [q_setFee, K_fee, xk_01, xk_10, xk_20, xk_30, eq_self, c4, ↓reduceIte]; rfl) | rfl
    · skip
      have f0 : K_fee K x = (x, kDry K, kMill K, kMark K, kNb K, kSpr K, kGoal K) := by
        simp only [q_setFee, K_fee, xk_01, xk_10, xk_20, xk_30, eq_self, c4, ↓reduceIte]
        try simp only [tHour, tBank, tLev, tOver, tDrawn, tFull, tLock, tFill, tAt, tPur, tSer, dHour, dBank, dLev, dOver, dDrawn, dFull, dLock, dFill, dAt, dPur, dSer, uFee, uDry, uMill, uMark, uNb, uSpr, uGoal, kFee, kDry, kMill, kMark, kNb, kSpr, kGoal]
      rw [f0, cw_mkK]

def rm_X1_water : Room := { frames := 7, cells := 1, slots := 6, locals := 104 }
set_option maxHeartbeats 4000000 in
set_option maxRecDepth 100000 in
/-- water -/
theorem k_X1_water (l : Launch) (D : va_G) (yI yZ yL : ClassId) (hst : l.stackTraces = false) (h : Nat) (a t : Nat → Nat) (K : CK) (V : CD) (x : Int32) (y : Int32)  : xXi l yX1_water wsX1_water rm_X1_water D (tysG yI yZ yL) (bw h a t ++ (cw yI yZ a K V)) [.ref h, .int x, .int y] 1 6 (fun (r : Int32) (W1 : va_W) => q_water V x y = 0 ∧ r = dBank (C_water V x y) ∧ W1 = bw h a t ++ (cw yI yZ a K (C_water V x y))) (fun E W1 => ((q_water V x y = 1 ∧ E = xE1) ∨ (q_water V x y = 2 ∧ E = xE2) ∨ (q_water V x y = 3 ∧ E = xE3)) ∧ W1 = bw h a t ++ (cw yI yZ a K V)) := by
  refine xEX_i (cc := cX1_water) (nL := 4) hst (by decide) rfl (Nat.le_of_ble_eq_true rfl) ?_
  intro p e s m args below meth c A Q F G ret out thr
  have hin0 : ∀ w ∈ u_ws RX0 TX0 18, w ∈ wsX1_water := by decide +kernel
  have hin1 : ∀ w ∈ u_ws RX1 TX1 2, w ∈ wsX1_water := by decide +kernel
  show AW p l e rm_X1_water s m args below meth c 4 D A 0 0 Q (bw h a t ++ (cw yI yZ a K V)) [(0, .ref h), (1, .int x), (2, .int y)] 0 []
  refine xr_iload_n F dX1_water_0 rfl 1 rfl ?_
  refine xr_iconst F dX1_water_1 (v := 0) (by decide) ?_
  refine xr_iconst F dX1_water_2 (v := 5) (by decide) ?_
  by_cases c3 : c_isIn x 0 5 = 0
  · skip
    refine xr_callXSv F G (wr := bw h a t ++ (cw yI yZ a K V)) (rest := []) (As := [.int x, .int 0, .int 5]) (k_X1_requireIndex_bad l D yI yZ yL hst x 0 5 c3) (va_cwS 3 F.hts gX1_water_X1_requireIndex rfl rfl rfl (by decide +kernel) ⟨Nat.le_of_ble_eq_true rfl, Nat.le_of_ble_eq_true rfl⟩) [] [0, 1, 2, 3, 4, 5, 6, 7, 8, 9, 10, 11, 12] rfl rfl (by decide) (by decide) (by decide) rfl rfl (Nat.le_of_ble_eq_true rfl) dX1_water_3 ⟨Nat.le_of_ble_eq_true rfl, Nat.le_of_ble_eq_true rfl⟩ (fun E1 W1 z1 => ?_) (fun W1 z1 => z1.elim)
    obtain ⟨z0, z1⟩ := z1
    subst z0
    subst z1
    exact out _ _ _ _ _ ⟨(Or.inl ⟨by simp only [q_water, C_water, V_paid, xk_01, xk_10, xk_20, xk_30, eq_self, c3, ↓reduceIte], rfl⟩), rfl⟩
  · skip
    refine xr_callSv F (wr := bw h a t ++ (cw yI yZ a K V)) (rest := []) (As := [.int x, .int 0, .int 5]) (k_X1_requireIndex_ok l D yI yZ yL x 0 5 c3) (va_cwS 3 F.hts gX1_water_X1_requireIndex rfl rfl rfl (by decide +kernel) ⟨Nat.le_of_ble_eq_true rfl, Nat.le_of_ble_eq_true rfl⟩) [] [0, 1, 2, 3, 4, 5, 6, 7, 8, 9, 10, 11, 12] rfl rfl (by decide) (by decide) (by decide) rfl rfl (Nat.le_of_ble_eq_true rfl) dX1_water_3 ⟨Nat.le_of_ble_eq_true rfl, Nat.le_of_ble_eq_true rfl⟩ (fun W1 z1 => ?_)
    subst z1
    refine xr_ws (ws' := bw h a t ++ (cw yI yZ a K V)) rfl ?_
    obtain ⟨hx1, hx2⟩ := isIn_ix 5 (by decide) rfl c3
    refine xr_iload_n F dX1_water_6 rfl 2 rfl ?_
    refine xr_iconst F dX1_water_7 (v := 1) (by decide) ?_
    refine xr_bipush F dX1_water_8 (v := 60) (by decide) ?_
    by_cases c10 : c_isIn y 1 60 = 0
    · skip
      refine xr_callXSv F G (wr := bw h a t ++ (cw yI yZ a K V)) (rest := []) (As := [.int y, .int 1, .int 60]) (k_X1_requireArgument_bad l D yI yZ yL hst y 1 60 c10) (va_cwS 3 F.hts gX1_water_X1_requireArgument rfl rfl rfl (by decide +kernel) ⟨Nat.le_of_ble_eq_true rfl, Nat.le_of_ble_eq_true rfl⟩) [] [0, 1, 2, 3, 4, 5, 6, 7, 8, 9, 10, 11, 12] rfl rfl (by decide) (by decide) (by decide) rfl rfl (Nat.le_of_ble_eq_true rfl) dX1_water_10 ⟨Nat.le_of_ble_eq_true rfl, Nat.le_of_ble_eq_true rfl⟩ (fun E1 W1 z1 => ?_) (fun W1 z1 => z1.elim)
      obtain ⟨z0, z1⟩ := z1
      subst z0
      subst z1
      exact out _ _ _ _ _ ⟨(Or.inr (Or.inl ⟨by simp only [q_water, C_water, V_paid, xk_01, xk_10, xk_20, xk_30, eq_self, c3, c10, ↓reduceIte], rfl⟩)), rfl⟩
    · skip
      refine xr_callSv F (wr := bw h a t ++ (cw yI yZ a K V)) (rest := []) (As := [.int y, .int 1, .int 60]) (k_X1_requireArgument_ok l D yI yZ yL y 1 60 c10) (va_cwS 3 F.hts gX1_water_X1_requireArgument rfl rfl rfl (by decide +kernel) ⟨Nat.le_of_ble_eq_true rfl, Nat.le_of_ble_eq_true rfl⟩) [] [0, 1, 2, 3, 4, 5, 6, 7, 8, 9, 10, 11, 12] rfl rfl (by decide) (by decide) (by decide) rfl rfl (Nat.le_of_ble_eq_true rfl) dX1_water_10 ⟨Nat.le_of_ble_eq_true rfl, Nat.le_of_ble_eq_true rfl⟩ (fun W1 z1 => ?_)
      subst z1
      refine xr_ws (ws' := bw h a t ++ (cw yI yZ a K V)) rfl ?_
      refine xr_iload_n F dX1_water_13 rfl 2 rfl ?_
      refine xr_iconst F dX1_water_14 (v := 1) (by decide) ?_
      refine xr_iadd F (y + 1) dX1_water_15 rfl ?_
      refine xr_iconst F dX1_water_16 (v := 2) (by decide) ?_
      refine xr_idiv F ((y + 1) / 2) dX1_water_17 (by decide) rfl ?_
      refine xr_istore_n F [(3, .int ((y + 1) / 2)), (0, .ref h), (1, .int x), (2, .int y)] dX1_water_18 rfl (by decide) rfl ?_
      refine xr_aload_n F dX1_water_19 rfl 1 rfl ?_
      refine xr_get F hin1 0 rfl rfl 0 (by decide) (List.mem_of_getElem? (i := 3) rfl) (v := .ref (a 0)) rfl dX1_water_20 ?_
      refine xr_get F hin0 1 rfl rfl 1 (by decide) (List.mem_of_getElem? (i := 4) rfl) (v := .int (dBank V)) rfl dX1_water_23 ?_
      refine xr_iload_n F dX1_water_26 rfl 0 rfl ?_
      refine xr_icmp_ge F 40 dX1_water_27 (by decide) (fun c27 => ?_) (fun c27 => ?_)
      · skip
        refine xr_aload_n F dX1_water_40 rfl 1 rfl ?_
        refine xr_get F hin1 0 rfl rfl 0 (by decide) (List.mem_of_getElem? (i := 3) rfl) (v := .ref (a 0)) rfl dX1_water_41 ?_
        refine xr_dup F dX1_water_44 rfl ?_
        refine xr_get F hin0 1 rfl rfl 1 (by decide) (List.mem_of_getElem? (i := 4) rfl) (v := .int (dBank V)) rfl dX1_water_45 ?_
        refine xr_iload_n F dX1_water_48 rfl 0 rfl ?_
        refine xr_isub F ((dBank V) - ((y + 1) / 2)) dX1_water_49 rfl ?_
        refine xr_put (ty := .int) F hin0 1 rfl rfl 1 (by decide) tyX0 tyX0_ok nmX0 (List.mem_of_getElem? (i := 4) rfl) rfl (by decide) rfl rfl (Nat.le_of_ble_eq_true rfl) (bw h a t ++ (cwx yI yZ a (kFee K) (kDry K) (kMill K) (kMark K) (kNb K) (kSpr K) (kGoal K) (dHour V) ((dBank V) - ((y + 1) / 2)) (dLev V) (dOver V) (dDrawn V) (dFull V) (dLock V) (dFill V) (dAt V) (dPur V) (dSer V))) rfl dX1_water_50 ?_
        refine xr_aload_n F dX1_water_53 rfl 1 rfl ?_
        refine xr_get F hin1 0 rfl rfl 0 (by decide) (List.mem_of_getElem? (i := 3) rfl) (v := .ref (a 0)) rfl dX1_water_54 ?_
        refine xr_iload_n F dX1_water_57 rfl 2 rfl ?_
        refine xr_iload_n F dX1_water_58 rfl 3 rfl ?_
        refine xr_stk (st' := [.int y, .int (nI (ix x)), .ref (a 0)]) (by rw [← hx1]) ?_
        refine xr_stk (st' := [.int y, .int (nI (ix x + 1) - 1), .ref (a 0)]) (by rw [nI_pred]) ?_
        obtain ⟨V1, eV1⟩ : ∃ x9 : CD, x9 = (dHour V, (dBank V) - ((y + 1) / 2), dLev V, dOver V, dDrawn V, dFull V, dLock V, dFill V, dAt V, dPur V, dSer V) := ⟨_, rfl⟩
        refine xr_ws (ws' := bw h a t ++ (cw yI yZ a K V1)) (by rw [eV1, cw_mk]) ?_
        refine xr_callVv F (wr := bw h a t) (rest := []) (As := [.int (nI (ix x + 1) - 1), .int y]) (k_X0_pour l D yI yZ yL a K V1 (ix x + 1) y (by omega)) (cwV 2 F.hts gX1_water_X0_pour rfl rfl rfl (by decide +kernel) ⟨Nat.le_of_ble_eq_true rfl, Nat.le_of_ble_eq_true rfl⟩) (q0 := 0) rfl rfl [1, 2, 3, 4, 5, 6, 7, 8, 9, 10, 11, 12] [0] rfl rfl (by decide) (by decide) (by decide) rfl rfl (Nat.le_of_ble_eq_true rfl) dX1_water_59 ⟨Nat.le_of_ble_eq_true rfl, Nat.le_of_ble_eq_true rfl⟩ (fun W1 z1 => ?_)
        obtain ⟨V2, eV2⟩ : ∃ x9 : CD, x9 = c_pour V1 (ix x + 1) y := ⟨_, rfl⟩
        rw [← eV2] at z1
        subst z1
        refine xr_ws (ws' := bw h a t ++ (cw yI yZ a K V2)) rfl ?_
        refine xr_aload_n F dX1_water_62 rfl 1 rfl ?_
        refine xr_get F hin1 0 rfl rfl 0 (by decide) (List.mem_of_getElem? (i := 3) rfl) (v := .ref (a 0)) rfl dX1_water_63 ?_
        refine xr_get F hin0 1 rfl rfl 1 (by decide) (List.mem_of_getElem? (i := 4) rfl) (v := .int (dBank V2)) rfl dX1_water_66 ?_
        refine xr_widen (k := 1) (n := 6) (Nat.le_of_ble_eq_true rfl) (Nat.le_of_ble_eq_true rfl) ?_
        refine ret _ _ _ _ dX1_water_69 ⟨?_, ?_, ?_⟩
        · skip
          simp only [q_water, C_water, V_paid, xk_01, xk_10, xk_20, xk_30, eq_self, c3, c10, c27, ↓reduceIte]
        · skip
          subst eV2
          subst eV1
          first | with_reducible rfl | (simp only [q_water, C_water, V_paid, xk_01, xk_10, xk_20, xk_30, eq_self, c3, c10, c27, ↓reduceIte]; done) | (simp only [q_water, C_water, V_paid, xk_01, xk_10, xk_20, xk_30, eq_self, c3, c10, c27, ↓reduceIte]; rfl) | rfl
        · skip
          have f0 : C_water V x y = V2 := by
            subst eV2
            subst eV1
            simp only [q_water, C_water, V_paid, xk_01, xk_10, xk_20, xk_30, eq_self, c3, c10, c27, ↓reduceIte]
            try simp only [tHour, tBank, tLev, tOver, tDrawn, tFull, tLock, tFill, tAt, tPur, tSer, dHour, dBank, dLev, dOver, dDrawn, dFull, dLock, dFill, dAt, dPur, dSer, uFee, uDry, uMill, uMark, uNb, uSpr, uGoal, kFee, kDry, kMill, kMark, kNb, kSpr, kGoal]
          rw [f0]
      · skip
        obtain ⟨sa, hsa⟩ := G.2.2.1.2.2.1 (49, "the bank has not so many coins") (by decide)
        exact thr 30 47 49 51 sa xE3 _ _ [(3, .int ((y + 1) / 2)), (0, .ref h), (1, .int x), (2, .int y)] dX1_water_30 dX1_water_33 dX1_water_34 dX1_water_36 dX1_water_39 xk_fit3 (List.mem_of_getElem? (i := 1) rfl) (List.mem_of_getElem? (i := 2) rfl) hsa (xk_hat F.hts (fun w h => List.mem_cons_of_mem _ (List.mem_append_left _ (List.mem_append_left _ (List.mem_append_right _ h)))) xk_n51 G.2.2.1 (by decide)) xk_o51 ⟨(Or.inr (Or.inr ⟨by simp only [q_water, C_water, V_paid, xk_01, xk_10, xk_20, xk_30, eq_self, c3, c10, c27, ↓reduceIte], rfl⟩)), rfl⟩ (Nat.le_of_ble_eq_true rfl) (Nat.le_of_ble_eq_true rfl) (Nat.le_of_ble_eq_true rfl) (Nat.le_of_ble_eq_true rfl) (Nat.le_of_ble_eq_true rfl) (Nat.le_of_ble_eq_true rfl)

def rm_X1_work : Room := { frames := 7, cells := 1, slots := 6, locals := 104 }
set_option maxHeartbeats 4000000 in
set_option maxRecDepth 100000 in
/-- work -/
theorem k_X1_work (l : Launch) (D : va_G) (yI yZ yL : ClassId) (hst : l.stackTraces = false) (h : Nat) (a t : Nat → Nat) (K : CK) (V : CD) (x : Int32) (h0 : ∀ k, k < 5 → dFull V k = 0 ∨ dFull V k = 1) : xXi l yX1_work wsX1_work rm_X1_work D (tysG yI yZ yL) (bw h a t ++ (cw yI yZ a K V)) [.ref h, .int x] 1 6 (fun (r : Int32) (W1 : va_W) => q_work V x = 0 ∧ r = dFull (C_work V x) (ix x) ∧ W1 = bw h a t ++ (cw yI yZ a K (C_work V x))) (fun E W1 => ((q_work V x = 1 ∧ E = xE1) ∨ (q_work V x = 2 ∧ E = xE3)) ∧ W1 = bw h a t ++ (cw yI yZ a K V)) := by
  refine xEX_z (cc := cX1_work) (nL := 2) hst (by decide) rfl (Nat.le_of_ble_eq_true rfl) ?_
  intro p e s m args below meth c A Q F G ret out thr
  have hin0 : ∀ w ∈ u_ws RX0 TX0 18, w ∈ wsX1_work := by decide +kernel
  have hin1 : ∀ w ∈ u_ws RX1 TX1 2, w ∈ wsX1_work := by decide +kernel
  show AW p l e rm_X1_work s m args below meth c 2 D A 0 0 Q (bw h a t ++ (cw yI yZ a K V)) [(0, .ref h), (1, .int x)] 0 []
  refine xr_iload_n F dX1_work_0 rfl 1 rfl ?_
  refine xr_iconst F dX1_work_1 (v := 0) (by decide) ?_
  refine xr_iconst F dX1_work_2 (v := 4) (by decide) ?_
  by_cases c3 : c_isIn x 0 4 = 0
  · skip
    refine xr_callXSv F G (wr := bw h a t ++ (cw yI yZ a K V)) (rest := []) (As := [.int x, .int 0, .int 4]) (k_X1_requireIndex_bad l D yI yZ yL hst x 0 4 c3) (va_cwS 3 F.hts gX1_work_X1_requireIndex rfl rfl rfl (by decide +kernel) ⟨Nat.le_of_ble_eq_true rfl, Nat.le_of_ble_eq_true rfl⟩) [] [0, 1, 2, 3, 4, 5, 6, 7, 8, 9, 10, 11, 12] rfl rfl (by decide) (by decide) (by decide) rfl rfl (Nat.le_of_ble_eq_true rfl) dX1_work_3 ⟨Nat.le_of_ble_eq_true rfl, Nat.le_of_ble_eq_true rfl⟩ (fun E1 W1 z1 => ?_) (fun W1 z1 => z1.elim)
    obtain ⟨z0, z1⟩ := z1
    subst z0
    subst z1
    exact out _ _ _ _ _ ⟨(Or.inl ⟨by simp only [q_work, C_work, xk_01, xk_10, xk_20, xk_30, eq_self, c3, ↓reduceIte], rfl⟩), rfl⟩
  · skip
    refine xr_callSv F (wr := bw h a t ++ (cw yI yZ a K V)) (rest := []) (As := [.int x, .int 0, .int 4]) (k_X1_requireIndex_ok l D yI yZ yL x 0 4 c3) (va_cwS 3 F.hts gX1_work_X1_requireIndex rfl rfl rfl (by decide +kernel) ⟨Nat.le_of_ble_eq_true rfl, Nat.le_of_ble_eq_true rfl⟩) [] [0, 1, 2, 3, 4, 5, 6, 7, 8, 9, 10, 11, 12] rfl rfl (by decide) (by decide) (by decide) rfl rfl (Nat.le_of_ble_eq_true rfl) dX1_work_3 ⟨Nat.le_of_ble_eq_true rfl, Nat.le_of_ble_eq_true rfl⟩ (fun W1 z1 => ?_)
    subst z1
    refine xr_ws (ws' := bw h a t ++ (cw yI yZ a K V)) rfl ?_
    obtain ⟨hx1, hx2⟩ := isIn_ix 4 (by decide) rfl c3
    refine xr_aload_n F dX1_work_6 rfl 0 rfl ?_
    refine xr_get F hin1 0 rfl rfl 0 (by decide) (List.mem_of_getElem? (i := 3) rfl) (v := .ref (a 0)) rfl dX1_work_7 ?_
    refine xr_get F hin0 1 rfl rfl 10 (by decide) (List.mem_of_getElem? (i := 4) rfl) (v := .ref (a 5)) rfl dX1_work_10 ?_
    refine xr_iload_n F dX1_work_13 rfl 1 rfl ?_
    refine xr_zald F 6 1 rfl rfl (ix x) hx1 (by omega) (by decide) dX1_work_14 ?_
    refine xr_if_ne F 39 dX1_work_15 (by decide) (fun c15 => ?_) (fun c15 => ?_)
    · skip
      refine xr_aload_n F dX1_work_39 rfl 0 rfl ?_
      refine xr_get F hin1 0 rfl rfl 0 (by decide) (List.mem_of_getElem? (i := 3) rfl) (v := .ref (a 0)) rfl dX1_work_40 ?_
      refine xr_iload_n F dX1_work_43 rfl 1 rfl ?_
      refine xr_stk (st' := [.int (nI (ix x)), .ref (a 0)]) (by rw [← hx1]) ?_
      refine xr_callVv F (wr := bw h a t) (rest := []) (As := [.int (nI (ix x))]) (k_X0_turnChamber l D yI yZ yL a K V (ix x) (by omega)) (cwV 1 F.hts gX1_work_X0_turnChamber rfl rfl rfl (by decide +kernel) ⟨Nat.le_of_ble_eq_true rfl, Nat.le_of_ble_eq_true rfl⟩) (q0 := 0) rfl rfl [1, 2, 3, 4, 5, 6, 7, 8, 9, 10, 11, 12] [0] rfl rfl (by decide) (by decide) (by decide) rfl rfl (Nat.le_of_ble_eq_true rfl) dX1_work_44 ⟨Nat.le_of_ble_eq_true rfl, Nat.le_of_ble_eq_true rfl⟩ (fun W1 z1 => ?_)
      obtain ⟨V1, eV1⟩ : ∃ x9 : CD, x9 = c_turn V (ix x) := ⟨_, rfl⟩
      rw [← eV1] at z1
      subst z1
      refine xr_ws (ws' := bw h a t ++ (cw yI yZ a K V1)) rfl ?_
      refine xr_aload_n F dX1_work_47 rfl 0 rfl ?_
      refine xr_get F hin1 0 rfl rfl 0 (by decide) (List.mem_of_getElem? (i := 3) rfl) (v := .ref (a 0)) rfl dX1_work_48 ?_
      refine xr_get F hin0 1 rfl rfl 10 (by decide) (List.mem_of_getElem? (i := 4) rfl) (v := .ref (a 5)) rfl dX1_work_51 ?_
      refine xr_iload_n F dX1_work_54 rfl 1 rfl ?_
      refine xr_zald F 6 1 rfl rfl (ix x) hx1 (by omega) (by decide) dX1_work_55 ?_
      refine xr_widen (k := 1) (n := 6) (Nat.le_of_ble_eq_true rfl) (Nat.le_of_ble_eq_true rfl) ?_
      refine ret _ _ _ _ dX1_work_56 (nz01 (by first | (rw [eV1]; exact c_turn_full (h0 _ (by omega))) | (rw [eV2]; exact c_turn_full (h0 _ (by omega))))) ⟨?_, ?_, ?_⟩
      · skip
        simp only [q_work, C_work, xk_01, xk_10, xk_20, xk_30, eq_self, c3, c15, ↓reduceIte]
      · skip
        subst eV1
        first | with_reducible rfl | (simp only [q_work, C_work, xk_01, xk_10, xk_20, xk_30, eq_self, c3, c15, ↓reduceIte]; done) | (simp only [q_work, C_work, xk_01, xk_10, xk_20, xk_30, eq_self, c3, c15, ↓reduceIte]; rfl) | rfl
      · skip
        have f0 : C_work V x = V1 := by
          subst eV1
          simp only [q_work, C_work, xk_01, xk_10, xk_20, xk_30, eq_self, c3, c15, ↓reduceIte]
          try simp only [tHour, tBank, tLev, tOver, tDrawn, tFull, tLock, tFill, tAt, tPur, tSer, dHour, dBank, dLev, dOver, dDrawn, dFull, dLock, dFill, dAt, dPur, dSer, uFee, uDry, uMill, uMark, uNb, uSpr, uGoal, kFee, kDry, kMill, kMark, kNb, kSpr, kGoal]
        rw [f0]
    · skip
      refine xr_aload_n F dX1_work_18 rfl 0 rfl ?_
      refine xr_get F hin1 0 rfl rfl 0 (by decide) (List.mem_of_getElem? (i := 3) rfl) (v := .ref (a 0)) rfl dX1_work_19 ?_
      refine xr_iload_n F dX1_work_22 rfl 1 rfl ?_
      refine xr_stk (st' := [.int (nI (ix x)), .ref (a 0)]) (by rw [← hx1]) ?_
      refine xr_callVz F (wr := bw h a t) (rest := []) (As := [.int (nI (ix x))]) (k_X0_canFill l D yI yZ yL a K V (ix x) (by omega)) (cwV 1 F.hts gX1_work_X0_canFill rfl rfl rfl (by decide +kernel) ⟨Nat.le_of_ble_eq_true rfl, Nat.le_of_ble_eq_true rfl⟩) (q0 := 0) rfl rfl [1, 2, 3, 4, 5, 6, 7, 8, 9, 10, 11, 12] [0] rfl rfl (by decide) (by decide) (by decide) rfl rfl (Nat.le_of_ble_eq_true rfl) dX1_work_23 ⟨Nat.le_of_ble_eq_true rfl, Nat.le_of_ble_eq_true rfl⟩ (fun r1 W1 z1 => ?_)
      obtain ⟨z0, z1⟩ := z1
      subst z0
      subst z1
      refine xr_ws (ws' := bw h a t ++ (cw yI yZ a K V)) rfl ?_
      refine xr_if_ne F 39 dX1_work_26 (by decide) (fun c26 => ?_) (fun c26 => ?_)
      · skip
        refine xr_aload_n F dX1_work_39 rfl 0 rfl ?_
        refine xr_get F hin1 0 rfl rfl 0 (by decide) (List.mem_of_getElem? (i := 3) rfl) (v := .ref (a 0)) rfl dX1_work_40 ?_
        refine xr_iload_n F dX1_work_43 rfl 1 rfl ?_
        refine xr_stk (st' := [.int (nI (ix x)), .ref (a 0)]) (by rw [← hx1]) ?_
        refine xr_callVv F (wr := bw h a t) (rest := []) (As := [.int (nI (ix x))]) (k_X0_turnChamber l D yI yZ yL a K V (ix x) (by omega)) (cwV 1 F.hts gX1_work_X0_turnChamber rfl rfl rfl (by decide +kernel) ⟨Nat.le_of_ble_eq_true rfl, Nat.le_of_ble_eq_true rfl⟩) (q0 := 0) rfl rfl [1, 2, 3, 4, 5, 6, 7, 8, 9, 10, 11, 12] [0] rfl rfl (by decide) (by decide) (by decide) rfl rfl (Nat.le_of_ble_eq_true rfl) dX1_work_44 ⟨Nat.le_of_ble_eq_true rfl, Nat.le_of_ble_eq_true rfl⟩ (fun W1 z1 => ?_)
        obtain ⟨V2, eV2⟩ : ∃ x9 : CD, x9 = c_turn V (ix x) := ⟨_, rfl⟩
        rw [← eV2] at z1
        subst z1
        refine xr_ws (ws' := bw h a t ++ (cw yI yZ a K V2)) rfl ?_
        refine xr_aload_n F dX1_work_47 rfl 0 rfl ?_
        refine xr_get F hin1 0 rfl rfl 0 (by decide) (List.mem_of_getElem? (i := 3) rfl) (v := .ref (a 0)) rfl dX1_work_48 ?_
        refine xr_get F hin0 1 rfl rfl 10 (by decide) (List.mem_of_getElem? (i := 4) rfl) (v := .ref (a 5)) rfl dX1_work_51 ?_
        refine xr_iload_n F dX1_work_54 rfl 1 rfl ?_
        refine xr_zald F 6 1 rfl rfl (ix x) hx1 (by omega) (by decide) dX1_work_55 ?_
        refine xr_widen (k := 1) (n := 6) (Nat.le_of_ble_eq_true rfl) (Nat.le_of_ble_eq_true rfl) ?_
        refine ret _ _ _ _ dX1_work_56 (nz01 (by first | (rw [eV1]; exact c_turn_full (h0 _ (by omega))) | (rw [eV2]; exact c_turn_full (h0 _ (by omega))))) ⟨?_, ?_, ?_⟩
        · skip
          simp only [q_work, C_work, xk_01, xk_10, xk_20, xk_30, eq_self, c3, c15, c26, ↓reduceIte]
        · skip
          subst eV2
          first | with_reducible rfl | (simp only [q_work, C_work, xk_01, xk_10, xk_20, xk_30, eq_self, c3, c15, c26, ↓reduceIte]; done) | (simp only [q_work, C_work, xk_01, xk_10, xk_20, xk_30, eq_self, c3, c15, c26, ↓reduceIte]; rfl) | rfl
        · skip
          have f0 : C_work V x = V2 := by
            subst eV2
            simp only [q_work, C_work, xk_01, xk_10, xk_20, xk_30, eq_self, c3, c15, c26, ↓reduceIte]
            try simp only [tHour, tBank, tLev, tOver, tDrawn, tFull, tLock, tFill, tAt, tPur, tSer, dHour, dBank, dLev, dOver, dDrawn, dFull, dLock, dFill, dAt, dPur, dSer, uFee, uDry, uMill, uMark, uNb, uSpr, uGoal, kFee, kDry, kMill, kMark, kNb, kSpr, kGoal]
          rw [f0]
      · skip
        obtain ⟨sa, hsa⟩ := G.2.2.1.2.2.1 (66, "no filling can be had") (by decide)
        exact thr 29 47 66 51 sa xE3 _ _ [(0, .ref h), (1, .int x)] dX1_work_29 dX1_work_32 dX1_work_33 dX1_work_35 dX1_work_38 xk_fit3 (List.mem_of_getElem? (i := 1) rfl) (List.mem_of_getElem? (i := 2) rfl) hsa (xk_hat F.hts (fun w h => List.mem_cons_of_mem _ (List.mem_append_left _ (List.mem_append_right _ h))) xk_n51 G.2.2.1 (by decide)) xk_o51 ⟨(Or.inr ⟨by simp only [q_work, C_work, xk_01, xk_10, xk_20, xk_30, eq_self, c3, c15, c26, ↓reduceIte], rfl⟩), rfl⟩ (Nat.le_of_ble_eq_true rfl) (Nat.le_of_ble_eq_true rfl) (Nat.le_of_ble_eq_true rfl) (Nat.le_of_ble_eq_true rfl) (Nat.le_of_ble_eq_true rfl) (Nat.le_of_ble_eq_true rfl)

def rm_X1_barge : Room := { frames := 7, cells := 1, slots := 6, locals := 104 }
set_option maxHeartbeats 4000000 in
set_option maxRecDepth 100000 in
/-- barge -/
theorem k_X1_barge (l : Launch) (D : va_G) (yI yZ yL : ClassId) (hst : l.stackTraces = false) (h : Nat) (a t : Nat → Nat) (K : CK) (V : CD) (x : Int32) (y : Int32) (z : Int32) (h0 : kNb K ≤ 10) : xXi l yX1_barge wsX1_barge rm_X1_barge D (tysG yI yZ yL) (bw h a t ++ (cw yI yZ a K V)) [.ref h, .int x, .int y, .int z] 1 6 (fun (r : Int32) (W1 : va_W) => q_barge K x y z = 0 ∧ r = nI (kNb K) ∧ W1 = bw h a t ++ (cw yI yZ a (K_barge K x y z) (V_barge K V x y z))) (fun E W1 => ((q_barge K x y z = 1 ∧ E = xE1) ∨ (q_barge K x y z = 2 ∧ E = xE2) ∨ (q_barge K x y z = 3 ∧ E = xE3)) ∧ W1 = bw h a t ++ (cw yI yZ a K V)) := by
  refine xEX_i (cc := cX1_barge) (nL := 5) hst (by decide) rfl (Nat.le_of_ble_eq_true rfl) ?_
  intro p e s m args below meth c A Q F G ret out thr
  have hin0 : ∀ w ∈ u_ws RX0 TX0 18, w ∈ wsX1_barge := by decide +kernel
  have hin1 : ∀ w ∈ u_ws RX1 TX1 2, w ∈ wsX1_barge := by decide +kernel
  show AW p l e rm_X1_barge s m args below meth c 5 D A 0 0 Q (bw h a t ++ (cw yI yZ a K V)) [(0, .ref h), (1, .int x), (2, .int y), (3, .int z)] 0 []
  refine xr_iload_n F dX1_barge_0 rfl 1 rfl ?_
  refine xr_iconst F dX1_barge_1 (v := 0) (by decide) ?_
  refine xr_iconst F dX1_barge_2 (v := 5) (by decide) ?_
  by_cases c3 : c_isIn x 0 5 = 0
  · skip
    refine xr_callXSv F G (wr := bw h a t ++ (cw yI yZ a K V)) (rest := []) (As := [.int x, .int 0, .int 5]) (k_X1_requireIndex_bad l D yI yZ yL hst x 0 5 c3) (va_cwS 3 F.hts gX1_barge_X1_requireIndex rfl rfl rfl (by decide +kernel) ⟨Nat.le_of_ble_eq_true rfl, Nat.le_of_ble_eq_true rfl⟩) [] [0, 1, 2, 3, 4, 5, 6, 7, 8, 9, 10, 11, 12] rfl rfl (by decide) (by decide) (by decide) rfl rfl (Nat.le_of_ble_eq_true rfl) dX1_barge_3 ⟨Nat.le_of_ble_eq_true rfl, Nat.le_of_ble_eq_true rfl⟩ (fun E1 W1 z1 => ?_) (fun W1 z1 => z1.elim)
    obtain ⟨z0, z1⟩ := z1
    subst z0
    subst z1
    exact out _ _ _ _ _ ⟨(Or.inl ⟨by simp only [q_barge, K_barge, V_barge, xk_01, xk_10, xk_20, xk_30, eq_self, c3, ↓reduceIte], rfl⟩), rfl⟩
  · skip
    refine xr_callSv F (wr := bw h a t ++ (cw yI yZ a K V)) (rest := []) (As := [.int x, .int 0, .int 5]) (k_X1_requireIndex_ok l D yI yZ yL x 0 5 c3) (va_cwS 3 F.hts gX1_barge_X1_requireIndex rfl rfl rfl (by decide +kernel) ⟨Nat.le_of_ble_eq_true rfl, Nat.le_of_ble_eq_true rfl⟩) [] [0, 1, 2, 3, 4, 5, 6, 7, 8, 9, 10, 11, 12] rfl rfl (by decide) (by decide) (by decide) rfl rfl (Nat.le_of_ble_eq_true rfl) dX1_barge_3 ⟨Nat.le_of_ble_eq_true rfl, Nat.le_of_ble_eq_true rfl⟩ (fun W1 z1 => ?_)
    subst z1
    refine xr_ws (ws' := bw h a t ++ (cw yI yZ a K V)) rfl ?_
    refine xr_iload_n F dX1_barge_6 rfl 2 rfl ?_
    refine xr_iconst F dX1_barge_7 (v := 0) (by decide) ?_
    refine xr_iconst F dX1_barge_8 (v := 5) (by decide) ?_
    by_cases c9 : c_isIn y 0 5 = 0
    · skip
      refine xr_callXSv F G (wr := bw h a t ++ (cw yI yZ a K V)) (rest := []) (As := [.int y, .int 0, .int 5]) (k_X1_requireIndex_bad l D yI yZ yL hst y 0 5 c9) (va_cwS 3 F.hts gX1_barge_X1_requireIndex rfl rfl rfl (by decide +kernel) ⟨Nat.le_of_ble_eq_true rfl, Nat.le_of_ble_eq_true rfl⟩) [] [0, 1, 2, 3, 4, 5, 6, 7, 8, 9, 10, 11, 12] rfl rfl (by decide) (by decide) (by decide) rfl rfl (Nat.le_of_ble_eq_true rfl) dX1_barge_9 ⟨Nat.le_of_ble_eq_true rfl, Nat.le_of_ble_eq_true rfl⟩ (fun E1 W1 z1 => ?_) (fun W1 z1 => z1.elim)
      obtain ⟨z0, z1⟩ := z1
      subst z0
      subst z1
      exact out _ _ _ _ _ ⟨(Or.inl ⟨by simp only [q_barge, K_barge, V_barge, xk_01, xk_10, xk_20, xk_30, eq_self, c3, c9, ↓reduceIte], rfl⟩), rfl⟩
    · skip
      refine xr_callSv F (wr := bw h a t ++ (cw yI yZ a K V)) (rest := []) (As := [.int y, .int 0, .int 5]) (k_X1_requireIndex_ok l D yI yZ yL y 0 5 c9) (va_cwS 3 F.hts gX1_barge_X1_requireIndex rfl rfl rfl (by decide +kernel) ⟨Nat.le_of_ble_eq_true rfl, Nat.le_of_ble_eq_true rfl⟩) [] [0, 1, 2, 3, 4, 5, 6, 7, 8, 9, 10, 11, 12] rfl rfl (by decide) (by decide) (by decide) rfl rfl (Nat.le_of_ble_eq_true rfl) dX1_barge_9 ⟨Nat.le_of_ble_eq_true rfl, Nat.le_of_ble_eq_true rfl⟩ (fun W1 z1 => ?_)
      subst z1
      refine xr_ws (ws' := bw h a t ++ (cw yI yZ a K V)) rfl ?_
      refine xr_iload_n F dX1_barge_12 rfl 3 rfl ?_
      refine xr_iconst F dX1_barge_13 (v := 0) (by decide) ?_
      refine xr_bipush F dX1_barge_14 (v := 99) (by decide) ?_
      by_cases c16 : c_isIn z 0 99 = 0
      · skip
        refine xr_callXSv F G (wr := bw h a t ++ (cw yI yZ a K V)) (rest := []) (As := [.int z, .int 0, .int 99]) (k_X1_requireArgument_bad l D yI yZ yL hst z 0 99 c16) (va_cwS 3 F.hts gX1_barge_X1_requireArgument rfl rfl rfl (by decide +kernel) ⟨Nat.le_of_ble_eq_true rfl, Nat.le_of_ble_eq_true rfl⟩) [] [0, 1, 2, 3, 4, 5, 6, 7, 8, 9, 10, 11, 12] rfl rfl (by decide) (by decide) (by decide) rfl rfl (Nat.le_of_ble_eq_true rfl) dX1_barge_16 ⟨Nat.le_of_ble_eq_true rfl, Nat.le_of_ble_eq_true rfl⟩ (fun E1 W1 z1 => ?_) (fun W1 z1 => z1.elim)
        obtain ⟨z0, z1⟩ := z1
        subst z0
        subst z1
        exact out _ _ _ _ _ ⟨(Or.inr (Or.inl ⟨by simp only [q_barge, K_barge, V_barge, xk_01, xk_10, xk_20, xk_30, eq_self, c3, c9, c16, ↓reduceIte], rfl⟩)), rfl⟩
      · skip
        refine xr_callSv F (wr := bw h a t ++ (cw yI yZ a K V)) (rest := []) (As := [.int z, .int 0, .int 99]) (k_X1_requireArgument_ok l D yI yZ yL z 0 99 c16) (va_cwS 3 F.hts gX1_barge_X1_requireArgument rfl rfl rfl (by decide +kernel) ⟨Nat.le_of_ble_eq_true rfl, Nat.le_of_ble_eq_true rfl⟩) [] [0, 1, 2, 3, 4, 5, 6, 7, 8, 9, 10, 11, 12] rfl rfl (by decide) (by decide) (by decide) rfl rfl (Nat.le_of_ble_eq_true rfl) dX1_barge_16 ⟨Nat.le_of_ble_eq_true rfl, Nat.le_of_ble_eq_true rfl⟩ (fun W1 z1 => ?_)
        subst z1
        refine xr_ws (ws' := bw h a t ++ (cw yI yZ a K V)) rfl ?_
        refine xr_aload_n F dX1_barge_19 rfl 0 rfl ?_
        refine xr_get F hin1 0 rfl rfl 0 (by decide) (List.mem_of_getElem? (i := 3) rfl) (v := .ref (a 0)) rfl dX1_barge_20 ?_
        refine xr_get F hin0 1 rfl rfl 13 (by decide) (List.mem_of_getElem? (i := 4) rfl) (v := .int (nI (kNb K))) rfl dX1_barge_23 ?_
        refine xr_istore F [(4, .int (nI (kNb K))), (0, .ref h), (1, .int x), (2, .int y), (3, .int z)] dX1_barge_26 (by decide) rfl ?_
        refine xr_iload F dX1_barge_28 0 rfl ?_
        refine xr_bipush F dX1_barge_30 (v := 10) (by decide) ?_
        refine xr_icmp_lt F 45 dX1_barge_32 (by decide) (fun c32 => ?_) (fun c32 => ?_)
        · skip
          obtain ⟨hn, c32⟩ := xk_nblt (kNb K) (by omega) c32
          refine xr_aload_n F dX1_barge_45 rfl 1 rfl ?_
          refine xr_get F hin1 0 rfl rfl 0 (by decide) (List.mem_of_getElem? (i := 3) rfl) (v := .ref (a 0)) rfl dX1_barge_46 ?_
          refine xr_get F hin0 1 rfl rfl 14 (by decide) (List.mem_of_getElem? (i := 5) rfl) (v := .ref (a 8)) rfl dX1_barge_49 ?_
          refine xr_iload F dX1_barge_52 0 rfl ?_
          refine xr_iload_n F dX1_barge_54 rfl 2 rfl ?_
          refine xr_iast F 9 0 rfl rfl (kNb K) rfl (by omega) (by decide) (bw h a t ++ (cwx yI yZ a (kFee K) (kDry K) (kMill K) (kMark K) (kNb K) (kSpr K) (kGoal K) (dHour V) (dBank V) (dLev V) (dOver V) (dDrawn V) (dFull V) (dLock V) (dFill V) (upd (dAt V) (kNb K) x) (dPur V) (dSer V))) rfl dX1_barge_55 ?_
          refine xr_aload_n F dX1_barge_56 rfl 1 rfl ?_
          refine xr_get F hin1 0 rfl rfl 0 (by decide) (List.mem_of_getElem? (i := 3) rfl) (v := .ref (a 0)) rfl dX1_barge_57 ?_
          refine xr_get F hin0 1 rfl rfl 15 (by decide) (List.mem_of_getElem? (i := 6) rfl) (v := .ref (a 9)) rfl dX1_barge_60 ?_
          refine xr_iload F dX1_barge_63 0 rfl ?_
          refine xr_iload_n F dX1_barge_65 rfl 3 rfl ?_
          refine xr_iast F 10 0 rfl rfl (kNb K) rfl (by omega) (by decide) (bw h a t ++ (cwx yI yZ a (kFee K) (kDry K) (kMill K) (kMark K) (kNb K) (kSpr K) (upd (kGoal K) (kNb K) y) (dHour V) (dBank V) (dLev V) (dOver V) (dDrawn V) (dFull V) (dLock V) (dFill V) (upd (dAt V) (kNb K) x) (dPur V) (dSer V))) rfl dX1_barge_66 ?_
          refine xr_aload_n F dX1_barge_67 rfl 1 rfl ?_
          refine xr_get F hin1 0 rfl rfl 0 (by decide) (List.mem_of_getElem? (i := 3) rfl) (v := .ref (a 0)) rfl dX1_barge_68 ?_
          refine xr_get F hin0 1 rfl rfl 16 (by decide) (List.mem_of_getElem? (i := 7) rfl) (v := .ref (a 10)) rfl dX1_barge_71 ?_
          refine xr_iload F dX1_barge_74 0 rfl ?_
          refine xr_iload_n F dX1_barge_76 rfl 4 rfl ?_
          refine xr_iast F 11 0 rfl rfl (kNb K) rfl (by omega) (by decide) (bw h a t ++ (cwx yI yZ a (kFee K) (kDry K) (kMill K) (kMark K) (kNb K) (kSpr K) (upd (kGoal K) (kNb K) y) (dHour V) (dBank V) (dLev V) (dOver V) (dDrawn V) (dFull V) (dLock V) (dFill V) (upd (dAt V) (kNb K) x) (upd (dPur V) (kNb K) z) (dSer V))) rfl dX1_barge_77 ?_
          refine xr_aload_n F dX1_barge_78 rfl 1 rfl ?_
          refine xr_get F hin1 0 rfl rfl 0 (by decide) (List.mem_of_getElem? (i := 3) rfl) (v := .ref (a 0)) rfl dX1_barge_79 ?_
          refine xr_iload F dX1_barge_82 0 rfl ?_
          refine xr_iconst F dX1_barge_84 (v := 1) (by decide) ?_
          refine xr_iadd F (nI (kNb K + 1)) dX1_barge_85 (nI_add (kNb K) 1) ?_
          refine xr_put (ty := .int) F hin0 1 rfl rfl 13 (by decide) tyX0 tyX0_ok nmX0 (List.mem_of_getElem? (i := 4) rfl) rfl (by decide) rfl rfl (Nat.le_of_ble_eq_true rfl) (bw h a t ++ (cwx yI yZ a (kFee K) (kDry K) (kMill K) (kMark K) (kNb K + 1) (kSpr K) (upd (kGoal K) (kNb K) y) (dHour V) (dBank V) (dLev V) (dOver V) (dDrawn V) (dFull V) (dLock V) (dFill V) (upd (dAt V) (kNb K) x) (upd (dPur V) (kNb K) z) (dSer V))) rfl dX1_barge_86 ?_
          refine xr_iload F dX1_barge_89 0 rfl ?_
          refine xr_widen (k := 1) (n := 6) (Nat.le_of_ble_eq_true rfl) (Nat.le_of_ble_eq_true rfl) ?_
          refine ret _ _ _ _ dX1_barge_91 ⟨?_, ?_, ?_⟩
          · skip
            simp only [q_barge, K_barge, V_barge, xk_01, xk_10, xk_20, xk_30, eq_self, c3, c9, c16, c32, ↓reduceIte]
          · skip
            first | with_reducible rfl | (simp only [q_barge, K_barge, V_barge, xk_01, xk_10, xk_20, xk_30, eq_self, c3, c9, c16, c32, ↓reduceIte]; done) | (simp only [q_barge, K_barge, V_barge, xk_01, xk_10, xk_20, xk_30, eq_self, c3, c9, c16, c32, ↓reduceIte]; rfl) | rfl
          · skip
            have f0 : K_barge K x y z = (kFee K, kDry K, kMill K, kMark K, kNb K + 1, kSpr K, upd (kGoal K) (kNb K) y) := by
              simp only [q_barge, K_barge, V_barge, xk_01, xk_10, xk_20, xk_30, eq_self, c3, c9, c16, c32, ↓reduceIte]
              try simp only [tHour, tBank, tLev, tOver, tDrawn, tFull, tLock, tFill, tAt, tPur, tSer, dHour, dBank, dLev, dOver, dDrawn, dFull, dLock, dFill, dAt, dPur, dSer, uFee, uDry, uMill, uMark, uNb, uSpr, uGoal, kFee, kDry, kMill, kMark, kNb, kSpr, kGoal]
            have f1 : V_barge K V x y z = (dHour V, dBank V, dLev V, dOver V, dDrawn V, dFull V, dLock V, dFill V, upd (dAt V) (kNb K) x, upd (dPur V) (kNb K) z, dSer V) := by
              simp only [q_barge, K_barge, V_barge, xk_01, xk_10, xk_20, xk_30, eq_self, c3, c9, c16, c32, ↓reduceIte]
              try simp only [tHour, tBank, tLev, tOver, tDrawn, tFull, tLock, tFill, tAt, tPur, tSer, dHour, dBank, dLev, dOver, dDrawn, dFull, dLock, dFill, dAt, dPur, dSer, uFee, uDry, uMill, uMark, uNb, uSpr, uGoal, kFee, kDry, kMill, kMark, kNb, kSpr, kGoal]
            rw [f0, f1, cw_mkB]
        · skip
          replace c32 := xk_nbge (kNb K) (by omega) c32
          obtain ⟨sa, hsa⟩ := G.2.2.1.2.2.1 (75, "no more barges can come") (by decide)
          exact thr 35 47 75 51 sa xE3 _ _ [(4, .int (nI (kNb K))), (0, .ref h), (1, .int x), (2, .int y), (3, .int z)] dX1_barge_35 dX1_barge_38 dX1_barge_39 dX1_barge_41 dX1_barge_44 xk_fit3 (List.mem_of_getElem? (i := 1) rfl) (List.mem_of_getElem? (i := 2) rfl) hsa (xk_hat F.hts (fun w h => List.mem_cons_of_mem _ (List.mem_append_left _ (List.mem_append_left _ (List.mem_append_right _ h)))) xk_n51 G.2.2.1 (by decide)) xk_o51 ⟨(Or.inr (Or.inr ⟨by simp only [q_barge, K_barge, V_barge, xk_01, xk_10, xk_20, xk_30, eq_self, c3, c9, c16, c32, ↓reduceIte], rfl⟩)), rfl⟩ (Nat.le_of_ble_eq_true rfl) (Nat.le_of_ble_eq_true rfl) (Nat.le_of_ble_eq_true rfl) (Nat.le_of_ble_eq_true rfl) (Nat.le_of_ble_eq_true rfl) (Nat.le_of_ble_eq_true rfl)

def rm_X1_send : Room := { frames := 7, cells := 1, slots := 6, locals := 104 }
set_option maxHeartbeats 4000000 in
set_option maxRecDepth 100000 in
/-- send -/
theorem k_X1_send (l : Launch) (D : va_G) (yI yZ yL : ClassId) (hst : l.stackTraces = false) (h : Nat) (a t : Nat → Nat) (K : CK) (V : CD) (x : Int32) (y : Int32) (h0 : kNb K ≤ 10) : xXi l yX1_send wsX1_send rm_X1_send D (tysG yI yZ yL) (bw h a t ++ (cw yI yZ a K V)) [.ref h, .int x, .int y] 1 6 (fun (r : Int32) (W1 : va_W) => q_send K x y = 0 ∧ r = kGoal K (ix x) ∧ W1 = bw h a t ++ (cw yI yZ a (K_send K x y) V)) (fun E W1 => ((q_send K x y = 1 ∧ E = xE1)) ∧ W1 = bw h a t ++ (cw yI yZ a K V)) := by
  refine xEX_i (cc := cX1_send) (nL := 4) hst (by decide) rfl (Nat.le_of_ble_eq_true rfl) ?_
  intro p e s m args below meth c A Q F G ret out thr
  have hin0 : ∀ w ∈ u_ws RX0 TX0 18, w ∈ wsX1_send := by decide +kernel
  have hin1 : ∀ w ∈ u_ws RX1 TX1 2, w ∈ wsX1_send := by decide +kernel
  show AW p l e rm_X1_send s m args below meth c 4 D A 0 0 Q (bw h a t ++ (cw yI yZ a K V)) [(0, .ref h), (1, .int x), (2, .int y)] 0 []
  refine xr_iload_n F dX1_send_0 rfl 1 rfl ?_
  refine xr_iconst F dX1_send_1 (v := 0) (by decide) ?_
  refine xr_aload_n F dX1_send_2 rfl 0 rfl ?_
  refine xr_get F hin1 0 rfl rfl 0 (by decide) (List.mem_of_getElem? (i := 1) rfl) (v := .ref (a 0)) rfl dX1_send_3 ?_
  refine xr_get F hin0 1 rfl rfl 13 (by decide) (List.mem_of_getElem? (i := 2) rfl) (v := .int (nI (kNb K))) rfl dX1_send_6 ?_
  refine xr_iconst F dX1_send_9 (v := 1) (by decide) ?_
  refine xr_isub F ((nI (kNb K)) - 1) dX1_send_10 rfl ?_
  by_cases c11 : c_isIn x 0 ((nI (kNb K)) - 1) = 0
  · skip
    refine xr_callXSv F G (wr := bw h a t ++ (cw yI yZ a K V)) (rest := []) (As := [.int x, .int 0, .int ((nI (kNb K)) - 1)]) (k_X1_requireIndex_bad l D yI yZ yL hst x 0 ((nI (kNb K)) - 1) c11) (va_cwS 3 F.hts gX1_send_X1_requireIndex rfl rfl rfl (by decide +kernel) ⟨Nat.le_of_ble_eq_true rfl, Nat.le_of_ble_eq_true rfl⟩) [] [0, 1, 2, 3, 4, 5, 6, 7, 8, 9, 10, 11, 12] rfl rfl (by decide) (by decide) (by decide) rfl rfl (Nat.le_of_ble_eq_true rfl) dX1_send_11 ⟨Nat.le_of_ble_eq_true rfl, Nat.le_of_ble_eq_true rfl⟩ (fun E1 W1 z1 => ?_) (fun W1 z1 => z1.elim)
    obtain ⟨z0, z1⟩ := z1
    subst z0
    subst z1
    exact out _ _ _ _ _ ⟨⟨by simp only [q_send, K_send, xk_01, xk_10, xk_20, xk_30, eq_self, c11, ↓reduceIte], rfl⟩, rfl⟩
  · skip
    refine xr_callSv F (wr := bw h a t ++ (cw yI yZ a K V)) (rest := []) (As := [.int x, .int 0, .int ((nI (kNb K)) - 1)]) (k_X1_requireIndex_ok l D yI yZ yL x 0 ((nI (kNb K)) - 1) c11) (va_cwS 3 F.hts gX1_send_X1_requireIndex rfl rfl rfl (by decide +kernel) ⟨Nat.le_of_ble_eq_true rfl, Nat.le_of_ble_eq_true rfl⟩) [] [0, 1, 2, 3, 4, 5, 6, 7, 8, 9, 10, 11, 12] rfl rfl (by decide) (by decide) (by decide) rfl rfl (Nat.le_of_ble_eq_true rfl) dX1_send_11 ⟨Nat.le_of_ble_eq_true rfl, Nat.le_of_ble_eq_true rfl⟩ (fun W1 z1 => ?_)
    subst z1
    refine xr_ws (ws' := bw h a t ++ (cw yI yZ a K V)) rfl ?_
    obtain ⟨hx1, hx2⟩ := isIn_nb (by omega) c11
    refine xr_iload_n F dX1_send_14 rfl 2 rfl ?_
    refine xr_iconst F dX1_send_15 (v := 0) (by decide) ?_
    refine xr_iconst F dX1_send_16 (v := 5) (by decide) ?_
    by_cases c17 : c_isIn y 0 5 = 0
    · skip
      refine xr_callXSv F G (wr := bw h a t ++ (cw yI yZ a K V)) (rest := []) (As := [.int y, .int 0, .int 5]) (k_X1_requireIndex_bad l D yI yZ yL hst y 0 5 c17) (va_cwS 3 F.hts gX1_send_X1_requireIndex rfl rfl rfl (by decide +kernel) ⟨Nat.le_of_ble_eq_true rfl, Nat.le_of_ble_eq_true rfl⟩) [] [0, 1, 2, 3, 4, 5, 6, 7, 8, 9, 10, 11, 12] rfl rfl (by decide) (by decide) (by decide) rfl rfl (Nat.le_of_ble_eq_true rfl) dX1_send_17 ⟨Nat.le_of_ble_eq_true rfl, Nat.le_of_ble_eq_true rfl⟩ (fun E1 W1 z1 => ?_) (fun W1 z1 => z1.elim)
      obtain ⟨z0, z1⟩ := z1
      subst z0
      subst z1
      exact out _ _ _ _ _ ⟨⟨by simp only [q_send, K_send, xk_01, xk_10, xk_20, xk_30, eq_self, c11, c17, ↓reduceIte], rfl⟩, rfl⟩
    · skip
      refine xr_callSv F (wr := bw h a t ++ (cw yI yZ a K V)) (rest := []) (As := [.int y, .int 0, .int 5]) (k_X1_requireIndex_ok l D yI yZ yL y 0 5 c17) (va_cwS 3 F.hts gX1_send_X1_requireIndex rfl rfl rfl (by decide +kernel) ⟨Nat.le_of_ble_eq_true rfl, Nat.le_of_ble_eq_true rfl⟩) [] [0, 1, 2, 3, 4, 5, 6, 7, 8, 9, 10, 11, 12] rfl rfl (by decide) (by decide) (by decide) rfl rfl (Nat.le_of_ble_eq_true rfl) dX1_send_17 ⟨Nat.le_of_ble_eq_true rfl, Nat.le_of_ble_eq_true rfl⟩ (fun W1 z1 => ?_)
      subst z1
      refine xr_ws (ws' := bw h a t ++ (cw yI yZ a K V)) rfl ?_
      refine xr_aload_n F dX1_send_20 rfl 0 rfl ?_
      refine xr_get F hin1 0 rfl rfl 0 (by decide) (List.mem_of_getElem? (i := 1) rfl) (v := .ref (a 0)) rfl dX1_send_21 ?_
      refine xr_get F hin0 1 rfl rfl 15 (by decide) (List.mem_of_getElem? (i := 3) rfl) (v := .ref (a 9)) rfl dX1_send_24 ?_
      refine xr_iload_n F dX1_send_27 rfl 1 rfl ?_
      refine xr_iald F 10 0 rfl rfl (ix x) hx1 (by omega) (by decide) dX1_send_28 ?_
      refine xr_istore_n F [(3, .int ((kGoal K) (ix x))), (0, .ref h), (1, .int x), (2, .int y)] dX1_send_29 rfl (by decide) rfl ?_
      refine xr_aload_n F dX1_send_30 rfl 1 rfl ?_
      refine xr_get F hin1 0 rfl rfl 0 (by decide) (List.mem_of_getElem? (i := 1) rfl) (v := .ref (a 0)) rfl dX1_send_31 ?_
      refine xr_get F hin0 1 rfl rfl 15 (by decide) (List.mem_of_getElem? (i := 3) rfl) (v := .ref (a 9)) rfl dX1_send_34 ?_
      refine xr_iload_n F dX1_send_37 rfl 2 rfl ?_
      refine xr_iload_n F dX1_send_38 rfl 3 rfl ?_
      refine xr_iast F 10 0 rfl rfl (ix x) hx1 (by omega) (by decide) (bw h a t ++ (cwx yI yZ a (kFee K) (kDry K) (kMill K) (kMark K) (kNb K) (kSpr K) (upd (kGoal K) (ix x) y) (dHour V) (dBank V) (dLev V) (dOver V) (dDrawn V) (dFull V) (dLock V) (dFill V) (dAt V) (dPur V) (dSer V))) rfl dX1_send_39 ?_
      refine xr_iload_n F dX1_send_40 rfl 0 rfl ?_
      refine xr_widen (k := 1) (n := 6) (Nat.le_of_ble_eq_true rfl) (Nat.le_of_ble_eq_true rfl) ?_
      refine ret _ _ _ _ dX1_send_41 ⟨?_, ?_, ?_⟩
      · skip
        simp only [q_send, K_send, xk_01, xk_10, xk_20, xk_30, eq_self, c11, c17, ↓reduceIte]
      · skip
        first | with_reducible rfl | (simp only [q_send, K_send, xk_01, xk_10, xk_20, xk_30, eq_self, c11, c17, ↓reduceIte]; done) | (simp only [q_send, K_send, xk_01, xk_10, xk_20, xk_30, eq_self, c11, c17, ↓reduceIte]; rfl) | rfl
      · skip
        have f0 : K_send K x y = (kFee K, kDry K, kMill K, kMark K, kNb K, kSpr K, upd (kGoal K) (ix x) y) := by
          simp only [q_send, K_send, xk_01, xk_10, xk_20, xk_30, eq_self, c11, c17, ↓reduceIte]
          try simp only [tHour, tBank, tLev, tOver, tDrawn, tFull, tLock, tFill, tAt, tPur, tSer, dHour, dBank, dLev, dOver, dDrawn, dFull, dLock, dFill, dAt, dPur, dSer, uFee, uDry, uMill, uMark, uNb, uSpr, uGoal, kFee, kDry, kMill, kMark, kNb, kSpr, kGoal]
        rw [f0, cw_mkK]

def rm_X1_told : Room := { frames := 7, cells := 1, slots := 6, locals := 104 }
set_option maxHeartbeats 4000000 in
set_option maxRecDepth 100000 in
/-- told -/
theorem k_X1_told (l : Launch) (D : va_G) (yI yZ yL : ClassId) (hst : l.stackTraces = false) (h : Nat) (a t : Nat → Nat) (K : CK) (V : CD) (x : Int32) (y : Int32) (h0 : kNb K ≤ 10) : xXi l yX1_told wsX1_told rm_X1_told D (tysG yI yZ yL) (bw h a t ++ (cw yI yZ a K V)) [.ref h, .int x, .int y] 1 6 (fun (r : Int32) (W1 : va_W) => q_told K x y = 0 ∧ r = c_tellB K V (ix x) (ix y) ∧ W1 = bw h a t ++ (cw yI yZ a K V)) (fun E W1 => ((q_told K x y = 1 ∧ E = xE1)) ∧ W1 = bw h a t ++ (cw yI yZ a K V)) := by
  refine xEX_i (cc := cX1_told) (nL := 3) hst (by decide) rfl (Nat.le_of_ble_eq_true rfl) ?_
  intro p e s m args below meth c A Q F G ret out thr
  have hin0 : ∀ w ∈ u_ws RX0 TX0 18, w ∈ wsX1_told := by decide +kernel
  have hin1 : ∀ w ∈ u_ws RX1 TX1 2, w ∈ wsX1_told := by decide +kernel
  show AW p l e rm_X1_told s m args below meth c 3 D A 0 0 Q (bw h a t ++ (cw yI yZ a K V)) [(0, .ref h), (1, .int x), (2, .int y)] 0 []
  refine xr_iload_n F dX1_told_0 rfl 1 rfl ?_
  refine xr_iconst F dX1_told_1 (v := 0) (by decide) ?_
  refine xr_aload_n F dX1_told_2 rfl 0 rfl ?_
  refine xr_get F hin1 0 rfl rfl 0 (by decide) (List.mem_of_getElem? (i := 1) rfl) (v := .ref (a 0)) rfl dX1_told_3 ?_
  refine xr_get F hin0 1 rfl rfl 13 (by decide) (List.mem_of_getElem? (i := 2) rfl) (v := .int (nI (kNb K))) rfl dX1_told_6 ?_
  refine xr_iconst F dX1_told_9 (v := 1) (by decide) ?_
  refine xr_isub F ((nI (kNb K)) - 1) dX1_told_10 rfl ?_
  by_cases c11 : c_isIn x 0 ((nI (kNb K)) - 1) = 0
  · skip
    refine xr_callXSv F G (wr := bw h a t ++ (cw yI yZ a K V)) (rest := []) (As := [.int x, .int 0, .int ((nI (kNb K)) - 1)]) (k_X1_requireIndex_bad l D yI yZ yL hst x 0 ((nI (kNb K)) - 1) c11) (va_cwS 3 F.hts gX1_told_X1_requireIndex rfl rfl rfl (by decide +kernel) ⟨Nat.le_of_ble_eq_true rfl, Nat.le_of_ble_eq_true rfl⟩) [] [0, 1, 2, 3, 4, 5, 6, 7, 8, 9, 10, 11, 12] rfl rfl (by decide) (by decide) (by decide) rfl rfl (Nat.le_of_ble_eq_true rfl) dX1_told_11 ⟨Nat.le_of_ble_eq_true rfl, Nat.le_of_ble_eq_true rfl⟩ (fun E1 W1 z1 => ?_) (fun W1 z1 => z1.elim)
    obtain ⟨z0, z1⟩ := z1
    subst z0
    subst z1
    exact out _ _ _ _ _ ⟨⟨by simp only [q_told, xk_01, xk_10, xk_20, xk_30, eq_self, c11, ↓reduceIte], rfl⟩, rfl⟩
  · skip
    refine xr_callSv F (wr := bw h a t ++ (cw yI yZ a K V)) (rest := []) (As := [.int x, .int 0, .int ((nI (kNb K)) - 1)]) (k_X1_requireIndex_ok l D yI yZ yL x 0 ((nI (kNb K)) - 1) c11) (va_cwS 3 F.hts gX1_told_X1_requireIndex rfl rfl rfl (by decide +kernel) ⟨Nat.le_of_ble_eq_true rfl, Nat.le_of_ble_eq_true rfl⟩) [] [0, 1, 2, 3, 4, 5, 6, 7, 8, 9, 10, 11, 12] rfl rfl (by decide) (by decide) (by decide) rfl rfl (Nat.le_of_ble_eq_true rfl) dX1_told_11 ⟨Nat.le_of_ble_eq_true rfl, Nat.le_of_ble_eq_true rfl⟩ (fun W1 z1 => ?_)
    subst z1
    refine xr_ws (ws' := bw h a t ++ (cw yI yZ a K V)) rfl ?_
    obtain ⟨hx1, hx2⟩ := isIn_nb (by omega) c11
    refine xr_iload_n F dX1_told_14 rfl 2 rfl ?_
    refine xr_iconst F dX1_told_15 (v := 0) (by decide) ?_
    refine xr_iconst F dX1_told_16 (v := 4) (by decide) ?_
    by_cases c17 : c_isIn y 0 4 = 0
    · skip
      refine xr_callXSv F G (wr := bw h a t ++ (cw yI yZ a K V)) (rest := []) (As := [.int y, .int 0, .int 4]) (k_X1_requireIndex_bad l D yI yZ yL hst y 0 4 c17) (va_cwS 3 F.hts gX1_told_X1_requireIndex rfl rfl rfl (by decide +kernel) ⟨Nat.le_of_ble_eq_true rfl, Nat.le_of_ble_eq_true rfl⟩) [] [0, 1, 2, 3, 4, 5, 6, 7, 8, 9, 10, 11, 12] rfl rfl (by decide) (by decide) (by decide) rfl rfl (Nat.le_of_ble_eq_true rfl) dX1_told_17 ⟨Nat.le_of_ble_eq_true rfl, Nat.le_of_ble_eq_true rfl⟩ (fun E1 W1 z1 => ?_) (fun W1 z1 => z1.elim)
      obtain ⟨z0, z1⟩ := z1
      subst z0
      subst z1
      exact out _ _ _ _ _ ⟨⟨by simp only [q_told, xk_01, xk_10, xk_20, xk_30, eq_self, c11, c17, ↓reduceIte], rfl⟩, rfl⟩
    · skip
      refine xr_callSv F (wr := bw h a t ++ (cw yI yZ a K V)) (rest := []) (As := [.int y, .int 0, .int 4]) (k_X1_requireIndex_ok l D yI yZ yL y 0 4 c17) (va_cwS 3 F.hts gX1_told_X1_requireIndex rfl rfl rfl (by decide +kernel) ⟨Nat.le_of_ble_eq_true rfl, Nat.le_of_ble_eq_true rfl⟩) [] [0, 1, 2, 3, 4, 5, 6, 7, 8, 9, 10, 11, 12] rfl rfl (by decide) (by decide) (by decide) rfl rfl (Nat.le_of_ble_eq_true rfl) dX1_told_17 ⟨Nat.le_of_ble_eq_true rfl, Nat.le_of_ble_eq_true rfl⟩ (fun W1 z1 => ?_)
      subst z1
      refine xr_ws (ws' := bw h a t ++ (cw yI yZ a K V)) rfl ?_
      obtain ⟨hy1, hy2⟩ := isIn_ix 4 (by decide) rfl c17
      refine xr_aload_n F dX1_told_20 rfl 0 rfl ?_
      refine xr_get F hin1 0 rfl rfl 0 (by decide) (List.mem_of_getElem? (i := 1) rfl) (v := .ref (a 0)) rfl dX1_told_21 ?_
      refine xr_iload_n F dX1_told_24 rfl 1 rfl ?_
      refine xr_iload_n F dX1_told_25 rfl 2 rfl ?_
      refine xr_stk (st' := [.int y, .int (nI (ix x)), .ref (a 0)]) (by rw [← hx1]) ?_
      refine xr_stk (st' := [.int (nI (ix y)), .int (nI (ix x)), .ref (a 0)]) (by rw [← hy1]) ?_
      refine xr_callVi F (wr := bw h a t) (rest := []) (As := [.int (nI (ix x)), .int (nI (ix y))]) (k_X0_tellBarge l D yI yZ yL a K V (ix x) (ix y) (by omega) (by omega)) (cwV 2 F.hts gX1_told_X0_tellBarge rfl rfl rfl (by decide +kernel) ⟨Nat.le_of_ble_eq_true rfl, Nat.le_of_ble_eq_true rfl⟩) (q0 := 0) rfl rfl [1, 2, 3, 4, 5, 6, 7, 8, 9, 10, 11, 12] [0] rfl rfl (by decide) (by decide) (by decide) rfl rfl (Nat.le_of_ble_eq_true rfl) dX1_told_26 ⟨Nat.le_of_ble_eq_true rfl, Nat.le_of_ble_eq_true rfl⟩ (fun r1 W1 z1 => ?_)
      obtain ⟨z0, z1⟩ := z1
      subst z0
      subst z1
      refine xr_ws (ws' := bw h a t ++ (cw yI yZ a K V)) rfl ?_
      refine xr_widen (k := 1) (n := 6) (Nat.le_of_ble_eq_true rfl) (Nat.le_of_ble_eq_true rfl) ?_
      refine ret _ _ _ _ dX1_told_29 ⟨?_, ?_, ?_⟩
      · skip
        simp only [q_told, xk_01, xk_10, xk_20, xk_30, eq_self, c11, c17, ↓reduceIte]
      · skip
        first | with_reducible rfl | (simp only [q_told, xk_01, xk_10, xk_20, xk_30, eq_self, c11, c17, ↓reduceIte]; done) | (simp only [q_told, xk_01, xk_10, xk_20, xk_30, eq_self, c11, c17, ↓reduceIte]; rfl) | rfl
      · skip
        rfl

def rm_X1_pound : Room := { frames := 7, cells := 1, slots := 6, locals := 104 }
set_option maxHeartbeats 4000000 in
set_option maxRecDepth 100000 in
/-- pound -/
theorem k_X1_pound (l : Launch) (D : va_G) (yI yZ yL : ClassId) (hst : l.stackTraces = false) (h : Nat) (a t : Nat → Nat) (K : CK) (V : CD) (x : Int32) (y : Int32) (h0 : kNb K ≤ 10) : xXi l yX1_pound wsX1_pound rm_X1_pound D (tysG yI yZ yL) (bw h a t ++ (cw yI yZ a K V)) [.ref h, .int x, .int y] 1 6 (fun (r : Int32) (W1 : va_W) => q_in2 x 5 y 3 = 0 ∧ r = c_tellP K V (ix x) (ix y) ∧ W1 = bw h a t ++ (cw yI yZ a K V)) (fun E W1 => ((q_in2 x 5 y 3 = 1 ∧ E = xE1)) ∧ W1 = bw h a t ++ (cw yI yZ a K V)) := by
  refine xEX_i (cc := cX1_pound) (nL := 3) hst (by decide) rfl (Nat.le_of_ble_eq_true rfl) ?_
  intro p e s m args below meth c A Q F G ret out thr
  have hin1 : ∀ w ∈ u_ws RX1 TX1 2, w ∈ wsX1_pound := by decide +kernel
  show AW p l e rm_X1_pound s m args below meth c 3 D A 0 0 Q (bw h a t ++ (cw yI yZ a K V)) [(0, .ref h), (1, .int x), (2, .int y)] 0 []
  refine xr_iload_n F dX1_pound_0 rfl 1 rfl ?_
  refine xr_iconst F dX1_pound_1 (v := 0) (by decide) ?_
  refine xr_iconst F dX1_pound_2 (v := 5) (by decide) ?_
  by_cases c3 : c_isIn x 0 5 = 0
  · skip
    refine xr_callXSv F G (wr := bw h a t ++ (cw yI yZ a K V)) (rest := []) (As := [.int x, .int 0, .int 5]) (k_X1_requireIndex_bad l D yI yZ yL hst x 0 5 c3) (va_cwS 3 F.hts gX1_pound_X1_requireIndex rfl rfl rfl (by decide +kernel) ⟨Nat.le_of_ble_eq_true rfl, Nat.le_of_ble_eq_true rfl⟩) [] [0, 1, 2, 3, 4, 5, 6, 7, 8, 9, 10, 11, 12] rfl rfl (by decide) (by decide) (by decide) rfl rfl (Nat.le_of_ble_eq_true rfl) dX1_pound_3 ⟨Nat.le_of_ble_eq_true rfl, Nat.le_of_ble_eq_true rfl⟩ (fun E1 W1 z1 => ?_) (fun W1 z1 => z1.elim)
    obtain ⟨z0, z1⟩ := z1
    subst z0
    subst z1
    exact out _ _ _ _ _ ⟨⟨by simp only [q_in2, xk_01, xk_10, xk_20, xk_30, eq_self, c3, ↓reduceIte], rfl⟩, rfl⟩
  · skip
    refine xr_callSv F (wr := bw h a t ++ (cw yI yZ a K V)) (rest := []) (As := [.int x, .int 0, .int 5]) (k_X1_requireIndex_ok l D yI yZ yL x 0 5 c3) (va_cwS 3 F.hts gX1_pound_X1_requireIndex rfl rfl rfl (by decide +kernel) ⟨Nat.le_of_ble_eq_true rfl, Nat.le_of_ble_eq_true rfl⟩) [] [0, 1, 2, 3, 4, 5, 6, 7, 8, 9, 10, 11, 12] rfl rfl (by decide) (by decide) (by decide) rfl rfl (Nat.le_of_ble_eq_true rfl) dX1_pound_3 ⟨Nat.le_of_ble_eq_true rfl, Nat.le_of_ble_eq_true rfl⟩ (fun W1 z1 => ?_)
    subst z1
    refine xr_ws (ws' := bw h a t ++ (cw yI yZ a K V)) rfl ?_
    obtain ⟨hx1, hx2⟩ := isIn_ix 5 (by decide) rfl c3
    refine xr_iload_n F dX1_pound_6 rfl 2 rfl ?_
    refine xr_iconst F dX1_pound_7 (v := 0) (by decide) ?_
    refine xr_iconst F dX1_pound_8 (v := 3) (by decide) ?_
    by_cases c9 : c_isIn y 0 3 = 0
    · skip
      refine xr_callXSv F G (wr := bw h a t ++ (cw yI yZ a K V)) (rest := []) (As := [.int y, .int 0, .int 3]) (k_X1_requireIndex_bad l D yI yZ yL hst y 0 3 c9) (va_cwS 3 F.hts gX1_pound_X1_requireIndex rfl rfl rfl (by decide +kernel) ⟨Nat.le_of_ble_eq_true rfl, Nat.le_of_ble_eq_true rfl⟩) [] [0, 1, 2, 3, 4, 5, 6, 7, 8, 9, 10, 11, 12] rfl rfl (by decide) (by decide) (by decide) rfl rfl (Nat.le_of_ble_eq_true rfl) dX1_pound_9 ⟨Nat.le_of_ble_eq_true rfl, Nat.le_of_ble_eq_true rfl⟩ (fun E1 W1 z1 => ?_) (fun W1 z1 => z1.elim)
      obtain ⟨z0, z1⟩ := z1
      subst z0
      subst z1
      exact out _ _ _ _ _ ⟨⟨by simp only [q_in2, xk_01, xk_10, xk_20, xk_30, eq_self, c3, c9, ↓reduceIte], rfl⟩, rfl⟩
    · skip
      refine xr_callSv F (wr := bw h a t ++ (cw yI yZ a K V)) (rest := []) (As := [.int y, .int 0, .int 3]) (k_X1_requireIndex_ok l D yI yZ yL y 0 3 c9) (va_cwS 3 F.hts gX1_pound_X1_requireIndex rfl rfl rfl (by decide +kernel) ⟨Nat.le_of_ble_eq_true rfl, Nat.le_of_ble_eq_true rfl⟩) [] [0, 1, 2, 3, 4, 5, 6, 7, 8, 9, 10, 11, 12] rfl rfl (by decide) (by decide) (by decide) rfl rfl (Nat.le_of_ble_eq_true rfl) dX1_pound_9 ⟨Nat.le_of_ble_eq_true rfl, Nat.le_of_ble_eq_true rfl⟩ (fun W1 z1 => ?_)
      subst z1
      refine xr_ws (ws' := bw h a t ++ (cw yI yZ a K V)) rfl ?_
      obtain ⟨hy1, hy2⟩ := isIn_ix 3 (by decide) rfl c9
      refine xr_aload_n F dX1_pound_12 rfl 0 rfl ?_
      refine xr_get F hin1 0 rfl rfl 0 (by decide) (List.mem_of_getElem? (i := 1) rfl) (v := .ref (a 0)) rfl dX1_pound_13 ?_
      refine xr_iload_n F dX1_pound_16 rfl 1 rfl ?_
      refine xr_iload_n F dX1_pound_17 rfl 2 rfl ?_
      refine xr_stk (st' := [.int y, .int (nI (ix x)), .ref (a 0)]) (by rw [← hx1]) ?_
      refine xr_stk (st' := [.int (nI (ix y)), .int (nI (ix x)), .ref (a 0)]) (by rw [← hy1]) ?_
      refine xr_callVi F (wr := bw h a t) (rest := []) (As := [.int (nI (ix x)), .int (nI (ix y))]) (k_X0_tellPound l D yI yZ yL a K V (ix x) (ix y) (by omega) (by omega) (by assumption)) (cwV 2 F.hts gX1_pound_X0_tellPound rfl rfl rfl (by decide +kernel) ⟨Nat.le_of_ble_eq_true rfl, Nat.le_of_ble_eq_true rfl⟩) (q0 := 0) rfl rfl [1, 2, 3, 4, 5, 6, 7, 8, 9, 10, 11, 12] [0] rfl rfl (by decide) (by decide) (by decide) rfl rfl (Nat.le_of_ble_eq_true rfl) dX1_pound_18 ⟨Nat.le_of_ble_eq_true rfl, Nat.le_of_ble_eq_true rfl⟩ (fun r1 W1 z1 => ?_)
      obtain ⟨z0, z1⟩ := z1
      subst z0
      subst z1
      refine xr_ws (ws' := bw h a t ++ (cw yI yZ a K V)) rfl ?_
      refine xr_widen (k := 1) (n := 6) (Nat.le_of_ble_eq_true rfl) (Nat.le_of_ble_eq_true rfl) ?_
      refine ret _ _ _ _ dX1_pound_21 ⟨?_, ?_, ?_⟩
      · skip
        simp only [q_in2, xk_01, xk_10, xk_20, xk_30, eq_self, c3, c9, ↓reduceIte]
      · skip
        first | with_reducible rfl | (simp only [q_in2, xk_01, xk_10, xk_20, xk_30, eq_self, c3, c9, ↓reduceIte]; done) | (simp only [q_in2, xk_01, xk_10, xk_20, xk_30, eq_self, c3, c9, ↓reduceIte]; rfl) | rfl
      · skip
        rfl

def rm_X1_lock : Room := { frames := 7, cells := 1, slots := 6, locals := 113 }
set_option maxHeartbeats 4000000 in
set_option maxRecDepth 100000 in
/-- lock -/
theorem k_X1_lock (l : Launch) (D : va_G) (yI yZ yL : ClassId) (hst : l.stackTraces = false) (h : Nat) (a t : Nat → Nat) (K : CK) (V : CD) (x : Int32) (y : Int32) (h0 : kNb K ≤ 10) : xXi l yX1_lock wsX1_lock rm_X1_lock D (tysG yI yZ yL) (bw h a t ++ (cw yI yZ a K V)) [.ref h, .int x, .int y] 1 6 (fun (r : Int32) (W1 : va_W) => q_in2 x 4 y 4 = 0 ∧ r = c_tellL K V (ix x) (ix y) ∧ W1 = bw h a t ++ (cw yI yZ a K V)) (fun E W1 => ((q_in2 x 4 y 4 = 1 ∧ E = xE1)) ∧ W1 = bw h a t ++ (cw yI yZ a K V)) := by
  refine xEX_i (cc := cX1_lock) (nL := 3) hst (by decide) rfl (Nat.le_of_ble_eq_true rfl) ?_
  intro p e s m args below meth c A Q F G ret out thr
  have hin1 : ∀ w ∈ u_ws RX1 TX1 2, w ∈ wsX1_lock := by decide +kernel
  show AW p l e rm_X1_lock s m args below meth c 3 D A 0 0 Q (bw h a t ++ (cw yI yZ a K V)) [(0, .ref h), (1, .int x), (2, .int y)] 0 []
  refine xr_iload_n F dX1_lock_0 rfl 1 rfl ?_
  refine xr_iconst F dX1_lock_1 (v := 0) (by decide) ?_
  refine xr_iconst F dX1_lock_2 (v := 4) (by decide) ?_
  by_cases c3 : c_isIn x 0 4 = 0
  · skip
    refine xr_callXSv F G (wr := bw h a t ++ (cw yI yZ a K V)) (rest := []) (As := [.int x, .int 0, .int 4]) (k_X1_requireIndex_bad l D yI yZ yL hst x 0 4 c3) (va_cwS 3 F.hts gX1_lock_X1_requireIndex rfl rfl rfl (by decide +kernel) ⟨Nat.le_of_ble_eq_true rfl, Nat.le_of_ble_eq_true rfl⟩) [] [0, 1, 2, 3, 4, 5, 6, 7, 8, 9, 10, 11, 12] rfl rfl (by decide) (by decide) (by decide) rfl rfl (Nat.le_of_ble_eq_true rfl) dX1_lock_3 ⟨Nat.le_of_ble_eq_true rfl, Nat.le_of_ble_eq_true rfl⟩ (fun E1 W1 z1 => ?_) (fun W1 z1 => z1.elim)
    obtain ⟨z0, z1⟩ := z1
    subst z0
    subst z1
    exact out _ _ _ _ _ ⟨⟨by simp only [q_in2, xk_01, xk_10, xk_20, xk_30, eq_self, c3, ↓reduceIte], rfl⟩, rfl⟩
  · skip
    refine xr_callSv F (wr := bw h a t ++ (cw yI yZ a K V)) (rest := []) (As := [.int x, .int 0, .int 4]) (k_X1_requireIndex_ok l D yI yZ yL x 0 4 c3) (va_cwS 3 F.hts gX1_lock_X1_requireIndex rfl rfl rfl (by decide +kernel) ⟨Nat.le_of_ble_eq_true rfl, Nat.le_of_ble_eq_true rfl⟩) [] [0, 1, 2, 3, 4, 5, 6, 7, 8, 9, 10, 11, 12] rfl rfl (by decide) (by decide) (by decide) rfl rfl (Nat.le_of_ble_eq_true rfl) dX1_lock_3 ⟨Nat.le_of_ble_eq_true rfl, Nat.le_of_ble_eq_true rfl⟩ (fun W1 z1 => ?_)
    subst z1
    refine xr_ws (ws' := bw h a t ++ (cw yI yZ a K V)) rfl ?_
    obtain ⟨hx1, hx2⟩ := isIn_ix 4 (by decide) rfl c3
    refine xr_iload_n F dX1_lock_6 rfl 2 rfl ?_
    refine xr_iconst F dX1_lock_7 (v := 0) (by decide) ?_
    refine xr_iconst F dX1_lock_8 (v := 4) (by decide) ?_
    by_cases c9 : c_isIn y 0 4 = 0
    · skip
      refine xr_callXSv F G (wr := bw h a t ++ (cw yI yZ a K V)) (rest := []) (As := [.int y, .int 0, .int 4]) (k_X1_requireIndex_bad l D yI yZ yL hst y 0 4 c9) (va_cwS 3 F.hts gX1_lock_X1_requireIndex rfl rfl rfl (by decide +kernel) ⟨Nat.le_of_ble_eq_true rfl, Nat.le_of_ble_eq_true rfl⟩) [] [0, 1, 2, 3, 4, 5, 6, 7, 8, 9, 10, 11, 12] rfl rfl (by decide) (by decide) (by decide) rfl rfl (Nat.le_of_ble_eq_true rfl) dX1_lock_9 ⟨Nat.le_of_ble_eq_true rfl, Nat.le_of_ble_eq_true rfl⟩ (fun E1 W1 z1 => ?_) (fun W1 z1 => z1.elim)
      obtain ⟨z0, z1⟩ := z1
      subst z0
      subst z1
      exact out _ _ _ _ _ ⟨⟨by simp only [q_in2, xk_01, xk_10, xk_20, xk_30, eq_self, c3, c9, ↓reduceIte], rfl⟩, rfl⟩
    · skip
      refine xr_callSv F (wr := bw h a t ++ (cw yI yZ a K V)) (rest := []) (As := [.int y, .int 0, .int 4]) (k_X1_requireIndex_ok l D yI yZ yL y 0 4 c9) (va_cwS 3 F.hts gX1_lock_X1_requireIndex rfl rfl rfl (by decide +kernel) ⟨Nat.le_of_ble_eq_true rfl, Nat.le_of_ble_eq_true rfl⟩) [] [0, 1, 2, 3, 4, 5, 6, 7, 8, 9, 10, 11, 12] rfl rfl (by decide) (by decide) (by decide) rfl rfl (Nat.le_of_ble_eq_true rfl) dX1_lock_9 ⟨Nat.le_of_ble_eq_true rfl, Nat.le_of_ble_eq_true rfl⟩ (fun W1 z1 => ?_)
      subst z1
      refine xr_ws (ws' := bw h a t ++ (cw yI yZ a K V)) rfl ?_
      obtain ⟨hy1, hy2⟩ := isIn_ix 4 (by decide) rfl c9
      refine xr_aload_n F dX1_lock_12 rfl 0 rfl ?_
      refine xr_get F hin1 0 rfl rfl 0 (by decide) (List.mem_of_getElem? (i := 1) rfl) (v := .ref (a 0)) rfl dX1_lock_13 ?_
      refine xr_iload_n F dX1_lock_16 rfl 1 rfl ?_
      refine xr_iload_n F dX1_lock_17 rfl 2 rfl ?_
      refine xr_stk (st' := [.int y, .int (nI (ix x)), .ref (a 0)]) (by rw [← hx1]) ?_
      refine xr_stk (st' := [.int (nI (ix y)), .int (nI (ix x)), .ref (a 0)]) (by rw [← hy1]) ?_
      refine xr_callVi F (wr := bw h a t) (rest := []) (As := [.int (nI (ix x)), .int (nI (ix y))]) (k_X0_tellLock l D yI yZ yL a K V (ix x) (ix y) (by omega) (by omega) (by assumption)) (cwV 2 F.hts gX1_lock_X0_tellLock rfl rfl rfl (by decide +kernel) ⟨Nat.le_of_ble_eq_true rfl, Nat.le_of_ble_eq_true rfl⟩) (q0 := 0) rfl rfl [1, 2, 3, 4, 5, 6, 7, 8, 9, 10, 11, 12] [0] rfl rfl (by decide) (by decide) (by decide) rfl rfl (Nat.le_of_ble_eq_true rfl) dX1_lock_18 ⟨Nat.le_of_ble_eq_true rfl, Nat.le_of_ble_eq_true rfl⟩ (fun r1 W1 z1 => ?_)
      obtain ⟨z0, z1⟩ := z1
      subst z0
      subst z1
      refine xr_ws (ws' := bw h a t ++ (cw yI yZ a K V)) rfl ?_
      refine xr_widen (k := 1) (n := 6) (Nat.le_of_ble_eq_true rfl) (Nat.le_of_ble_eq_true rfl) ?_
      refine ret _ _ _ _ dX1_lock_21 ⟨?_, ?_, ?_⟩
      · skip
        simp only [q_in2, xk_01, xk_10, xk_20, xk_30, eq_self, c3, c9, ↓reduceIte]
      · skip
        first | with_reducible rfl | (simp only [q_in2, xk_01, xk_10, xk_20, xk_30, eq_self, c3, c9, ↓reduceIte]; done) | (simp only [q_in2, xk_01, xk_10, xk_20, xk_30, eq_self, c3, c9, ↓reduceIte]; rfl) | rfl
      · skip
        rfl

def rm_X1_count : Room := { frames := 7, cells := 1, slots := 6, locals := 104 }
set_option maxHeartbeats 4000000 in
set_option maxRecDepth 100000 in
/-- count -/
theorem k_X1_count (l : Launch) (D : va_G) (yI yZ yL : ClassId) (hst : l.stackTraces = false) (h : Nat) (a t : Nat → Nat) (K : CK) (V : CD) (x : Int32) (h0 : kNb K ≤ 10) : xXi l yX1_count wsX1_count rm_X1_count D (tysG yI yZ yL) (bw h a t ++ (cw yI yZ a K V)) [.ref h, .int x] 1 6 (fun (r : Int32) (W1 : va_W) => q_count x = 0 ∧ r = c_tellW K V (ix x) ∧ W1 = bw h a t ++ (cw yI yZ a K V)) (fun E W1 => ((q_count x = 1 ∧ E = xE1)) ∧ W1 = bw h a t ++ (cw yI yZ a K V)) := by
  refine xEX_i (cc := cX1_count) (nL := 2) hst (by decide) rfl (Nat.le_of_ble_eq_true rfl) ?_
  intro p e s m args below meth c A Q F G ret out thr
  have hin1 : ∀ w ∈ u_ws RX1 TX1 2, w ∈ wsX1_count := by decide +kernel
  show AW p l e rm_X1_count s m args below meth c 2 D A 0 0 Q (bw h a t ++ (cw yI yZ a K V)) [(0, .ref h), (1, .int x)] 0 []
  refine xr_iload_n F dX1_count_0 rfl 1 rfl ?_
  refine xr_iconst F dX1_count_1 (v := 0) (by decide) ?_
  refine xr_bipush F dX1_count_2 (v := 9) (by decide) ?_
  by_cases c4 : c_isIn x 0 9 = 0
  · skip
    refine xr_callXSv F G (wr := bw h a t ++ (cw yI yZ a K V)) (rest := []) (As := [.int x, .int 0, .int 9]) (k_X1_requireIndex_bad l D yI yZ yL hst x 0 9 c4) (va_cwS 3 F.hts gX1_count_X1_requireIndex rfl rfl rfl (by decide +kernel) ⟨Nat.le_of_ble_eq_true rfl, Nat.le_of_ble_eq_true rfl⟩) [] [0, 1, 2, 3, 4, 5, 6, 7, 8, 9, 10, 11, 12] rfl rfl (by decide) (by decide) (by decide) rfl rfl (Nat.le_of_ble_eq_true rfl) dX1_count_4 ⟨Nat.le_of_ble_eq_true rfl, Nat.le_of_ble_eq_true rfl⟩ (fun E1 W1 z1 => ?_) (fun W1 z1 => z1.elim)
    obtain ⟨z0, z1⟩ := z1
    subst z0
    subst z1
    exact out _ _ _ _ _ ⟨⟨by simp only [q_count, xk_01, xk_10, xk_20, xk_30, eq_self, c4, ↓reduceIte], rfl⟩, rfl⟩
  · skip
    refine xr_callSv F (wr := bw h a t ++ (cw yI yZ a K V)) (rest := []) (As := [.int x, .int 0, .int 9]) (k_X1_requireIndex_ok l D yI yZ yL x 0 9 c4) (va_cwS 3 F.hts gX1_count_X1_requireIndex rfl rfl rfl (by decide +kernel) ⟨Nat.le_of_ble_eq_true rfl, Nat.le_of_ble_eq_true rfl⟩) [] [0, 1, 2, 3, 4, 5, 6, 7, 8, 9, 10, 11, 12] rfl rfl (by decide) (by decide) (by decide) rfl rfl (Nat.le_of_ble_eq_true rfl) dX1_count_4 ⟨Nat.le_of_ble_eq_true rfl, Nat.le_of_ble_eq_true rfl⟩ (fun W1 z1 => ?_)
    subst z1
    refine xr_ws (ws' := bw h a t ++ (cw yI yZ a K V)) rfl ?_
    obtain ⟨hx1, hx2⟩ := isIn_ix 9 (by decide) rfl c4
    refine xr_aload_n F dX1_count_7 rfl 0 rfl ?_
    refine xr_get F hin1 0 rfl rfl 0 (by decide) (List.mem_of_getElem? (i := 1) rfl) (v := .ref (a 0)) rfl dX1_count_8 ?_
    refine xr_iload_n F dX1_count_11 rfl 1 rfl ?_
    refine xr_stk (st' := [.int (nI (ix x)), .ref (a 0)]) (by rw [← hx1]) ?_
    refine xr_callVi F (wr := bw h a t) (rest := []) (As := [.int (nI (ix x))]) (k_X0_tellWhole l D yI yZ yL a K V (ix x) (by omega) (by assumption)) (cwV 1 F.hts gX1_count_X0_tellWhole rfl rfl rfl (by decide +kernel) ⟨Nat.le_of_ble_eq_true rfl, Nat.le_of_ble_eq_true rfl⟩) (q0 := 0) rfl rfl [1, 2, 3, 4, 5, 6, 7, 8, 9, 10, 11, 12] [0] rfl rfl (by decide) (by decide) (by decide) rfl rfl (Nat.le_of_ble_eq_true rfl) dX1_count_12 ⟨Nat.le_of_ble_eq_true rfl, Nat.le_of_ble_eq_true rfl⟩ (fun r1 W1 z1 => ?_)
    obtain ⟨z0, z1⟩ := z1
    subst z0
    subst z1
    refine xr_ws (ws' := bw h a t ++ (cw yI yZ a K V)) rfl ?_
    refine xr_widen (k := 1) (n := 6) (Nat.le_of_ble_eq_true rfl) (Nat.le_of_ble_eq_true rfl) ?_
    refine ret _ _ _ _ dX1_count_15 ⟨?_, ?_, ?_⟩
    · skip
      simp only [q_count, xk_01, xk_10, xk_20, xk_30, eq_self, c4, ↓reduceIte]
    · skip
      first | with_reducible rfl | (simp only [q_count, xk_01, xk_10, xk_20, xk_30, eq_self, c4, ↓reduceIte]; done) | (simp only [q_count, xk_01, xk_10, xk_20, xk_30, eq_self, c4, ↓reduceIte]; rfl) | rfl
    · skip
      rfl

def rm_X1_pass : Room := { frames := 7, cells := 1, slots := 6, locals := 138 }
set_option maxHeartbeats 4000000 in
set_option maxRecDepth 100000 in
/-- pass -/
theorem k_X1_pass (l : Launch) (D : va_G) (yI yZ yL : ClassId) (hst : l.stackTraces = false) (h : Nat) (a t : Nat → Nat) (K : CK) (V : CD) (x : Int32) (h0 : kNb K ≤ 10) (h1 : kMill K ≤ 6) (h2 : dHour V + 60 < 2147483648) : xXi l yX1_pass wsX1_pass rm_X1_pass D (tysG yI yZ yL) (bw h a t ++ (cw yI yZ a K V)) [.ref h, .int x] 1 6 (fun (r : Int32) (W1 : va_W) => q_hours x 60 = 0 ∧ r = (C_pass K V x).2 ∧ W1 = bw h a t ++ (cw yI yZ a K ((C_pass K V x).1))) (fun E W1 => ((q_hours x 60 = 1 ∧ E = xE2)) ∧ W1 = bw h a t ++ (cw yI yZ a K V)) := by
  refine xEX_i (cc := cX1_pass) (nL := 2) hst (by decide) rfl (Nat.le_of_ble_eq_true rfl) ?_
  intro p e s m args below meth c A Q F G ret out thr
  have hin1 : ∀ w ∈ u_ws RX1 TX1 2, w ∈ wsX1_pass := by decide +kernel
  show AW p l e rm_X1_pass s m args below meth c 2 D A 0 0 Q (bw h a t ++ (cw yI yZ a K V)) [(0, .ref h), (1, .int x)] 0 []
  refine xr_iload_n F dX1_pass_0 rfl 1 rfl ?_
  refine xr_iconst F dX1_pass_1 (v := 1) (by decide) ?_
  refine xr_bipush F dX1_pass_2 (v := 60) (by decide) ?_
  by_cases c4 : c_isIn x 1 60 = 0
  · skip
    refine xr_callXSv F G (wr := bw h a t ++ (cw yI yZ a K V)) (rest := []) (As := [.int x, .int 1, .int 60]) (k_X1_requireArgument_bad l D yI yZ yL hst x 1 60 c4) (va_cwS 3 F.hts gX1_pass_X1_requireArgument rfl rfl rfl (by decide +kernel) ⟨Nat.le_of_ble_eq_true rfl, Nat.le_of_ble_eq_true rfl⟩) [] [0, 1, 2, 3, 4, 5, 6, 7, 8, 9, 10, 11, 12] rfl rfl (by decide) (by decide) (by decide) rfl rfl (Nat.le_of_ble_eq_true rfl) dX1_pass_4 ⟨Nat.le_of_ble_eq_true rfl, Nat.le_of_ble_eq_true rfl⟩ (fun E1 W1 z1 => ?_) (fun W1 z1 => z1.elim)
    obtain ⟨z0, z1⟩ := z1
    subst z0
    subst z1
    exact out _ _ _ _ _ ⟨⟨by simp only [q_hours, C_pass, xk_01, xk_10, xk_20, xk_30, eq_self, c4, ↓reduceIte], rfl⟩, rfl⟩
  · skip
    refine xr_callSv F (wr := bw h a t ++ (cw yI yZ a K V)) (rest := []) (As := [.int x, .int 1, .int 60]) (k_X1_requireArgument_ok l D yI yZ yL x 1 60 c4) (va_cwS 3 F.hts gX1_pass_X1_requireArgument rfl rfl rfl (by decide +kernel) ⟨Nat.le_of_ble_eq_true rfl, Nat.le_of_ble_eq_true rfl⟩) [] [0, 1, 2, 3, 4, 5, 6, 7, 8, 9, 10, 11, 12] rfl rfl (by decide) (by decide) (by decide) rfl rfl (Nat.le_of_ble_eq_true rfl) dX1_pass_4 ⟨Nat.le_of_ble_eq_true rfl, Nat.le_of_ble_eq_true rfl⟩ (fun W1 z1 => ?_)
    subst z1
    refine xr_ws (ws' := bw h a t ++ (cw yI yZ a K V)) rfl ?_
    obtain ⟨hx1, hx3, hx2⟩ := isIn_ixl 1 60 (by decide) (by decide) rfl rfl c4
    refine xr_aload_n F dX1_pass_7 rfl 0 rfl ?_
    refine xr_get F hin1 0 rfl rfl 0 (by decide) (List.mem_of_getElem? (i := 1) rfl) (v := .ref (a 0)) rfl dX1_pass_8 ?_
    refine xr_iload_n F dX1_pass_11 rfl 1 rfl ?_
    refine xr_stk (st' := [.int (nI (ix x)), .ref (a 0)]) (by rw [← hx1]) ?_
    refine xr_callVi F (wr := bw h a t) (rest := []) (As := [.int (nI (ix x))]) (k_X0_goHours l D yI yZ yL a K V (ix x) (by assumption) (by assumption) (by omega) (by omega)) (cwV 1 F.hts gX1_pass_X0_goHours rfl rfl rfl (by decide +kernel) ⟨Nat.le_of_ble_eq_true rfl, Nat.le_of_ble_eq_true rfl⟩) (q0 := 0) rfl rfl [1, 2, 3, 4, 5, 6, 7, 8, 9, 10, 11, 12] [0] rfl rfl (by decide) (by decide) (by decide) rfl rfl (Nat.le_of_ble_eq_true rfl) dX1_pass_12 ⟨Nat.le_of_ble_eq_true rfl, Nat.le_of_ble_eq_true rfl⟩ (fun r1 W1 z1 => ?_)
    obtain ⟨z0, z1⟩ := z1
    subst z0
    obtain ⟨V1, eV1⟩ : ∃ x9 : CD, x9 = (c_hours K (ix x) V 0).1 := ⟨_, rfl⟩
    rw [← eV1] at z1
    subst z1
    refine xr_ws (ws' := bw h a t ++ (cw yI yZ a K V1)) rfl ?_
    refine xr_widen (k := 1) (n := 6) (Nat.le_of_ble_eq_true rfl) (Nat.le_of_ble_eq_true rfl) ?_
    refine ret _ _ _ _ dX1_pass_15 ⟨?_, ?_, ?_⟩
    · skip
      simp only [q_hours, C_pass, xk_01, xk_10, xk_20, xk_30, eq_self, c4, ↓reduceIte]
    · skip
      subst eV1
      first | with_reducible rfl | (simp only [q_hours, C_pass, xk_01, xk_10, xk_20, xk_30, eq_self, c4, ↓reduceIte]; done) | (simp only [q_hours, C_pass, xk_01, xk_10, xk_20, xk_30, eq_self, c4, ↓reduceIte]; rfl) | rfl
    · skip
      have f0 : (C_pass K V x).1 = V1 := by
        subst eV1
        simp only [q_hours, C_pass, xk_01, xk_10, xk_20, xk_30, eq_self, c4, ↓reduceIte]
        try simp only [tHour, tBank, tLev, tOver, tDrawn, tFull, tLock, tFill, tAt, tPur, tSer, dHour, dBank, dLev, dOver, dDrawn, dFull, dLock, dFill, dAt, dPur, dSer, uFee, uDry, uMill, uMark, uNb, uSpr, uGoal, kFee, kDry, kMill, kMark, kNb, kSpr, kGoal]
      rw [f0]
