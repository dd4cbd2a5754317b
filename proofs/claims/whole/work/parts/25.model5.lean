def rm_X3_isIn : Room := { frames := 0, cells := 0, slots := 0, locals := 0 }
set_option maxHeartbeats 4000000 in
set_option maxRecDepth 100000 in
/-- isIn -/
theorem k_X3_isIn (l : Launch) (D : va_G) (yI yZ yL : ClassId) (x : Int32) (y : Int32) (z : Int32)  : xMi l yX3_isIn wsX3_isIn rm_X3_isIn D (tysG yI yZ yL) [] [.int x, .int y, .int z] 0 0 (fun (r : Int32) (W1 : va_W) => r = c_isIn x y z ∧ W1 = []) := by
  refine xE_z (cc := cX3_isIn) (nL := 3) (by decide) rfl (Nat.le_of_ble_eq_true rfl) ?_
  intro p e s m args below meth c A Q F hnm ret
  show AW p l e rm_X3_isIn s m args below meth c 3 D A 0 0 Q [] [(0, .int x), (1, .int y), (2, .int z)] 0 []
  refine xr_iload_n F dX3_isIn_0 rfl 0 rfl ?_
  refine xr_iload_n F dX3_isIn_1 rfl 1 rfl ?_
  refine xr_icmp_lt F 14 dX3_isIn_2 (by decide) (fun c2 => ?_) (fun c2 => ?_)
  · skip
    refine xr_iconst F dX3_isIn_14 (v := 0) (by decide) ?_
    refine ret _ _ _ _ dX3_isIn_15 rfl ⟨?_, rfl⟩
    first | rfl | (simp only [c_isIn, c2, ↓reduceIte]; done) | (simp only [c_isIn, c2, ↓reduceIte]; rfl)
  · skip
    refine xr_iload_n F dX3_isIn_5 rfl 0 rfl ?_
    refine xr_iload_n F dX3_isIn_6 rfl 2 rfl ?_
    refine xr_icmp_gt F 14 dX3_isIn_7 (by decide) (fun c7 => ?_) (fun c7 => ?_)
    · skip
      refine xr_iconst F dX3_isIn_14 (v := 0) (by decide) ?_
      refine ret _ _ _ _ dX3_isIn_15 rfl ⟨?_, rfl⟩
      first | rfl | (simp only [c_isIn, c2, c7, ↓reduceIte]; done) | (simp only [c_isIn, c2, c7, ↓reduceIte]; rfl)
    · skip
      refine xr_iconst F dX3_isIn_10 (v := 1) (by decide) ?_
      refine xr_goto F 15 dX3_isIn_11 (by decide) ?_
      refine ret _ _ _ _ dX3_isIn_15 rfl ⟨?_, rfl⟩
      first | rfl | (simp only [c_isIn, c2, c7, ↓reduceIte]; done) | (simp only [c_isIn, c2, c7, ↓reduceIte]; rfl)

def rm_X3_no : Room := { frames := 0, cells := 0, slots := 0, locals := 0 }
set_option maxHeartbeats 4000000 in
set_option maxRecDepth 100000 in
/-- no -/
theorem k_X3_no (l : Launch) (D : va_G) (yI yZ yL : ClassId) (g u t : Nat → Nat) (th : Int32) (K : CK) (x : Int32)  : xMi l yX3_no wsX3_no rm_X3_no D (tysG yI yZ yL) (mw yI g u t th K) [.ref (g 0), .int x] 0 0 (fun (r : Int32) (W1 : va_W) => r = 0 ∧ W1 = mw yI g u t x K) := by
  refine xE_i (cc := cX3_no) (nL := 2) (by decide) rfl (Nat.le_of_ble_eq_true rfl) ?_
  intro p e s m args below meth c A Q F hnm ret
  have hin3 : ∀ w ∈ u_ws RX3 TX3 9, w ∈ wsX3_no := by decide +kernel
  show AW p l e rm_X3_no s m args below meth c 2 D A 0 0 Q (mw yI g u t th K) [(0, .ref (g 0)), (1, .int x)] 0 []
  refine xr_aload_n F dX3_no_0 rfl 0 rfl ?_
  refine xr_iload_n F dX3_no_1 rfl 1 rfl ?_
  refine xr_put (ty := .int) F hin3 0 rfl rfl 0 (by decide) tyX3 tyX3_ok nmX3 (List.mem_of_getElem? (i := 1) rfl) rfl (by decide) rfl rfl (Nat.le_of_ble_eq_true rfl) (mw yI g u t x K) rfl dX3_no_2 ?_
  refine xr_iconst F dX3_no_5 (v := 0) (by decide) ?_
  refine ret _ _ _ _ dX3_no_6 ⟨?_, ?_⟩
  · skip
    first | with_reducible rfl | (simp only [↓reduceIte]; done) | (simp only [↓reduceIte]; rfl) | rfl
  · skip
    rfl

def rm_X3_thrown : Room := { frames := 0, cells := 0, slots := 0, locals := 0 }
set_option maxHeartbeats 4000000 in
set_option maxRecDepth 100000 in
/-- thrown -/
theorem k_X3_thrown (l : Launch) (D : va_G) (yI yZ yL : ClassId) (g u t : Nat → Nat) (th : Int32) (K : CK)   : xMi l yX3_thrown wsX3_thrown rm_X3_thrown D (tysG yI yZ yL) (mw yI g u t th K) [.ref (g 0)] 0 0 (fun (r : Int32) (W1 : va_W) => r = th ∧ W1 = mw yI g u t th K) := by
  refine xE_i (cc := cX3_thrown) (nL := 1) (by decide) rfl (Nat.le_of_ble_eq_true rfl) ?_
  intro p e s m args below meth c A Q F hnm ret
  have hin3 : ∀ w ∈ u_ws RX3 TX3 9, w ∈ wsX3_thrown := by decide +kernel
  show AW p l e rm_X3_thrown s m args below meth c 1 D A 0 0 Q (mw yI g u t th K) [(0, .ref (g 0))] 0 []
  refine xr_aload_n F dX3_thrown_0 rfl 0 rfl ?_
  refine xr_get F hin3 0 rfl rfl 0 (by decide) (List.mem_of_getElem? (i := 1) rfl) (v := .int th) rfl dX3_thrown_1 ?_
  refine ret _ _ _ _ dX3_thrown_4 ⟨?_, rfl⟩
  first | with_reducible rfl | (simp only [↓reduceIte]; done) | (simp only [↓reduceIte]; rfl) | rfl

def rm_X3_isBarge : Room := { frames := 1, cells := 0, slots := 0, locals := 22 }
set_option maxHeartbeats 4000000 in
set_option maxRecDepth 100000 in
/-- isBarge -/
theorem k_X3_isBarge (l : Launch) (D : va_G) (yI yZ yL : ClassId) (g u t : Nat → Nat) (th : Int32) (K : CK) (x : Int32)  : xMi l yX3_isBarge wsX3_isBarge rm_X3_isBarge D (tysG yI yZ yL) (mw yI g u t th K) [.ref (g 0), .int x] 0 0 (fun (r : Int32) (W1 : va_W) => r = c_isIn x 0 (nI (kNb K) - 1) ∧ W1 = mw yI g u t th K) := by
  refine xE_z (cc := cX3_isBarge) (nL := 2) (by decide) rfl (Nat.le_of_ble_eq_true rfl) ?_
  intro p e s m args below meth c A Q F hnm ret
  have hin3 : ∀ w ∈ u_ws RX3 TX3 9, w ∈ wsX3_isBarge := by decide +kernel
  show AW p l e rm_X3_isBarge s m args below meth c 2 D A 0 0 Q (mw yI g u t th K) [(0, .ref (g 0)), (1, .int x)] 0 []
  refine xr_iload_n F dX3_isBarge_0 rfl 1 rfl ?_
  refine xr_iconst F dX3_isBarge_1 (v := 0) (by decide) ?_
  refine xr_aload_n F dX3_isBarge_2 rfl 0 rfl ?_
  refine xr_get F hin3 0 rfl rfl 1 (by decide) (List.mem_of_getElem? (i := 1) rfl) (v := .int (nI (kNb K))) rfl dX3_isBarge_3 ?_
  refine xr_iconst F dX3_isBarge_6 (v := 1) (by decide) ?_
  refine xr_isub F ((nI (kNb K)) - 1) dX3_isBarge_7 rfl ?_
  refine xr_callSz F (wr := mw yI g u t th K) (rest := []) (As := [.int x, .int 0, .int ((nI (kNb K)) - 1)]) (k_X3_isIn l D yI yZ yL x 0 ((nI (kNb K)) - 1) ) (va_cwS 3 F.hts gX3_isBarge_X3_isIn rfl rfl rfl (by decide +kernel) ⟨Nat.le_of_ble_eq_true rfl, Nat.le_of_ble_eq_true rfl⟩) [] [0, 1, 2] rfl rfl (by decide) (by decide) (by decide) rfl rfl (Nat.le_of_ble_eq_true rfl) dX3_isBarge_8 ⟨Nat.le_of_ble_eq_true rfl, Nat.le_of_ble_eq_true rfl⟩ (fun r1 W1 z1 => ?_)
  obtain ⟨z0, z1⟩ := z1
  subst z0
  subst z1
  refine xr_ws (ws' := mw yI g u t th K) rfl ?_
  refine ret _ _ _ _ dX3_isBarge_11 (by unfold c_isIn; split; rfl; split <;> rfl) ⟨?_, rfl⟩
  first | with_reducible rfl | (simp only [↓reduceIte]; done) | (simp only [↓reduceIte]; rfl) | rfl

def rm_X3_setSpring : Room := { frames := 1, cells := 0, slots := 0, locals := 22 }
set_option maxHeartbeats 4000000 in
set_option maxRecDepth 100000 in
/-- setSpring -/
theorem k_X3_setSpring (l : Launch) (D : va_G) (yI yZ yL : ClassId) (g u t : Nat → Nat) (th : Int32) (K : CK) (x : Int32) (y : Int32)  : xMi l yX3_setSpring wsX3_setSpring rm_X3_setSpring D (tysG yI yZ yL) (mw yI g u t th K) [.ref (g 0), .int x, .int y] 0 0 (fun (r : Int32) (W1 : va_W) => r = r_or0 (q_setSpring x y) (kSpr K (ix x)) ∧ W1 = mw yI g u t (q_setSpring x y) (K_spring K x y)) := by
  refine xE_i (cc := cX3_setSpring) (nL := 4) (by decide) rfl (Nat.le_of_ble_eq_true rfl) ?_
  intro p e s m args below meth c A Q F hnm ret
  have hin3 : ∀ w ∈ u_ws RX3 TX3 9, w ∈ wsX3_setSpring := by decide +kernel
  show AW p l e rm_X3_setSpring s m args below meth c 4 D A 0 0 Q (mw yI g u t th K) [(0, .ref (g 0)), (1, .int x), (2, .int y)] 0 []
  refine xr_aload_n F dX3_setSpring_0 rfl 0 rfl ?_
  refine xr_iconst F dX3_setSpring_1 (v := 0) (by decide) ?_
  refine xr_put (ty := .int) F hin3 0 rfl rfl 0 (by decide) tyX3 tyX3_ok nmX3 (List.mem_of_getElem? (i := 1) rfl) rfl (by decide) rfl rfl (Nat.le_of_ble_eq_true rfl) (mw yI g u t 0 K) rfl dX3_setSpring_2 ?_
  refine xr_iload_n F dX3_setSpring_5 rfl 1 rfl ?_
  refine xr_iconst F dX3_setSpring_6 (v := 0) (by decide) ?_
  refine xr_bipush F dX3_setSpring_7 (v := 7) (by decide) ?_
  refine xr_callSz F (wr := mw yI g u t 0 K) (rest := []) (As := [.int x, .int 0, .int 7]) (k_X3_isIn l D yI yZ yL x 0 7 ) (va_cwS 3 F.hts gX3_setSpring_X3_isIn rfl rfl rfl (by decide +kernel) ⟨Nat.le_of_ble_eq_true rfl, Nat.le_of_ble_eq_true rfl⟩) [] [0, 1, 2] rfl rfl (by decide) (by decide) (by decide) rfl rfl (Nat.le_of_ble_eq_true rfl) dX3_setSpring_9 ⟨Nat.le_of_ble_eq_true rfl, Nat.le_of_ble_eq_true rfl⟩ (fun r1 W1 z1 => ?_)
  obtain ⟨z0, z1⟩ := z1
  subst z0
  subst z1
  refine xr_ws (ws' := mw yI g u t 0 K) rfl ?_
  refine xr_if_ne F 21 dX3_setSpring_12 (by decide) (fun c12 => ?_) (fun c12 => ?_)
  · skip
    obtain ⟨hx1, hx2⟩ := isIn_ix 7 (by decide) rfl c12
    refine xr_iload_n F dX3_setSpring_21 rfl 2 rfl ?_
    refine xr_iconst F dX3_setSpring_22 (v := 0) (by decide) ?_
    refine xr_bipush F dX3_setSpring_23 (v := 30) (by decide) ?_
    refine xr_callSz F (wr := mw yI g u t 0 K) (rest := []) (As := [.int y, .int 0, .int 30]) (k_X3_isIn l D yI yZ yL y 0 30 ) (va_cwS 3 F.hts gX3_setSpring_X3_isIn rfl rfl rfl (by decide +kernel) ⟨Nat.le_of_ble_eq_true rfl, Nat.le_of_ble_eq_true rfl⟩) [] [0, 1, 2] rfl rfl (by decide) (by decide) (by decide) rfl rfl (Nat.le_of_ble_eq_true rfl) dX3_setSpring_25 ⟨Nat.le_of_ble_eq_true rfl, Nat.le_of_ble_eq_true rfl⟩ (fun r1 W1 z1 => ?_)
    obtain ⟨z0, z1⟩ := z1
    subst z0
    subst z1
    refine xr_ws (ws' := mw yI g u t 0 K) rfl ?_
    refine xr_if_ne F 37 dX3_setSpring_28 (by decide) (fun c28 => ?_) (fun c28 => ?_)
    · skip
      refine xr_aload_n F dX3_setSpring_37 rfl 0 rfl ?_
      refine xr_get F hin3 0 rfl rfl 3 (by decide) (List.mem_of_getElem? (i := 2) rfl) (v := .ref (g 2)) rfl dX3_setSpring_38 ?_
      refine xr_iload_n F dX3_setSpring_41 rfl 1 rfl ?_
      refine xr_iald F 2 0 rfl rfl (ix x) hx1 (by omega) (by decide) dX3_setSpring_42 ?_
      refine xr_istore_n F [(3, .int ((kSpr K) (ix x))), (0, .ref (g 0)), (1, .int x), (2, .int y)] dX3_setSpring_43 rfl (by decide) rfl ?_
      refine xr_aload_n F dX3_setSpring_44 rfl 1 rfl ?_
      refine xr_get F hin3 0 rfl rfl 3 (by decide) (List.mem_of_getElem? (i := 2) rfl) (v := .ref (g 2)) rfl dX3_setSpring_45 ?_
      refine xr_iload_n F dX3_setSpring_48 rfl 2 rfl ?_
      refine xr_iload_n F dX3_setSpring_49 rfl 3 rfl ?_
      refine xr_iast F 2 0 rfl rfl (ix x) hx1 (by omega) (by decide) (mwx yI g u t 0 (kFee K) (kDry K) (kMill K) (kNb K) (upd (kSpr K) (ix x) y) (kGoal K)) rfl dX3_setSpring_50 ?_
      refine xr_iload_n F dX3_setSpring_51 rfl 0 rfl ?_
      refine ret _ _ _ _ dX3_setSpring_52 ⟨?_, ?_⟩
      · skip
        first | with_reducible rfl | (simp only [q_setSpring, K_spring, r_or0, xk_01, xk_10, xk_20, xk_30, eq_self, c12, c28, ↓reduceIte]; done) | (simp only [q_setSpring, K_spring, r_or0, xk_01, xk_10, xk_20, xk_30, eq_self, c12, c28, ↓reduceIte]; rfl) | rfl
      · skip
        have f0 : q_setSpring x y = 0 := by
          simp only [q_setSpring, K_spring, r_or0, xk_01, xk_10, xk_20, xk_30, eq_self, c12, c28, ↓reduceIte]
          try simp only [tHour, tBank, tLev, tOver, tDrawn, tFull, tLock, tFill, tAt, tPur, tSer, dHour, dBank, dLev, dOver, dDrawn, dFull, dLock, dFill, dAt, dPur, dSer]
        have f1 : K_spring K x y = (kFee K, kDry K, kMill K, kMark K, kNb K, upd (kSpr K) (ix x) y, kGoal K) := by
          simp only [q_setSpring, K_spring, r_or0, xk_01, xk_10, xk_20, xk_30, eq_self, c12, c28, ↓reduceIte]
          try simp only [tHour, tBank, tLev, tOver, tDrawn, tFull, tLock, tFill, tAt, tPur, tSer, dHour, dBank, dLev, dOver, dDrawn, dFull, dLock, dFill, dAt, dPur, dSer, uFee, uDry, uMill, uMark, uNb, uSpr, uGoal, kFee, kDry, kMill, kMark, kNb, kSpr, kGoal]
        rw [f0, f1, mw_mk]
    · skip
      refine xr_aload_n F dX3_setSpring_31 rfl 0 rfl ?_
      refine xr_iconst F dX3_setSpring_32 (v := 2) (by decide) ?_
      refine xr_callVi F (wr := ([] : va_W)) (rest := []) (As := [.int 2]) (k_X3_no l D yI yZ yL g u t 0 K 2 ) (cwV 1 F.hts gX3_setSpring_X3_no rfl rfl rfl (by decide +kernel) ⟨Nat.le_of_ble_eq_true rfl, Nat.le_of_ble_eq_true rfl⟩) (q0 := 0) rfl rfl [0, 1, 2] [] rfl rfl (by decide) (by decide) (by decide) rfl rfl (Nat.le_of_ble_eq_true rfl) dX3_setSpring_33 ⟨Nat.le_of_ble_eq_true rfl, Nat.le_of_ble_eq_true rfl⟩ (fun r1 W1 z1 => ?_)
      obtain ⟨z0, z1⟩ := z1
      subst z0
      subst z1
      refine xr_ws (ws' := mw yI g u t 2 K) rfl ?_
      refine ret _ _ _ _ dX3_setSpring_36 ⟨?_, ?_⟩
      · skip
        first | with_reducible rfl | (simp only [q_setSpring, K_spring, r_or0, xk_01, xk_10, xk_20, xk_30, eq_self, c12, c28, ↓reduceIte]; done) | (simp only [q_setSpring, K_spring, r_or0, xk_01, xk_10, xk_20, xk_30, eq_self, c12, c28, ↓reduceIte]; rfl) | rfl
      · skip
        have f0 : q_setSpring x y = 2 := by
          simp only [q_setSpring, K_spring, r_or0, xk_01, xk_10, xk_20, xk_30, eq_self, c12, c28, ↓reduceIte]
          try simp only [tHour, tBank, tLev, tOver, tDrawn, tFull, tLock, tFill, tAt, tPur, tSer, dHour, dBank, dLev, dOver, dDrawn, dFull, dLock, dFill, dAt, dPur, dSer]
        have f1 : K_spring K x y = K := by
          simp only [q_setSpring, K_spring, r_or0, xk_01, xk_10, xk_20, xk_30, eq_self, c12, c28, ↓reduceIte]
          try simp only [tHour, tBank, tLev, tOver, tDrawn, tFull, tLock, tFill, tAt, tPur, tSer, dHour, dBank, dLev, dOver, dDrawn, dFull, dLock, dFill, dAt, dPur, dSer, uFee, uDry, uMill, uMark, uNb, uSpr, uGoal, kFee, kDry, kMill, kMark, kNb, kSpr, kGoal]
        rw [f0, f1]
  · skip
    refine xr_aload_n F dX3_setSpring_15 rfl 0 rfl ?_
    refine xr_iconst F dX3_setSpring_16 (v := 1) (by decide) ?_
    refine xr_callVi F (wr := ([] : va_W)) (rest := []) (As := [.int 1]) (k_X3_no l D yI yZ yL g u t 0 K 1 ) (cwV 1 F.hts gX3_setSpring_X3_no rfl rfl rfl (by decide +kernel) ⟨Nat.le_of_ble_eq_true rfl, Nat.le_of_ble_eq_true rfl⟩) (q0 := 0) rfl rfl [0, 1, 2] [] rfl rfl (by decide) (by decide) (by decide) rfl rfl (Nat.le_of_ble_eq_true rfl) dX3_setSpring_17 ⟨Nat.le_of_ble_eq_true rfl, Nat.le_of_ble_eq_true rfl⟩ (fun r1 W1 z1 => ?_)
    obtain ⟨z0, z1⟩ := z1
    subst z0
    subst z1
    refine xr_ws (ws' := mw yI g u t 1 K) rfl ?_
    refine ret _ _ _ _ dX3_setSpring_20 ⟨?_, ?_⟩
    · skip
      first | with_reducible rfl | (simp only [q_setSpring, K_spring, r_or0, xk_01, xk_10, xk_20, xk_30, eq_self, c12, ↓reduceIte]; done) | (simp only [q_setSpring, K_spring, r_or0, xk_01, xk_10, xk_20, xk_30, eq_self, c12, ↓reduceIte]; rfl) | rfl
    · skip
      have f0 : q_setSpring x y = 1 := by
        simp only [q_setSpring, K_spring, r_or0, xk_01, xk_10, xk_20, xk_30, eq_self, c12, ↓reduceIte]
        try simp only [tHour, tBank, tLev, tOver, tDrawn, tFull, tLock, tFill, tAt, tPur, tSer, dHour, dBank, dLev, dOver, dDrawn, dFull, dLock, dFill, dAt, dPur, dSer]
      have f1 : K_spring K x y = K := by
        simp only [q_setSpring, K_spring, r_or0, xk_01, xk_10, xk_20, xk_30, eq_self, c12, ↓reduceIte]
        try simp only [tHour, tBank, tLev, tOver, tDrawn, tFull, tLock, tFill, tAt, tPur, tSer, dHour, dBank, dLev, dOver, dDrawn, dFull, dLock, dFill, dAt, dPur, dSer, uFee, uDry, uMill, uMark, uNb, uSpr, uGoal, kFee, kDry, kMill, kMark, kNb, kSpr, kGoal]
      rw [f0, f1]

def rm_X3_setMill : Room := { frames := 1, cells := 0, slots := 0, locals := 22 }
set_option maxHeartbeats 4000000 in
set_option maxRecDepth 100000 in
/-- setMill -/
theorem k_X3_setMill (l : Launch) (D : va_G) (yI yZ yL : ClassId) (g u t : Nat → Nat) (th : Int32) (K : CK) (aw : Int32) (wh : Nat → Int32) (V : CD) (x : Int32) (y : Int32)  : xMi l yX3_setMill wsX3_setMill rm_X3_setMill D (tysG yI yZ yL) ((mw yI g u t th K) ++ (sw yI u (kMark K) aw wh V)) [.ref (g 0), .int x, .int y] 0 0 (fun (r : Int32) (W1 : va_W) => r = r_or0 (q_setMill x y) (kMark K) ∧ W1 = (mw yI g u t (q_setMill x y) (K_mill K x y)) ++ (sw yI u (kMark (K_mill K x y)) aw wh V)) := by
  refine xE_i (cc := cX3_setMill) (nL := 4) (by decide) rfl (Nat.le_of_ble_eq_true rfl) ?_
  intro p e s m args below meth c A Q F hnm ret
  have hin2 : ∀ w ∈ u_ws RX2 TX2 14, w ∈ wsX3_setMill := by decide +kernel
  have hin3 : ∀ w ∈ u_ws RX3 TX3 9, w ∈ wsX3_setMill := by decide +kernel
  show AW p l e rm_X3_setMill s m args below meth c 4 D A 0 0 Q ((mw yI g u t th K) ++ (sw yI u (kMark K) aw wh V)) [(0, .ref (g 0)), (1, .int x), (2, .int y)] 0 []
  refine xr_aload_n F dX3_setMill_0 rfl 0 rfl ?_
  refine xr_iconst F dX3_setMill_1 (v := 0) (by decide) ?_
  refine xr_put (ty := .int) F hin3 0 rfl rfl 0 (by decide) tyX3 tyX3_ok nmX3 (List.mem_of_getElem? (i := 1) rfl) rfl (by decide) rfl rfl (Nat.le_of_ble_eq_true rfl) ((mw yI g u t 0 K) ++ (sw yI u (kMark K) aw wh V)) rfl dX3_setMill_2 ?_
  refine xr_iload_n F dX3_setMill_5 rfl 1 rfl ?_
  refine xr_iconst F dX3_setMill_6 (v := (-1)) (by decide) ?_
  refine xr_iconst F dX3_setMill_7 (v := 5) (by decide) ?_
  refine xr_callSz F (wr := (mw yI g u t 0 K) ++ (sw yI u (kMark K) aw wh V)) (rest := []) (As := [.int x, .int ((-1)), .int 5]) (k_X3_isIn l D yI yZ yL x (-1) 5 ) (va_cwS 3 F.hts gX3_setMill_X3_isIn rfl rfl rfl (by decide +kernel) ⟨Nat.le_of_ble_eq_true rfl, Nat.le_of_ble_eq_true rfl⟩) [] [0, 1, 2, 3, 4, 5, 6, 7, 8, 9, 10, 11, 12, 13] rfl rfl (by decide) (by decide) (by decide) rfl rfl (Nat.le_of_ble_eq_true rfl) dX3_setMill_8 ⟨Nat.le_of_ble_eq_true rfl, Nat.le_of_ble_eq_true rfl⟩ (fun r1 W1 z1 => ?_)
  obtain ⟨z0, z1⟩ := z1
  subst z0
  subst z1
  refine xr_ws (ws' := (mw yI g u t 0 K) ++ (sw yI u (kMark K) aw wh V)) rfl ?_
  refine xr_if_ne F 20 dX3_setMill_11 (by decide) (fun c11 => ?_) (fun c11 => ?_)
  · skip
    obtain ⟨hx1, hx2⟩ := isIn_ixm c11
    refine xr_iload_n F dX3_setMill_20 rfl 2 rfl ?_
    refine xr_iconst F dX3_setMill_21 (v := 0) (by decide) ?_
    refine xr_bipush F dX3_setMill_22 (v := 100) (by decide) ?_
    refine xr_callSz F (wr := (mw yI g u t 0 K) ++ (sw yI u (kMark K) aw wh V)) (rest := []) (As := [.int y, .int 0, .int 100]) (k_X3_isIn l D yI yZ yL y 0 100 ) (va_cwS 3 F.hts gX3_setMill_X3_isIn rfl rfl rfl (by decide +kernel) ⟨Nat.le_of_ble_eq_true rfl, Nat.le_of_ble_eq_true rfl⟩) [] [0, 1, 2, 3, 4, 5, 6, 7, 8, 9, 10, 11, 12, 13] rfl rfl (by decide) (by decide) (by decide) rfl rfl (Nat.le_of_ble_eq_true rfl) dX3_setMill_24 ⟨Nat.le_of_ble_eq_true rfl, Nat.le_of_ble_eq_true rfl⟩ (fun r1 W1 z1 => ?_)
    obtain ⟨z0, z1⟩ := z1
    subst z0
    subst z1
    refine xr_ws (ws' := (mw yI g u t 0 K) ++ (sw yI u (kMark K) aw wh V)) rfl ?_
    refine xr_if_ne F 36 dX3_setMill_27 (by decide) (fun c27 => ?_) (fun c27 => ?_)
    · skip
      refine xr_aload_n F dX3_setMill_36 rfl 0 rfl ?_
      refine xr_get F hin3 0 rfl rfl 7 (by decide) (List.mem_of_getElem? (i := 2) rfl) (v := .ref (u 0)) rfl dX3_setMill_37 ?_
      refine xr_getN F hin2 3 rfl rfl 1 (by decide) (List.mem_of_getElem? (i := 1) rfl) (v := .int (kMark K)) rfl dX3_setMill_40 ?_
      refine xr_istore_n F [(3, .int (kMark K)), (0, .ref (g 0)), (1, .int x), (2, .int y)] dX3_setMill_43 rfl (by decide) rfl ?_
      refine xr_aload_n F dX3_setMill_44 rfl 1 rfl ?_
      refine xr_iload_n F dX3_setMill_45 rfl 2 rfl ?_
      refine xr_top (y := nI (ix (x + 1)) - 1) hx1 ?_
      refine xr_put (ty := .int) F hin3 0 rfl rfl 4 (by decide) tyX3 tyX3_ok nmX3 (List.mem_of_getElem? (i := 3) rfl) rfl (by decide) rfl rfl (Nat.le_of_ble_eq_true rfl) ((mwx yI g u t 0 (kFee K) (kDry K) (ix (x + 1)) (kNb K) (kSpr K) (kGoal K)) ++ (sw yI u (kMark K) aw wh V)) rfl dX3_setMill_46 ?_
      refine xr_aload_n F dX3_setMill_49 rfl 1 rfl ?_
      refine xr_get F hin3 0 rfl rfl 7 (by decide) (List.mem_of_getElem? (i := 2) rfl) (v := .ref (u 0)) rfl dX3_setMill_50 ?_
      refine xr_iload_n F dX3_setMill_53 rfl 3 rfl ?_
      refine xr_putN (ty := .int) F hin2 3 rfl rfl 1 (by decide) tyX2 tyX2_ok nmX2 (List.mem_of_getElem? (i := 1) rfl) rfl (by decide) rfl rfl (Nat.le_of_ble_eq_true rfl) ((mwx yI g u t 0 (kFee K) (kDry K) (ix (x + 1)) (kNb K) (kSpr K) (kGoal K)) ++ (sw yI u y aw wh V)) rfl dX3_setMill_54 ?_
      refine xr_iload_n F dX3_setMill_57 rfl 0 rfl ?_
      refine ret _ _ _ _ dX3_setMill_58 ⟨?_, ?_⟩
      · skip
        first | with_reducible rfl | (simp only [q_setMill, K_mill, r_or0, xk_01, xk_10, xk_20, xk_30, eq_self, c11, c27, ↓reduceIte]; done) | (simp only [q_setMill, K_mill, r_or0, xk_01, xk_10, xk_20, xk_30, eq_self, c11, c27, ↓reduceIte]; rfl) | rfl
      · skip
        have f0 : q_setMill x y = 0 := by
          simp only [q_setMill, K_mill, r_or0, xk_01, xk_10, xk_20, xk_30, eq_self, c11, c27, ↓reduceIte]
          try simp only [tHour, tBank, tLev, tOver, tDrawn, tFull, tLock, tFill, tAt, tPur, tSer, dHour, dBank, dLev, dOver, dDrawn, dFull, dLock, dFill, dAt, dPur, dSer]
        have f1 : kMark (K_mill K x y) = y := by
          simp only [q_setMill, K_mill, r_or0, xk_01, xk_10, xk_20, xk_30, eq_self, c11, c27, ↓reduceIte]
          try simp only [tHour, tBank, tLev, tOver, tDrawn, tFull, tLock, tFill, tAt, tPur, tSer, dHour, dBank, dLev, dOver, dDrawn, dFull, dLock, dFill, dAt, dPur, dSer, uFee, uDry, uMill, uMark, uNb, uSpr, uGoal, kFee, kDry, kMill, kMark, kNb, kSpr, kGoal]
        have f2 : K_mill K x y = (kFee K, kDry K, ix (x + 1), y, kNb K, kSpr K, kGoal K) := by
          simp only [q_setMill, K_mill, r_or0, xk_01, xk_10, xk_20, xk_30, eq_self, c11, c27, ↓reduceIte]
          try simp only [tHour, tBank, tLev, tOver, tDrawn, tFull, tLock, tFill, tAt, tPur, tSer, dHour, dBank, dLev, dOver, dDrawn, dFull, dLock, dFill, dAt, dPur, dSer, uFee, uDry, uMill, uMark, uNb, uSpr, uGoal, kFee, kDry, kMill, kMark, kNb, kSpr, kGoal]
        rw [f0, f1, f2, mw_mk]
    · skip
      refine xr_aload_n F dX3_setMill_30 rfl 0 rfl ?_
      refine xr_iconst F dX3_setMill_31 (v := 2) (by decide) ?_
      refine xr_callVi F (wr := sw yI u (kMark K) aw wh V) (rest := []) (As := [.int 2]) (k_X3_no l D yI yZ yL g u t 0 K 2 ) (cwV 1 F.hts gX3_setMill_X3_no rfl rfl rfl (by decide +kernel) ⟨Nat.le_of_ble_eq_true rfl, Nat.le_of_ble_eq_true rfl⟩) (q0 := 0) rfl rfl [0, 1, 2] [3, 4, 5, 6, 7, 8, 9, 10, 11, 12, 13] rfl rfl (by decide) (by decide) (by decide) rfl rfl (Nat.le_of_ble_eq_true rfl) dX3_setMill_32 ⟨Nat.le_of_ble_eq_true rfl, Nat.le_of_ble_eq_true rfl⟩ (fun r1 W1 z1 => ?_)
      obtain ⟨z0, z1⟩ := z1
      subst z0
      subst z1
      refine xr_sub (ws' := (mw yI g u t 2 K) ++ (sw yI u (kMark K) aw wh V)) [11, 12, 13, 0, 1, 2, 3, 4, 5, 6, 7, 8, 9, 10] (by decide) rfl ?_
      refine ret _ _ _ _ dX3_setMill_35 ⟨?_, ?_⟩
      · skip
        first | with_reducible rfl | (simp only [q_setMill, K_mill, r_or0, xk_01, xk_10, xk_20, xk_30, eq_self, c11, c27, ↓reduceIte]; done) | (simp only [q_setMill, K_mill, r_or0, xk_01, xk_10, xk_20, xk_30, eq_self, c11, c27, ↓reduceIte]; rfl) | rfl
      · skip
        have f0 : q_setMill x y = 2 := by
          simp only [q_setMill, K_mill, r_or0, xk_01, xk_10, xk_20, xk_30, eq_self, c11, c27, ↓reduceIte]
          try simp only [tHour, tBank, tLev, tOver, tDrawn, tFull, tLock, tFill, tAt, tPur, tSer, dHour, dBank, dLev, dOver, dDrawn, dFull, dLock, dFill, dAt, dPur, dSer]
        have f1 : kMark (K_mill K x y) = kMark K := by
          simp only [q_setMill, K_mill, r_or0, xk_01, xk_10, xk_20, xk_30, eq_self, c11, c27, ↓reduceIte]
          try simp only [tHour, tBank, tLev, tOver, tDrawn, tFull, tLock, tFill, tAt, tPur, tSer, dHour, dBank, dLev, dOver, dDrawn, dFull, dLock, dFill, dAt, dPur, dSer, uFee, uDry, uMill, uMark, uNb, uSpr, uGoal, kFee, kDry, kMill, kMark, kNb, kSpr, kGoal]
        have f2 : K_mill K x y = K := by
          simp only [q_setMill, K_mill, r_or0, xk_01, xk_10, xk_20, xk_30, eq_self, c11, c27, ↓reduceIte]
          try simp only [tHour, tBank, tLev, tOver, tDrawn, tFull, tLock, tFill, tAt, tPur, tSer, dHour, dBank, dLev, dOver, dDrawn, dFull, dLock, dFill, dAt, dPur, dSer, uFee, uDry, uMill, uMark, uNb, uSpr, uGoal, kFee, kDry, kMill, kMark, kNb, kSpr, kGoal]
        rw [f0, f1, f2]
  · skip
    refine xr_aload_n F dX3_setMill_14 rfl 0 rfl ?_
    refine xr_iconst F dX3_setMill_15 (v := 1) (by decide) ?_
    refine xr_callVi F (wr := sw yI u (kMark K) aw wh V) (rest := []) (As := [.int 1]) (k_X3_no l D yI yZ yL g u t 0 K 1 ) (cwV 1 F.hts gX3_setMill_X3_no rfl rfl rfl (by decide +kernel) ⟨Nat.le_of_ble_eq_true rfl, Nat.le_of_ble_eq_true rfl⟩) (q0 := 0) rfl rfl [0, 1, 2] [3, 4, 5, 6, 7, 8, 9, 10, 11, 12, 13] rfl rfl (by decide) (by decide) (by decide) rfl rfl (Nat.le_of_ble_eq_true rfl) dX3_setMill_16 ⟨Nat.le_of_ble_eq_true rfl, Nat.le_of_ble_eq_true rfl⟩ (fun r1 W1 z1 => ?_)
    obtain ⟨z0, z1⟩ := z1
    subst z0
    subst z1
    refine xr_sub (ws' := (mw yI g u t 1 K) ++ (sw yI u (kMark K) aw wh V)) [11, 12, 13, 0, 1, 2, 3, 4, 5, 6, 7, 8, 9, 10] (by decide) rfl ?_
    refine ret _ _ _ _ dX3_setMill_19 ⟨?_, ?_⟩
    · skip
      first | with_reducible rfl | (simp only [q_setMill, K_mill, r_or0, xk_01, xk_10, xk_20, xk_30, eq_self, c11, ↓reduceIte]; done) | (simp only [q_setMill, K_mill, r_or0, xk_01, xk_10, xk_20, xk_30, eq_self, c11, ↓reduceIte]; rfl) | rfl
    · skip
      have f0 : q_setMill x y = 1 := by
        simp only [q_setMill, K_mill, r_or0, xk_01, xk_10, xk_20, xk_30, eq_self, c11, ↓reduceIte]
        try simp only [tHour, tBank, tLev, tOver, tDrawn, tFull, tLock, tFill, tAt, tPur, tSer, dHour, dBank, dLev, dOver, dDrawn, dFull, dLock, dFill, dAt, dPur, dSer]
      have f1 : kMark (K_mill K x y) = kMark K := by
        simp only [q_setMill, K_mill, r_or0, xk_01, xk_10, xk_20, xk_30, eq_self, c11, ↓reduceIte]
        try simp only [tHour, tBank, tLev, tOver, tDrawn, tFull, tLock, tFill, tAt, tPur, tSer, dHour, dBank, dLev, dOver, dDrawn, dFull, dLock, dFill, dAt, dPur, dSer, uFee, uDry, uMill, uMark, uNb, uSpr, uGoal, kFee, kDry, kMill, kMark, kNb, kSpr, kGoal]
      have f2 : K_mill K x y = K := by
        simp only [q_setMill, K_mill, r_or0, xk_01, xk_10, xk_20, xk_30, eq_self, c11, ↓reduceIte]
        try simp only [tHour, tBank, tLev, tOver, tDrawn, tFull, tLock, tFill, tAt, tPur, tSer, dHour, dBank, dLev, dOver, dDrawn, dFull, dLock, dFill, dAt, dPur, dSer, uFee, uDry, uMill, uMark, uNb, uSpr, uGoal, kFee, kDry, kMill, kMark, kNb, kSpr, kGoal]
      rw [f0, f1, f2]

def rm_X3_setDrought : Room := { frames := 0, cells := 0, slots := 0, locals := 0 }
set_option maxHeartbeats 4000000 in
set_option maxRecDepth 100000 in
/-- setDrought -/
theorem k_X3_setDrought (l : Launch) (D : va_G) (yI yZ yL : ClassId) (g u t : Nat → Nat) (th : Int32) (K : CK) (x : Int32) (h0 : kDry K = 0 ∨ kDry K = 1) (h1 : x = 0 ∨ x = 1) : xMi l yX3_setDrought wsX3_setDrought rm_X3_setDrought D (tysG yI yZ yL) (mw yI g u t th K) [.ref (g 0), .int x] 0 0 (fun (r : Int32) (W1 : va_W) => r = kDry K ∧ W1 = mw yI g u t 0 (uDry K x)) := by
  refine xE_z (cc := cX3_setDrought) (nL := 3) (by decide) rfl (Nat.le_of_ble_eq_true rfl) ?_
  intro p e s m args below meth c A Q F hnm ret
  have hin3 : ∀ w ∈ u_ws RX3 TX3 9, w ∈ wsX3_setDrought := by decide +kernel
  show AW p l e rm_X3_setDrought s m args below meth c 3 D A 0 0 Q (mw yI g u t th K) [(0, .ref (g 0)), (1, .int x)] 0 []
  refine xr_aload_n F dX3_setDrought_0 rfl 0 rfl ?_
  refine xr_iconst F dX3_setDrought_1 (v := 0) (by decide) ?_
  refine xr_put (ty := .int) F hin3 0 rfl rfl 0 (by decide) tyX3 tyX3_ok nmX3 (List.mem_of_getElem? (i := 1) rfl) rfl (by decide) rfl rfl (Nat.le_of_ble_eq_true rfl) (mw yI g u t 0 K) rfl dX3_setDrought_2 ?_
  refine xr_aload_n F dX3_setDrought_5 rfl 0 rfl ?_
  refine xr_get F hin3 0 rfl rfl 5 (by decide) (List.mem_of_getElem? (i := 2) rfl) (v := .int (kDry K)) rfl dX3_setDrought_6 ?_
  refine xr_istore_n F [(2, .int (kDry K)), (0, .ref (g 0)), (1, .int x)] dX3_setDrought_9 rfl (by decide) rfl ?_
  refine xr_aload_n F dX3_setDrought_10 rfl 1 rfl ?_
  refine xr_iload_n F dX3_setDrought_11 rfl 2 rfl ?_
  refine xr_put (ty := .boolean) F hin3 0 rfl rfl 5 (by decide) tyX3 tyX3_ok nmX3 (List.mem_of_getElem? (i := 2) rfl) rfl (by decide) (nz01 h1) (fz01 h1) (Nat.le_of_ble_eq_true rfl) (mwx yI g u t 0 (kFee K) x (kMill K) (kNb K) (kSpr K) (kGoal K)) rfl dX3_setDrought_12 ?_
  refine xr_iload_n F dX3_setDrought_15 rfl 0 rfl ?_
  refine ret _ _ _ _ dX3_setDrought_16 (nz01 h0) ⟨?_, ?_⟩
  · skip
    first | with_reducible rfl | (simp only [uDry, ↓reduceIte]; done) | (simp only [uDry, ↓reduceIte]; rfl) | rfl
  · skip
    have f1 : uDry K x = (kFee K, x, kMill K, kMark K, kNb K, kSpr K, kGoal K) := by
      simp only [uDry, ↓reduceIte]
      try simp only [tHour, tBank, tLev, tOver, tDrawn, tFull, tLock, tFill, tAt, tPur, tSer, dHour, dBank, dLev, dOver, dDrawn, dFull, dLock, dFill, dAt, dPur, dSer, uFee, uDry, uMill, uMark, uNb, uSpr, uGoal, kFee, kDry, kMill, kMark, kNb, kSpr, kGoal]
    rw [f1, mw_mk]

def rm_X3_setFee : Room := { frames := 1, cells := 0, slots := 0, locals := 22 }
set_option maxHeartbeats 4000000 in
set_option maxRecDepth 100000 in
/-- setFee -/
theorem k_X3_setFee (l : Launch) (D : va_G) (yI yZ yL : ClassId) (g u t : Nat → Nat) (th : Int32) (K : CK) (x : Int32)  : xMi l yX3_setFee wsX3_setFee rm_X3_setFee D (tysG yI yZ yL) (mw yI g u t th K) [.ref (g 0), .int x] 0 0 (fun (r : Int32) (W1 : va_W) => r = r_or0 (q_setFee x) (kFee K) ∧ W1 = mw yI g u t (q_setFee x) (K_fee K x)) := by
  refine xE_i (cc := cX3_setFee) (nL := 3) (by decide) rfl (Nat.le_of_ble_eq_true rfl) ?_
  intro p e s m args below meth c A Q F hnm ret
  have hin3 : ∀ w ∈ u_ws RX3 TX3 9, w ∈ wsX3_setFee := by decide +kernel
  show AW p l e rm_X3_setFee s m args below meth c 3 D A 0 0 Q (mw yI g u t th K) [(0, .ref (g 0)), (1, .int x)] 0 []
  refine xr_aload_n F dX3_setFee_0 rfl 0 rfl ?_
  refine xr_iconst F dX3_setFee_1 (v := 0) (by decide) ?_
  refine xr_put (ty := .int) F hin3 0 rfl rfl 0 (by decide) tyX3 tyX3_ok nmX3 (List.mem_of_getElem? (i := 1) rfl) rfl (by decide) rfl rfl (Nat.le_of_ble_eq_true rfl) (mw yI g u t 0 K) rfl dX3_setFee_2 ?_
  refine xr_iload_n F dX3_setFee_5 rfl 1 rfl ?_
  refine xr_iconst F dX3_setFee_6 (v := 0) (by decide) ?_
  refine xr_bipush F dX3_setFee_7 (v := 20) (by decide) ?_
  refine xr_callSz F (wr := mw yI g u t 0 K) (rest := []) (As := [.int x, .int 0, .int 20]) (k_X3_isIn l D yI yZ yL x 0 20 ) (va_cwS 3 F.hts gX3_setFee_X3_isIn rfl rfl rfl (by decide +kernel) ⟨Nat.le_of_ble_eq_true rfl, Nat.le_of_ble_eq_true rfl⟩) [] [0, 1, 2] rfl rfl (by decide) (by decide) (by decide) rfl rfl (Nat.le_of_ble_eq_true rfl) dX3_setFee_9 ⟨Nat.le_of_ble_eq_true rfl, Nat.le_of_ble_eq_true rfl⟩ (fun r1 W1 z1 => ?_)
  obtain ⟨z0, z1⟩ := z1
  subst z0
  subst z1
  refine xr_ws (ws' := mw yI g u t 0 K) rfl ?_
  refine xr_if_ne F 21 dX3_setFee_12 (by decide) (fun c12 => ?_) (fun c12 => ?_)
  · skip
    refine xr_aload_n F dX3_setFee_21 rfl 0 rfl ?_
    refine xr_get F hin3 0 rfl rfl 6 (by decide) (List.mem_of_getElem? (i := 2) rfl) (v := .int (kFee K)) rfl dX3_setFee_22 ?_
    refine xr_istore_n F [(2, .int (kFee K)), (0, .ref (g 0)), (1, .int x)] dX3_setFee_25 rfl (by decide) rfl ?_
    refine xr_aload_n F dX3_setFee_26 rfl 1 rfl ?_
    refine xr_iload_n F dX3_setFee_27 rfl 2 rfl ?_
    refine xr_put (ty := .int) F hin3 0 rfl rfl 6 (by decide) tyX3 tyX3_ok nmX3 (List.mem_of_getElem? (i := 2) rfl) rfl (by decide) rfl rfl (Nat.le_of_ble_eq_true rfl) (mwx yI g u t 0 x (kDry K) (kMill K) (kNb K) (kSpr K) (kGoal K)) rfl dX3_setFee_28 ?_
    refine xr_iload_n F dX3_setFee_31 rfl 0 rfl ?_
    refine ret _ _ _ _ dX3_setFee_32 ⟨?_, ?_⟩
    · skip
      first | with_reducible rfl | (simp only [q_setFee, K_fee, r_or0, xk_01, xk_10, xk_20, xk_30, eq_self, c12, ↓reduceIte]; done) | (simp only [q_setFee, K_fee, r_or0, xk_01, xk_10, xk_20, xk_30, eq_self, c12, ↓reduceIte]; rfl) | rfl
    · skip
      have f0 : q_setFee x = 0 := by
        simp only [q_setFee, K_fee, r_or0, xk_01, xk_10, xk_20, xk_30, eq_self, c12, ↓reduceIte]
        try simp only [tHour, tBank, tLev, tOver, tDrawn, tFull, tLock, tFill, tAt, tPur, tSer, dHour, dBank, dLev, dOver, dDrawn, dFull, dLock, dFill, dAt, dPur, dSer]
      have f1 : K_fee K x = (x, kDry K, kMill K, kMark K, kNb K, kSpr K, kGoal K) := by
        simp only [q_setFee, K_fee, r_or0, xk_01, xk_10, xk_20, xk_30, eq_self, c12, ↓reduceIte]
        try simp only [tHour, tBank, tLev, tOver, tDrawn, tFull, tLock, tFill, tAt, tPur, tSer, dHour, dBank, dLev, dOver, dDrawn, dFull, dLock, dFill, dAt, dPur, dSer, uFee, uDry, uMill, uMark, uNb, uSpr, uGoal, kFee, kDry, kMill, kMark, kNb, kSpr, kGoal]
      rw [f0, f1, mw_mk]
  · skip
    refine xr_aload_n F dX3_setFee_15 rfl 0 rfl ?_
    refine xr_iconst F dX3_setFee_16 (v := 1) (by decide) ?_
    refine xr_callVi F (wr := ([] : va_W)) (rest := []) (As := [.int 1]) (k_X3_no l D yI yZ yL g u t 0 K 1 ) (cwV 1 F.hts gX3_setFee_X3_no rfl rfl rfl (by decide +kernel) ⟨Nat.le_of_ble_eq_true rfl, Nat.le_of_ble_eq_true rfl⟩) (q0 := 0) rfl rfl [0, 1, 2] [] rfl rfl (by decide) (by decide) (by decide) rfl rfl (Nat.le_of_ble_eq_true rfl) dX3_setFee_17 ⟨Nat.le_of_ble_eq_true rfl, Nat.le_of_ble_eq_true rfl⟩ (fun r1 W1 z1 => ?_)
    obtain ⟨z0, z1⟩ := z1
    subst z0
    subst z1
    refine xr_ws (ws' := mw yI g u t 1 K) rfl ?_
    refine ret _ _ _ _ dX3_setFee_20 ⟨?_, ?_⟩
    · skip
      first | with_reducible rfl | (simp only [q_setFee, K_fee, r_or0, xk_01, xk_10, xk_20, xk_30, eq_self, c12, ↓reduceIte]; done) | (simp only [q_setFee, K_fee, r_or0, xk_01, xk_10, xk_20, xk_30, eq_self, c12, ↓reduceIte]; rfl) | rfl
    · skip
      have f0 : q_setFee x = 1 := by
        simp only [q_setFee, K_fee, r_or0, xk_01, xk_10, xk_20, xk_30, eq_self, c12, ↓reduceIte]
        try simp only [tHour, tBank, tLev, tOver, tDrawn, tFull, tLock, tFill, tAt, tPur, tSer, dHour, dBank, dLev, dOver, dDrawn, dFull, dLock, dFill, dAt, dPur, dSer]
      have f1 : K_fee K x = K := by
        simp only [q_setFee, K_fee, r_or0, xk_01, xk_10, xk_20, xk_30, eq_self, c12, ↓reduceIte]
        try simp only [tHour, tBank, tLev, tOver, tDrawn, tFull, tLock, tFill, tAt, tPur, tSer, dHour, dBank, dLev, dOver, dDrawn, dFull, dLock, dFill, dAt, dPur, dSer, uFee, uDry, uMill, uMark, uNb, uSpr, uGoal, kFee, kDry, kMill, kMark, kNb, kSpr, kGoal]
      rw [f0, f1]

def rm_X3_water : Room := { frames := 2, cells := 0, slots := 0, locals := 45 }
set_option maxHeartbeats 4000000 in
set_option maxRecDepth 100000 in
/-- water -/
theorem k_X3_water (l : Launch) (D : va_G) (yI yZ yL : ClassId) (g u t : Nat → Nat) (th : Int32) (K : CK) (aw : Int32) (wh : Nat → Int32) (V : CD) (x : Int32) (y : Int32)  : xMi l yX3_water wsX3_water rm_X3_water D (tysG yI yZ yL) ((mw yI g u t th K) ++ (sw yI u (kMark K) aw wh V)) [.ref (g 0), .int x, .int y] 0 0 (fun (r : Int32) (W1 : va_W) => r = r_or0 (q_water V x y) (dBank (m_water V aw x y).1) ∧ W1 = (mw yI g u t (q_water V x y) K) ++ (sw yI u (kMark K) ((m_water V aw x y).2) wh ((m_water V aw x y).1))) := by
  refine xE_i (cc := cX3_water) (nL := 4) (by decide) rfl (Nat.le_of_ble_eq_true rfl) ?_
  intro p e s m args below meth c A Q F hnm ret
  have hin2 : ∀ w ∈ u_ws RX2 TX2 14, w ∈ wsX3_water := by decide +kernel
  have hin3 : ∀ w ∈ u_ws RX3 TX3 9, w ∈ wsX3_water := by decide +kernel
  show AW p l e rm_X3_water s m args below meth c 4 D A 0 0 Q ((mw yI g u t th K) ++ (sw yI u (kMark K) aw wh V)) [(0, .ref (g 0)), (1, .int x), (2, .int y)] 0 []
  refine xr_aload_n F dX3_water_0 rfl 0 rfl ?_
  refine xr_iconst F dX3_water_1 (v := 0) (by decide) ?_
  refine xr_put (ty := .int) F hin3 0 rfl rfl 0 (by decide) tyX3 tyX3_ok nmX3 (List.mem_of_getElem? (i := 1) rfl) rfl (by decide) rfl rfl (Nat.le_of_ble_eq_true rfl) ((mw yI g u t 0 K) ++ (sw yI u (kMark K) aw wh V)) rfl dX3_water_2 ?_
  refine xr_iload_n F dX3_water_5 rfl 1 rfl ?_
  refine xr_iconst F dX3_water_6 (v := 0) (by decide) ?_
  refine xr_iconst F dX3_water_7 (v := 5) (by decide) ?_
  refine xr_callSz F (wr := (mw yI g u t 0 K) ++ (sw yI u (kMark K) aw wh V)) (rest := []) (As := [.int x, .int 0, .int 5]) (k_X3_isIn l D yI yZ yL x 0 5 ) (va_cwS 3 F.hts gX3_water_X3_isIn rfl rfl rfl (by decide +kernel) ⟨Nat.le_of_ble_eq_true rfl, Nat.le_of_ble_eq_true rfl⟩) [] [0, 1, 2, 3, 4, 5, 6, 7, 8, 9, 10, 11, 12, 13] rfl rfl (by decide) (by decide) (by decide) rfl rfl (Nat.le_of_ble_eq_true rfl) dX3_water_8 ⟨Nat.le_of_ble_eq_true rfl, Nat.le_of_ble_eq_true rfl⟩ (fun r1 W1 z1 => ?_)
  obtain ⟨z0, z1⟩ := z1
  subst z0
  subst z1
  refine xr_ws (ws' := (mw yI g u t 0 K) ++ (sw yI u (kMark K) aw wh V)) rfl ?_
  refine xr_if_ne F 20 dX3_water_11 (by decide) (fun c11 => ?_) (fun c11 => ?_)
  · skip
    obtain ⟨hx1, hx2⟩ := isIn_ix 5 (by decide) rfl c11
    refine xr_iload_n F dX3_water_20 rfl 2 rfl ?_
    refine xr_iconst F dX3_water_21 (v := 1) (by decide) ?_
    refine xr_bipush F dX3_water_22 (v := 60) (by decide) ?_
    refine xr_callSz F (wr := (mw yI g u t 0 K) ++ (sw yI u (kMark K) aw wh V)) (rest := []) (As := [.int y, .int 1, .int 60]) (k_X3_isIn l D yI yZ yL y 1 60 ) (va_cwS 3 F.hts gX3_water_X3_isIn rfl rfl rfl (by decide +kernel) ⟨Nat.le_of_ble_eq_true rfl, Nat.le_of_ble_eq_true rfl⟩) [] [0, 1, 2, 3, 4, 5, 6, 7, 8, 9, 10, 11, 12, 13] rfl rfl (by decide) (by decide) (by decide) rfl rfl (Nat.le_of_ble_eq_true rfl) dX3_water_24 ⟨Nat.le_of_ble_eq_true rfl, Nat.le_of_ble_eq_true rfl⟩ (fun r1 W1 z1 => ?_)
    obtain ⟨z0, z1⟩ := z1
    subst z0
    subst z1
    refine xr_ws (ws' := (mw yI g u t 0 K) ++ (sw yI u (kMark K) aw wh V)) rfl ?_
    refine xr_if_ne F 36 dX3_water_27 (by decide) (fun c27 => ?_) (fun c27 => ?_)
    · skip
      refine xr_iload_n F dX3_water_36 rfl 2 rfl ?_
      refine xr_iconst F dX3_water_37 (v := 1) (by decide) ?_
      refine xr_iadd F (y + 1) dX3_water_38 rfl ?_
      refine xr_iconst F dX3_water_39 (v := 2) (by decide) ?_
      refine xr_idiv F ((y + 1) / 2) dX3_water_40 (by decide) rfl ?_
      refine xr_istore_n F [(3, .int ((y + 1) / 2)), (0, .ref (g 0)), (1, .int x), (2, .int y)] dX3_water_41 rfl (by decide) rfl ?_
      refine xr_aload_n F dX3_water_42 rfl 1 rfl ?_
      refine xr_get F hin3 0 rfl rfl 7 (by decide) (List.mem_of_getElem? (i := 2) rfl) (v := .ref (u 0)) rfl dX3_water_43 ?_
      refine xr_getN F hin2 3 rfl rfl 2 (by decide) (List.mem_of_getElem? (i := 2) rfl) (v := .int (dBank V)) rfl dX3_water_46 ?_
      refine xr_iload_n F dX3_water_49 rfl 0 rfl ?_
      refine xr_icmp_ge F 59 dX3_water_50 (by decide) (fun c50 => ?_) (fun c50 => ?_)
      · skip
        refine xr_aload_n F dX3_water_59 rfl 1 rfl ?_
        refine xr_get F hin3 0 rfl rfl 7 (by decide) (List.mem_of_getElem? (i := 2) rfl) (v := .ref (u 0)) rfl dX3_water_60 ?_
        refine xr_dup F dX3_water_63 rfl ?_
        refine xr_getN F hin2 3 rfl rfl 2 (by decide) (List.mem_of_getElem? (i := 2) rfl) (v := .int (dBank V)) rfl dX3_water_64 ?_
        refine xr_iload_n F dX3_water_67 rfl 0 rfl ?_
        refine xr_isub F ((dBank V) - ((y + 1) / 2)) dX3_water_68 rfl ?_
        refine xr_putN (ty := .int) F hin2 3 rfl rfl 2 (by decide) tyX2 tyX2_ok nmX2 (List.mem_of_getElem? (i := 2) rfl) rfl (by decide) rfl rfl (Nat.le_of_ble_eq_true rfl) ((mw yI g u t 0 K) ++ (swx yI u (kMark K) aw wh (dHour V) ((dBank V) - ((y + 1) / 2)) (dLev V) (dOver V) (dDrawn V) (dFull V) (dLock V) (dFill V) (dAt V) (dPur V) (dSer V))) rfl dX3_water_69 ?_
        refine xr_aload_n F dX3_water_72 rfl 1 rfl ?_
        refine xr_get F hin3 0 rfl rfl 7 (by decide) (List.mem_of_getElem? (i := 2) rfl) (v := .ref (u 0)) rfl dX3_water_73 ?_
        refine xr_iload_n F dX3_water_76 rfl 2 rfl ?_
        refine xr_iload_n F dX3_water_77 rfl 3 rfl ?_
        refine xr_stk (st' := [.int y, .int (nI (ix x)), .ref (u 0)]) (by rw [← hx1]) ?_
        refine xr_stk (st' := [.int y, .int (nI (ix x + 1) - 1), .ref (u 0)]) (by rw [nI_pred]) ?_
        obtain ⟨V1, eV1⟩ : ∃ x9 : CD, x9 = (dHour V, (dBank V) - ((y + 1) / 2), dLev V, dOver V, dDrawn V, dFull V, dLock V, dFill V, dAt V, dPur V, dSer V) := ⟨_, rfl⟩
        refine xr_ws (ws' := (mw yI g u t 0 K) ++ (sw yI u (kMark K) aw wh V1)) (by rw [eV1, sw_mk]) ?_
        refine xr_callVv F (wr := mw yI g u t 0 K) (rest := []) (As := [.int (nI (ix x + 1) - 1), .int y]) (k_X2_pour l D yI yZ yL u (kMark K) aw wh V1 (ix x + 1) y (by omega)) (cwV 2 F.hts gX3_water_X2_pour rfl rfl rfl (by decide +kernel) ⟨Nat.le_of_ble_eq_true rfl, Nat.le_of_ble_eq_true rfl⟩) (q0 := 0) rfl rfl [3, 4, 5, 6, 7, 8, 9, 10, 11, 12, 13] [0, 1, 2] rfl rfl (by decide) (by decide) (by decide) rfl rfl (Nat.le_of_ble_eq_true rfl) dX3_water_78 ⟨Nat.le_of_ble_eq_true rfl, Nat.le_of_ble_eq_true rfl⟩ (fun W1 z1 => ?_)
        obtain ⟨V2, eV2⟩ : ∃ x9 : CD, x9 = (s_pour V1 aw (ix x + 1) y).1 := ⟨_, rfl⟩
        rw [← eV2] at z1
        obtain ⟨x3, ex3⟩ : ∃ x9 : Int32, x9 = (s_pour V1 aw (ix x + 1) y).2 := ⟨_, rfl⟩
        rw [← ex3] at z1
        subst z1
        refine xr_ws (ws' := (mw yI g u t 0 K) ++ (sw yI u (kMark K) x3 wh V2)) rfl ?_
        refine xr_aload_n F dX3_water_81 rfl 1 rfl ?_
        refine xr_get F hin3 0 rfl rfl 7 (by decide) (List.mem_of_getElem? (i := 2) rfl) (v := .ref (u 0)) rfl dX3_water_82 ?_
        refine xr_getN F hin2 3 rfl rfl 2 (by decide) (List.mem_of_getElem? (i := 2) rfl) (v := .int (dBank V2)) rfl dX3_water_85 ?_
        refine ret _ _ _ _ dX3_water_88 ⟨?_, ?_⟩
        · skip
          subst ex3
          subst eV2
          subst eV1
          first | with_reducible rfl | (simp only [q_water, m_water, V_paid, r_or0, xk_01, xk_10, xk_20, xk_30, eq_self, c11, c27, c50, ↓reduceIte]; done) | (simp only [q_water, m_water, V_paid, r_or0, xk_01, xk_10, xk_20, xk_30, eq_self, c11, c27, c50, ↓reduceIte]; rfl) | rfl
        · skip
          have f0 : q_water V x y = 0 := by
            subst ex3
            subst eV2
            subst eV1
            simp only [q_water, m_water, V_paid, r_or0, xk_01, xk_10, xk_20, xk_30, eq_self, c11, c27, c50, ↓reduceIte]
            try simp only [tHour, tBank, tLev, tOver, tDrawn, tFull, tLock, tFill, tAt, tPur, tSer, dHour, dBank, dLev, dOver, dDrawn, dFull, dLock, dFill, dAt, dPur, dSer]
          have f1 : (m_water V aw x y).1 = V2 := by
            subst ex3
            subst eV2
            subst eV1
            simp only [q_water, m_water, V_paid, r_or0, xk_01, xk_10, xk_20, xk_30, eq_self, c11, c27, c50, ↓reduceIte]
            try simp only [tHour, tBank, tLev, tOver, tDrawn, tFull, tLock, tFill, tAt, tPur, tSer, dHour, dBank, dLev, dOver, dDrawn, dFull, dLock, dFill, dAt, dPur, dSer]
          have f2 : (m_water V aw x y).2 = x3 := by
            subst ex3
            subst eV2
            subst eV1
            simp only [q_water, m_water, V_paid, r_or0, xk_01, xk_10, xk_20, xk_30, eq_self, c11, c27, c50, ↓reduceIte]
            try simp only [tHour, tBank, tLev, tOver, tDrawn, tFull, tLock, tFill, tAt, tPur, tSer, dHour, dBank, dLev, dOver, dDrawn, dFull, dLock, dFill, dAt, dPur, dSer]
          rw [f0, f1, f2]
      · skip
        refine xr_aload_n F dX3_water_53 rfl 1 rfl ?_
        refine xr_iconst F dX3_water_54 (v := 3) (by decide) ?_
        refine xr_callVi F (wr := sw yI u (kMark K) aw wh V) (rest := []) (As := [.int 3]) (k_X3_no l D yI yZ yL g u t 0 K 3 ) (cwV 1 F.hts gX3_water_X3_no rfl rfl rfl (by decide +kernel) ⟨Nat.le_of_ble_eq_true rfl, Nat.le_of_ble_eq_true rfl⟩) (q0 := 0) rfl rfl [0, 1, 2] [3, 4, 5, 6, 7, 8, 9, 10, 11, 12, 13] rfl rfl (by decide) (by decide) (by decide) rfl rfl (Nat.le_of_ble_eq_true rfl) dX3_water_55 ⟨Nat.le_of_ble_eq_true rfl, Nat.le_of_ble_eq_true rfl⟩ (fun r1 W1 z1 => ?_)
        obtain ⟨z0, z1⟩ := z1
        subst z0
        subst z1
        refine xr_sub (ws' := (mw yI g u t 3 K) ++ (sw yI u (kMark K) aw wh V)) [11, 12, 13, 0, 1, 2, 3, 4, 5, 6, 7, 8, 9, 10] (by decide) rfl ?_
        refine ret _ _ _ _ dX3_water_58 ⟨?_, ?_⟩
        · skip
          first | with_reducible rfl | (simp only [q_water, m_water, V_paid, r_or0, xk_01, xk_10, xk_20, xk_30, eq_self, c11, c27, c50, ↓reduceIte]; done) | (simp only [q_water, m_water, V_paid, r_or0, xk_01, xk_10, xk_20, xk_30, eq_self, c11, c27, c50, ↓reduceIte]; rfl) | rfl
        · skip
          have f0 : q_water V x y = 3 := by
            simp only [q_water, m_water, V_paid, r_or0, xk_01, xk_10, xk_20, xk_30, eq_self, c11, c27, c50, ↓reduceIte]
            try simp only [tHour, tBank, tLev, tOver, tDrawn, tFull, tLock, tFill, tAt, tPur, tSer, dHour, dBank, dLev, dOver, dDrawn, dFull, dLock, dFill, dAt, dPur, dSer]
          have f1 : (m_water V aw x y).1 = V := by
            simp only [q_water, m_water, V_paid, r_or0, xk_01, xk_10, xk_20, xk_30, eq_self, c11, c27, c50, ↓reduceIte]
            try simp only [tHour, tBank, tLev, tOver, tDrawn, tFull, tLock, tFill, tAt, tPur, tSer, dHour, dBank, dLev, dOver, dDrawn, dFull, dLock, dFill, dAt, dPur, dSer]
          have f2 : (m_water V aw x y).2 = aw := by
            simp only [q_water, m_water, V_paid, r_or0, xk_01, xk_10, xk_20, xk_30, eq_self, c11, c27, c50, ↓reduceIte]
            try simp only [tHour, tBank, tLev, tOver, tDrawn, tFull, tLock, tFill, tAt, tPur, tSer, dHour, dBank, dLev, dOver, dDrawn, dFull, dLock, dFill, dAt, dPur, dSer]
          rw [f0, f1, f2]
    · skip
      refine xr_aload_n F dX3_water_30 rfl 0 rfl ?_
      refine xr_iconst F dX3_water_31 (v := 2) (by decide) ?_
      refine xr_callVi F (wr := sw yI u (kMark K) aw wh V) (rest := []) (As := [.int 2]) (k_X3_no l D yI yZ yL g u t 0 K 2 ) (cwV 1 F.hts gX3_water_X3_no rfl rfl rfl (by decide +kernel) ⟨Nat.le_of_ble_eq_true rfl, Nat.le_of_ble_eq_true rfl⟩) (q0 := 0) rfl rfl [0, 1, 2] [3, 4, 5, 6, 7, 8, 9, 10, 11, 12, 13] rfl rfl (by decide) (by decide) (by decide) rfl rfl (Nat.le_of_ble_eq_true rfl) dX3_water_32 ⟨Nat.le_of_ble_eq_true rfl, Nat.le_of_ble_eq_true rfl⟩ (fun r1 W1 z1 => ?_)
      obtain ⟨z0, z1⟩ := z1
      subst z0
      subst z1
      refine xr_sub (ws' := (mw yI g u t 2 K) ++ (sw yI u (kMark K) aw wh V)) [11, 12, 13, 0, 1, 2, 3, 4, 5, 6, 7, 8, 9, 10] (by decide) rfl ?_
      refine ret _ _ _ _ dX3_water_35 ⟨?_, ?_⟩
      · skip
        first | with_reducible rfl | (simp only [q_water, m_water, V_paid, r_or0, xk_01, xk_10, xk_20, xk_30, eq_self, c11, c27, ↓reduceIte]; done) | (simp only [q_water, m_water, V_paid, r_or0, xk_01, xk_10, xk_20, xk_30, eq_self, c11, c27, ↓reduceIte]; rfl) | rfl
      · skip
        have f0 : q_water V x y = 2 := by
          simp only [q_water, m_water, V_paid, r_or0, xk_01, xk_10, xk_20, xk_30, eq_self, c11, c27, ↓reduceIte]
          try simp only [tHour, tBank, tLev, tOver, tDrawn, tFull, tLock, tFill, tAt, tPur, tSer, dHour, dBank, dLev, dOver, dDrawn, dFull, dLock, dFill, dAt, dPur, dSer]
        have f1 : (m_water V aw x y).1 = V := by
          simp only [q_water, m_water, V_paid, r_or0, xk_01, xk_10, xk_20, xk_30, eq_self, c11, c27, ↓reduceIte]
          try simp only [tHour, tBank, tLev, tOver, tDrawn, tFull, tLock, tFill, tAt, tPur, tSer, dHour, dBank, dLev, dOver, dDrawn, dFull, dLock, dFill, dAt, dPur, dSer]
        have f2 : (m_water V aw x y).2 = aw := by
          simp only [q_water, m_water, V_paid, r_or0, xk_01, xk_10, xk_20, xk_30, eq_self, c11, c27, ↓reduceIte]
          try simp only [tHour, tBank, tLev, tOver, tDrawn, tFull, tLock, tFill, tAt, tPur, tSer, dHour, dBank, dLev, dOver, dDrawn, dFull, dLock, dFill, dAt, dPur, dSer]
        rw [f0, f1, f2]
  · skip
    refine xr_aload_n F dX3_water_14 rfl 0 rfl ?_
    refine xr_iconst F dX3_water_15 (v := 1) (by decide) ?_
    refine xr_callVi F (wr := sw yI u (kMark K) aw wh V) (rest := []) (As := [.int 1]) (k_X3_no l D yI yZ yL g u t 0 K 1 ) (cwV 1 F.hts gX3_water_X3_no rfl rfl rfl (by decide +kernel) ⟨Nat.le_of_ble_eq_true rfl, Nat.le_of_ble_eq_true rfl⟩) (q0 := 0) rfl rfl [0, 1, 2] [3, 4, 5, 6, 7, 8, 9, 10, 11, 12, 13] rfl rfl (by decide) (by decide) (by decide) rfl rfl (Nat.le_of_ble_eq_true rfl) dX3_water_16 ⟨Nat.le_of_ble_eq_true rfl, Nat.le_of_ble_eq_true rfl⟩ (fun r1 W1 z1 => ?_)
    obtain ⟨z0, z1⟩ := z1
    subst z0
    subst z1
    refine xr_sub (ws' := (mw yI g u t 1 K) ++ (sw yI u (kMark K) aw wh V)) [11, 12, 13, 0, 1, 2, 3, 4, 5, 6, 7, 8, 9, 10] (by decide) rfl ?_
    refine ret _ _ _ _ dX3_water_19 ⟨?_, ?_⟩
    · skip
      first | with_reducible rfl | (simp only [q_water, m_water, V_paid, r_or0, xk_01, xk_10, xk_20, xk_30, eq_self, c11, ↓reduceIte]; done) | (simp only [q_water, m_water, V_paid, r_or0, xk_01, xk_10, xk_20, xk_30, eq_self, c11, ↓reduceIte]; rfl) | rfl
    · skip
      have f0 : q_water V x y = 1 := by
        simp only [q_water, m_water, V_paid, r_or0, xk_01, xk_10, xk_20, xk_30, eq_self, c11, ↓reduceIte]
        try simp only [tHour, tBank, tLev, tOver, tDrawn, tFull, tLock, tFill, tAt, tPur, tSer, dHour, dBank, dLev, dOver, dDrawn, dFull, dLock, dFill, dAt, dPur, dSer]
      have f1 : (m_water V aw x y).1 = V := by
        simp only [q_water, m_water, V_paid, r_or0, xk_01, xk_10, xk_20, xk_30, eq_self, c11, ↓reduceIte]
        try simp only [tHour, tBank, tLev, tOver, tDrawn, tFull, tLock, tFill, tAt, tPur, tSer, dHour, dBank, dLev, dOver, dDrawn, dFull, dLock, dFill, dAt, dPur, dSer]
      have f2 : (m_water V aw x y).2 = aw := by
        simp only [q_water, m_water, V_paid, r_or0, xk_01, xk_10, xk_20, xk_30, eq_self, c11, ↓reduceIte]
        try simp only [tHour, tBank, tLev, tOver, tDrawn, tFull, tLock, tFill, tAt, tPur, tSer, dHour, dBank, dLev, dOver, dDrawn, dFull, dLock, dFill, dAt, dPur, dSer]
      rw [f0, f1, f2]

def rm_X3_work : Room := { frames := 3, cells := 0, slots := 0, locals := 66 }
set_option maxHeartbeats 4000000 in
set_option maxRecDepth 100000 in
/-- work -/
theorem k_X3_work (l : Launch) (D : va_G) (yI yZ yL : ClassId) (g u t : Nat → Nat) (th : Int32) (K : CK) (aw : Int32) (wh : Nat → Int32) (V : CD) (x : Int32)  : xMi l yX3_work wsX3_work rm_X3_work D (tysG yI yZ yL) ((mw yI g u t th K) ++ (sw yI u (kMark K) aw wh V)) [.ref (g 0), .int x] 0 0 (fun (r : Int32) (W1 : va_W) => r = r_or0 (q_work V x) (if dFull (m_work V aw x).1 (ix x) = 1 then 1 else 0) ∧ W1 = (mw yI g u t (q_work V x) K) ++ (sw yI u (kMark K) ((m_work V aw x).2) wh ((m_work V aw x).1))) := by
  refine xE_z (cc := cX3_work) (nL := 2) (by decide) rfl (Nat.le_of_ble_eq_true rfl) ?_
  intro p e s m args below meth c A Q F hnm ret
  have hin2 : ∀ w ∈ u_ws RX2 TX2 14, w ∈ wsX3_work := by decide +kernel
  have hin3 : ∀ w ∈ u_ws RX3 TX3 9, w ∈ wsX3_work := by decide +kernel
  show AW p l e rm_X3_work s m args below meth c 2 D A 0 0 Q ((mw yI g u t th K) ++ (sw yI u (kMark K) aw wh V)) [(0, .ref (g 0)), (1, .int x)] 0 []
  refine xr_aload_n F dX3_work_0 rfl 0 rfl ?_
  refine xr_iload_n F dX3_work_1 rfl 1 rfl ?_
  refine xr_iconst F dX3_work_2 (v := 0) (by decide) ?_
  refine xr_iconst F dX3_work_3 (v := 4) (by decide) ?_
  refine xr_callSz F (wr := (mw yI g u t th K) ++ (sw yI u (kMark K) aw wh V)) (rest := [.ref (g 0)]) (As := [.int x, .int 0, .int 4]) (k_X3_isIn l D yI yZ yL x 0 4 ) (va_cwS 3 F.hts gX3_work_X3_isIn rfl rfl rfl (by decide +kernel) ⟨Nat.le_of_ble_eq_true rfl, Nat.le_of_ble_eq_true rfl⟩) [] [0, 1, 2, 3, 4, 5, 6, 7, 8, 9, 10, 11, 12, 13] rfl rfl (by decide) (by decide) (by decide) rfl rfl (Nat.le_of_ble_eq_true rfl) dX3_work_4 ⟨Nat.le_of_ble_eq_true rfl, Nat.le_of_ble_eq_true rfl⟩ (fun r1 W1 z1 => ?_)
  obtain ⟨z0, z1⟩ := z1
  subst z0
  subst z1
  refine xr_ws (ws' := (mw yI g u t th K) ++ (sw yI u (kMark K) aw wh V)) rfl ?_
  refine xr_if_ne F 14 dX3_work_7 (by decide) (fun c7 => ?_) (fun c7 => ?_)
  · skip
    obtain ⟨hx1, hx2⟩ := isIn_ix 4 (by decide) rfl c7
    refine xr_aload_n F dX3_work_14 rfl 0 rfl ?_
    refine xr_get F hin3 0 rfl rfl 7 (by decide) (List.mem_of_getElem? (i := 1) rfl) (v := .ref (u 0)) rfl dX3_work_15 ?_
    refine xr_getN F hin2 3 rfl rfl 7 (by decide) (List.mem_of_getElem? (i := 7) rfl) (v := .ref (u 4)) rfl dX3_work_18 ?_
    refine xr_iload_n F dX3_work_21 rfl 1 rfl ?_
    refine xr_iald F 7 0 rfl rfl (ix x) hx1 (by omega) (by decide) dX3_work_22 ?_
    refine xr_if_ne F 41 dX3_work_23 (by decide) (fun c23 => ?_) (fun c23 => ?_)
    · skip
      refine xr_iconst F dX3_work_41 (v := 0) (by decide) ?_
      refine xr_put (ty := .int) F hin3 0 rfl rfl 0 (by decide) tyX3 tyX3_ok nmX3 (List.mem_of_getElem? (i := 2) rfl) rfl (by decide) rfl rfl (Nat.le_of_ble_eq_true rfl) ((mw yI g u t 0 K) ++ (sw yI u (kMark K) aw wh V)) rfl dX3_work_42 ?_
      refine xr_aload_n F dX3_work_45 rfl 0 rfl ?_
      refine xr_get F hin3 0 rfl rfl 0 (by decide) (List.mem_of_getElem? (i := 2) rfl) (v := .int 0) rfl dX3_work_46 ?_
      refine xr_if_le F 54 dX3_work_49 (by decide) (fun c49 => ?_) (fun c49 => ?_)
      · skip
        refine xr_aload_n F dX3_work_54 rfl 0 rfl ?_
        refine xr_get F hin3 0 rfl rfl 7 (by decide) (List.mem_of_getElem? (i := 1) rfl) (v := .ref (u 0)) rfl dX3_work_55 ?_
        refine xr_getN F hin2 3 rfl rfl 7 (by decide) (List.mem_of_getElem? (i := 7) rfl) (v := .ref (u 4)) rfl dX3_work_58 ?_
        refine xr_iload_n F dX3_work_61 rfl 1 rfl ?_
        refine xr_iald F 7 0 rfl rfl (ix x) hx1 (by omega) (by decide) dX3_work_62 ?_
        refine xr_iconst F dX3_work_63 (v := 1) (by decide) ?_
        refine xr_icmp_ne F 78 dX3_work_64 (by decide) (fun c64 => ?_) (fun c64 => ?_)
        · skip
          refine xr_aload_n F dX3_work_78 rfl 0 rfl ?_
          refine xr_get F hin3 0 rfl rfl 7 (by decide) (List.mem_of_getElem? (i := 1) rfl) (v := .ref (u 0)) rfl dX3_work_79 ?_
          refine xr_iload_n F dX3_work_82 rfl 1 rfl ?_
          refine xr_stk (st' := [.int (nI (ix x)), .ref (u 0)]) (by rw [← hx1]) ?_
          refine xr_callVv F (wr := mw yI g u t 0 K) (rest := []) (As := [.int (nI (ix x))]) (k_X2_fill l D yI yZ yL u (kMark K) aw wh V (ix x) (by omega)) (cwV 1 F.hts gX3_work_X2_fill rfl rfl rfl (by decide +kernel) ⟨Nat.le_of_ble_eq_true rfl, Nat.le_of_ble_eq_true rfl⟩) (q0 := 0) rfl rfl [3, 4, 5, 6, 7, 8, 9, 10, 11, 12, 13] [0, 1, 2] rfl rfl (by decide) (by decide) (by decide) rfl rfl (Nat.le_of_ble_eq_true rfl) dX3_work_83 ⟨Nat.le_of_ble_eq_true rfl, Nat.le_of_ble_eq_true rfl⟩ (fun W1 z1 => ?_)
          obtain ⟨V1, eV1⟩ : ∃ x9 : CD, x9 = s_fill V (ix x) := ⟨_, rfl⟩
          rw [← eV1] at z1
          subst z1
          refine xr_ws (ws' := (mw yI g u t 0 K) ++ (sw yI u (kMark K) aw wh V1)) rfl ?_
          refine xr_aload_n F dX3_work_86 rfl 0 rfl ?_
          refine xr_get F hin3 0 rfl rfl 7 (by decide) (List.mem_of_getElem? (i := 1) rfl) (v := .ref (u 0)) rfl dX3_work_87 ?_
          refine xr_getN F hin2 3 rfl rfl 7 (by decide) (List.mem_of_getElem? (i := 7) rfl) (v := .ref (u 4)) rfl dX3_work_90 ?_
          refine xr_iload_n F dX3_work_93 rfl 1 rfl ?_
          refine xr_iald F 7 0 rfl rfl (ix x) hx1 (by omega) (by decide) dX3_work_94 ?_
          refine xr_iconst F dX3_work_95 (v := 1) (by decide) ?_
          refine xr_icmp_ne F 103 dX3_work_96 (by decide) (fun c96 => ?_) (fun c96 => ?_)
          · skip
            refine xr_iconst F dX3_work_103 (v := 0) (by decide) ?_
            refine ret _ _ _ _ dX3_work_104 rfl ⟨?_, ?_⟩
            · skip
              subst eV1
              first | with_reducible rfl | (simp only [q_work, m_work, r_or0, xk_01, xk_10, xk_20, xk_30, eq_self, c7, c23, c64, c96, ↓reduceIte]; done) | (simp only [q_work, m_work, r_or0, xk_01, xk_10, xk_20, xk_30, eq_self, c7, c23, c64, c96, ↓reduceIte]; rfl) | rfl
            · skip
              have f0 : q_work V x = 0 := by
                subst eV1
                simp only [q_work, m_work, r_or0, xk_01, xk_10, xk_20, xk_30, eq_self, c7, c23, c64, c96, ↓reduceIte]
                try simp only [tHour, tBank, tLev, tOver, tDrawn, tFull, tLock, tFill, tAt, tPur, tSer, dHour, dBank, dLev, dOver, dDrawn, dFull, dLock, dFill, dAt, dPur, dSer]
              have f1 : (m_work V aw x).1 = V1 := by
                subst eV1
                simp only [q_work, m_work, r_or0, xk_01, xk_10, xk_20, xk_30, eq_self, c7, c23, c64, c96, ↓reduceIte]
                try simp only [tHour, tBank, tLev, tOver, tDrawn, tFull, tLock, tFill, tAt, tPur, tSer, dHour, dBank, dLev, dOver, dDrawn, dFull, dLock, dFill, dAt, dPur, dSer]
              have f2 : (m_work V aw x).2 = aw := by
                subst eV1
                simp only [q_work, m_work, r_or0, xk_01, xk_10, xk_20, xk_30, eq_self, c7, c23, c64, c96, ↓reduceIte]
                try simp only [tHour, tBank, tLev, tOver, tDrawn, tFull, tLock, tFill, tAt, tPur, tSer, dHour, dBank, dLev, dOver, dDrawn, dFull, dLock, dFill, dAt, dPur, dSer]
              rw [f0, f1, f2]
          · skip
            refine xr_iconst F dX3_work_99 (v := 1) (by decide) ?_
            refine xr_goto F 104 dX3_work_100 (by decide) ?_
            refine ret _ _ _ _ dX3_work_104 rfl ⟨?_, ?_⟩
            · skip
              subst eV1
              first | with_reducible rfl | (simp only [q_work, m_work, r_or0, xk_01, xk_10, xk_20, xk_30, eq_self, c7, c23, c64, c96, ↓reduceIte]; done) | (simp only [q_work, m_work, r_or0, xk_01, xk_10, xk_20, xk_30, eq_self, c7, c23, c64, c96, ↓reduceIte]; rfl) | rfl
            · skip
              have f0 : q_work V x = 0 := by
                subst eV1
                simp only [q_work, m_work, r_or0, xk_01, xk_10, xk_20, xk_30, eq_self, c7, c23, c64, c96, ↓reduceIte]
                try simp only [tHour, tBank, tLev, tOver, tDrawn, tFull, tLock, tFill, tAt, tPur, tSer, dHour, dBank, dLev, dOver, dDrawn, dFull, dLock, dFill, dAt, dPur, dSer]
              have f1 : (m_work V aw x).1 = V1 := by
                subst eV1
                simp only [q_work, m_work, r_or0, xk_01, xk_10, xk_20, xk_30, eq_self, c7, c23, c64, c96, ↓reduceIte]
                try simp only [tHour, tBank, tLev, tOver, tDrawn, tFull, tLock, tFill, tAt, tPur, tSer, dHour, dBank, dLev, dOver, dDrawn, dFull, dLock, dFill, dAt, dPur, dSer]
              have f2 : (m_work V aw x).2 = aw := by
                subst eV1
                simp only [q_work, m_work, r_or0, xk_01, xk_10, xk_20, xk_30, eq_self, c7, c23, c64, c96, ↓reduceIte]
                try simp only [tHour, tBank, tLev, tOver, tDrawn, tFull, tLock, tFill, tAt, tPur, tSer, dHour, dBank, dLev, dOver, dDrawn, dFull, dLock, dFill, dAt, dPur, dSer]
              rw [f0, f1, f2]
        · skip
          refine xr_aload_n F dX3_work_67 rfl 0 rfl ?_
          refine xr_get F hin3 0 rfl rfl 7 (by decide) (List.mem_of_getElem? (i := 1) rfl) (v := .ref (u 0)) rfl dX3_work_68 ?_
          refine xr_iload_n F dX3_work_71 rfl 1 rfl ?_
          refine xr_stk (st' := [.int (nI (ix x)), .ref (u 0)]) (by rw [← hx1]) ?_
          refine xr_callVv F (wr := mw yI g u t 0 K) (rest := []) (As := [.int (nI (ix x))]) (k_X2_empty l D yI yZ yL u (kMark K) aw wh V (ix x) (by omega)) (cwV 1 F.hts gX3_work_X2_empty rfl rfl rfl (by decide +kernel) ⟨Nat.le_of_ble_eq_true rfl, Nat.le_of_ble_eq_true rfl⟩) (q0 := 0) rfl rfl [3, 4, 5, 6, 7, 8, 9, 10, 11, 12, 13] [0, 1, 2] rfl rfl (by decide) (by decide) (by decide) rfl rfl (Nat.le_of_ble_eq_true rfl) dX3_work_72 ⟨Nat.le_of_ble_eq_true rfl, Nat.le_of_ble_eq_true rfl⟩ (fun W1 z1 => ?_)
          obtain ⟨V2, eV2⟩ : ∃ x9 : CD, x9 = (s_empty V aw (ix x)).1 := ⟨_, rfl⟩
          rw [← eV2] at z1
          obtain ⟨x3, ex3⟩ : ∃ x9 : Int32, x9 = (s_empty V aw (ix x)).2 := ⟨_, rfl⟩
          rw [← ex3] at z1
          subst z1
          refine xr_ws (ws' := (mw yI g u t 0 K) ++ (sw yI u (kMark K) x3 wh V2)) rfl ?_
          refine xr_goto F 86 dX3_work_75 (by decide) ?_
          refine xr_aload_n F dX3_work_86 rfl 0 rfl ?_
          refine xr_get F hin3 0 rfl rfl 7 (by decide) (List.mem_of_getElem? (i := 1) rfl) (v := .ref (u 0)) rfl dX3_work_87 ?_
          refine xr_getN F hin2 3 rfl rfl 7 (by decide) (List.mem_of_getElem? (i := 7) rfl) (v := .ref (u 4)) rfl dX3_work_90 ?_
          refine xr_iload_n F dX3_work_93 rfl 1 rfl ?_
          refine xr_iald F 7 0 rfl rfl (ix x) hx1 (by omega) (by decide) dX3_work_94 ?_
          refine xr_iconst F dX3_work_95 (v := 1) (by decide) ?_
          refine xr_icmp_ne F 103 dX3_work_96 (by decide) (fun c96 => ?_) (fun c96 => ?_)
          · skip
            refine xr_iconst F dX3_work_103 (v := 0) (by decide) ?_
            refine ret _ _ _ _ dX3_work_104 rfl ⟨?_, ?_⟩
            · skip
              subst ex3
              subst eV2
              first | with_reducible rfl | (simp only [q_work, m_work, r_or0, xk_01, xk_10, xk_20, xk_30, eq_self, c7, c23, c64, c96, ↓reduceIte]; done) | (simp only [q_work, m_work, r_or0, xk_01, xk_10, xk_20, xk_30, eq_self, c7, c23, c64, c96, ↓reduceIte]; rfl) | rfl
            · skip
              have f0 : q_work V x = 0 := by
                subst ex3
                subst eV2
                simp only [q_work, m_work, r_or0, xk_01, xk_10, xk_20, xk_30, eq_self, c7, c23, c64, c96, ↓reduceIte]
                try simp only [tHour, tBank, tLev, tOver, tDrawn, tFull, tLock, tFill, tAt, tPur, tSer, dHour, dBank, dLev, dOver, dDrawn, dFull, dLock, dFill, dAt, dPur, dSer]
              have f1 : (m_work V aw x).1 = V2 := by
                subst ex3
                subst eV2
                simp only [q_work, m_work, r_or0, xk_01, xk_10, xk_20, xk_30, eq_self, c7, c23, c64, c96, ↓reduceIte]
                try simp only [tHour, tBank, tLev, tOver, tDrawn, tFull, tLock, tFill, tAt, tPur, tSer, dHour, dBank, dLev, dOver, dDrawn, dFull, dLock, dFill, dAt, dPur, dSer]
              have f2 : (m_work V aw x).2 = x3 := by
                subst ex3
                subst eV2
                simp only [q_work, m_work, r_or0, xk_01, xk_10, xk_20, xk_30, eq_self, c7, c23, c64, c96, ↓reduceIte]
                try simp only [tHour, tBank, tLev, tOver, tDrawn, tFull, tLock, tFill, tAt, tPur, tSer, dHour, dBank, dLev, dOver, dDrawn, dFull, dLock, dFill, dAt, dPur, dSer]
              rw [f0, f1, f2]
          · skip
            refine xr_iconst F dX3_work_99 (v := 1) (by decide) ?_
            refine xr_goto F 104 dX3_work_100 (by decide) ?_
            refine ret _ _ _ _ dX3_work_104 rfl ⟨?_, ?_⟩
            · skip
              subst ex3
              subst eV2
              first | with_reducible rfl | (simp only [q_work, m_work, r_or0, xk_01, xk_10, xk_20, xk_30, eq_self, c7, c23, c64, c96, ↓reduceIte]; done) | (simp only [q_work, m_work, r_or0, xk_01, xk_10, xk_20, xk_30, eq_self, c7, c23, c64, c96, ↓reduceIte]; rfl) | rfl
            · skip
              have f0 : q_work V x = 0 := by
                subst ex3
                subst eV2
                simp only [q_work, m_work, r_or0, xk_01, xk_10, xk_20, xk_30, eq_self, c7, c23, c64, c96, ↓reduceIte]
                try simp only [tHour, tBank, tLev, tOver, tDrawn, tFull, tLock, tFill, tAt, tPur, tSer, dHour, dBank, dLev, dOver, dDrawn, dFull, dLock, dFill, dAt, dPur, dSer]
              have f1 : (m_work V aw x).1 = V2 := by
                subst ex3
                subst eV2
                simp only [q_work, m_work, r_or0, xk_01, xk_10, xk_20, xk_30, eq_self, c7, c23, c64, c96, ↓reduceIte]
                try simp only [tHour, tBank, tLev, tOver, tDrawn, tFull, tLock, tFill, tAt, tPur, tSer, dHour, dBank, dLev, dOver, dDrawn, dFull, dLock, dFill, dAt, dPur, dSer]
              have f2 : (m_work V aw x).2 = x3 := by
                subst ex3
                subst eV2
                simp only [q_work, m_work, r_or0, xk_01, xk_10, xk_20, xk_30, eq_self, c7, c23, c64, c96, ↓reduceIte]
                try simp only [tHour, tBank, tLev, tOver, tDrawn, tFull, tLock, tFill, tAt, tPur, tSer, dHour, dBank, dLev, dOver, dDrawn, dFull, dLock, dFill, dAt, dPur, dSer]
              rw [f0, f1, f2]
      · exact absurd (by decide) c49
    · skip
      refine xr_aload_n F dX3_work_26 rfl 0 rfl ?_
      refine xr_get F hin3 0 rfl rfl 7 (by decide) (List.mem_of_getElem? (i := 1) rfl) (v := .ref (u 0)) rfl dX3_work_27 ?_
      refine xr_iload_n F dX3_work_30 rfl 1 rfl ?_
      refine xr_stk (st' := [.int (nI (ix x)), .ref (u 0), .ref (g 0)]) (by rw [← hx1]) ?_
      refine xr_callVz F (wr := mw yI g u t th K) (rest := [.ref (g 0)]) (As := [.int (nI (ix x))]) (k_X2_canFill l D yI yZ yL u (kMark K) aw wh V (ix x) (by omega)) (cwV 1 F.hts gX3_work_X2_canFill rfl rfl rfl (by decide +kernel) ⟨Nat.le_of_ble_eq_true rfl, Nat.le_of_ble_eq_true rfl⟩) (q0 := 0) rfl rfl [3, 4, 5, 6, 7, 8, 9, 10, 11, 12, 13] [0, 1, 2] rfl rfl (by decide) (by decide) (by decide) rfl rfl (Nat.le_of_ble_eq_true rfl) dX3_work_31 ⟨Nat.le_of_ble_eq_true rfl, Nat.le_of_ble_eq_true rfl⟩ (fun r1 W1 z1 => ?_)
      obtain ⟨z0, z1⟩ := z1
      subst z0
      subst z1
      refine xr_ws (ws' := (mw yI g u t th K) ++ (sw yI u (kMark K) aw wh V)) rfl ?_
      refine xr_if_ne F 41 dX3_work_34 (by decide) (fun c34 => ?_) (fun c34 => ?_)
      · skip
        refine xr_iconst F dX3_work_41 (v := 0) (by decide) ?_
        refine xr_put (ty := .int) F hin3 0 rfl rfl 0 (by decide) tyX3 tyX3_ok nmX3 (List.mem_of_getElem? (i := 2) rfl) rfl (by decide) rfl rfl (Nat.le_of_ble_eq_true rfl) ((mw yI g u t 0 K) ++ (sw yI u (kMark K) aw wh V)) rfl dX3_work_42 ?_
        refine xr_aload_n F dX3_work_45 rfl 0 rfl ?_
        refine xr_get F hin3 0 rfl rfl 0 (by decide) (List.mem_of_getElem? (i := 2) rfl) (v := .int 0) rfl dX3_work_46 ?_
        refine xr_if_le F 54 dX3_work_49 (by decide) (fun c49 => ?_) (fun c49 => ?_)
        · skip
          refine xr_aload_n F dX3_work_54 rfl 0 rfl ?_
          refine xr_get F hin3 0 rfl rfl 7 (by decide) (List.mem_of_getElem? (i := 1) rfl) (v := .ref (u 0)) rfl dX3_work_55 ?_
          refine xr_getN F hin2 3 rfl rfl 7 (by decide) (List.mem_of_getElem? (i := 7) rfl) (v := .ref (u 4)) rfl dX3_work_58 ?_
          refine xr_iload_n F dX3_work_61 rfl 1 rfl ?_
          refine xr_iald F 7 0 rfl rfl (ix x) hx1 (by omega) (by decide) dX3_work_62 ?_
          refine xr_iconst F dX3_work_63 (v := 1) (by decide) ?_
          refine xr_icmp_ne F 78 dX3_work_64 (by decide) (fun c64 => ?_) (fun c64 => ?_)
          · skip
            refine xr_aload_n F dX3_work_78 rfl 0 rfl ?_
            refine xr_get F hin3 0 rfl rfl 7 (by decide) (List.mem_of_getElem? (i := 1) rfl) (v := .ref (u 0)) rfl dX3_work_79 ?_
            refine xr_iload_n F dX3_work_82 rfl 1 rfl ?_
            refine xr_stk (st' := [.int (nI (ix x)), .ref (u 0)]) (by rw [← hx1]) ?_
            refine xr_callVv F (wr := mw yI g u t 0 K) (rest := []) (As := [.int (nI (ix x))]) (k_X2_fill l D yI yZ yL u (kMark K) aw wh V (ix x) (by omega)) (cwV 1 F.hts gX3_work_X2_fill rfl rfl rfl (by decide +kernel) ⟨Nat.le_of_ble_eq_true rfl, Nat.le_of_ble_eq_true rfl⟩) (q0 := 0) rfl rfl [3, 4, 5, 6, 7, 8, 9, 10, 11, 12, 13] [0, 1, 2] rfl rfl (by decide) (by decide) (by decide) rfl rfl (Nat.le_of_ble_eq_true rfl) dX3_work_83 ⟨Nat.le_of_ble_eq_true rfl, Nat.le_of_ble_eq_true rfl⟩ (fun W1 z1 => ?_)
            obtain ⟨V4, eV4⟩ : ∃ x9 : CD, x9 = s_fill V (ix x) := ⟨_, rfl⟩
            rw [← eV4] at z1
            subst z1
            refine xr_ws (ws' := (mw yI g u t 0 K) ++ (sw yI u (kMark K) aw wh V4)) rfl ?_
            refine xr_aload_n F dX3_work_86 rfl 0 rfl ?_
            refine xr_get F hin3 0 rfl rfl 7 (by decide) (List.mem_of_getElem? (i := 1) rfl) (v := .ref (u 0)) rfl dX3_work_87 ?_
            refine xr_getN F hin2 3 rfl rfl 7 (by decide) (List.mem_of_getElem? (i := 7) rfl) (v := .ref (u 4)) rfl dX3_work_90 ?_
            refine xr_iload_n F dX3_work_93 rfl 1 rfl ?_
            refine xr_iald F 7 0 rfl rfl (ix x) hx1 (by omega) (by decide) dX3_work_94 ?_
            refine xr_iconst F dX3_work_95 (v := 1) (by decide) ?_
            refine xr_icmp_ne F 103 dX3_work_96 (by decide) (fun c96 => ?_) (fun c96 => ?_)
            · skip
              refine xr_iconst F dX3_work_103 (v := 0) (by decide) ?_
              refine ret _ _ _ _ dX3_work_104 rfl ⟨?_, ?_⟩
              · skip
                subst eV4
                first | with_reducible rfl | (simp only [q_work, m_work, r_or0, xk_01, xk_10, xk_20, xk_30, eq_self, c7, c23, c34, c64, c96, ↓reduceIte]; done) | (simp only [q_work, m_work, r_or0, xk_01, xk_10, xk_20, xk_30, eq_self, c7, c23, c34, c64, c96, ↓reduceIte]; rfl) | rfl
              · skip
                have f0 : q_work V x = 0 := by
                  subst eV4
                  simp only [q_work, m_work, r_or0, xk_01, xk_10, xk_20, xk_30, eq_self, c7, c23, c34, c64, c96, ↓reduceIte]
                  try simp only [tHour, tBank, tLev, tOver, tDrawn, tFull, tLock, tFill, tAt, tPur, tSer, dHour, dBank, dLev, dOver, dDrawn, dFull, dLock, dFill, dAt, dPur, dSer]
                have f1 : (m_work V aw x).1 = V4 := by
                  subst eV4
                  simp only [q_work, m_work, r_or0, xk_01, xk_10, xk_20, xk_30, eq_self, c7, c23, c34, c64, c96, ↓reduceIte]
                  try simp only [tHour, tBank, tLev, tOver, tDrawn, tFull, tLock, tFill, tAt, tPur, tSer, dHour, dBank, dLev, dOver, dDrawn, dFull, dLock, dFill, dAt, dPur, dSer]
                have f2 : (m_work V aw x).2 = aw := by
                  subst eV4
                  simp only [q_work, m_work, r_or0, xk_01, xk_10, xk_20, xk_30, eq_self, c7, c23, c34, c64, c96, ↓reduceIte]
                  try simp only [tHour, tBank, tLev, tOver, tDrawn, tFull, tLock, tFill, tAt, tPur, tSer, dHour, dBank, dLev, dOver, dDrawn, dFull, dLock, dFill, dAt, dPur, dSer]
                rw [f0, f1, f2]
            · skip
              refine xr_iconst F dX3_work_99 (v := 1) (by decide) ?_
              refine xr_goto F 104 dX3_work_100 (by decide) ?_
              refine ret _ _ _ _ dX3_work_104 rfl ⟨?_, ?_⟩
              · skip
                subst eV4
                first | with_reducible rfl | (simp only [q_work, m_work, r_or0, xk_01, xk_10, xk_20, xk_30, eq_self, c7, c23, c34, c64, c96, ↓reduceIte]; done) | (simp only [q_work, m_work, r_or0, xk_01, xk_10, xk_20, xk_30, eq_self, c7, c23, c34, c64, c96, ↓reduceIte]; rfl) | rfl
              · skip
                have f0 : q_work V x = 0 := by
                  subst eV4
                  simp only [q_work, m_work, r_or0, xk_01, xk_10, xk_20, xk_30, eq_self, c7, c23, c34, c64, c96, ↓reduceIte]
                  try simp only [tHour, tBank, tLev, tOver, tDrawn, tFull, tLock, tFill, tAt, tPur, tSer, dHour, dBank, dLev, dOver, dDrawn, dFull, dLock, dFill, dAt, dPur, dSer]
                have f1 : (m_work V aw x).1 = V4 := by
                  subst eV4
                  simp only [q_work, m_work, r_or0, xk_01, xk_10, xk_20, xk_30, eq_self, c7, c23, c34, c64, c96, ↓reduceIte]
                  try simp only [tHour, tBank, tLev, tOver, tDrawn, tFull, tLock, tFill, tAt, tPur, tSer, dHour, dBank, dLev, dOver, dDrawn, dFull, dLock, dFill, dAt, dPur, dSer]
                have f2 : (m_work V aw x).2 = aw := by
                  subst eV4
                  simp only [q_work, m_work, r_or0, xk_01, xk_10, xk_20, xk_30, eq_self, c7, c23, c34, c64, c96, ↓reduceIte]
                  try simp only [tHour, tBank, tLev, tOver, tDrawn, tFull, tLock, tFill, tAt, tPur, tSer, dHour, dBank, dLev, dOver, dDrawn, dFull, dLock, dFill, dAt, dPur, dSer]
                rw [f0, f1, f2]
          · exact absurd (c23.symm.trans c64) xk_01
        · exact absurd (by decide) c49
      · skip
        refine xr_iconst F dX3_work_37 (v := 2) (by decide) ?_
        refine xr_goto F 42 dX3_work_38 (by decide) ?_
        refine xr_put (ty := .int) F hin3 0 rfl rfl 0 (by decide) tyX3 tyX3_ok nmX3 (List.mem_of_getElem? (i := 2) rfl) rfl (by decide) rfl rfl (Nat.le_of_ble_eq_true rfl) ((mw yI g u t 2 K) ++ (sw yI u (kMark K) aw wh V)) rfl dX3_work_42 ?_
        refine xr_aload_n F dX3_work_45 rfl 0 rfl ?_
        refine xr_get F hin3 0 rfl rfl 0 (by decide) (List.mem_of_getElem? (i := 2) rfl) (v := .int 2) rfl dX3_work_46 ?_
        refine xr_if_le F 54 dX3_work_49 (by decide) (fun c49 => ?_) (fun c49 => ?_)
        · exact absurd c49 (by decide)
        · skip
          refine xr_iconst F dX3_work_52 (v := 0) (by decide) ?_
          refine ret _ _ _ _ dX3_work_53 rfl ⟨?_, ?_⟩
          · skip
            first | with_reducible rfl | (simp only [q_work, m_work, r_or0, xk_01, xk_10, xk_20, xk_30, eq_self, c7, c23, c34, ↓reduceIte]; done) | (simp only [q_work, m_work, r_or0, xk_01, xk_10, xk_20, xk_30, eq_self, c7, c23, c34, ↓reduceIte]; rfl) | rfl
          · skip
            have f0 : q_work V x = 2 := by
              simp only [q_work, m_work, r_or0, xk_01, xk_10, xk_20, xk_30, eq_self, c7, c23, c34, ↓reduceIte]
              try simp only [tHour, tBank, tLev, tOver, tDrawn, tFull, tLock, tFill, tAt, tPur, tSer, dHour, dBank, dLev, dOver, dDrawn, dFull, dLock, dFill, dAt, dPur, dSer]
            have f1 : (m_work V aw x).1 = V := by
              simp only [q_work, m_work, r_or0, xk_01, xk_10, xk_20, xk_30, eq_self, c7, c23, c34, ↓reduceIte]
              try simp only [tHour, tBank, tLev, tOver, tDrawn, tFull, tLock, tFill, tAt, tPur, tSer, dHour, dBank, dLev, dOver, dDrawn, dFull, dLock, dFill, dAt, dPur, dSer]
            have f2 : (m_work V aw x).2 = aw := by
              simp only [q_work, m_work, r_or0, xk_01, xk_10, xk_20, xk_30, eq_self, c7, c23, c34, ↓reduceIte]
              try simp only [tHour, tBank, tLev, tOver, tDrawn, tFull, tLock, tFill, tAt, tPur, tSer, dHour, dBank, dLev, dOver, dDrawn, dFull, dLock, dFill, dAt, dPur, dSer]
            rw [f0, f1, f2]
  · skip
    refine xr_iconst F dX3_work_10 (v := 1) (by decide) ?_
    refine xr_goto F 42 dX3_work_11 (by decide) ?_
    refine xr_put (ty := .int) F hin3 0 rfl rfl 0 (by decide) tyX3 tyX3_ok nmX3 (List.mem_of_getElem? (i := 2) rfl) rfl (by decide) rfl rfl (Nat.le_of_ble_eq_true rfl) ((mw yI g u t 1 K) ++ (sw yI u (kMark K) aw wh V)) rfl dX3_work_42 ?_
    refine xr_aload_n F dX3_work_45 rfl 0 rfl ?_
    refine xr_get F hin3 0 rfl rfl 0 (by decide) (List.mem_of_getElem? (i := 2) rfl) (v := .int 1) rfl dX3_work_46 ?_
    refine xr_if_le F 54 dX3_work_49 (by decide) (fun c49 => ?_) (fun c49 => ?_)
    · exact absurd c49 (by decide)
    · skip
      refine xr_iconst F dX3_work_52 (v := 0) (by decide) ?_
      refine ret _ _ _ _ dX3_work_53 rfl ⟨?_, ?_⟩
      · skip
        first | with_reducible rfl | (simp only [q_work, m_work, r_or0, xk_01, xk_10, xk_20, xk_30, eq_self, c7, ↓reduceIte]; done) | (simp only [q_work, m_work, r_or0, xk_01, xk_10, xk_20, xk_30, eq_self, c7, ↓reduceIte]; rfl) | rfl
      · skip
        have f0 : q_work V x = 1 := by
          simp only [q_work, m_work, r_or0, xk_01, xk_10, xk_20, xk_30, eq_self, c7, ↓reduceIte]
          try simp only [tHour, tBank, tLev, tOver, tDrawn, tFull, tLock, tFill, tAt, tPur, tSer, dHour, dBank, dLev, dOver, dDrawn, dFull, dLock, dFill, dAt, dPur, dSer]
        have f1 : (m_work V aw x).1 = V := by
          simp only [q_work, m_work, r_or0, xk_01, xk_10, xk_20, xk_30, eq_self, c7, ↓reduceIte]
          try simp only [tHour, tBank, tLev, tOver, tDrawn, tFull, tLock, tFill, tAt, tPur, tSer, dHour, dBank, dLev, dOver, dDrawn, dFull, dLock, dFill, dAt, dPur, dSer]
        have f2 : (m_work V aw x).2 = aw := by
          simp only [q_work, m_work, r_or0, xk_01, xk_10, xk_20, xk_30, eq_self, c7, ↓reduceIte]
          try simp only [tHour, tBank, tLev, tOver, tDrawn, tFull, tLock, tFill, tAt, tPur, tSer, dHour, dBank, dLev, dOver, dDrawn, dFull, dLock, dFill, dAt, dPur, dSer]
        rw [f0, f1, f2]

def rm_X3_barge : Room := { frames := 1, cells := 0, slots := 0, locals := 22 }
set_option maxHeartbeats 4000000 in
set_option maxRecDepth 100000 in
/-- barge -/
theorem k_X3_barge (l : Launch) (D : va_G) (yI yZ yL : ClassId) (g u t : Nat → Nat) (th : Int32) (K : CK) (aw : Int32) (wh : Nat → Int32) (V : CD) (x : Int32) (y : Int32) (z : Int32) (h0 : kNb K ≤ 10) : xMi l yX3_barge wsX3_barge rm_X3_barge D (tysG yI yZ yL) ((mw yI g u t th K) ++ (sw yI u (kMark K) aw wh V)) [.ref (g 0), .int x, .int y, .int z] 0 0 (fun (r : Int32) (W1 : va_W) => r = r_or0 (q_barge K x y z) (nI (kNb K)) ∧ W1 = (mw yI g u t (q_barge K x y z) (K_barge K x y z)) ++ (sw yI u (kMark K) aw wh (V_barge K V x y z))) := by
  refine xE_i (cc := cX3_barge) (nL := 4) (by decide) rfl (Nat.le_of_ble_eq_true rfl) ?_
  intro p e s m args below meth c A Q F hnm ret
  have hin2 : ∀ w ∈ u_ws RX2 TX2 14, w ∈ wsX3_barge := by decide +kernel
  have hin3 : ∀ w ∈ u_ws RX3 TX3 9, w ∈ wsX3_barge := by decide +kernel
  show AW p l e rm_X3_barge s m args below meth c 4 D A 0 0 Q ((mw yI g u t th K) ++ (sw yI u (kMark K) aw wh V)) [(0, .ref (g 0)), (1, .int x), (2, .int y), (3, .int z)] 0 []
  refine xr_aload_n F dX3_barge_0 rfl 0 rfl ?_
  refine xr_iconst F dX3_barge_1 (v := 0) (by decide) ?_
  refine xr_put (ty := .int) F hin3 0 rfl rfl 0 (by decide) tyX3 tyX3_ok nmX3 (List.mem_of_getElem? (i := 1) rfl) rfl (by decide) rfl rfl (Nat.le_of_ble_eq_true rfl) ((mw yI g u t 0 K) ++ (sw yI u (kMark K) aw wh V)) rfl dX3_barge_2 ?_
  refine xr_iload_n F dX3_barge_5 rfl 1 rfl ?_
  refine xr_iconst F dX3_barge_6 (v := 0) (by decide) ?_
  refine xr_iconst F dX3_barge_7 (v := 5) (by decide) ?_
  refine xr_callSz F (wr := (mw yI g u t 0 K) ++ (sw yI u (kMark K) aw wh V)) (rest := []) (As := [.int x, .int 0, .int 5]) (k_X3_isIn l D yI yZ yL x 0 5 ) (va_cwS 3 F.hts gX3_barge_X3_isIn rfl rfl rfl (by decide +kernel) ⟨Nat.le_of_ble_eq_true rfl, Nat.le_of_ble_eq_true rfl⟩) [] [0, 1, 2, 3, 4, 5, 6, 7, 8, 9, 10, 11, 12, 13] rfl rfl (by decide) (by decide) (by decide) rfl rfl (Nat.le_of_ble_eq_true rfl) dX3_barge_8 ⟨Nat.le_of_ble_eq_true rfl, Nat.le_of_ble_eq_true rfl⟩ (fun r1 W1 z1 => ?_)
  obtain ⟨z0, z1⟩ := z1
  subst z0
  subst z1
  refine xr_ws (ws' := (mw yI g u t 0 K) ++ (sw yI u (kMark K) aw wh V)) rfl ?_
  refine xr_if_eq F 23 dX3_barge_11 (by decide) (fun c11 => ?_) (fun c11 => ?_)
  · skip
    refine xr_aload_n F dX3_barge_23 rfl 0 rfl ?_
    refine xr_iconst F dX3_barge_24 (v := 1) (by decide) ?_
    refine xr_callVi F (wr := sw yI u (kMark K) aw wh V) (rest := []) (As := [.int 1]) (k_X3_no l D yI yZ yL g u t 0 K 1 ) (cwV 1 F.hts gX3_barge_X3_no rfl rfl rfl (by decide +kernel) ⟨Nat.le_of_ble_eq_true rfl, Nat.le_of_ble_eq_true rfl⟩) (q0 := 0) rfl rfl [0, 1, 2] [3, 4, 5, 6, 7, 8, 9, 10, 11, 12, 13] rfl rfl (by decide) (by decide) (by decide) rfl rfl (Nat.le_of_ble_eq_true rfl) dX3_barge_25 ⟨Nat.le_of_ble_eq_true rfl, Nat.le_of_ble_eq_true rfl⟩ (fun r1 W1 z1 => ?_)
    obtain ⟨z0, z1⟩ := z1
    subst z0
    subst z1
    refine xr_sub (ws' := (mw yI g u t 1 K) ++ (sw yI u (kMark K) aw wh V)) [11, 12, 13, 0, 1, 2, 3, 4, 5, 6, 7, 8, 9, 10] (by decide) rfl ?_
    refine ret _ _ _ _ dX3_barge_28 ⟨?_, ?_⟩
    · skip
      first | with_reducible rfl | (simp only [q_barge, K_barge, V_barge, r_or0, xk_01, xk_10, xk_20, xk_30, eq_self, c11, ↓reduceIte]; done) | (simp only [q_barge, K_barge, V_barge, r_or0, xk_01, xk_10, xk_20, xk_30, eq_self, c11, ↓reduceIte]; rfl) | rfl
    · skip
      have f0 : q_barge K x y z = 1 := by
        simp only [q_barge, K_barge, V_barge, r_or0, xk_01, xk_10, xk_20, xk_30, eq_self, c11, ↓reduceIte]
        try simp only [tHour, tBank, tLev, tOver, tDrawn, tFull, tLock, tFill, tAt, tPur, tSer, dHour, dBank, dLev, dOver, dDrawn, dFull, dLock, dFill, dAt, dPur, dSer]
      have f1 : K_barge K x y z = K := by
        simp only [q_barge, K_barge, V_barge, r_or0, xk_01, xk_10, xk_20, xk_30, eq_self, c11, ↓reduceIte]
        try simp only [tHour, tBank, tLev, tOver, tDrawn, tFull, tLock, tFill, tAt, tPur, tSer, dHour, dBank, dLev, dOver, dDrawn, dFull, dLock, dFill, dAt, dPur, dSer, uFee, uDry, uMill, uMark, uNb, uSpr, uGoal, kFee, kDry, kMill, kMark, kNb, kSpr, kGoal]
      have f2 : V_barge K V x y z = V := by
        simp only [q_barge, K_barge, V_barge, r_or0, xk_01, xk_10, xk_20, xk_30, eq_self, c11, ↓reduceIte]
        try simp only [tHour, tBank, tLev, tOver, tDrawn, tFull, tLock, tFill, tAt, tPur, tSer, dHour, dBank, dLev, dOver, dDrawn, dFull, dLock, dFill, dAt, dPur, dSer]
      rw [f0, f1, f2]
  · skip
    refine xr_iload_n F dX3_barge_14 rfl 2 rfl ?_
    refine xr_iconst F dX3_barge_15 (v := 0) (by decide) ?_
    refine xr_iconst F dX3_barge_16 (v := 5) (by decide) ?_
    refine xr_callSz F (wr := (mw yI g u t 0 K) ++ (sw yI u (kMark K) aw wh V)) (rest := []) (As := [.int y, .int 0, .int 5]) (k_X3_isIn l D yI yZ yL y 0 5 ) (va_cwS 3 F.hts gX3_barge_X3_isIn rfl rfl rfl (by decide +kernel) ⟨Nat.le_of_ble_eq_true rfl, Nat.le_of_ble_eq_true rfl⟩) [] [0, 1, 2, 3, 4, 5, 6, 7, 8, 9, 10, 11, 12, 13] rfl rfl (by decide) (by decide) (by decide) rfl rfl (Nat.le_of_ble_eq_true rfl) dX3_barge_17 ⟨Nat.le_of_ble_eq_true rfl, Nat.le_of_ble_eq_true rfl⟩ (fun r1 W1 z1 => ?_)
    obtain ⟨z0, z1⟩ := z1
    subst z0
    subst z1
    refine xr_ws (ws' := (mw yI g u t 0 K) ++ (sw yI u (kMark K) aw wh V)) rfl ?_
    refine xr_if_ne F 29 dX3_barge_20 (by decide) (fun c20 => ?_) (fun c20 => ?_)
    · skip
      refine xr_iload_n F dX3_barge_29 rfl 3 rfl ?_
      refine xr_iconst F dX3_barge_30 (v := 0) (by decide) ?_
      refine xr_bipush F dX3_barge_31 (v := 99) (by decide) ?_
      refine xr_callSz F (wr := (mw yI g u t 0 K) ++ (sw yI u (kMark K) aw wh V)) (rest := []) (As := [.int z, .int 0, .int 99]) (k_X3_isIn l D yI yZ yL z 0 99 ) (va_cwS 3 F.hts gX3_barge_X3_isIn rfl rfl rfl (by decide +kernel) ⟨Nat.le_of_ble_eq_true rfl, Nat.le_of_ble_eq_true rfl⟩) [] [0, 1, 2, 3, 4, 5, 6, 7, 8, 9, 10, 11, 12, 13] rfl rfl (by decide) (by decide) (by decide) rfl rfl (Nat.le_of_ble_eq_true rfl) dX3_barge_33 ⟨Nat.le_of_ble_eq_true rfl, Nat.le_of_ble_eq_true rfl⟩ (fun r1 W1 z1 => ?_)
      obtain ⟨z0, z1⟩ := z1
      subst z0
      subst z1
      refine xr_ws (ws' := (mw yI g u t 0 K) ++ (sw yI u (kMark K) aw wh V)) rfl ?_
      refine xr_if_ne F 45 dX3_barge_36 (by decide) (fun c36 => ?_) (fun c36 => ?_)
      · skip
        refine xr_aload_n F dX3_barge_45 rfl 0 rfl ?_
        refine xr_get F hin3 0 rfl rfl 1 (by decide) (List.mem_of_getElem? (i := 2) rfl) (v := .int (nI (kNb K))) rfl dX3_barge_46 ?_
        refine xr_bipush F dX3_barge_49 (v := 10) (by decide) ?_
        refine xr_icmp_ne F 60 dX3_barge_51 (by decide) (fun c51 => ?_) (fun c51 => ?_)
        · skip
          have hn := nb_lt h0 c51
          refine xr_aload_n F dX3_barge_60 rfl 0 rfl ?_
          refine xr_get F hin3 0 rfl rfl 7 (by decide) (List.mem_of_getElem? (i := 3) rfl) (v := .ref (u 0)) rfl dX3_barge_61 ?_
          refine xr_getN F hin2 3 rfl rfl 10 (by decide) (List.mem_of_getElem? (i := 10) rfl) (v := .ref (u 7)) rfl dX3_barge_64 ?_
          refine xr_aload_n F dX3_barge_67 rfl 0 rfl ?_
          refine xr_get F hin3 0 rfl rfl 1 (by decide) (List.mem_of_getElem? (i := 2) rfl) (v := .int (nI (kNb K))) rfl dX3_barge_68 ?_
          refine xr_iload_n F dX3_barge_71 rfl 1 rfl ?_
          refine xr_iast F 10 0 rfl rfl (kNb K) rfl (by omega) (by decide) ((mw yI g u t 0 K) ++ (swx yI u (kMark K) aw wh (dHour V) (dBank V) (dLev V) (dOver V) (dDrawn V) (dFull V) (dLock V) (dFill V) (upd (dAt V) (kNb K) x) (dPur V) (dSer V))) rfl dX3_barge_72 ?_
          refine xr_aload_n F dX3_barge_73 rfl 0 rfl ?_
          refine xr_get F hin3 0 rfl rfl 7 (by decide) (List.mem_of_getElem? (i := 3) rfl) (v := .ref (u 0)) rfl dX3_barge_74 ?_
          refine xr_getN F hin2 3 rfl rfl 11 (by decide) (List.mem_of_getElem? (i := 11) rfl) (v := .ref (u 8)) rfl dX3_barge_77 ?_
          refine xr_aload_n F dX3_barge_80 rfl 0 rfl ?_
          refine xr_get F hin3 0 rfl rfl 1 (by decide) (List.mem_of_getElem? (i := 2) rfl) (v := .int (nI (kNb K))) rfl dX3_barge_81 ?_
          refine xr_iload_n F dX3_barge_84 rfl 3 rfl ?_
          refine xr_iast F 11 0 rfl rfl (kNb K) rfl (by omega) (by decide) ((mw yI g u t 0 K) ++ (swx yI u (kMark K) aw wh (dHour V) (dBank V) (dLev V) (dOver V) (dDrawn V) (dFull V) (dLock V) (dFill V) (upd (dAt V) (kNb K) x) (upd (dPur V) (kNb K) z) (dSer V))) rfl dX3_barge_85 ?_
          refine xr_aload_n F dX3_barge_86 rfl 0 rfl ?_
          refine xr_get F hin3 0 rfl rfl 2 (by decide) (List.mem_of_getElem? (i := 4) rfl) (v := .ref (g 1)) rfl dX3_barge_87 ?_
          refine xr_aload_n F dX3_barge_90 rfl 0 rfl ?_
          refine xr_get F hin3 0 rfl rfl 1 (by decide) (List.mem_of_getElem? (i := 2) rfl) (v := .int (nI (kNb K))) rfl dX3_barge_91 ?_
          refine xr_iload_n F dX3_barge_94 rfl 2 rfl ?_
          refine xr_iast F 1 0 rfl rfl (kNb K) rfl (by omega) (by decide) ((mwx yI g u t 0 (kFee K) (kDry K) (kMill K) (kNb K) (kSpr K) (upd (kGoal K) (kNb K) y)) ++ (swx yI u (kMark K) aw wh (dHour V) (dBank V) (dLev V) (dOver V) (dDrawn V) (dFull V) (dLock V) (dFill V) (upd (dAt V) (kNb K) x) (upd (dPur V) (kNb K) z) (dSer V))) rfl dX3_barge_95 ?_
          refine xr_aload_n F dX3_barge_96 rfl 0 rfl ?_
          refine xr_dup F dX3_barge_97 rfl ?_
          refine xr_get F hin3 0 rfl rfl 1 (by decide) (List.mem_of_getElem? (i := 2) rfl) (v := .int (nI (kNb K))) rfl dX3_barge_98 ?_
          refine xr_iconst F dX3_barge_101 (v := 1) (by decide) ?_
          refine xr_iadd F (nI (kNb K + 1)) dX3_barge_102 (nI_add (kNb K) 1) ?_
          refine xr_put (ty := .int) F hin3 0 rfl rfl 1 (by decide) tyX3 tyX3_ok nmX3 (List.mem_of_getElem? (i := 2) rfl) rfl (by decide) rfl rfl (Nat.le_of_ble_eq_true rfl) ((mwx yI g u t 0 (kFee K) (kDry K) (kMill K) (kNb K + 1) (kSpr K) (upd (kGoal K) (kNb K) y)) ++ (swx yI u (kMark K) aw wh (dHour V) (dBank V) (dLev V) (dOver V) (dDrawn V) (dFull V) (dLock V) (dFill V) (upd (dAt V) (kNb K) x) (upd (dPur V) (kNb K) z) (dSer V))) rfl dX3_barge_103 ?_
          refine xr_aload_n F dX3_barge_106 rfl 0 rfl ?_
          refine xr_get F hin3 0 rfl rfl 1 (by decide) (List.mem_of_getElem? (i := 2) rfl) (v := .int (nI (kNb K + 1))) rfl dX3_barge_107 ?_
          refine xr_iconst F dX3_barge_110 (v := 1) (by decide) ?_
          refine xr_isub F (nI (kNb K)) dX3_barge_111 (nI_pred (kNb K)) ?_
          refine ret _ _ _ _ dX3_barge_112 ⟨?_, ?_⟩
          · skip
            first | with_reducible rfl | (simp only [q_barge, K_barge, V_barge, r_or0, xk_01, xk_10, xk_20, xk_30, eq_self, c11, c20, c36, c51, ↓reduceIte]; done) | (simp only [q_barge, K_barge, V_barge, r_or0, xk_01, xk_10, xk_20, xk_30, eq_self, c11, c20, c36, c51, ↓reduceIte]; rfl) | rfl
          · skip
            have f0 : q_barge K x y z = 0 := by
              simp only [q_barge, K_barge, V_barge, r_or0, xk_01, xk_10, xk_20, xk_30, eq_self, c11, c20, c36, c51, ↓reduceIte]
              try simp only [tHour, tBank, tLev, tOver, tDrawn, tFull, tLock, tFill, tAt, tPur, tSer, dHour, dBank, dLev, dOver, dDrawn, dFull, dLock, dFill, dAt, dPur, dSer]
            have f1 : K_barge K x y z = (kFee K, kDry K, kMill K, kMark K, kNb K + 1, kSpr K, upd (kGoal K) (kNb K) y) := by
              simp only [q_barge, K_barge, V_barge, r_or0, xk_01, xk_10, xk_20, xk_30, eq_self, c11, c20, c36, c51, ↓reduceIte]
              try simp only [tHour, tBank, tLev, tOver, tDrawn, tFull, tLock, tFill, tAt, tPur, tSer, dHour, dBank, dLev, dOver, dDrawn, dFull, dLock, dFill, dAt, dPur, dSer, uFee, uDry, uMill, uMark, uNb, uSpr, uGoal, kFee, kDry, kMill, kMark, kNb, kSpr, kGoal]
            have f2 : V_barge K V x y z = (dHour V, dBank V, dLev V, dOver V, dDrawn V, dFull V, dLock V, dFill V, upd (dAt V) (kNb K) x, upd (dPur V) (kNb K) z, dSer V) := by
              simp only [q_barge, K_barge, V_barge, r_or0, xk_01, xk_10, xk_20, xk_30, eq_self, c11, c20, c36, c51, ↓reduceIte]
              try simp only [tHour, tBank, tLev, tOver, tDrawn, tFull, tLock, tFill, tAt, tPur, tSer, dHour, dBank, dLev, dOver, dDrawn, dFull, dLock, dFill, dAt, dPur, dSer]
            rw [f0, f1, f2, mw_mk, sw_mk]
        · skip
          refine xr_aload_n F dX3_barge_54 rfl 0 rfl ?_
          refine xr_iconst F dX3_barge_55 (v := 3) (by decide) ?_
          refine xr_callVi F (wr := sw yI u (kMark K) aw wh V) (rest := []) (As := [.int 3]) (k_X3_no l D yI yZ yL g u t 0 K 3 ) (cwV 1 F.hts gX3_barge_X3_no rfl rfl rfl (by decide +kernel) ⟨Nat.le_of_ble_eq_true rfl, Nat.le_of_ble_eq_true rfl⟩) (q0 := 0) rfl rfl [0, 1, 2] [3, 4, 5, 6, 7, 8, 9, 10, 11, 12, 13] rfl rfl (by decide) (by decide) (by decide) rfl rfl (Nat.le_of_ble_eq_true rfl) dX3_barge_56 ⟨Nat.le_of_ble_eq_true rfl, Nat.le_of_ble_eq_true rfl⟩ (fun r1 W1 z1 => ?_)
          obtain ⟨z0, z1⟩ := z1
          subst z0
          subst z1
          refine xr_sub (ws' := (mw yI g u t 3 K) ++ (sw yI u (kMark K) aw wh V)) [11, 12, 13, 0, 1, 2, 3, 4, 5, 6, 7, 8, 9, 10] (by decide) rfl ?_
          refine ret _ _ _ _ dX3_barge_59 ⟨?_, ?_⟩
          · skip
            first | with_reducible rfl | (simp only [q_barge, K_barge, V_barge, r_or0, xk_01, xk_10, xk_20, xk_30, eq_self, c11, c20, c36, c51, ↓reduceIte]; done) | (simp only [q_barge, K_barge, V_barge, r_or0, xk_01, xk_10, xk_20, xk_30, eq_self, c11, c20, c36, c51, ↓reduceIte]; rfl) | rfl
          · skip
            have f0 : q_barge K x y z = 3 := by
              simp only [q_barge, K_barge, V_barge, r_or0, xk_01, xk_10, xk_20, xk_30, eq_self, c11, c20, c36, c51, ↓reduceIte]
              try simp only [tHour, tBank, tLev, tOver, tDrawn, tFull, tLock, tFill, tAt, tPur, tSer, dHour, dBank, dLev, dOver, dDrawn, dFull, dLock, dFill, dAt, dPur, dSer]
            have f1 : K_barge K x y z = K := by
              simp only [q_barge, K_barge, V_barge, r_or0, xk_01, xk_10, xk_20, xk_30, eq_self, c11, c20, c36, c51, ↓reduceIte]
              try simp only [tHour, tBank, tLev, tOver, tDrawn, tFull, tLock, tFill, tAt, tPur, tSer, dHour, dBank, dLev, dOver, dDrawn, dFull, dLock, dFill, dAt, dPur, dSer, uFee, uDry, uMill, uMark, uNb, uSpr, uGoal, kFee, kDry, kMill, kMark, kNb, kSpr, kGoal]
            have f2 : V_barge K V x y z = V := by
              simp only [q_barge, K_barge, V_barge, r_or0, xk_01, xk_10, xk_20, xk_30, eq_self, c11, c20, c36, c51, ↓reduceIte]
              try simp only [tHour, tBank, tLev, tOver, tDrawn, tFull, tLock, tFill, tAt, tPur, tSer, dHour, dBank, dLev, dOver, dDrawn, dFull, dLock, dFill, dAt, dPur, dSer]
            rw [f0, f1, f2]
      · skip
        refine xr_aload_n F dX3_barge_39 rfl 0 rfl ?_
        refine xr_iconst F dX3_barge_40 (v := 2) (by decide) ?_
        refine xr_callVi F (wr := sw yI u (kMark K) aw wh V) (rest := []) (As := [.int 2]) (k_X3_no l D yI yZ yL g u t 0 K 2 ) (cwV 1 F.hts gX3_barge_X3_no rfl rfl rfl (by decide +kernel) ⟨Nat.le_of_ble_eq_true rfl, Nat.le_of_ble_eq_true rfl⟩) (q0 := 0) rfl rfl [0, 1, 2] [3, 4, 5, 6, 7, 8, 9, 10, 11, 12, 13] rfl rfl (by decide) (by decide) (by decide) rfl rfl (Nat.le_of_ble_eq_true rfl) dX3_barge_41 ⟨Nat.le_of_ble_eq_true rfl, Nat.le_of_ble_eq_true rfl⟩ (fun r1 W1 z1 => ?_)
        obtain ⟨z0, z1⟩ := z1
        subst z0
        subst z1
        refine xr_sub (ws' := (mw yI g u t 2 K) ++ (sw yI u (kMark K) aw wh V)) [11, 12, 13, 0, 1, 2, 3, 4, 5, 6, 7, 8, 9, 10] (by decide) rfl ?_
        refine ret _ _ _ _ dX3_barge_44 ⟨?_, ?_⟩
        · skip
          first | with_reducible rfl | (simp only [q_barge, K_barge, V_barge, r_or0, xk_01, xk_10, xk_20, xk_30, eq_self, c11, c20, c36, ↓reduceIte]; done) | (simp only [q_barge, K_barge, V_barge, r_or0, xk_01, xk_10, xk_20, xk_30, eq_self, c11, c20, c36, ↓reduceIte]; rfl) | rfl
        · skip
          have f0 : q_barge K x y z = 2 := by
            simp only [q_barge, K_barge, V_barge, r_or0, xk_01, xk_10, xk_20, xk_30, eq_self, c11, c20, c36, ↓reduceIte]
            try simp only [tHour, tBank, tLev, tOver, tDrawn, tFull, tLock, tFill, tAt, tPur, tSer, dHour, dBank, dLev, dOver, dDrawn, dFull, dLock, dFill, dAt, dPur, dSer]
          have f1 : K_barge K x y z = K := by
            simp only [q_barge, K_barge, V_barge, r_or0, xk_01, xk_10, xk_20, xk_30, eq_self, c11, c20, c36, ↓reduceIte]
            try simp only [tHour, tBank, tLev, tOver, tDrawn, tFull, tLock, tFill, tAt, tPur, tSer, dHour, dBank, dLev, dOver, dDrawn, dFull, dLock, dFill, dAt, dPur, dSer, uFee, uDry, uMill, uMark, uNb, uSpr, uGoal, kFee, kDry, kMill, kMark, kNb, kSpr, kGoal]
          have f2 : V_barge K V x y z = V := by
            simp only [q_barge, K_barge, V_barge, r_or0, xk_01, xk_10, xk_20, xk_30, eq_self, c11, c20, c36, ↓reduceIte]
            try simp only [tHour, tBank, tLev, tOver, tDrawn, tFull, tLock, tFill, tAt, tPur, tSer, dHour, dBank, dLev, dOver, dDrawn, dFull, dLock, dFill, dAt, dPur, dSer]
          rw [f0, f1, f2]
    · skip
      refine xr_aload_n F dX3_barge_23 rfl 0 rfl ?_
      refine xr_iconst F dX3_barge_24 (v := 1) (by decide) ?_
      refine xr_callVi F (wr := sw yI u (kMark K) aw wh V) (rest := []) (As := [.int 1]) (k_X3_no l D yI yZ yL g u t 0 K 1 ) (cwV 1 F.hts gX3_barge_X3_no rfl rfl rfl (by decide +kernel) ⟨Nat.le_of_ble_eq_true rfl, Nat.le_of_ble_eq_true rfl⟩) (q0 := 0) rfl rfl [0, 1, 2] [3, 4, 5, 6, 7, 8, 9, 10, 11, 12, 13] rfl rfl (by decide) (by decide) (by decide) rfl rfl (Nat.le_of_ble_eq_true rfl) dX3_barge_25 ⟨Nat.le_of_ble_eq_true rfl, Nat.le_of_ble_eq_true rfl⟩ (fun r1 W1 z1 => ?_)
      obtain ⟨z0, z1⟩ := z1
      subst z0
      subst z1
      refine xr_sub (ws' := (mw yI g u t 1 K) ++ (sw yI u (kMark K) aw wh V)) [11, 12, 13, 0, 1, 2, 3, 4, 5, 6, 7, 8, 9, 10] (by decide) rfl ?_
      refine ret _ _ _ _ dX3_barge_28 ⟨?_, ?_⟩
      · skip
        first | with_reducible rfl | (simp only [q_barge, K_barge, V_barge, r_or0, xk_01, xk_10, xk_20, xk_30, eq_self, c11, c20, ↓reduceIte]; done) | (simp only [q_barge, K_barge, V_barge, r_or0, xk_01, xk_10, xk_20, xk_30, eq_self, c11, c20, ↓reduceIte]; rfl) | rfl
      · skip
        have f0 : q_barge K x y z = 1 := by
          simp only [q_barge, K_barge, V_barge, r_or0, xk_01, xk_10, xk_20, xk_30, eq_self, c11, c20, ↓reduceIte]
          try simp only [tHour, tBank, tLev, tOver, tDrawn, tFull, tLock, tFill, tAt, tPur, tSer, dHour, dBank, dLev, dOver, dDrawn, dFull, dLock, dFill, dAt, dPur, dSer]
        have f1 : K_barge K x y z = K := by
          simp only [q_barge, K_barge, V_barge, r_or0, xk_01, xk_10, xk_20, xk_30, eq_self, c11, c20, ↓reduceIte]
          try simp only [tHour, tBank, tLev, tOver, tDrawn, tFull, tLock, tFill, tAt, tPur, tSer, dHour, dBank, dLev, dOver, dDrawn, dFull, dLock, dFill, dAt, dPur, dSer, uFee, uDry, uMill, uMark, uNb, uSpr, uGoal, kFee, kDry, kMill, kMark, kNb, kSpr, kGoal]
        have f2 : V_barge K V x y z = V := by
          simp only [q_barge, K_barge, V_barge, r_or0, xk_01, xk_10, xk_20, xk_30, eq_self, c11, c20, ↓reduceIte]
          try simp only [tHour, tBank, tLev, tOver, tDrawn, tFull, tLock, tFill, tAt, tPur, tSer, dHour, dBank, dLev, dOver, dDrawn, dFull, dLock, dFill, dAt, dPur, dSer]
        rw [f0, f1, f2]

def rm_X3_send : Room := { frames := 2, cells := 0, slots := 0, locals := 43 }
set_option maxHeartbeats 4000000 in
set_option maxRecDepth 100000 in
/-- send -/
theorem k_X3_send (l : Launch) (D : va_G) (yI yZ yL : ClassId) (g u t : Nat → Nat) (th : Int32) (K : CK) (x : Int32) (y : Int32) (h0 : kNb K ≤ 10) : xMi l yX3_send wsX3_send rm_X3_send D (tysG yI yZ yL) (mw yI g u t th K) [.ref (g 0), .int x, .int y] 0 0 (fun (r : Int32) (W1 : va_W) => r = r_or0 (q_send K x y) (kGoal K (ix x)) ∧ W1 = mw yI g u t (q_send K x y) (K_send K x y)) := by
  refine xE_i (cc := cX3_send) (nL := 4) (by decide) rfl (Nat.le_of_ble_eq_true rfl) ?_
  intro p e s m args below meth c A Q F hnm ret
  have hin3 : ∀ w ∈ u_ws RX3 TX3 9, w ∈ wsX3_send := by decide +kernel
  show AW p l e rm_X3_send s m args below meth c 4 D A 0 0 Q (mw yI g u t th K) [(0, .ref (g 0)), (1, .int x), (2, .int y)] 0 []
  refine xr_aload_n F dX3_send_0 rfl 0 rfl ?_
  refine xr_iconst F dX3_send_1 (v := 0) (by decide) ?_
  refine xr_put (ty := .int) F hin3 0 rfl rfl 0 (by decide) tyX3 tyX3_ok nmX3 (List.mem_of_getElem? (i := 1) rfl) rfl (by decide) rfl rfl (Nat.le_of_ble_eq_true rfl) (mw yI g u t 0 K) rfl dX3_send_2 ?_
  refine xr_aload_n F dX3_send_5 rfl 0 rfl ?_
  refine xr_iload_n F dX3_send_6 rfl 1 rfl ?_
  refine xr_callVz F (wr := ([] : va_W)) (rest := []) (As := [.int x]) (k_X3_isBarge l D yI yZ yL g u t 0 K x ) (cwV 1 F.hts gX3_send_X3_isBarge rfl rfl rfl (by decide +kernel) ⟨Nat.le_of_ble_eq_true rfl, Nat.le_of_ble_eq_true rfl⟩) (q0 := 0) rfl rfl [0, 1, 2] [] rfl rfl (by decide) (by decide) (by decide) rfl rfl (Nat.le_of_ble_eq_true rfl) dX3_send_7 ⟨Nat.le_of_ble_eq_true rfl, Nat.le_of_ble_eq_true rfl⟩ (fun r1 W1 z1 => ?_)
  obtain ⟨z0, z1⟩ := z1
  subst z0
  subst z1
  refine xr_ws (ws' := mw yI g u t 0 K) rfl ?_
  refine xr_if_eq F 22 dX3_send_10 (by decide) (fun c10 => ?_) (fun c10 => ?_)
  · skip
    refine xr_aload_n F dX3_send_22 rfl 0 rfl ?_
    refine xr_iconst F dX3_send_23 (v := 1) (by decide) ?_
    refine xr_callVi F (wr := ([] : va_W)) (rest := []) (As := [.int 1]) (k_X3_no l D yI yZ yL g u t 0 K 1 ) (cwV 1 F.hts gX3_send_X3_no rfl rfl rfl (by decide +kernel) ⟨Nat.le_of_ble_eq_true rfl, Nat.le_of_ble_eq_true rfl⟩) (q0 := 0) rfl rfl [0, 1, 2] [] rfl rfl (by decide) (by decide) (by decide) rfl rfl (Nat.le_of_ble_eq_true rfl) dX3_send_24 ⟨Nat.le_of_ble_eq_true rfl, Nat.le_of_ble_eq_true rfl⟩ (fun r1 W1 z1 => ?_)
    obtain ⟨z0, z1⟩ := z1
    subst z0
    subst z1
    refine xr_ws (ws' := mw yI g u t 1 K) rfl ?_
    refine ret _ _ _ _ dX3_send_27 ⟨?_, ?_⟩
    · skip
      first | with_reducible rfl | (simp only [q_send, K_send, r_or0, xk_01, xk_10, xk_20, xk_30, eq_self, c10, ↓reduceIte]; done) | (simp only [q_send, K_send, r_or0, xk_01, xk_10, xk_20, xk_30, eq_self, c10, ↓reduceIte]; rfl) | rfl
    · skip
      have f0 : q_send K x y = 1 := by
        simp only [q_send, K_send, r_or0, xk_01, xk_10, xk_20, xk_30, eq_self, c10, ↓reduceIte]
        try simp only [tHour, tBank, tLev, tOver, tDrawn, tFull, tLock, tFill, tAt, tPur, tSer, dHour, dBank, dLev, dOver, dDrawn, dFull, dLock, dFill, dAt, dPur, dSer]
      have f1 : K_send K x y = K := by
        simp only [q_send, K_send, r_or0, xk_01, xk_10, xk_20, xk_30, eq_self, c10, ↓reduceIte]
        try simp only [tHour, tBank, tLev, tOver, tDrawn, tFull, tLock, tFill, tAt, tPur, tSer, dHour, dBank, dLev, dOver, dDrawn, dFull, dLock, dFill, dAt, dPur, dSer, uFee, uDry, uMill, uMark, uNb, uSpr, uGoal, kFee, kDry, kMill, kMark, kNb, kSpr, kGoal]
      rw [f0, f1]
  · skip
    obtain ⟨hx1, hx2⟩ := isIn_nb (by omega) c10
    refine xr_iload_n F dX3_send_13 rfl 2 rfl ?_
    refine xr_iconst F dX3_send_14 (v := 0) (by decide) ?_
    refine xr_iconst F dX3_send_15 (v := 5) (by decide) ?_
    refine xr_callSz F (wr := mw yI g u t 0 K) (rest := []) (As := [.int y, .int 0, .int 5]) (k_X3_isIn l D yI yZ yL y 0 5 ) (va_cwS 3 F.hts gX3_send_X3_isIn rfl rfl rfl (by decide +kernel) ⟨Nat.le_of_ble_eq_true rfl, Nat.le_of_ble_eq_true rfl⟩) [] [0, 1, 2] rfl rfl (by decide) (by decide) (by decide) rfl rfl (Nat.le_of_ble_eq_true rfl) dX3_send_16 ⟨Nat.le_of_ble_eq_true rfl, Nat.le_of_ble_eq_true rfl⟩ (fun r1 W1 z1 => ?_)
    obtain ⟨z0, z1⟩ := z1
    subst z0
    subst z1
    refine xr_ws (ws' := mw yI g u t 0 K) rfl ?_
    refine xr_if_ne F 28 dX3_send_19 (by decide) (fun c19 => ?_) (fun c19 => ?_)
    · skip
      refine xr_aload_n F dX3_send_28 rfl 0 rfl ?_
      refine xr_get F hin3 0 rfl rfl 2 (by decide) (List.mem_of_getElem? (i := 2) rfl) (v := .ref (g 1)) rfl dX3_send_29 ?_
      refine xr_iload_n F dX3_send_32 rfl 1 rfl ?_
      refine xr_iald F 1 0 rfl rfl (ix x) hx1 (by omega) (by decide) dX3_send_33 ?_
      refine xr_istore_n F [(3, .int ((kGoal K) (ix x))), (0, .ref (g 0)), (1, .int x), (2, .int y)] dX3_send_34 rfl (by decide) rfl ?_
      refine xr_aload_n F dX3_send_35 rfl 1 rfl ?_
      refine xr_get F hin3 0 rfl rfl 2 (by decide) (List.mem_of_getElem? (i := 2) rfl) (v := .ref (g 1)) rfl dX3_send_36 ?_
      refine xr_iload_n F dX3_send_39 rfl 2 rfl ?_
      refine xr_iload_n F dX3_send_40 rfl 3 rfl ?_
      refine xr_iast F 1 0 rfl rfl (ix x) hx1 (by omega) (by decide) (mwx yI g u t 0 (kFee K) (kDry K) (kMill K) (kNb K) (kSpr K) (upd (kGoal K) (ix x) y)) rfl dX3_send_41 ?_
      refine xr_iload_n F dX3_send_42 rfl 0 rfl ?_
      refine ret _ _ _ _ dX3_send_43 ⟨?_, ?_⟩
      · skip
        first | with_reducible rfl | (simp only [q_send, K_send, r_or0, xk_01, xk_10, xk_20, xk_30, eq_self, c10, c19, ↓reduceIte]; done) | (simp only [q_send, K_send, r_or0, xk_01, xk_10, xk_20, xk_30, eq_self, c10, c19, ↓reduceIte]; rfl) | rfl
      · skip
        have f0 : q_send K x y = 0 := by
          simp only [q_send, K_send, r_or0, xk_01, xk_10, xk_20, xk_30, eq_self, c10, c19, ↓reduceIte]
          try simp only [tHour, tBank, tLev, tOver, tDrawn, tFull, tLock, tFill, tAt, tPur, tSer, dHour, dBank, dLev, dOver, dDrawn, dFull, dLock, dFill, dAt, dPur, dSer]
        have f1 : K_send K x y = (kFee K, kDry K, kMill K, kMark K, kNb K, kSpr K, upd (kGoal K) (ix x) y) := by
          simp only [q_send, K_send, r_or0, xk_01, xk_10, xk_20, xk_30, eq_self, c10, c19, ↓reduceIte]
          try simp only [tHour, tBank, tLev, tOver, tDrawn, tFull, tLock, tFill, tAt, tPur, tSer, dHour, dBank, dLev, dOver, dDrawn, dFull, dLock, dFill, dAt, dPur, dSer, uFee, uDry, uMill, uMark, uNb, uSpr, uGoal, kFee, kDry, kMill, kMark, kNb, kSpr, kGoal]
        rw [f0, f1, mw_mk]
    · skip
      refine xr_aload_n F dX3_send_22 rfl 0 rfl ?_
      refine xr_iconst F dX3_send_23 (v := 1) (by decide) ?_
      refine xr_callVi F (wr := ([] : va_W)) (rest := []) (As := [.int 1]) (k_X3_no l D yI yZ yL g u t 0 K 1 ) (cwV 1 F.hts gX3_send_X3_no rfl rfl rfl (by decide +kernel) ⟨Nat.le_of_ble_eq_true rfl, Nat.le_of_ble_eq_true rfl⟩) (q0 := 0) rfl rfl [0, 1, 2] [] rfl rfl (by decide) (by decide) (by decide) rfl rfl (Nat.le_of_ble_eq_true rfl) dX3_send_24 ⟨Nat.le_of_ble_eq_true rfl, Nat.le_of_ble_eq_true rfl⟩ (fun r1 W1 z1 => ?_)
      obtain ⟨z0, z1⟩ := z1
      subst z0
      subst z1
      refine xr_ws (ws' := mw yI g u t 1 K) rfl ?_
      refine ret _ _ _ _ dX3_send_27 ⟨?_, ?_⟩
      · skip
        first | with_reducible rfl | (simp only [q_send, K_send, r_or0, xk_01, xk_10, xk_20, xk_30, eq_self, c10, c19, ↓reduceIte]; done) | (simp only [q_send, K_send, r_or0, xk_01, xk_10, xk_20, xk_30, eq_self, c10, c19, ↓reduceIte]; rfl) | rfl
      · skip
        have f0 : q_send K x y = 1 := by
          simp only [q_send, K_send, r_or0, xk_01, xk_10, xk_20, xk_30, eq_self, c10, c19, ↓reduceIte]
          try simp only [tHour, tBank, tLev, tOver, tDrawn, tFull, tLock, tFill, tAt, tPur, tSer, dHour, dBank, dLev, dOver, dDrawn, dFull, dLock, dFill, dAt, dPur, dSer]
        have f1 : K_send K x y = K := by
          simp only [q_send, K_send, r_or0, xk_01, xk_10, xk_20, xk_30, eq_self, c10, c19, ↓reduceIte]
          try simp only [tHour, tBank, tLev, tOver, tDrawn, tFull, tLock, tFill, tAt, tPur, tSer, dHour, dBank, dLev, dOver, dDrawn, dFull, dLock, dFill, dAt, dPur, dSer, uFee, uDry, uMill, uMark, uNb, uSpr, uGoal, kFee, kDry, kMill, kMark, kNb, kSpr, kGoal]
        rw [f0, f1]

def rm_X3_told : Room := { frames := 2, cells := 0, slots := 0, locals := 44 }
set_option maxHeartbeats 4000000 in
set_option maxRecDepth 100000 in
/-- told -/
theorem k_X3_told (l : Launch) (D : va_G) (yI yZ yL : ClassId) (g u t : Nat → Nat) (th : Int32) (K : CK) (aw : Int32) (wh : Nat → Int32) (V : CD) (x : Int32) (y : Int32) (h0 : kNb K ≤ 10) : xMi l yX3_told wsX3_told rm_X3_told D (tysG yI yZ yL) ((mw yI g u t th K) ++ (sw yI u (kMark K) aw wh V)) [.ref (g 0), .int x, .int y] 0 0 (fun (r : Int32) (W1 : va_W) => r = r_or0 (q_told K x y) (m_tellB K V (ix x) (ix y)) ∧ W1 = (mw yI g u t (q_told K x y) K) ++ (sw yI u (kMark K) aw wh V)) := by
  refine xE_i (cc := cX3_told) (nL := 3) (by decide) rfl (Nat.le_of_ble_eq_true rfl) ?_
  intro p e s m args below meth c A Q F hnm ret
  have hin3 : ∀ w ∈ u_ws RX3 TX3 9, w ∈ wsX3_told := by decide +kernel
  show AW p l e rm_X3_told s m args below meth c 3 D A 0 0 Q ((mw yI g u t th K) ++ (sw yI u (kMark K) aw wh V)) [(0, .ref (g 0)), (1, .int x), (2, .int y)] 0 []
  refine xr_aload_n F dX3_told_0 rfl 0 rfl ?_
  refine xr_iconst F dX3_told_1 (v := 0) (by decide) ?_
  refine xr_put (ty := .int) F hin3 0 rfl rfl 0 (by decide) tyX3 tyX3_ok nmX3 (List.mem_of_getElem? (i := 1) rfl) rfl (by decide) rfl rfl (Nat.le_of_ble_eq_true rfl) ((mw yI g u t 0 K) ++ (sw yI u (kMark K) aw wh V)) rfl dX3_told_2 ?_
  refine xr_aload_n F dX3_told_5 rfl 0 rfl ?_
  refine xr_iload_n F dX3_told_6 rfl 1 rfl ?_
  refine xr_callVz F (wr := sw yI u (kMark K) aw wh V) (rest := []) (As := [.int x]) (k_X3_isBarge l D yI yZ yL g u t 0 K x ) (cwV 1 F.hts gX3_told_X3_isBarge rfl rfl rfl (by decide +kernel) ⟨Nat.le_of_ble_eq_true rfl, Nat.le_of_ble_eq_true rfl⟩) (q0 := 0) rfl rfl [0, 1, 2] [3, 4, 5, 6, 7, 8, 9, 10, 11, 12, 13] rfl rfl (by decide) (by decide) (by decide) rfl rfl (Nat.le_of_ble_eq_true rfl) dX3_told_7 ⟨Nat.le_of_ble_eq_true rfl, Nat.le_of_ble_eq_true rfl⟩ (fun r1 W1 z1 => ?_)
  obtain ⟨z0, z1⟩ := z1
  subst z0
  subst z1
  refine xr_sub (ws' := (mw yI g u t 0 K) ++ (sw yI u (kMark K) aw wh V)) [11, 12, 13, 0, 1, 2, 3, 4, 5, 6, 7, 8, 9, 10] (by decide) rfl ?_
  refine xr_if_eq F 31 dX3_told_10 (by decide) (fun c10 => ?_) (fun c10 => ?_)
  · skip
    refine xr_aload_n F dX3_told_31 rfl 0 rfl ?_
    refine xr_iconst F dX3_told_32 (v := 1) (by decide) ?_
    refine xr_callVi F (wr := sw yI u (kMark K) aw wh V) (rest := []) (As := [.int 1]) (k_X3_no l D yI yZ yL g u t 0 K 1 ) (cwV 1 F.hts gX3_told_X3_no rfl rfl rfl (by decide +kernel) ⟨Nat.le_of_ble_eq_true rfl, Nat.le_of_ble_eq_true rfl⟩) (q0 := 0) rfl rfl [0, 1, 2] [3, 4, 5, 6, 7, 8, 9, 10, 11, 12, 13] rfl rfl (by decide) (by decide) (by decide) rfl rfl (Nat.le_of_ble_eq_true rfl) dX3_told_33 ⟨Nat.le_of_ble_eq_true rfl, Nat.le_of_ble_eq_true rfl⟩ (fun r1 W1 z1 => ?_)
    obtain ⟨z0, z1⟩ := z1
    subst z0
    subst z1
    refine xr_sub (ws' := (mw yI g u t 1 K) ++ (sw yI u (kMark K) aw wh V)) [11, 12, 13, 0, 1, 2, 3, 4, 5, 6, 7, 8, 9, 10] (by decide) rfl ?_
    refine ret _ _ _ _ dX3_told_36 ⟨?_, ?_⟩
    · skip
      first | with_reducible rfl | (simp only [q_told, r_or0, xk_01, xk_10, xk_20, xk_30, eq_self, c10, ↓reduceIte]; done) | (simp only [q_told, r_or0, xk_01, xk_10, xk_20, xk_30, eq_self, c10, ↓reduceIte]; rfl) | rfl
    · skip
      have f0 : q_told K x y = 1 := by
        simp only [q_told, r_or0, xk_01, xk_10, xk_20, xk_30, eq_self, c10, ↓reduceIte]
        try simp only [tHour, tBank, tLev, tOver, tDrawn, tFull, tLock, tFill, tAt, tPur, tSer, dHour, dBank, dLev, dOver, dDrawn, dFull, dLock, dFill, dAt, dPur, dSer]
      rw [f0]
  · skip
    obtain ⟨hx1, hx2⟩ := isIn_nb (by omega) c10
    refine xr_iload_n F dX3_told_13 rfl 2 rfl ?_
    refine xr_iconst F dX3_told_14 (v := 0) (by decide) ?_
    refine xr_iconst F dX3_told_15 (v := 4) (by decide) ?_
    refine xr_callSz F (wr := (mw yI g u t 0 K) ++ (sw yI u (kMark K) aw wh V)) (rest := []) (As := [.int y, .int 0, .int 4]) (k_X3_isIn l D yI yZ yL y 0 4 ) (va_cwS 3 F.hts gX3_told_X3_isIn rfl rfl rfl (by decide +kernel) ⟨Nat.le_of_ble_eq_true rfl, Nat.le_of_ble_eq_true rfl⟩) [] [0, 1, 2, 3, 4, 5, 6, 7, 8, 9, 10, 11, 12, 13] rfl rfl (by decide) (by decide) (by decide) rfl rfl (Nat.le_of_ble_eq_true rfl) dX3_told_16 ⟨Nat.le_of_ble_eq_true rfl, Nat.le_of_ble_eq_true rfl⟩ (fun r1 W1 z1 => ?_)
    obtain ⟨z0, z1⟩ := z1
    subst z0
    subst z1
    refine xr_ws (ws' := (mw yI g u t 0 K) ++ (sw yI u (kMark K) aw wh V)) rfl ?_
    refine xr_if_eq F 31 dX3_told_19 (by decide) (fun c19 => ?_) (fun c19 => ?_)
    · skip
      refine xr_aload_n F dX3_told_31 rfl 0 rfl ?_
      refine xr_iconst F dX3_told_32 (v := 1) (by decide) ?_
      refine xr_callVi F (wr := sw yI u (kMark K) aw wh V) (rest := []) (As := [.int 1]) (k_X3_no l D yI yZ yL g u t 0 K 1 ) (cwV 1 F.hts gX3_told_X3_no rfl rfl rfl (by decide +kernel) ⟨Nat.le_of_ble_eq_true rfl, Nat.le_of_ble_eq_true rfl⟩) (q0 := 0) rfl rfl [0, 1, 2] [3, 4, 5, 6, 7, 8, 9, 10, 11, 12, 13] rfl rfl (by decide) (by decide) (by decide) rfl rfl (Nat.le_of_ble_eq_true rfl) dX3_told_33 ⟨Nat.le_of_ble_eq_true rfl, Nat.le_of_ble_eq_true rfl⟩ (fun r1 W1 z1 => ?_)
      obtain ⟨z0, z1⟩ := z1
      subst z0
      subst z1
      refine xr_sub (ws' := (mw yI g u t 1 K) ++ (sw yI u (kMark K) aw wh V)) [11, 12, 13, 0, 1, 2, 3, 4, 5, 6, 7, 8, 9, 10] (by decide) rfl ?_
      refine ret _ _ _ _ dX3_told_36 ⟨?_, ?_⟩
      · skip
        first | with_reducible rfl | (simp only [q_told, r_or0, xk_01, xk_10, xk_20, xk_30, eq_self, c10, c19, ↓reduceIte]; done) | (simp only [q_told, r_or0, xk_01, xk_10, xk_20, xk_30, eq_self, c10, c19, ↓reduceIte]; rfl) | rfl
      · skip
        have f0 : q_told K x y = 1 := by
          simp only [q_told, r_or0, xk_01, xk_10, xk_20, xk_30, eq_self, c10, c19, ↓reduceIte]
          try simp only [tHour, tBank, tLev, tOver, tDrawn, tFull, tLock, tFill, tAt, tPur, tSer, dHour, dBank, dLev, dOver, dDrawn, dFull, dLock, dFill, dAt, dPur, dSer]
        rw [f0]
    · skip
      obtain ⟨hy1, hy2⟩ := isIn_ix 4 (by decide) rfl c19
      refine xr_aload_n F dX3_told_22 rfl 0 rfl ?_
      refine xr_iload_n F dX3_told_23 rfl 1 rfl ?_
      refine xr_iload_n F dX3_told_24 rfl 2 rfl ?_
      refine xr_stk (st' := [.int y, .int (nI (ix x)), .ref (g 0)]) (by rw [← hx1]) ?_
      refine xr_stk (st' := [.int (nI (ix y)), .int (nI (ix x)), .ref (g 0)]) (by rw [← hy1]) ?_
      refine xr_callVi F (wr := ([] : va_W)) (rest := []) (As := [.int (nI (ix x)), .int (nI (ix y))]) (k_X3_bargeTold l D yI yZ yL g u t 0 K aw wh V (ix x) (ix y) (by omega) (by omega)) (cwV 2 F.hts gX3_told_X3_bargeTold rfl rfl rfl (by decide +kernel) ⟨Nat.le_of_ble_eq_true rfl, Nat.le_of_ble_eq_true rfl⟩) (q0 := 0) rfl rfl [0, 1, 2, 3, 4, 5, 6, 7, 8, 9, 10, 11, 12, 13] [] rfl rfl (by decide) (by decide) (by decide) rfl rfl (Nat.le_of_ble_eq_true rfl) dX3_told_25 ⟨Nat.le_of_ble_eq_true rfl, Nat.le_of_ble_eq_true rfl⟩ (fun r1 W1 z1 => ?_)
      obtain ⟨z0, z1⟩ := z1
      subst z0
      subst z1
      refine xr_ws (ws' := (mw yI g u t 0 K) ++ (sw yI u (kMark K) aw wh V)) rfl ?_
      refine xr_goto F 36 dX3_told_28 (by decide) ?_
      refine ret _ _ _ _ dX3_told_36 ⟨?_, ?_⟩
      · skip
        first | with_reducible rfl | (simp only [q_told, r_or0, xk_01, xk_10, xk_20, xk_30, eq_self, c10, c19, ↓reduceIte]; done) | (simp only [q_told, r_or0, xk_01, xk_10, xk_20, xk_30, eq_self, c10, c19, ↓reduceIte]; rfl) | rfl
      · skip
        have f0 : q_told K x y = 0 := by
          simp only [q_told, r_or0, xk_01, xk_10, xk_20, xk_30, eq_self, c10, c19, ↓reduceIte]
          try simp only [tHour, tBank, tLev, tOver, tDrawn, tFull, tLock, tFill, tAt, tPur, tSer, dHour, dBank, dLev, dOver, dDrawn, dFull, dLock, dFill, dAt, dPur, dSer]
        rw [f0]

def rm_X3_pound : Room := { frames := 2, cells := 0, slots := 0, locals := 45 }
set_option maxHeartbeats 4000000 in
set_option maxRecDepth 100000 in
/-- pound -/
theorem k_X3_pound (l : Launch) (D : va_G) (yI yZ yL : ClassId) (g u t : Nat → Nat) (th : Int32) (K : CK) (aw : Int32) (wh : Nat → Int32) (V : CD) (x : Int32) (y : Int32) (h0 : kNb K ≤ 10) : xMi l yX3_pound wsX3_pound rm_X3_pound D (tysG yI yZ yL) ((mw yI g u t th K) ++ (sw yI u (kMark K) aw wh V)) [.ref (g 0), .int x, .int y] 0 0 (fun (r : Int32) (W1 : va_W) => r = r_or0 (q_in2 x 5 y 3) (m_tellP K V (ix x) (ix y)) ∧ W1 = (mw yI g u t (q_in2 x 5 y 3) K) ++ (sw yI u (kMark K) aw wh V)) := by
  refine xE_i (cc := cX3_pound) (nL := 3) (by decide) rfl (Nat.le_of_ble_eq_true rfl) ?_
  intro p e s m args below meth c A Q F hnm ret
  have hin3 : ∀ w ∈ u_ws RX3 TX3 9, w ∈ wsX3_pound := by decide +kernel
  show AW p l e rm_X3_pound s m args below meth c 3 D A 0 0 Q ((mw yI g u t th K) ++ (sw yI u (kMark K) aw wh V)) [(0, .ref (g 0)), (1, .int x), (2, .int y)] 0 []
  refine xr_aload_n F dX3_pound_0 rfl 0 rfl ?_
  refine xr_iconst F dX3_pound_1 (v := 0) (by decide) ?_
  refine xr_put (ty := .int) F hin3 0 rfl rfl 0 (by decide) tyX3 tyX3_ok nmX3 (List.mem_of_getElem? (i := 1) rfl) rfl (by decide) rfl rfl (Nat.le_of_ble_eq_true rfl) ((mw yI g u t 0 K) ++ (sw yI u (kMark K) aw wh V)) rfl dX3_pound_2 ?_
  refine xr_iload_n F dX3_pound_5 rfl 1 rfl ?_
  refine xr_iconst F dX3_pound_6 (v := 0) (by decide) ?_
  refine xr_iconst F dX3_pound_7 (v := 5) (by decide) ?_
  refine xr_callSz F (wr := (mw yI g u t 0 K) ++ (sw yI u (kMark K) aw wh V)) (rest := []) (As := [.int x, .int 0, .int 5]) (k_X3_isIn l D yI yZ yL x 0 5 ) (va_cwS 3 F.hts gX3_pound_X3_isIn rfl rfl rfl (by decide +kernel) ⟨Nat.le_of_ble_eq_true rfl, Nat.le_of_ble_eq_true rfl⟩) [] [0, 1, 2, 3, 4, 5, 6, 7, 8, 9, 10, 11, 12, 13] rfl rfl (by decide) (by decide) (by decide) rfl rfl (Nat.le_of_ble_eq_true rfl) dX3_pound_8 ⟨Nat.le_of_ble_eq_true rfl, Nat.le_of_ble_eq_true rfl⟩ (fun r1 W1 z1 => ?_)
  obtain ⟨z0, z1⟩ := z1
  subst z0
  subst z1
  refine xr_ws (ws' := (mw yI g u t 0 K) ++ (sw yI u (kMark K) aw wh V)) rfl ?_
  refine xr_if_eq F 32 dX3_pound_11 (by decide) (fun c11 => ?_) (fun c11 => ?_)
  · skip
    refine xr_aload_n F dX3_pound_32 rfl 0 rfl ?_
    refine xr_iconst F dX3_pound_33 (v := 1) (by decide) ?_
    refine xr_callVi F (wr := sw yI u (kMark K) aw wh V) (rest := []) (As := [.int 1]) (k_X3_no l D yI yZ yL g u t 0 K 1 ) (cwV 1 F.hts gX3_pound_X3_no rfl rfl rfl (by decide +kernel) ⟨Nat.le_of_ble_eq_true rfl, Nat.le_of_ble_eq_true rfl⟩) (q0 := 0) rfl rfl [0, 1, 2] [3, 4, 5, 6, 7, 8, 9, 10, 11, 12, 13] rfl rfl (by decide) (by decide) (by decide) rfl rfl (Nat.le_of_ble_eq_true rfl) dX3_pound_34 ⟨Nat.le_of_ble_eq_true rfl, Nat.le_of_ble_eq_true rfl⟩ (fun r1 W1 z1 => ?_)
    obtain ⟨z0, z1⟩ := z1
    subst z0
    subst z1
    refine xr_sub (ws' := (mw yI g u t 1 K) ++ (sw yI u (kMark K) aw wh V)) [11, 12, 13, 0, 1, 2, 3, 4, 5, 6, 7, 8, 9, 10] (by decide) rfl ?_
    refine ret _ _ _ _ dX3_pound_37 ⟨?_, ?_⟩
    · skip
      first | with_reducible rfl | (simp only [q_in2, r_or0, xk_01, xk_10, xk_20, xk_30, eq_self, c11, ↓reduceIte]; done) | (simp only [q_in2, r_or0, xk_01, xk_10, xk_20, xk_30, eq_self, c11, ↓reduceIte]; rfl) | rfl
    · skip
      have f0 : q_in2 x 5 y 3 = 1 := by
        simp only [q_in2, r_or0, xk_01, xk_10, xk_20, xk_30, eq_self, c11, ↓reduceIte]
        try simp only [tHour, tBank, tLev, tOver, tDrawn, tFull, tLock, tFill, tAt, tPur, tSer, dHour, dBank, dLev, dOver, dDrawn, dFull, dLock, dFill, dAt, dPur, dSer]
      rw [f0]
  · skip
    obtain ⟨hx1, hx2⟩ := isIn_ix 5 (by decide) rfl c11
    refine xr_iload_n F dX3_pound_14 rfl 2 rfl ?_
    refine xr_iconst F dX3_pound_15 (v := 0) (by decide) ?_
    refine xr_iconst F dX3_pound_16 (v := 3) (by decide) ?_
    refine xr_callSz F (wr := (mw yI g u t 0 K) ++ (sw yI u (kMark K) aw wh V)) (rest := []) (As := [.int y, .int 0, .int 3]) (k_X3_isIn l D yI yZ yL y 0 3 ) (va_cwS 3 F.hts gX3_pound_X3_isIn rfl rfl rfl (by decide +kernel) ⟨Nat.le_of_ble_eq_true rfl, Nat.le_of_ble_eq_true rfl⟩) [] [0, 1, 2, 3, 4, 5, 6, 7, 8, 9, 10, 11, 12, 13] rfl rfl (by decide) (by decide) (by decide) rfl rfl (Nat.le_of_ble_eq_true rfl) dX3_pound_17 ⟨Nat.le_of_ble_eq_true rfl, Nat.le_of_ble_eq_true rfl⟩ (fun r1 W1 z1 => ?_)
    obtain ⟨z0, z1⟩ := z1
    subst z0
    subst z1
    refine xr_ws (ws' := (mw yI g u t 0 K) ++ (sw yI u (kMark K) aw wh V)) rfl ?_
    refine xr_if_eq F 32 dX3_pound_20 (by decide) (fun c20 => ?_) (fun c20 => ?_)
    · skip
      refine xr_aload_n F dX3_pound_32 rfl 0 rfl ?_
      refine xr_iconst F dX3_pound_33 (v := 1) (by decide) ?_
      refine xr_callVi F (wr := sw yI u (kMark K) aw wh V) (rest := []) (As := [.int 1]) (k_X3_no l D yI yZ yL g u t 0 K 1 ) (cwV 1 F.hts gX3_pound_X3_no rfl rfl rfl (by decide +kernel) ⟨Nat.le_of_ble_eq_true rfl, Nat.le_of_ble_eq_true rfl⟩) (q0 := 0) rfl rfl [0, 1, 2] [3, 4, 5, 6, 7, 8, 9, 10, 11, 12, 13] rfl rfl (by decide) (by decide) (by decide) rfl rfl (Nat.le_of_ble_eq_true rfl) dX3_pound_34 ⟨Nat.le_of_ble_eq_true rfl, Nat.le_of_ble_eq_true rfl⟩ (fun r1 W1 z1 => ?_)
      obtain ⟨z0, z1⟩ := z1
      subst z0
      subst z1
      refine xr_sub (ws' := (mw yI g u t 1 K) ++ (sw yI u (kMark K) aw wh V)) [11, 12, 13, 0, 1, 2, 3, 4, 5, 6, 7, 8, 9, 10] (by decide) rfl ?_
      refine ret _ _ _ _ dX3_pound_37 ⟨?_, ?_⟩
      · skip
        first | with_reducible rfl | (simp only [q_in2, r_or0, xk_01, xk_10, xk_20, xk_30, eq_self, c11, c20, ↓reduceIte]; done) | (simp only [q_in2, r_or0, xk_01, xk_10, xk_20, xk_30, eq_self, c11, c20, ↓reduceIte]; rfl) | rfl
      · skip
        have f0 : q_in2 x 5 y 3 = 1 := by
          simp only [q_in2, r_or0, xk_01, xk_10, xk_20, xk_30, eq_self, c11, c20, ↓reduceIte]
          try simp only [tHour, tBank, tLev, tOver, tDrawn, tFull, tLock, tFill, tAt, tPur, tSer, dHour, dBank, dLev, dOver, dDrawn, dFull, dLock, dFill, dAt, dPur, dSer]
        rw [f0]
    · skip
      obtain ⟨hy1, hy2⟩ := isIn_ix 3 (by decide) rfl c20
      refine xr_aload_n F dX3_pound_23 rfl 0 rfl ?_
      refine xr_iload_n F dX3_pound_24 rfl 1 rfl ?_
      refine xr_iload_n F dX3_pound_25 rfl 2 rfl ?_
      refine xr_stk (st' := [.int y, .int (nI (ix x)), .ref (g 0)]) (by rw [← hx1]) ?_
      refine xr_stk (st' := [.int (nI (ix y)), .int (nI (ix x)), .ref (g 0)]) (by rw [← hy1]) ?_
      refine xr_callVi F (wr := ([] : va_W)) (rest := []) (As := [.int (nI (ix x)), .int (nI (ix y))]) (k_X3_poundTold l D yI yZ yL g u t 0 K aw wh V (ix x) (ix y) (by omega) (by omega) (by assumption)) (cwV 2 F.hts gX3_pound_X3_poundTold rfl rfl rfl (by decide +kernel) ⟨Nat.le_of_ble_eq_true rfl, Nat.le_of_ble_eq_true rfl⟩) (q0 := 0) rfl rfl [0, 1, 2, 3, 4, 5, 6, 7, 8, 9, 10, 11, 12, 13] [] rfl rfl (by decide) (by decide) (by decide) rfl rfl (Nat.le_of_ble_eq_true rfl) dX3_pound_26 ⟨Nat.le_of_ble_eq_true rfl, Nat.le_of_ble_eq_true rfl⟩ (fun r1 W1 z1 => ?_)
      obtain ⟨z0, z1⟩ := z1
      subst z0
      subst z1
      refine xr_ws (ws' := (mw yI g u t 0 K) ++ (sw yI u (kMark K) aw wh V)) rfl ?_
      refine xr_goto F 37 dX3_pound_29 (by decide) ?_
      refine ret _ _ _ _ dX3_pound_37 ⟨?_, ?_⟩
      · skip
        first | with_reducible rfl | (simp only [q_in2, r_or0, xk_01, xk_10, xk_20, xk_30, eq_self, c11, c20, ↓reduceIte]; done) | (simp only [q_in2, r_or0, xk_01, xk_10, xk_20, xk_30, eq_self, c11, c20, ↓reduceIte]; rfl) | rfl
      · skip
        have f0 : q_in2 x 5 y 3 = 0 := by
          simp only [q_in2, r_or0, xk_01, xk_10, xk_20, xk_30, eq_self, c11, c20, ↓reduceIte]
          try simp only [tHour, tBank, tLev, tOver, tDrawn, tFull, tLock, tFill, tAt, tPur, tSer, dHour, dBank, dLev, dOver, dDrawn, dFull, dLock, dFill, dAt, dPur, dSer]
        rw [f0]

def rm_X3_lock : Room := { frames := 5, cells := 0, slots := 0, locals := 114 }
set_option maxHeartbeats 4000000 in
set_option maxRecDepth 100000 in
/-- lock -/
theorem k_X3_lock (l : Launch) (D : va_G) (yI yZ yL : ClassId) (g u t : Nat → Nat) (th : Int32) (K : CK) (aw : Int32) (wh : Nat → Int32) (V : CD) (x : Int32) (y : Int32) (h0 : kNb K ≤ 10) : xMi l yX3_lock wsX3_lock rm_X3_lock D (tysG yI yZ yL) ((mw yI g u t th K) ++ (sw yI u (kMark K) aw wh V)) [.ref (g 0), .int x, .int y] 0 0 (fun (r : Int32) (W1 : va_W) => r = r_or0 (q_in2 x 4 y 4) (m_tellL K V wh (ix x) (ix y)) ∧ W1 = (mw yI g u t (q_in2 x 4 y 4) K) ++ (sw yI u (kMark K) aw wh V)) := by
  refine xE_i (cc := cX3_lock) (nL := 3) (by decide) rfl (Nat.le_of_ble_eq_true rfl) ?_
  intro p e s m args below meth c A Q F hnm ret
  have hin3 : ∀ w ∈ u_ws RX3 TX3 9, w ∈ wsX3_lock := by decide +kernel
  show AW p l e rm_X3_lock s m args below meth c 3 D A 0 0 Q ((mw yI g u t th K) ++ (sw yI u (kMark K) aw wh V)) [(0, .ref (g 0)), (1, .int x), (2, .int y)] 0 []
  refine xr_aload_n F dX3_lock_0 rfl 0 rfl ?_
  refine xr_iconst F dX3_lock_1 (v := 0) (by decide) ?_
  refine xr_put (ty := .int) F hin3 0 rfl rfl 0 (by decide) tyX3 tyX3_ok nmX3 (List.mem_of_getElem? (i := 1) rfl) rfl (by decide) rfl rfl (Nat.le_of_ble_eq_true rfl) ((mw yI g u t 0 K) ++ (sw yI u (kMark K) aw wh V)) rfl dX3_lock_2 ?_
  refine xr_iload_n F dX3_lock_5 rfl 1 rfl ?_
  refine xr_iconst F dX3_lock_6 (v := 0) (by decide) ?_
  refine xr_iconst F dX3_lock_7 (v := 4) (by decide) ?_
  refine xr_callSz F (wr := (mw yI g u t 0 K) ++ (sw yI u (kMark K) aw wh V)) (rest := []) (As := [.int x, .int 0, .int 4]) (k_X3_isIn l D yI yZ yL x 0 4 ) (va_cwS 3 F.hts gX3_lock_X3_isIn rfl rfl rfl (by decide +kernel) ⟨Nat.le_of_ble_eq_true rfl, Nat.le_of_ble_eq_true rfl⟩) [] [0, 1, 2, 3, 4, 5, 6, 7, 8, 9, 10, 11, 12, 13] rfl rfl (by decide) (by decide) (by decide) rfl rfl (Nat.le_of_ble_eq_true rfl) dX3_lock_8 ⟨Nat.le_of_ble_eq_true rfl, Nat.le_of_ble_eq_true rfl⟩ (fun r1 W1 z1 => ?_)
  obtain ⟨z0, z1⟩ := z1
  subst z0
  subst z1
  refine xr_ws (ws' := (mw yI g u t 0 K) ++ (sw yI u (kMark K) aw wh V)) rfl ?_
  refine xr_if_eq F 32 dX3_lock_11 (by decide) (fun c11 => ?_) (fun c11 => ?_)
  · skip
    refine xr_aload_n F dX3_lock_32 rfl 0 rfl ?_
    refine xr_iconst F dX3_lock_33 (v := 1) (by decide) ?_
    refine xr_callVi F (wr := sw yI u (kMark K) aw wh V) (rest := []) (As := [.int 1]) (k_X3_no l D yI yZ yL g u t 0 K 1 ) (cwV 1 F.hts gX3_lock_X3_no rfl rfl rfl (by decide +kernel) ⟨Nat.le_of_ble_eq_true rfl, Nat.le_of_ble_eq_true rfl⟩) (q0 := 0) rfl rfl [0, 1, 2] [3, 4, 5, 6, 7, 8, 9, 10, 11, 12, 13] rfl rfl (by decide) (by decide) (by decide) rfl rfl (Nat.le_of_ble_eq_true rfl) dX3_lock_34 ⟨Nat.le_of_ble_eq_true rfl, Nat.le_of_ble_eq_true rfl⟩ (fun r1 W1 z1 => ?_)
    obtain ⟨z0, z1⟩ := z1
    subst z0
    subst z1
    refine xr_sub (ws' := (mw yI g u t 1 K) ++ (sw yI u (kMark K) aw wh V)) [11, 12, 13, 0, 1, 2, 3, 4, 5, 6, 7, 8, 9, 10] (by decide) rfl ?_
    refine ret _ _ _ _ dX3_lock_37 ⟨?_, ?_⟩
    · skip
      first | with_reducible rfl | (simp only [q_in2, r_or0, xk_01, xk_10, xk_20, xk_30, eq_self, c11, ↓reduceIte]; done) | (simp only [q_in2, r_or0, xk_01, xk_10, xk_20, xk_30, eq_self, c11, ↓reduceIte]; rfl) | rfl
    · skip
      have f0 : q_in2 x 4 y 4 = 1 := by
        simp only [q_in2, r_or0, xk_01, xk_10, xk_20, xk_30, eq_self, c11, ↓reduceIte]
        try simp only [tHour, tBank, tLev, tOver, tDrawn, tFull, tLock, tFill, tAt, tPur, tSer, dHour, dBank, dLev, dOver, dDrawn, dFull, dLock, dFill, dAt, dPur, dSer]
      rw [f0]
  · skip
    obtain ⟨hx1, hx2⟩ := isIn_ix 4 (by decide) rfl c11
    refine xr_iload_n F dX3_lock_14 rfl 2 rfl ?_
    refine xr_iconst F dX3_lock_15 (v := 0) (by decide) ?_
    refine xr_iconst F dX3_lock_16 (v := 4) (by decide) ?_
    refine xr_callSz F (wr := (mw yI g u t 0 K) ++ (sw yI u (kMark K) aw wh V)) (rest := []) (As := [.int y, .int 0, .int 4]) (k_X3_isIn l D yI yZ yL y 0 4 ) (va_cwS 3 F.hts gX3_lock_X3_isIn rfl rfl rfl (by decide +kernel) ⟨Nat.le_of_ble_eq_true rfl, Nat.le_of_ble_eq_true rfl⟩) [] [0, 1, 2, 3, 4, 5, 6, 7, 8, 9, 10, 11, 12, 13] rfl rfl (by decide) (by decide) (by decide) rfl rfl (Nat.le_of_ble_eq_true rfl) dX3_lock_17 ⟨Nat.le_of_ble_eq_true rfl, Nat.le_of_ble_eq_true rfl⟩ (fun r1 W1 z1 => ?_)
    obtain ⟨z0, z1⟩ := z1
    subst z0
    subst z1
    refine xr_ws (ws' := (mw yI g u t 0 K) ++ (sw yI u (kMark K) aw wh V)) rfl ?_
    refine xr_if_eq F 32 dX3_lock_20 (by decide) (fun c20 => ?_) (fun c20 => ?_)
    · skip
      refine xr_aload_n F dX3_lock_32 rfl 0 rfl ?_
      refine xr_iconst F dX3_lock_33 (v := 1) (by decide) ?_
      refine xr_callVi F (wr := sw yI u (kMark K) aw wh V) (rest := []) (As := [.int 1]) (k_X3_no l D yI yZ yL g u t 0 K 1 ) (cwV 1 F.hts gX3_lock_X3_no rfl rfl rfl (by decide +kernel) ⟨Nat.le_of_ble_eq_true rfl, Nat.le_of_ble_eq_true rfl⟩) (q0 := 0) rfl rfl [0, 1, 2] [3, 4, 5, 6, 7, 8, 9, 10, 11, 12, 13] rfl rfl (by decide) (by decide) (by decide) rfl rfl (Nat.le_of_ble_eq_true rfl) dX3_lock_34 ⟨Nat.le_of_ble_eq_true rfl, Nat.le_of_ble_eq_true rfl⟩ (fun r1 W1 z1 => ?_)
      obtain ⟨z0, z1⟩ := z1
      subst z0
      subst z1
      refine xr_sub (ws' := (mw yI g u t 1 K) ++ (sw yI u (kMark K) aw wh V)) [11, 12, 13, 0, 1, 2, 3, 4, 5, 6, 7, 8, 9, 10] (by decide) rfl ?_
      refine ret _ _ _ _ dX3_lock_37 ⟨?_, ?_⟩
      · skip
        first | with_reducible rfl | (simp only [q_in2, r_or0, xk_01, xk_10, xk_20, xk_30, eq_self, c11, c20, ↓reduceIte]; done) | (simp only [q_in2, r_or0, xk_01, xk_10, xk_20, xk_30, eq_self, c11, c20, ↓reduceIte]; rfl) | rfl
      · skip
        have f0 : q_in2 x 4 y 4 = 1 := by
          simp only [q_in2, r_or0, xk_01, xk_10, xk_20, xk_30, eq_self, c11, c20, ↓reduceIte]
          try simp only [tHour, tBank, tLev, tOver, tDrawn, tFull, tLock, tFill, tAt, tPur, tSer, dHour, dBank, dLev, dOver, dDrawn, dFull, dLock, dFill, dAt, dPur, dSer]
        rw [f0]
    · skip
      obtain ⟨hy1, hy2⟩ := isIn_ix 4 (by decide) rfl c20
      refine xr_aload_n F dX3_lock_23 rfl 0 rfl ?_
      refine xr_iload_n F dX3_lock_24 rfl 1 rfl ?_
      refine xr_iload_n F dX3_lock_25 rfl 2 rfl ?_
      refine xr_stk (st' := [.int y, .int (nI (ix x)), .ref (g 0)]) (by rw [← hx1]) ?_
      refine xr_stk (st' := [.int (nI (ix y)), .int (nI (ix x)), .ref (g 0)]) (by rw [← hy1]) ?_
      refine xr_callVi F (wr := ([] : va_W)) (rest := []) (As := [.int (nI (ix x)), .int (nI (ix y))]) (k_X3_lockTold l D yI yZ yL g u t 0 K aw wh V (ix x) (ix y) (by omega) (by omega) (by assumption)) (cwV 2 F.hts gX3_lock_X3_lockTold rfl rfl rfl (by decide +kernel) ⟨Nat.le_of_ble_eq_true rfl, Nat.le_of_ble_eq_true rfl⟩) (q0 := 0) rfl rfl [0, 1, 2, 3, 4, 5, 6, 7, 8, 9, 10, 11, 12, 13] [] rfl rfl (by decide) (by decide) (by decide) rfl rfl (Nat.le_of_ble_eq_true rfl) dX3_lock_26 ⟨Nat.le_of_ble_eq_true rfl, Nat.le_of_ble_eq_true rfl⟩ (fun r1 W1 z1 => ?_)
      obtain ⟨z0, z1⟩ := z1
      subst z0
      subst z1
      refine xr_ws (ws' := (mw yI g u t 0 K) ++ (sw yI u (kMark K) aw wh V)) rfl ?_
      refine xr_goto F 37 dX3_lock_29 (by decide) ?_
      refine ret _ _ _ _ dX3_lock_37 ⟨?_, ?_⟩
      · skip
        first | with_reducible rfl | (simp only [q_in2, r_or0, xk_01, xk_10, xk_20, xk_30, eq_self, c11, c20, ↓reduceIte]; done) | (simp only [q_in2, r_or0, xk_01, xk_10, xk_20, xk_30, eq_self, c11, c20, ↓reduceIte]; rfl) | rfl
      · skip
        have f0 : q_in2 x 4 y 4 = 0 := by
          simp only [q_in2, r_or0, xk_01, xk_10, xk_20, xk_30, eq_self, c11, c20, ↓reduceIte]
          try simp only [tHour, tBank, tLev, tOver, tDrawn, tFull, tLock, tFill, tAt, tPur, tSer, dHour, dBank, dLev, dOver, dDrawn, dFull, dLock, dFill, dAt, dPur, dSer]
        rw [f0]

def rm_X3_count : Room := { frames := 2, cells := 0, slots := 0, locals := 47 }
set_option maxHeartbeats 4000000 in
set_option maxRecDepth 100000 in
/-- count -/
theorem k_X3_count (l : Launch) (D : va_G) (yI yZ yL : ClassId) (g u t : Nat → Nat) (th : Int32) (K : CK) (aw : Int32) (wh : Nat → Int32) (V : CD) (x : Int32) (h0 : kNb K ≤ 10) : xMi l yX3_count wsX3_count rm_X3_count D (tysG yI yZ yL) ((mw yI g u t th K) ++ (sw yI u (kMark K) aw wh V)) [.ref (g 0), .int x] 0 0 (fun (r : Int32) (W1 : va_W) => r = r_or0 (q_count x) (m_tellW K V aw (ix x)) ∧ W1 = (mw yI g u t (q_count x) K) ++ (sw yI u (kMark K) aw wh V)) := by
  refine xE_i (cc := cX3_count) (nL := 2) (by decide) rfl (Nat.le_of_ble_eq_true rfl) ?_
  intro p e s m args below meth c A Q F hnm ret
  have hin3 : ∀ w ∈ u_ws RX3 TX3 9, w ∈ wsX3_count := by decide +kernel
  show AW p l e rm_X3_count s m args below meth c 2 D A 0 0 Q ((mw yI g u t th K) ++ (sw yI u (kMark K) aw wh V)) [(0, .ref (g 0)), (1, .int x)] 0 []
  refine xr_aload_n F dX3_count_0 rfl 0 rfl ?_
  refine xr_iconst F dX3_count_1 (v := 0) (by decide) ?_
  refine xr_put (ty := .int) F hin3 0 rfl rfl 0 (by decide) tyX3 tyX3_ok nmX3 (List.mem_of_getElem? (i := 1) rfl) rfl (by decide) rfl rfl (Nat.le_of_ble_eq_true rfl) ((mw yI g u t 0 K) ++ (sw yI u (kMark K) aw wh V)) rfl dX3_count_2 ?_
  refine xr_iload_n F dX3_count_5 rfl 1 rfl ?_
  refine xr_iconst F dX3_count_6 (v := 0) (by decide) ?_
  refine xr_bipush F dX3_count_7 (v := 9) (by decide) ?_
  refine xr_callSz F (wr := (mw yI g u t 0 K) ++ (sw yI u (kMark K) aw wh V)) (rest := []) (As := [.int x, .int 0, .int 9]) (k_X3_isIn l D yI yZ yL x 0 9 ) (va_cwS 3 F.hts gX3_count_X3_isIn rfl rfl rfl (by decide +kernel) ⟨Nat.le_of_ble_eq_true rfl, Nat.le_of_ble_eq_true rfl⟩) [] [0, 1, 2, 3, 4, 5, 6, 7, 8, 9, 10, 11, 12, 13] rfl rfl (by decide) (by decide) (by decide) rfl rfl (Nat.le_of_ble_eq_true rfl) dX3_count_9 ⟨Nat.le_of_ble_eq_true rfl, Nat.le_of_ble_eq_true rfl⟩ (fun r1 W1 z1 => ?_)
  obtain ⟨z0, z1⟩ := z1
  subst z0
  subst z1
  refine xr_ws (ws' := (mw yI g u t 0 K) ++ (sw yI u (kMark K) aw wh V)) rfl ?_
  refine xr_if_eq F 27 dX3_count_12 (by decide) (fun c12 => ?_) (fun c12 => ?_)
  · skip
    refine xr_aload_n F dX3_count_27 rfl 0 rfl ?_
    refine xr_iconst F dX3_count_28 (v := 1) (by decide) ?_
    refine xr_callVi F (wr := sw yI u (kMark K) aw wh V) (rest := []) (As := [.int 1]) (k_X3_no l D yI yZ yL g u t 0 K 1 ) (cwV 1 F.hts gX3_count_X3_no rfl rfl rfl (by decide +kernel) ⟨Nat.le_of_ble_eq_true rfl, Nat.le_of_ble_eq_true rfl⟩) (q0 := 0) rfl rfl [0, 1, 2] [3, 4, 5, 6, 7, 8, 9, 10, 11, 12, 13] rfl rfl (by decide) (by decide) (by decide) rfl rfl (Nat.le_of_ble_eq_true rfl) dX3_count_29 ⟨Nat.le_of_ble_eq_true rfl, Nat.le_of_ble_eq_true rfl⟩ (fun r1 W1 z1 => ?_)
    obtain ⟨z0, z1⟩ := z1
    subst z0
    subst z1
    refine xr_sub (ws' := (mw yI g u t 1 K) ++ (sw yI u (kMark K) aw wh V)) [11, 12, 13, 0, 1, 2, 3, 4, 5, 6, 7, 8, 9, 10] (by decide) rfl ?_
    refine ret _ _ _ _ dX3_count_32 ⟨?_, ?_⟩
    · skip
      first | with_reducible rfl | (simp only [q_count, r_or0, xk_01, xk_10, xk_20, xk_30, eq_self, c12, ↓reduceIte]; done) | (simp only [q_count, r_or0, xk_01, xk_10, xk_20, xk_30, eq_self, c12, ↓reduceIte]; rfl) | rfl
    · skip
      have f0 : q_count x = 1 := by
        simp only [q_count, r_or0, xk_01, xk_10, xk_20, xk_30, eq_self, c12, ↓reduceIte]
        try simp only [tHour, tBank, tLev, tOver, tDrawn, tFull, tLock, tFill, tAt, tPur, tSer, dHour, dBank, dLev, dOver, dDrawn, dFull, dLock, dFill, dAt, dPur, dSer]
      rw [f0]
  · skip
    obtain ⟨hx1, hx2⟩ := isIn_ix 9 (by decide) rfl c12
    refine xr_aload_n F dX3_count_15 rfl 0 rfl ?_
    refine xr_aload_n F dX3_count_16 rfl 0 rfl ?_
    refine xr_get F hin3 0 rfl rfl 7 (by decide) (List.mem_of_getElem? (i := 2) rfl) (v := .ref (u 0)) rfl dX3_count_17 ?_
    refine xr_iload_n F dX3_count_20 rfl 1 rfl ?_
    refine xr_stk (st' := [.int (nI (ix x)), .ref (u 0), .ref (g 0)]) (by rw [← hx1]) ?_
    refine xr_callVi F (wr := ([] : va_W)) (rest := []) (As := [.ref (u 0), .int (nI (ix x))]) (k_X3_counted l D yI yZ yL g u t u 0 K aw wh V (ix x) (by omega) (by assumption)) (cwV 2 F.hts gX3_count_X3_counted rfl rfl rfl (by decide +kernel) ⟨Nat.le_of_ble_eq_true rfl, Nat.le_of_ble_eq_true rfl⟩) (q0 := 0) rfl rfl [0, 1, 2, 3, 4, 5, 6, 7, 8, 9, 10, 11, 12, 13] [] rfl rfl (by decide) (by decide) (by decide) rfl rfl (Nat.le_of_ble_eq_true rfl) dX3_count_21 ⟨Nat.le_of_ble_eq_true rfl, Nat.le_of_ble_eq_true rfl⟩ (fun r1 W1 z1 => ?_)
    obtain ⟨z0, z1⟩ := z1
    subst z0
    subst z1
    refine xr_ws (ws' := (mw yI g u t 0 K) ++ (sw yI u (kMark K) aw wh V)) rfl ?_
    refine xr_goto F 32 dX3_count_24 (by decide) ?_
    refine ret _ _ _ _ dX3_count_32 ⟨?_, ?_⟩
    · skip
      first | with_reducible rfl | (simp only [q_count, r_or0, xk_01, xk_10, xk_20, xk_30, eq_self, c12, ↓reduceIte]; done) | (simp only [q_count, r_or0, xk_01, xk_10, xk_20, xk_30, eq_self, c12, ↓reduceIte]; rfl) | rfl
    · skip
      have f0 : q_count x = 0 := by
        simp only [q_count, r_or0, xk_01, xk_10, xk_20, xk_30, eq_self, c12, ↓reduceIte]
        try simp only [tHour, tBank, tLev, tOver, tDrawn, tFull, tLock, tFill, tAt, tPur, tSer, dHour, dBank, dLev, dOver, dDrawn, dFull, dLock, dFill, dAt, dPur, dSer]
      rw [f0]
