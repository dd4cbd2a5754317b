def rm_X0_pour : Room := { frames := 1, cells := 0, slots := 0, locals := 21 }
set_option maxHeartbeats 4000000 in
set_option maxRecDepth 100000 in
/-- pour -/
theorem k_X0_pour (l : Launch) (D : va_G) (yI yZ yL : ClassId) (a : Nat → Nat) (K : CK) (V : CD) (n : Nat) (x : Int32) (h0 : n ≤ 6) : xMv l yX0_pour wsX0_pour rm_X0_pour D (tysG yI yZ yL) (cw yI yZ a K V) [.ref (a 0), .int (nI n - 1), .int x] 0 0 (fun W1 : va_W => W1 = cw yI yZ a K (c_pour V n x)) := by
  refine xE_v (cc := cX0_pour) (nL := 6) (by decide) rfl (Nat.le_of_ble_eq_true rfl) ?_
  intro p e s m args below meth c A Q F hnm ret
  have hin0 : ∀ w ∈ u_ws RX0 TX0 18, w ∈ wsX0_pour := by decide +kernel
  show AW p l e rm_X0_pour s m args below meth c 6 D A 0 0 Q (cw yI yZ a K V) [(0, .ref (a 0)), (1, .int (nI n - 1)), (2, .int x)] 0 []
  refine xr_iload_n F dX0_pour_0 rfl 2 rfl ?_
  refine xr_istore_n F [(3, .int x), (0, .ref (a 0)), (1, .int (nI n - 1)), (2, .int x)] dX0_pour_1 rfl (by decide) rfl ?_
  refine xr_iload_n F dX0_pour_2 rfl 2 rfl ?_
  refine xr_istore F [(4, .int (nI n - 1)), (3, .int x), (0, .ref (a 0)), (1, .int (nI n - 1)), (2, .int x)] dX0_pour_3 (by decide) rfl ?_
  have lp : ∀ (i : Nat) (z : Int32) (f : Nat → Int32) (g : Nat → Int32), i ≤ 6 → c_pourL i z f g = c_pourL n x (dLev V) (dOver V) → AW p l e rm_X0_pour s m args below meth c 6 D A 0 0 Q (cwx yI yZ a (kFee K) (kDry K) (kMill K) (kMark K) (kNb K) (kSpr K) (kGoal K) (dHour V) (dBank V) f g (dDrawn V) (dFull V) (dLock V) (dFill V) (dAt V) (dPur V) (dSer V)) [(4, .int (nI i - 1)), (3, .int z), (0, .ref (a 0))] 5 [] := by
    intro i
    induction i with
    | zero =>
      intro z f g hn hi
      refine xr_iload F dX0_pour_5 0 rfl ?_
      refine xr_if_lt F 67 dX0_pour_7 (by decide) (fun c7 => ?_) (fun c7 => ?_)
      · skip
        refine ret _ _ _ dX0_pour_67 ?_
        have e9 : c_pour V n x = (dHour V, dBank V, f, g, dDrawn V, dFull V, dLock V, dFill V, dAt V, dPur V, dSer V) := by
          unfold c_pour
          rw [← hi]
          simp only [c_pourL, c7, ↓reduceIte]
          try simp only [tHour, tBank, tLev, tOver, tDrawn, tFull, tLock, tFill, tAt, tPur, tSer, dHour, dBank, dLev, dOver, dDrawn, dFull, dLock, dFill, dAt, dPur, dSer]
        rw [e9, cw_mk]
      · exact absurd (by decide) c7
    | succ i ih =>
      intro z f g hn hi
      refine xr_lveq (lv' := [(4, .int (nI i)), (3, .int z), (0, .ref (a 0))]) (by rw [nI_pred]) ?_
      refine xr_iload F dX0_pour_5 0 rfl ?_
      refine xr_if_lt F 67 dX0_pour_7 (by decide) (fun c7 => ?_) (fun c7 => ?_)
      · exact absurd c7 (nI_pos (by omega))
      · skip
        refine xr_iload_n F dX0_pour_10 rfl 1 rfl ?_
        refine xr_if_le F 67 dX0_pour_11 (by decide) (fun c11 => ?_) (fun c11 => ?_)
        · skip
          refine ret _ _ _ dX0_pour_67 ?_
          have e9 : c_pour V n x = (dHour V, dBank V, f, g, dDrawn V, dFull V, dLock V, dFill V, dAt V, dPur V, dSer V) := by
            unfold c_pour
            rw [← hi]
            simp only [c_pourL, c7, c11, ↓reduceIte]
            try simp only [tHour, tBank, tLev, tOver, tDrawn, tFull, tLock, tFill, tAt, tPur, tSer, dHour, dBank, dLev, dOver, dDrawn, dFull, dLock, dFill, dAt, dPur, dSer]
          rw [e9, cw_mk]
        · skip
          refine xr_aload_n F dX0_pour_14 rfl 2 rfl ?_
          refine xr_get F hin0 0 rfl rfl 7 (by decide) (List.mem_of_getElem? (i := 1) rfl) (v := .ref (a 2)) rfl dX0_pour_15 ?_
          refine xr_iload F dX0_pour_18 0 rfl ?_
          refine xr_iald F 2 0 rfl rfl (i) rfl (by omega) (by decide) dX0_pour_20 ?_
          refine xr_iload_n F dX0_pour_21 rfl 1 rfl ?_
          refine xr_iadd F ((f i) + z) dX0_pour_22 rfl ?_
          refine xr_istore F [(5, .int ((f i) + z)), (4, .int (nI i)), (3, .int z), (0, .ref (a 0))] dX0_pour_23 (by decide) rfl ?_
          refine xr_aload_n F dX0_pour_25 rfl 3 rfl ?_
          refine xr_get F hin0 0 rfl rfl 7 (by decide) (List.mem_of_getElem? (i := 1) rfl) (v := .ref (a 2)) rfl dX0_pour_26 ?_
          refine xr_iload F dX0_pour_29 1 rfl ?_
          refine xr_iload F dX0_pour_31 0 rfl ?_
          refine xr_bipush F dX0_pour_33 (v := 100) (by decide) ?_
          refine xr_mmin F (List.mem_of_getElem? (i := 2) rfl) (List.mem_of_getElem? (i := 3) rfl) (List.mem_of_getElem? (i := 4) rfl) (List.mem_of_getElem? (i := 5) rfl) (Nat.le_of_ble_eq_true rfl) (Nat.le_of_ble_eq_true rfl) (Nat.le_of_ble_eq_true rfl) (Nat.le_of_ble_eq_true rfl) dX0_pour_35 ?_
          refine xr_iast F 2 0 rfl rfl (i) rfl (by omega) (by decide) (cwx yI yZ a (kFee K) (kDry K) (kMill K) (kMark K) (kNb K) (kSpr K) (kGoal K) (dHour V) (dBank V) (upd f i (if 100 < ((f i) + z) then 100 else (f i) + z)) g (dDrawn V) (dFull V) (dLock V) (dFill V) (dAt V) (dPur V) (dSer V)) rfl dX0_pour_38 ?_
          refine xr_iload F dX0_pour_39 0 rfl ?_
          refine xr_aload_n F dX0_pour_41 rfl 3 rfl ?_
          refine xr_get F hin0 0 rfl rfl 7 (by decide) (List.mem_of_getElem? (i := 1) rfl) (v := .ref (a 2)) rfl dX0_pour_42 ?_
          refine xr_iload F dX0_pour_45 1 rfl ?_
          refine xr_iald F 2 0 rfl rfl (i) rfl (by omega) (by decide) dX0_pour_47 ?_
          refine xr_isub F (((f i) + z) - ((upd f i (if 100 < ((f i) + z) then 100 else (f i) + z)) i)) dX0_pour_48 rfl ?_
          refine xr_istore_n F [(3, .int (((f i) + z) - ((upd f i (if 100 < ((f i) + z) then 100 else (f i) + z)) i))), (5, .int ((f i) + z)), (4, .int (nI i)), (0, .ref (a 0))] dX0_pour_49 rfl (by decide) rfl ?_
          refine xr_aload_n F dX0_pour_50 rfl 3 rfl ?_
          refine xr_get F hin0 0 rfl rfl 8 (by decide) (List.mem_of_getElem? (i := 6) rfl) (v := .ref (a 3)) rfl dX0_pour_51 ?_
          refine xr_iload F dX0_pour_54 2 rfl ?_
          refine xr_dup2 F dX0_pour_56 rfl rfl ?_
          refine xr_iald F 3 0 rfl rfl (i) rfl (by omega) (by decide) dX0_pour_57 ?_
          refine xr_iload_n F dX0_pour_58 rfl 0 rfl ?_
          refine xr_iadd F ((g i) + (((f i) + z) - ((upd f i (if 100 < ((f i) + z) then 100 else (f i) + z)) i))) dX0_pour_59 rfl ?_
          refine xr_iast F 3 0 rfl rfl (i) rfl (by omega) (by decide) (cwx yI yZ a (kFee K) (kDry K) (kMill K) (kMark K) (kNb K) (kSpr K) (kGoal K) (dHour V) (dBank V) (upd f i (if 100 < ((f i) + z) then 100 else (f i) + z)) (upd g i ((g i) + (((f i) + z) - ((upd f i (if 100 < ((f i) + z) then 100 else (f i) + z)) i)))) (dDrawn V) (dFull V) (dLock V) (dFill V) (dAt V) (dPur V) (dSer V)) rfl dX0_pour_60 ?_
          refine xr_iinc F (nI i - 1) [(4, .int (nI i - 1)), (3, .int (((f i) + z) - ((upd f i (if 100 < ((f i) + z) then 100 else (f i) + z)) i))), (5, .int ((f i) + z)), (0, .ref (a 0))] dX0_pour_61 2 rfl (xk_m1 (nI i)) (by decide) rfl ?_
          refine xr_goto F 5 dX0_pour_64 (by decide) ?_
          refine xr_lv (lv' := [(4, .int (nI i - 1)), (3, .int (((f i) + z) - ((upd f i (if 100 < ((f i) + z) then 100 else (f i) + z)) i))), (0, .ref (a 0))]) [0, 1, 3] rfl ?_
          exact ih (((f i) + z) - ((upd f i (if 100 < ((f i) + z) then 100 else (f i) + z)) i)) (upd f i (if 100 < ((f i) + z) then 100 else (f i) + z)) (upd g i ((g i) + (((f i) + z) - ((upd f i (if 100 < ((f i) + z) then 100 else (f i) + z)) i)))) (by omega) (by rw [← hi]; simp only [c_pourL, c7, c11, ↓reduceIte])
  refine xr_lv (lv' := [(4, .int (nI n - 1)), (3, .int x), (0, .ref (a 0))]) [0, 1, 2] rfl ?_
  exact lp n x (dLev V) (dOver V) h0 rfl

def rm_X0_turnChamber : Room := { frames := 2, cells := 0, slots := 0, locals := 46 }
set_option maxHeartbeats 4000000 in
set_option maxRecDepth 100000 in
/-- turnChamber -/
theorem k_X0_turnChamber (l : Launch) (D : va_G) (yI yZ yL : ClassId) (a : Nat → Nat) (K : CK) (V : CD) (k : Nat) (h0 : k < 5) : xMv l yX0_turnChamber wsX0_turnChamber rm_X0_turnChamber D (tysG yI yZ yL) (cw yI yZ a K V) [.ref (a 0), .int (nI k)] 0 0 (fun W1 : va_W => W1 = cw yI yZ a K (c_turn V k)) := by
  refine xE_v (cc := cX0_turnChamber) (nL := 2) (by decide) rfl (Nat.le_of_ble_eq_true rfl) ?_
  intro p e s m args below meth c A Q F hnm ret
  have hin0 : ∀ w ∈ u_ws RX0 TX0 18, w ∈ wsX0_turnChamber := by decide +kernel
  show AW p l e rm_X0_turnChamber s m args below meth c 2 D A 0 0 Q (cw yI yZ a K V) [(0, .ref (a 0)), (1, .int (nI k))] 0 []
  refine xr_aload_n F dX0_turnChamber_0 rfl 0 rfl ?_
  refine xr_get F hin0 0 rfl rfl 10 (by decide) (List.mem_of_getElem? (i := 1) rfl) (v := .ref (a 5)) rfl dX0_turnChamber_1 ?_
  refine xr_iload_n F dX0_turnChamber_4 rfl 1 rfl ?_
  refine xr_zald F 5 1 rfl rfl (k) rfl (by omega) (by decide) dX0_turnChamber_5 ?_
  refine xr_if_eq F 26 dX0_turnChamber_6 (by decide) (fun c6 => ?_) (fun c6 => ?_)
  · skip
    refine xr_aload_n F dX0_turnChamber_26 rfl 0 rfl ?_
    refine xr_get F hin0 0 rfl rfl 10 (by decide) (List.mem_of_getElem? (i := 1) rfl) (v := .ref (a 5)) rfl dX0_turnChamber_27 ?_
    refine xr_iload_n F dX0_turnChamber_30 rfl 1 rfl ?_
    refine xr_iconst F dX0_turnChamber_31 (v := 1) (by decide) ?_
    refine xr_zast F 5 1 rfl rfl (k) rfl (by omega) (by decide) (cwx yI yZ a (kFee K) (kDry K) (kMill K) (kMark K) (kNb K) (kSpr K) (kGoal K) (dHour V) (dBank V) (dLev V) (dOver V) (dDrawn V) (upd (dFull V) k 1) (dLock V) (dFill V) (dAt V) (dPur V) (dSer V)) rfl dX0_turnChamber_32 ?_
    refine xr_aload_n F dX0_turnChamber_33 rfl 0 rfl ?_
    refine xr_get F hin0 0 rfl rfl 7 (by decide) (List.mem_of_getElem? (i := 2) rfl) (v := .ref (a 2)) rfl dX0_turnChamber_34 ?_
    refine xr_iload_n F dX0_turnChamber_37 rfl 1 rfl ?_
    refine xr_iconst F dX0_turnChamber_38 (v := 1) (by decide) ?_
    refine xr_iadd F (nI (k + 1)) dX0_turnChamber_39 (nI_add k 1) ?_
    refine xr_dup2 F dX0_turnChamber_40 rfl rfl ?_
    refine xr_iald F 2 0 rfl rfl (k + 1) rfl (by omega) (by decide) dX0_turnChamber_41 ?_
    refine xr_bipush F dX0_turnChamber_42 (v := 12) (by decide) ?_
    refine xr_isub F (((dLev V) (k + 1)) - 12) dX0_turnChamber_44 rfl ?_
    refine xr_iast F 2 0 rfl rfl (k + 1) rfl (by omega) (by decide) (cwx yI yZ a (kFee K) (kDry K) (kMill K) (kMark K) (kNb K) (kSpr K) (kGoal K) (dHour V) (dBank V) (upd (dLev V) (k + 1) (((dLev V) (k + 1)) - 12)) (dOver V) (dDrawn V) (upd (dFull V) k 1) (dLock V) (dFill V) (dAt V) (dPur V) (dSer V)) rfl dX0_turnChamber_45 ?_
    refine xr_aload_n F dX0_turnChamber_46 rfl 0 rfl ?_
    refine xr_get F hin0 0 rfl rfl 12 (by decide) (List.mem_of_getElem? (i := 3) rfl) (v := .ref (a 7)) rfl dX0_turnChamber_47 ?_
    refine xr_iload_n F dX0_turnChamber_50 rfl 1 rfl ?_
    refine xr_dup2 F dX0_turnChamber_51 rfl rfl ?_
    refine xr_iald F 7 0 rfl rfl (k) rfl (by omega) (by decide) dX0_turnChamber_52 ?_
    refine xr_bipush F dX0_turnChamber_53 (v := 12) (by decide) ?_
    refine xr_iadd F (((dFill V) k) + 12) dX0_turnChamber_55 rfl ?_
    refine xr_iast F 7 0 rfl rfl (k) rfl (by omega) (by decide) (cwx yI yZ a (kFee K) (kDry K) (kMill K) (kMark K) (kNb K) (kSpr K) (kGoal K) (dHour V) (dBank V) (upd (dLev V) (k + 1) (((dLev V) (k + 1)) - 12)) (dOver V) (dDrawn V) (upd (dFull V) k 1) (dLock V) (upd (dFill V) k (((dFill V) k) + 12)) (dAt V) (dPur V) (dSer V)) rfl dX0_turnChamber_56 ?_
    refine ret _ _ _ dX0_turnChamber_57 ?_
    have e9 : c_turn V k = (dHour V, dBank V, upd (dLev V) (k + 1) (((dLev V) (k + 1)) - 12), dOver V, dDrawn V, upd (dFull V) k 1, dLock V, upd (dFill V) k (((dFill V) k) + 12), dAt V, dPur V, dSer V) := by
      simp only [c_turn, c6, ↓reduceIte]
      try simp only [tHour, tBank, tLev, tOver, tDrawn, tFull, tLock, tFill, tAt, tPur, tSer, dHour, dBank, dLev, dOver, dDrawn, dFull, dLock, dFill, dAt, dPur, dSer]
    rw [e9, cw_mk]
  · skip
    refine xr_aload_n F dX0_turnChamber_9 rfl 0 rfl ?_
    refine xr_get F hin0 0 rfl rfl 10 (by decide) (List.mem_of_getElem? (i := 1) rfl) (v := .ref (a 5)) rfl dX0_turnChamber_10 ?_
    refine xr_iload_n F dX0_turnChamber_13 rfl 1 rfl ?_
    refine xr_iconst F dX0_turnChamber_14 (v := 0) (by decide) ?_
    refine xr_zast F 5 1 rfl rfl (k) rfl (by omega) (by decide) (cwx yI yZ a (kFee K) (kDry K) (kMill K) (kMark K) (kNb K) (kSpr K) (kGoal K) (dHour V) (dBank V) (dLev V) (dOver V) (dDrawn V) (upd (dFull V) k 0) (dLock V) (dFill V) (dAt V) (dPur V) (dSer V)) rfl dX0_turnChamber_15 ?_
    refine xr_aload_n F dX0_turnChamber_16 rfl 0 rfl ?_
    refine xr_iload_n F dX0_turnChamber_17 rfl 1 rfl ?_
    refine xr_bipush F dX0_turnChamber_18 (v := 12) (by decide) ?_
    refine xr_stk (st' := [.int 12, .int (nI (k + 1) - 1), .ref (a 0)]) (by rw [nI_pred]) ?_
    obtain ⟨V1, eV1⟩ : ∃ x9 : CD, x9 = (dHour V, dBank V, dLev V, dOver V, dDrawn V, upd (dFull V) k 0, dLock V, dFill V, dAt V, dPur V, dSer V) := ⟨_, rfl⟩
    refine xr_ws (ws' := cw yI yZ a K V1) (by rw [eV1, cw_mk]) ?_
    refine xr_callVv F (wr := ([] : va_W)) (rest := []) (As := [.int (nI (k + 1) - 1), .int 12]) (k_X0_pour l D yI yZ yL a K V1 (k + 1) 12 (by omega)) (cwV 2 F.hts gX0_turnChamber_X0_pour rfl rfl rfl (by decide +kernel) ⟨Nat.le_of_ble_eq_true rfl, Nat.le_of_ble_eq_true rfl⟩) (q0 := 0) rfl rfl [0, 1, 2, 3, 4, 5, 6, 7, 8, 9, 10, 11] [] rfl rfl (by decide) (by decide) (by decide) rfl rfl (Nat.le_of_ble_eq_true rfl) dX0_turnChamber_20 ⟨Nat.le_of_ble_eq_true rfl, Nat.le_of_ble_eq_true rfl⟩ (fun W1 z1 => ?_)
    obtain ⟨V2, eV2⟩ : ∃ x9 : CD, x9 = c_pour V1 (k + 1) 12 := ⟨_, rfl⟩
    rw [← eV2] at z1
    subst z1
    refine xr_ws (ws' := cw yI yZ a K V2) rfl ?_
    refine xr_goto F 57 dX0_turnChamber_23 (by decide) ?_
    refine ret _ _ _ dX0_turnChamber_57 ?_
    refine congrArg (cw yI yZ a K) ?_
    subst eV2
    subst eV1
    simp only [c_turn, c6, ↓reduceIte]
    try simp only [tHour, tBank, tLev, tOver, tDrawn, tFull, tLock, tFill, tAt, tPur, tSer, dHour, dBank, dLev, dOver, dDrawn, dFull, dLock, dFill, dAt, dPur, dSer]

def rm_X0_turnMill : Room := { frames := 2, cells := 0, slots := 0, locals := 46 }
set_option maxHeartbeats 4000000 in
set_option maxRecDepth 100000 in
/-- turnMill -/
theorem k_X0_turnMill (l : Launch) (D : va_G) (yI yZ yL : ClassId) (a : Nat → Nat) (K : CK) (V : CD)  (h0 : kMill K ≤ 6) : xMv l yX0_turnMill wsX0_turnMill rm_X0_turnMill D (tysG yI yZ yL) (cw yI yZ a K V) [.ref (a 0)] 0 0 (fun W1 : va_W => W1 = cw yI yZ a K (c_mill K V)) := by
  refine xE_v (cc := cX0_turnMill) (nL := 3) (by decide) rfl (Nat.le_of_ble_eq_true rfl) ?_
  intro p e s m args below meth c A Q F hnm ret
  have hin0 : ∀ w ∈ u_ws RX0 TX0 18, w ∈ wsX0_turnMill := by decide +kernel
  show AW p l e rm_X0_turnMill s m args below meth c 3 D A 0 0 Q (cw yI yZ a K V) [(0, .ref (a 0))] 0 []
  refine xr_aload_n F dX0_turnMill_0 rfl 0 rfl ?_
  refine xr_get F hin0 0 rfl rfl 4 (by decide) (List.mem_of_getElem? (i := 1) rfl) (v := .int (nI (kMill K) - 1)) rfl dX0_turnMill_1 ?_
  rcases hm : kMill K with _ | q
  · skip
    refine xr_top (y := (-1)) (by decide) ?_
    refine xr_istore_n F [(1, .int ((-1))), (0, .ref (a 0))] dX0_turnMill_4 rfl (by decide) rfl ?_
    refine xr_iload_n F dX0_turnMill_5 rfl 0 rfl ?_
    refine xr_iconst F dX0_turnMill_6 (v := (-1)) (by decide) ?_
    refine xr_icmp_eq F 23 dX0_turnMill_7 (by decide) (fun c7 => ?_) (fun c7 => ?_)
    · skip
      refine ret _ _ _ dX0_turnMill_23 ?_
      refine congrArg (cw yI yZ a K) ?_
      simp only [c_mill, hm, c_mill1, ↓reduceIte]
      try simp only [tHour, tBank, tLev, tOver, tDrawn, tFull, tLock, tFill, tAt, tPur, tSer, dHour, dBank, dLev, dOver, dDrawn, dFull, dLock, dFill, dAt, dPur, dSer]
    · exact absurd (by decide) c7
  · skip
    have hq : q < 6 := by omega
    refine xr_top (y := nI q) (nI_pred q) ?_
    refine xr_istore_n F [(1, .int (nI q)), (0, .ref (a 0))] dX0_turnMill_4 rfl (by decide) rfl ?_
    refine xr_iload_n F dX0_turnMill_5 rfl 0 rfl ?_
    refine xr_iconst F dX0_turnMill_6 (v := (-1)) (by decide) ?_
    refine xr_icmp_eq F 23 dX0_turnMill_7 (by decide) (fun c7 => ?_) (fun c7 => ?_)
    · exact absurd c7 (xk_nm1 (by omega))
    · skip
      refine xr_aload_n F dX0_turnMill_10 rfl 1 rfl ?_
      refine xr_get F hin0 0 rfl rfl 7 (by decide) (List.mem_of_getElem? (i := 2) rfl) (v := .ref (a 2)) rfl dX0_turnMill_11 ?_
      refine xr_iload_n F dX0_turnMill_14 rfl 0 rfl ?_
      refine xr_iald F 2 0 rfl rfl (q) rfl (by omega) (by decide) dX0_turnMill_15 ?_
      refine xr_aload_n F dX0_turnMill_16 rfl 1 rfl ?_
      refine xr_get F hin0 0 rfl rfl 5 (by decide) (List.mem_of_getElem? (i := 3) rfl) (v := .int (kMark K)) rfl dX0_turnMill_17 ?_
      refine xr_icmp_gt F 24 dX0_turnMill_20 (by decide) (fun c20 => ?_) (fun c20 => ?_)
      · skip
        refine xr_aload_n F dX0_turnMill_24 rfl 1 rfl ?_
        refine xr_get F hin0 0 rfl rfl 7 (by decide) (List.mem_of_getElem? (i := 2) rfl) (v := .ref (a 2)) rfl dX0_turnMill_25 ?_
        refine xr_iload_n F dX0_turnMill_28 rfl 0 rfl ?_
        refine xr_iald F 2 0 rfl rfl (q) rfl (by omega) (by decide) dX0_turnMill_29 ?_
        refine xr_aload_n F dX0_turnMill_30 rfl 1 rfl ?_
        refine xr_get F hin0 0 rfl rfl 5 (by decide) (List.mem_of_getElem? (i := 3) rfl) (v := .int (kMark K)) rfl dX0_turnMill_31 ?_
        refine xr_isub F (((dLev V) q) - (kMark K)) dX0_turnMill_34 rfl ?_
        refine xr_bipush F dX0_turnMill_35 (v := 10) (by decide) ?_
        refine xr_mmin F (List.mem_of_getElem? (i := 4) rfl) (List.mem_of_getElem? (i := 5) rfl) (List.mem_of_getElem? (i := 6) rfl) (List.mem_of_getElem? (i := 7) rfl) (Nat.le_of_ble_eq_true rfl) (Nat.le_of_ble_eq_true rfl) (Nat.le_of_ble_eq_true rfl) (Nat.le_of_ble_eq_true rfl) dX0_turnMill_37 ?_
        refine xr_istore_n F [(2, .int (if 10 < (((dLev V) q) - (kMark K)) then 10 else ((dLev V) q) - (kMark K))), (1, .int (nI q)), (0, .ref (a 0))] dX0_turnMill_40 rfl (by decide) rfl ?_
        refine xr_aload_n F dX0_turnMill_41 rfl 2 rfl ?_
        refine xr_get F hin0 0 rfl rfl 7 (by decide) (List.mem_of_getElem? (i := 2) rfl) (v := .ref (a 2)) rfl dX0_turnMill_42 ?_
        refine xr_iload_n F dX0_turnMill_45 rfl 1 rfl ?_
        refine xr_dup2 F dX0_turnMill_46 rfl rfl ?_
        refine xr_iald F 2 0 rfl rfl (q) rfl (by omega) (by decide) dX0_turnMill_47 ?_
        refine xr_iload_n F dX0_turnMill_48 rfl 0 rfl ?_
        refine xr_isub F (((dLev V) q) - (if 10 < (((dLev V) q) - (kMark K)) then 10 else ((dLev V) q) - (kMark K))) dX0_turnMill_49 rfl ?_
        refine xr_iast F 2 0 rfl rfl (q) rfl (by omega) (by decide) (cwx yI yZ a (kFee K) (kDry K) (kMill K) (kMark K) (kNb K) (kSpr K) (kGoal K) (dHour V) (dBank V) (upd (dLev V) q (((dLev V) q) - (if 10 < (((dLev V) q) - (kMark K)) then 10 else ((dLev V) q) - (kMark K)))) (dOver V) (dDrawn V) (dFull V) (dLock V) (dFill V) (dAt V) (dPur V) (dSer V)) rfl dX0_turnMill_50 ?_
        refine xr_aload_n F dX0_turnMill_51 rfl 2 rfl ?_
        refine xr_get F hin0 0 rfl rfl 9 (by decide) (List.mem_of_getElem? (i := 8) rfl) (v := .ref (a 4)) rfl dX0_turnMill_52 ?_
        refine xr_iload_n F dX0_turnMill_55 rfl 1 rfl ?_
        refine xr_dup2 F dX0_turnMill_56 rfl rfl ?_
        refine xr_iald F 4 0 rfl rfl (q) rfl (by omega) (by decide) dX0_turnMill_57 ?_
        refine xr_iload_n F dX0_turnMill_58 rfl 0 rfl ?_
        refine xr_iadd F (((dDrawn V) q) + (if 10 < (((dLev V) q) - (kMark K)) then 10 else ((dLev V) q) - (kMark K))) dX0_turnMill_59 rfl ?_
        refine xr_iast F 4 0 rfl rfl (q) rfl (by omega) (by decide) (cwx yI yZ a (kFee K) (kDry K) (kMill K) (kMark K) (kNb K) (kSpr K) (kGoal K) (dHour V) (dBank V) (upd (dLev V) q (((dLev V) q) - (if 10 < (((dLev V) q) - (kMark K)) then 10 else ((dLev V) q) - (kMark K)))) (dOver V) (upd (dDrawn V) q (((dDrawn V) q) + (if 10 < (((dLev V) q) - (kMark K)) then 10 else ((dLev V) q) - (kMark K)))) (dFull V) (dLock V) (dFill V) (dAt V) (dPur V) (dSer V)) rfl dX0_turnMill_60 ?_
        refine xr_aload_n F dX0_turnMill_61 rfl 2 rfl ?_
        refine xr_dup F dX0_turnMill_62 rfl ?_
        refine xr_get F hin0 0 rfl rfl 1 (by decide) (List.mem_of_getElem? (i := 9) rfl) (v := .int (dBank V)) rfl dX0_turnMill_63 ?_
        refine xr_iload_n F dX0_turnMill_66 rfl 0 rfl ?_
        refine xr_iconst F dX0_turnMill_67 (v := 5) (by decide) ?_
        refine xr_idiv F ((if 10 < (((dLev V) q) - (kMark K)) then 10 else ((dLev V) q) - (kMark K)) / 5) dX0_turnMill_68 (by decide) rfl ?_
        refine xr_iadd F ((dBank V) + ((if 10 < (((dLev V) q) - (kMark K)) then 10 else ((dLev V) q) - (kMark K)) / 5)) dX0_turnMill_69 rfl ?_
        refine xr_put (ty := .int) F hin0 0 rfl rfl 1 (by decide) tyX0 tyX0_ok nmX0 (List.mem_of_getElem? (i := 9) rfl) rfl (by decide) rfl rfl (Nat.le_of_ble_eq_true rfl) (cwx yI yZ a (kFee K) (kDry K) (kMill K) (kMark K) (kNb K) (kSpr K) (kGoal K) (dHour V) ((dBank V) + ((if 10 < (((dLev V) q) - (kMark K)) then 10 else ((dLev V) q) - (kMark K)) / 5)) (upd (dLev V) q (((dLev V) q) - (if 10 < (((dLev V) q) - (kMark K)) then 10 else ((dLev V) q) - (kMark K)))) (dOver V) (upd (dDrawn V) q (((dDrawn V) q) + (if 10 < (((dLev V) q) - (kMark K)) then 10 else ((dLev V) q) - (kMark K)))) (dFull V) (dLock V) (dFill V) (dAt V) (dPur V) (dSer V)) rfl dX0_turnMill_70 ?_
        refine xr_aload_n F dX0_turnMill_73 rfl 2 rfl ?_
        refine xr_iload_n F dX0_turnMill_74 rfl 1 rfl ?_
        refine xr_iconst F dX0_turnMill_75 (v := 1) (by decide) ?_
        refine xr_isub F ((nI q) - 1) dX0_turnMill_76 rfl ?_
        refine xr_iload_n F dX0_turnMill_77 rfl 0 rfl ?_
        obtain ⟨V1, eV1⟩ : ∃ x9 : CD, x9 = (dHour V, (dBank V) + ((if 10 < (((dLev V) q) - (kMark K)) then 10 else ((dLev V) q) - (kMark K)) / 5), upd (dLev V) q (((dLev V) q) - (if 10 < (((dLev V) q) - (kMark K)) then 10 else ((dLev V) q) - (kMark K))), dOver V, upd (dDrawn V) q (((dDrawn V) q) + (if 10 < (((dLev V) q) - (kMark K)) then 10 else ((dLev V) q) - (kMark K))), dFull V, dLock V, dFill V, dAt V, dPur V, dSer V) := ⟨_, rfl⟩
        refine xr_ws (ws' := cw yI yZ a K V1) (by rw [eV1, cw_mk]) ?_
        refine xr_callVv F (wr := ([] : va_W)) (rest := []) (As := [.int ((nI q) - 1), .int (if 10 < (((dLev V) q) - (kMark K)) then 10 else ((dLev V) q) - (kMark K))]) (k_X0_pour l D yI yZ yL a K V1 q (if 10 < (((dLev V) q) - (kMark K)) then 10 else ((dLev V) q) - (kMark K)) (by omega)) (cwV 2 F.hts gX0_turnMill_X0_pour rfl rfl rfl (by decide +kernel) ⟨Nat.le_of_ble_eq_true rfl, Nat.le_of_ble_eq_true rfl⟩) (q0 := 0) rfl rfl [0, 1, 2, 3, 4, 5, 6, 7, 8, 9, 10, 11] [] rfl rfl (by decide) (by decide) (by decide) rfl rfl (Nat.le_of_ble_eq_true rfl) dX0_turnMill_78 ⟨Nat.le_of_ble_eq_true rfl, Nat.le_of_ble_eq_true rfl⟩ (fun W1 z1 => ?_)
        obtain ⟨V2, eV2⟩ : ∃ x9 : CD, x9 = c_pour V1 q (if 10 < (((dLev V) q) - (kMark K)) then 10 else ((dLev V) q) - (kMark K)) := ⟨_, rfl⟩
        rw [← eV2] at z1
        subst z1
        refine xr_ws (ws' := cw yI yZ a K V2) rfl ?_
        refine ret _ _ _ dX0_turnMill_81 ?_
        refine congrArg (cw yI yZ a K) ?_
        subst eV2
        subst eV1
        simp only [c_mill, hm, c_mill1, c7, c20, ↓reduceIte]
        try simp only [tHour, tBank, tLev, tOver, tDrawn, tFull, tLock, tFill, tAt, tPur, tSer, dHour, dBank, dLev, dOver, dDrawn, dFull, dLock, dFill, dAt, dPur, dSer]
      · skip
        refine ret _ _ _ dX0_turnMill_23 ?_
        refine congrArg (cw yI yZ a K) ?_
        simp only [c_mill, hm, c_mill1, c7, c20, ↓reduceIte]
        try simp only [tHour, tBank, tLev, tOver, tDrawn, tFull, tLock, tFill, tAt, tPur, tSer, dHour, dBank, dLev, dOver, dDrawn, dFull, dLock, dFill, dAt, dPur, dSer]

def rm_X0_nextBarge : Room := { frames := 3, cells := 0, slots := 0, locals := 66 }
set_option maxHeartbeats 4000000 in
set_option maxRecDepth 100000 in
/-- nextBarge -/
theorem k_X0_nextBarge (l : Launch) (D : va_G) (yI yZ yL : ClassId) (a : Nat → Nat) (K : CK) (V : CD) (k : Nat) (sb : Int32) (h0 : k < 5) (h1 : kNb K ≤ 10) : xMi l yX0_nextBarge wsX0_nextBarge rm_X0_nextBarge D (tysG yI yZ yL) (cw yI yZ a K V) [.ref (a 0), .int (nI k), .int sb] 0 0 (fun (r : Int32) (W1 : va_W) => r = c_next K V k sb ∧ W1 = cw yI yZ a K V) := by
  refine xE_i (cc := cX0_nextBarge) (nL := 6) (by decide) rfl (Nat.le_of_ble_eq_true rfl) ?_
  intro p e s m args below meth c A Q F hnm ret
  have hin0 : ∀ w ∈ u_ws RX0 TX0 18, w ∈ wsX0_nextBarge := by decide +kernel
  show AW p l e rm_X0_nextBarge s m args below meth c 6 D A 0 0 Q (cw yI yZ a K V) [(0, .ref (a 0)), (1, .int (nI k)), (2, .int sb)] 0 []
  refine xr_iconst F dX0_nextBarge_0 (v := (-1)) (by decide) ?_
  refine xr_istore_n F [(3, .int ((-1))), (0, .ref (a 0)), (1, .int (nI k)), (2, .int sb)] dX0_nextBarge_1 rfl (by decide) rfl ?_
  refine xr_iconst F dX0_nextBarge_2 (v := 0) (by decide) ?_
  refine xr_istore F [(4, .int 0), (3, .int ((-1))), (0, .ref (a 0)), (1, .int (nI k)), (2, .int sb)] dX0_nextBarge_3 (by decide) rfl ?_
  have lp : ∀ (i : Nat) (b : Nat) (f : Int32), i + b = kNb K → c_nextL K V k sb i b f = c_next K V k sb → AW p l e rm_X0_nextBarge s m args below meth c 6 D A 0 0 Q (cw yI yZ a K V) [(4, .int (nI b)), (3, .int f), (0, .ref (a 0)), (1, .int (nI k)), (2, .int sb)] 5 [] := by
    intro i
    induction i with
    | zero =>
      intro b f hb hi
      refine xr_iload F dX0_nextBarge_5 0 rfl ?_
      refine xr_aload_n F dX0_nextBarge_7 rfl 2 rfl ?_
      refine xr_get F hin0 0 rfl rfl 13 (by decide) (List.mem_of_getElem? (i := 1) rfl) (v := .int (nI (kNb K))) rfl dX0_nextBarge_8 ?_
      refine xr_icmp_ge F 82 dX0_nextBarge_11 (by decide) (fun c11 => ?_) (fun c11 => ?_)
      · skip
        refine xr_iload_n F dX0_nextBarge_82 rfl 1 rfl ?_
        exact ret _ _ _ _ dX0_nextBarge_83 ⟨hi, rfl⟩
      · exact (xk_ge (a := kNb K) (b := b) (by omega) (by omega) c11).elim
    | succ i ih =>
      intro b f hb hi
      refine xr_iload F dX0_nextBarge_5 0 rfl ?_
      refine xr_aload_n F dX0_nextBarge_7 rfl 2 rfl ?_
      refine xr_get F hin0 0 rfl rfl 13 (by decide) (List.mem_of_getElem? (i := 1) rfl) (v := .int (nI (kNb K))) rfl dX0_nextBarge_8 ?_
      refine xr_icmp_ge F 82 dX0_nextBarge_11 (by decide) (fun c11 => ?_) (fun c11 => ?_)
      · exact (xk_nlt (a := b) (b := kNb K) (by omega) (by omega) (by omega) c11).elim
      · skip
        refine xr_aload_n F dX0_nextBarge_14 rfl 2 rfl ?_
        refine xr_iload F dX0_nextBarge_15 0 rfl ?_
        refine xr_callVi F (wr := ([] : va_W)) (rest := []) (As := [.int (nI b)]) (k_X0_waitsAt l D yI yZ yL a K V b (by omega)) (cwV 1 F.hts gX0_nextBarge_X0_waitsAt rfl rfl rfl (by decide +kernel) ⟨Nat.le_of_ble_eq_true rfl, Nat.le_of_ble_eq_true rfl⟩) (q0 := 0) rfl rfl [0, 1, 2, 3, 4, 5, 6, 7, 8, 9, 10, 11] [] rfl rfl (by decide) (by decide) (by decide) rfl rfl (Nat.le_of_ble_eq_true rfl) dX0_nextBarge_17 ⟨Nat.le_of_ble_eq_true rfl, Nat.le_of_ble_eq_true rfl⟩ (fun r1 W1 z1 => ?_)
        obtain ⟨z0, z1⟩ := z1
        subst z0
        subst z1
        refine xr_ws (ws' := cw yI yZ a K V) rfl ?_
        refine xr_iload_n F dX0_nextBarge_20 rfl 3 rfl ?_
        refine xr_icmp_ne F 37 dX0_nextBarge_21 (by decide) (fun c21 => ?_) (fun c21 => ?_)
        · skip
          refine xr_iconst F dX0_nextBarge_37 (v := 0) (by decide) ?_
          refine xr_istore F [(5, .int 0), (4, .int (nI b)), (3, .int f), (0, .ref (a 0)), (1, .int (nI k)), (2, .int sb)] dX0_nextBarge_38 (by decide) rfl ?_
          refine xr_iload F dX0_nextBarge_40 0 rfl ?_
          refine xr_if_eq F 76 dX0_nextBarge_42 (by decide) (fun c42 => ?_) (fun c42 => ?_)
          · skip
            refine xr_iinc F (nI (b + 1)) [(4, .int (nI (b + 1))), (5, .int 0), (3, .int f), (0, .ref (a 0)), (1, .int (nI k)), (2, .int sb)] dX0_nextBarge_76 1 rfl (nI_add b 1) (by decide) rfl ?_
            refine xr_goto F 5 dX0_nextBarge_79 (by decide) ?_
            refine xr_lv (lv' := [(4, .int (nI (b + 1))), (3, .int f), (0, .ref (a 0)), (1, .int (nI k)), (2, .int sb)]) [0, 2, 3, 4, 5] rfl ?_
            exact ih (b + 1) f (by omega) (by rw [← hi]; simp only [c_nextL, c_wt, c11, c21, xk_10, eq_self, ↓reduceIte])
          · exact absurd (by decide) c42
        · skip
          refine xr_iload_n F dX0_nextBarge_24 rfl 4 rfl ?_
          refine xr_iload F dX0_nextBarge_25 0 rfl ?_
          refine xr_ishr F (sb >>> ((nI b) &&& 31)) dX0_nextBarge_27 rfl ?_
          refine xr_iconst F dX0_nextBarge_28 (v := 1) (by decide) ?_
          refine xr_iand F ((sb >>> ((nI b) &&& 31)) &&& 1) dX0_nextBarge_29 rfl ?_
          refine xr_if_ne F 37 dX0_nextBarge_30 (by decide) (fun c30 => ?_) (fun c30 => ?_)
          · skip
            refine xr_iconst F dX0_nextBarge_37 (v := 0) (by decide) ?_
            refine xr_istore F [(5, .int 0), (4, .int (nI b)), (3, .int f), (0, .ref (a 0)), (1, .int (nI k)), (2, .int sb)] dX0_nextBarge_38 (by decide) rfl ?_
            refine xr_iload F dX0_nextBarge_40 0 rfl ?_
            refine xr_if_eq F 76 dX0_nextBarge_42 (by decide) (fun c42 => ?_) (fun c42 => ?_)
            · skip
              refine xr_iinc F (nI (b + 1)) [(4, .int (nI (b + 1))), (5, .int 0), (3, .int f), (0, .ref (a 0)), (1, .int (nI k)), (2, .int sb)] dX0_nextBarge_76 1 rfl (nI_add b 1) (by decide) rfl ?_
              refine xr_goto F 5 dX0_nextBarge_79 (by decide) ?_
              refine xr_lv (lv' := [(4, .int (nI (b + 1))), (3, .int f), (0, .ref (a 0)), (1, .int (nI k)), (2, .int sb)]) [0, 2, 3, 4, 5] rfl ?_
              exact ih (b + 1) f (by omega) (by rw [← hi]; simp only [c_nextL, c_wt, c11, c21, c30, xk_10, eq_self, ↓reduceIte])
            · exact absurd (by decide) c42
          · skip
            refine xr_iconst F dX0_nextBarge_33 (v := 1) (by decide) ?_
            refine xr_goto F 38 dX0_nextBarge_34 (by decide) ?_
            refine xr_istore F [(5, .int 1), (4, .int (nI b)), (3, .int f), (0, .ref (a 0)), (1, .int (nI k)), (2, .int sb)] dX0_nextBarge_38 (by decide) rfl ?_
            refine xr_iload F dX0_nextBarge_40 0 rfl ?_
            refine xr_if_eq F 76 dX0_nextBarge_42 (by decide) (fun c42 => ?_) (fun c42 => ?_)
            · exact absurd c42 (by decide)
            · skip
              refine xr_aload_n F dX0_nextBarge_45 rfl 3 rfl ?_
              refine xr_iload_n F dX0_nextBarge_46 rfl 4 rfl ?_
              refine xr_iload F dX0_nextBarge_47 1 rfl ?_
              refine xr_callVz F (wr := ([] : va_W)) (rest := []) (As := [.int (nI k), .int (nI b)]) (k_X0_canServe l D yI yZ yL a K V k b (by omega) (by omega)) (cwV 2 F.hts gX0_nextBarge_X0_canServe rfl rfl rfl (by decide +kernel) ⟨Nat.le_of_ble_eq_true rfl, Nat.le_of_ble_eq_true rfl⟩) (q0 := 0) rfl rfl [0, 1, 2, 3, 4, 5, 6, 7, 8, 9, 10, 11] [] rfl rfl (by decide) (by decide) (by decide) rfl rfl (Nat.le_of_ble_eq_true rfl) dX0_nextBarge_49 ⟨Nat.le_of_ble_eq_true rfl, Nat.le_of_ble_eq_true rfl⟩ (fun r1 W1 z1 => ?_)
              obtain ⟨z0, z1⟩ := z1
              subst z0
              subst z1
              refine xr_ws (ws' := cw yI yZ a K V) rfl ?_
              refine xr_if_eq F 76 dX0_nextBarge_52 (by decide) (fun c52 => ?_) (fun c52 => ?_)
              · skip
                refine xr_iinc F (nI (b + 1)) [(4, .int (nI (b + 1))), (5, .int 1), (3, .int f), (0, .ref (a 0)), (1, .int (nI k)), (2, .int sb)] dX0_nextBarge_76 1 rfl (nI_add b 1) (by decide) rfl ?_
                refine xr_goto F 5 dX0_nextBarge_79 (by decide) ?_
                refine xr_lv (lv' := [(4, .int (nI (b + 1))), (3, .int f), (0, .ref (a 0)), (1, .int (nI k)), (2, .int sb)]) [0, 2, 3, 4, 5] rfl ?_
                exact ih (b + 1) f (by omega) (by rw [← hi]; simp only [c_nextL, c_wt, c11, c21, c30, c52, xk_10, eq_self, ↓reduceIte])
              · skip
                refine xr_aload_n F dX0_nextBarge_55 rfl 3 rfl ?_
                refine xr_iload_n F dX0_nextBarge_56 rfl 4 rfl ?_
                refine xr_iload F dX0_nextBarge_57 1 rfl ?_
                refine xr_callVz F (wr := ([] : va_W)) (rest := []) (As := [.int (nI k), .int (nI b)]) (k_X0_fits l D yI yZ yL a K V k b (by omega) (by omega)) (cwV 2 F.hts gX0_nextBarge_X0_fits rfl rfl rfl (by decide +kernel) ⟨Nat.le_of_ble_eq_true rfl, Nat.le_of_ble_eq_true rfl⟩) (q0 := 0) rfl rfl [0, 1, 2, 3, 4, 5, 6, 7, 8, 9, 10, 11] [] rfl rfl (by decide) (by decide) (by decide) rfl rfl (Nat.le_of_ble_eq_true rfl) dX0_nextBarge_59 ⟨Nat.le_of_ble_eq_true rfl, Nat.le_of_ble_eq_true rfl⟩ (fun r1 W1 z1 => ?_)
                obtain ⟨z0, z1⟩ := z1
                subst z0
                subst z1
                refine xr_ws (ws' := cw yI yZ a K V) rfl ?_
                refine xr_if_eq F 68 dX0_nextBarge_62 (by decide) (fun c62 => ?_) (fun c62 => ?_)
                · skip
                  refine xr_iload_n F dX0_nextBarge_68 rfl 2 rfl ?_
                  refine xr_iconst F dX0_nextBarge_69 (v := (-1)) (by decide) ?_
                  refine xr_icmp_ne F 76 dX0_nextBarge_70 (by decide) (fun c70 => ?_) (fun c70 => ?_)
                  · skip
                    refine xr_iinc F (nI (b + 1)) [(4, .int (nI (b + 1))), (5, .int 1), (3, .int f), (0, .ref (a 0)), (1, .int (nI k)), (2, .int sb)] dX0_nextBarge_76 1 rfl (nI_add b 1) (by decide) rfl ?_
                    refine xr_goto F 5 dX0_nextBarge_79 (by decide) ?_
                    refine xr_lv (lv' := [(4, .int (nI (b + 1))), (3, .int f), (0, .ref (a 0)), (1, .int (nI k)), (2, .int sb)]) [0, 2, 3, 4, 5] rfl ?_
                    exact ih (b + 1) f (by omega) (by rw [← hi]; simp only [c_nextL, c_wt, c11, c21, c30, c52, c62, c70, xk_10, eq_self, ↓reduceIte])
                  · skip
                    refine xr_iload F dX0_nextBarge_73 1 rfl ?_
                    refine xr_istore_n F [(3, .int (nI b)), (5, .int 1), (4, .int (nI b)), (0, .ref (a 0)), (1, .int (nI k)), (2, .int sb)] dX0_nextBarge_75 rfl (by decide) rfl ?_
                    refine xr_iinc F (nI (b + 1)) [(4, .int (nI (b + 1))), (3, .int (nI b)), (5, .int 1), (0, .ref (a 0)), (1, .int (nI k)), (2, .int sb)] dX0_nextBarge_76 2 rfl (nI_add b 1) (by decide) rfl ?_
                    refine xr_goto F 5 dX0_nextBarge_79 (by decide) ?_
                    refine xr_lv (lv' := [(4, .int (nI (b + 1))), (3, .int (nI b)), (0, .ref (a 0)), (1, .int (nI k)), (2, .int sb)]) [0, 1, 3, 4, 5] rfl ?_
                    exact ih (b + 1) (nI b) (by omega) (by rw [← hi]; simp only [c_nextL, c_wt, c11, c21, c30, c52, c62, c70, xk_10, eq_self, ↓reduceIte])
                · skip
                  refine xr_iload F dX0_nextBarge_65 1 rfl ?_
                  exact ret _ _ _ _ dX0_nextBarge_67 ⟨(by rw [← hi]; simp only [c_nextL, c_wt, c11, c21, c30, c52, c62, xk_10, eq_self, ↓reduceIte]), rfl⟩
  refine xr_lv (lv' := [(4, .int 0), (3, .int ((-1))), (0, .ref (a 0)), (1, .int (nI k)), (2, .int sb)]) [0, 1, 2, 3, 4] rfl ?_
  exact lp (kNb K) 0 (-1) rfl rfl
