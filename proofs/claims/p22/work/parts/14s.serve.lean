def rm_X0_serve : Room := { frames := 3, cells := 0, slots := 0, locals := 67 }
set_option maxHeartbeats 4000000 in
set_option maxRecDepth 100000 in
/-- serve -/
theorem k_X0_serve (l : Launch) (D : va_G) (yI yZ yL : ClassId) (a : Nat → Nat) (K : CK) (V : CD) (k : Nat) (b : Nat) (h0 : k < 5) (h1 : b < 10) : xMv l yX0_serve wsX0_serve rm_X0_serve D (tysG yI yZ yL) (cw yI yZ a K V) [.ref (a 0), .int (nI k), .int (nI b)] 0 0 (fun W1 : va_W => W1 = cw yI yZ a K (c_serve K V k b)) := by
  refine xE_v (cc := cX0_serve) (nL := 3) (by decide) rfl (Nat.le_of_ble_eq_true rfl) ?_
  intro p e s m args below meth c A Q F hnm ret
  have hin0 : ∀ w ∈ u_ws RX0 TX0 18, w ∈ wsX0_serve := by decide +kernel
  show AW p l e rm_X0_serve s m args below meth c 3 D A 0 0 Q (cw yI yZ a K V) [(0, .ref (a 0)), (1, .int (nI k)), (2, .int (nI b))] 0 []
  refine xr_aload_n F dX0_serve_0 rfl 0 rfl ?_
  refine xr_iload_n F dX0_serve_1 rfl 1 rfl ?_
  refine xr_iload_n F dX0_serve_2 rfl 2 rfl ?_
  refine xr_callVz F (wr := ([] : va_W)) (rest := []) (As := [.int (nI k), .int (nI b)]) (k_X0_fits l D yI yZ yL a K V k b (by omega) (by omega)) (cwV 2 F.hts gX0_serve_X0_fits rfl rfl rfl (by decide +kernel) ⟨Nat.le_of_ble_eq_true rfl, Nat.le_of_ble_eq_true rfl⟩) (q0 := 0) rfl rfl [0, 1, 2, 3, 4, 5, 6, 7, 8, 9, 10, 11] [] rfl rfl (by decide) (by decide) (by decide) rfl rfl (Nat.le_of_ble_eq_true rfl) dX0_serve_3 ⟨Nat.le_of_ble_eq_true rfl, Nat.le_of_ble_eq_true rfl⟩ (fun r1 W1 z1 => ?_)
  obtain ⟨z0, z1⟩ := z1
  subst z0
  subst z1
  refine xr_ws (ws' := cw yI yZ a K V) rfl ?_
  refine xr_if_ne F 14 dX0_serve_6 (by decide) (fun c6 => ?_) (fun c6 => ?_)
  · skip
    refine xr_aload_n F dX0_serve_14 rfl 0 rfl ?_
    refine xr_iload_n F dX0_serve_15 rfl 1 rfl ?_
    refine xr_callVv F (wr := ([] : va_W)) (rest := []) (As := [.int (nI k)]) (k_X0_turnChamber l D yI yZ yL a K V k (by omega)) (cwV 1 F.hts gX0_serve_X0_turnChamber rfl rfl rfl (by decide +kernel) ⟨Nat.le_of_ble_eq_true rfl, Nat.le_of_ble_eq_true rfl⟩) (q0 := 0) rfl rfl [0, 1, 2, 3, 4, 5, 6, 7, 8, 9, 10, 11] [] rfl rfl (by decide) (by decide) (by decide) rfl rfl (Nat.le_of_ble_eq_true rfl) dX0_serve_16 ⟨Nat.le_of_ble_eq_true rfl, Nat.le_of_ble_eq_true rfl⟩ (fun W1 z1 => ?_)
    obtain ⟨V1, eV1⟩ : ∃ x9 : CD, x9 = c_turn V k := ⟨_, rfl⟩
    rw [← eV1] at z1
    subst z1
    refine xr_ws (ws' := cw yI yZ a K V1) rfl ?_
    refine xr_aload_n F dX0_serve_19 rfl 0 rfl ?_
    refine xr_get F hin0 0 rfl rfl 14 (by decide) (List.mem_of_getElem? (i := 1) rfl) (v := .ref (a 8)) rfl dX0_serve_20 ?_
    refine xr_iload_n F dX0_serve_23 rfl 2 rfl ?_
    refine xr_aload_n F dX0_serve_24 rfl 0 rfl ?_
    refine xr_iload_n F dX0_serve_25 rfl 2 rfl ?_
    refine xr_callVz F (wr := ([] : va_W)) (rest := [.int (nI b), .ref (a 8)]) (As := [.int (nI b)]) (k_X0_goesDown l D yI yZ yL a K V1 b (by omega)) (cwV 1 F.hts gX0_serve_X0_goesDown rfl rfl rfl (by decide +kernel) ⟨Nat.le_of_ble_eq_true rfl, Nat.le_of_ble_eq_true rfl⟩) (q0 := 0) rfl rfl [0, 1, 2, 3, 4, 5, 6, 7, 8, 9, 10, 11] [] rfl rfl (by decide) (by decide) (by decide) rfl rfl (Nat.le_of_ble_eq_true rfl) dX0_serve_26 ⟨Nat.le_of_ble_eq_true rfl, Nat.le_of_ble_eq_true rfl⟩ (fun r1 W1 z1 => ?_)
    obtain ⟨z0, z1⟩ := z1
    subst z0
    subst z1
    refine xr_ws (ws' := cw yI yZ a K V1) rfl ?_
    refine xr_if_eq F 36 dX0_serve_29 (by decide) (fun c29 => ?_) (fun c29 => ?_)
    · skip
      refine xr_iload_n F dX0_serve_36 rfl 1 rfl ?_
      refine xr_iconst F dX0_serve_37 (v := 1) (by decide) ?_
      refine xr_iadd F (nI (k + 1)) dX0_serve_38 (nI_add k 1) ?_
      refine xr_iast F 8 0 rfl rfl (b) rfl (by omega) (by decide) (cwx yI yZ a (kFee K) (kDry K) (kMill K) (kMark K) (kNb K) (kSpr K) (kGoal K) (dHour V1) (dBank V1) (dLev V1) (dOver V1) (dDrawn V1) (dFull V1) (dLock V1) (dFill V1) (upd (dAt V1) b (nI (k + 1))) (dPur V1) (dSer V1)) rfl dX0_serve_39 ?_
      refine xr_aload_n F dX0_serve_40 rfl 0 rfl ?_
      refine xr_get F hin0 0 rfl rfl 16 (by decide) (List.mem_of_getElem? (i := 2) rfl) (v := .ref (a 10)) rfl dX0_serve_41 ?_
      refine xr_iload_n F dX0_serve_44 rfl 2 rfl ?_
      refine xr_dup2 F dX0_serve_45 rfl rfl ?_
      refine xr_iald F 10 0 rfl rfl (b) rfl (by omega) (by decide) dX0_serve_46 ?_
      refine xr_aload_n F dX0_serve_47 rfl 0 rfl ?_
      refine xr_get F hin0 0 rfl rfl 2 (by decide) (List.mem_of_getElem? (i := 3) rfl) (v := .int (kFee K)) rfl dX0_serve_48 ?_
      refine xr_isub F (((dPur V1) b) - (kFee K)) dX0_serve_51 rfl ?_
      refine xr_iast F 10 0 rfl rfl (b) rfl (by omega) (by decide) (cwx yI yZ a (kFee K) (kDry K) (kMill K) (kMark K) (kNb K) (kSpr K) (kGoal K) (dHour V1) (dBank V1) (dLev V1) (dOver V1) (dDrawn V1) (dFull V1) (dLock V1) (dFill V1) (upd (dAt V1) b (nI (k + 1))) (upd (dPur V1) b (((dPur V1) b) - (kFee K))) (dSer V1)) rfl dX0_serve_52 ?_
      refine xr_aload_n F dX0_serve_53 rfl 0 rfl ?_
      refine xr_dup F dX0_serve_54 rfl ?_
      refine xr_get F hin0 0 rfl rfl 1 (by decide) (List.mem_of_getElem? (i := 4) rfl) (v := .int (dBank V1)) rfl dX0_serve_55 ?_
      refine xr_aload_n F dX0_serve_58 rfl 0 rfl ?_
      refine xr_get F hin0 0 rfl rfl 2 (by decide) (List.mem_of_getElem? (i := 3) rfl) (v := .int (kFee K)) rfl dX0_serve_59 ?_
      refine xr_iadd F ((dBank V1) + (kFee K)) dX0_serve_62 rfl ?_
      refine xr_put (ty := .int) F hin0 0 rfl rfl 1 (by decide) tyX0 tyX0_ok nmX0 (List.mem_of_getElem? (i := 4) rfl) rfl (by decide) rfl rfl (Nat.le_of_ble_eq_true rfl) (cwx yI yZ a (kFee K) (kDry K) (kMill K) (kMark K) (kNb K) (kSpr K) (kGoal K) (dHour V1) ((dBank V1) + (kFee K)) (dLev V1) (dOver V1) (dDrawn V1) (dFull V1) (dLock V1) (dFill V1) (upd (dAt V1) b (nI (k + 1))) (upd (dPur V1) b (((dPur V1) b) - (kFee K))) (dSer V1)) rfl dX0_serve_63 ?_
      refine xr_aload_n F dX0_serve_66 rfl 0 rfl ?_
      refine xr_get F hin0 0 rfl rfl 17 (by decide) (List.mem_of_getElem? (i := 5) rfl) (v := .ref (a 11)) rfl dX0_serve_67 ?_
      refine xr_iload_n F dX0_serve_70 rfl 2 rfl ?_
      refine xr_dup2 F dX0_serve_71 rfl rfl ?_
      refine xr_iald F 11 0 rfl rfl (b) rfl (by omega) (by decide) dX0_serve_72 ?_
      refine xr_iconst F dX0_serve_73 (v := 1) (by decide) ?_
      refine xr_iadd F (((dSer V1) b) + 1) dX0_serve_74 rfl ?_
      refine xr_iast F 11 0 rfl rfl (b) rfl (by omega) (by decide) (cwx yI yZ a (kFee K) (kDry K) (kMill K) (kMark K) (kNb K) (kSpr K) (kGoal K) (dHour V1) ((dBank V1) + (kFee K)) (dLev V1) (dOver V1) (dDrawn V1) (dFull V1) (dLock V1) (dFill V1) (upd (dAt V1) b (nI (k + 1))) (upd (dPur V1) b (((dPur V1) b) - (kFee K))) (upd (dSer V1) b (((dSer V1) b) + 1))) rfl dX0_serve_75 ?_
      refine xr_aload_n F dX0_serve_76 rfl 0 rfl ?_
      refine xr_get F hin0 0 rfl rfl 11 (by decide) (List.mem_of_getElem? (i := 6) rfl) (v := .ref (a 6)) rfl dX0_serve_77 ?_
      refine xr_iload_n F dX0_serve_80 rfl 1 rfl ?_
      refine xr_dup2 F dX0_serve_81 rfl rfl ?_
      refine xr_iald F 6 0 rfl rfl (k) rfl (by omega) (by decide) dX0_serve_82 ?_
      refine xr_iconst F dX0_serve_83 (v := 1) (by decide) ?_
      refine xr_iadd F (((dLock V1) k) + 1) dX0_serve_84 rfl ?_
      refine xr_iast F 6 0 rfl rfl (k) rfl (by omega) (by decide) (cwx yI yZ a (kFee K) (kDry K) (kMill K) (kMark K) (kNb K) (kSpr K) (kGoal K) (dHour V1) ((dBank V1) + (kFee K)) (dLev V1) (dOver V1) (dDrawn V1) (dFull V1) (upd (dLock V1) k (((dLock V1) k) + 1)) (dFill V1) (upd (dAt V1) b (nI (k + 1))) (upd (dPur V1) b (((dPur V1) b) - (kFee K))) (upd (dSer V1) b (((dSer V1) b) + 1))) rfl dX0_serve_85 ?_
      have e9 : c_serve K V k b = c_serve2 K V1 k b := by rw [c_serve, if_neg c6, ← eV1]
      refine ret _ _ _ dX0_serve_86 ?_
      have e8 : c_serve2 K V1 k b = (dHour V1, (dBank V1) + (kFee K), dLev V1, dOver V1, dDrawn V1, dFull V1, upd (dLock V1) k (((dLock V1) k) + 1), dFill V1, upd (dAt V1) b (nI (k + 1)), upd (dPur V1) b (((dPur V1) b) - (kFee K)), upd (dSer V1) b (((dSer V1) b) + 1)) := by
        simp only [c_serve2, c29, ↓reduceIte]
        try simp only [tHour, tBank, tLev, tOver, tDrawn, tFull, tLock, tFill, tAt, tPur, tSer, dHour, dBank, dLev, dOver, dDrawn, dFull, dLock, dFill, dAt, dPur, dSer]
      rw [e9, e8, cw_mk]
    · skip
      refine xr_iload_n F dX0_serve_32 rfl 1 rfl ?_
      refine xr_goto F 39 dX0_serve_33 (by decide) ?_
      refine xr_iast F 8 0 rfl rfl (b) rfl (by omega) (by decide) (cwx yI yZ a (kFee K) (kDry K) (kMill K) (kMark K) (kNb K) (kSpr K) (kGoal K) (dHour V1) (dBank V1) (dLev V1) (dOver V1) (dDrawn V1) (dFull V1) (dLock V1) (dFill V1) (upd (dAt V1) b (nI k)) (dPur V1) (dSer V1)) rfl dX0_serve_39 ?_
      refine xr_aload_n F dX0_serve_40 rfl 0 rfl ?_
      refine xr_get F hin0 0 rfl rfl 16 (by decide) (List.mem_of_getElem? (i := 2) rfl) (v := .ref (a 10)) rfl dX0_serve_41 ?_
      refine xr_iload_n F dX0_serve_44 rfl 2 rfl ?_
      refine xr_dup2 F dX0_serve_45 rfl rfl ?_
      refine xr_iald F 10 0 rfl rfl (b) rfl (by omega) (by decide) dX0_serve_46 ?_
      refine xr_aload_n F dX0_serve_47 rfl 0 rfl ?_
      refine xr_get F hin0 0 rfl rfl 2 (by decide) (List.mem_of_getElem? (i := 3) rfl) (v := .int (kFee K)) rfl dX0_serve_48 ?_
      refine xr_isub F (((dPur V1) b) - (kFee K)) dX0_serve_51 rfl ?_
      refine xr_iast F 10 0 rfl rfl (b) rfl (by omega) (by decide) (cwx yI yZ a (kFee K) (kDry K) (kMill K) (kMark K) (kNb K) (kSpr K) (kGoal K) (dHour V1) (dBank V1) (dLev V1) (dOver V1) (dDrawn V1) (dFull V1) (dLock V1) (dFill V1) (upd (dAt V1) b (nI k)) (upd (dPur V1) b (((dPur V1) b) - (kFee K))) (dSer V1)) rfl dX0_serve_52 ?_
      refine xr_aload_n F dX0_serve_53 rfl 0 rfl ?_
      refine xr_dup F dX0_serve_54 rfl ?_
      refine xr_get F hin0 0 rfl rfl 1 (by decide) (List.mem_of_getElem? (i := 4) rfl) (v := .int (dBank V1)) rfl dX0_serve_55 ?_
      refine xr_aload_n F dX0_serve_58 rfl 0 rfl ?_
      refine xr_get F hin0 0 rfl rfl 2 (by decide) (List.mem_of_getElem? (i := 3) rfl) (v := .int (kFee K)) rfl dX0_serve_59 ?_
      refine xr_iadd F ((dBank V1) + (kFee K)) dX0_serve_62 rfl ?_
      refine xr_put (ty := .int) F hin0 0 rfl rfl 1 (by decide) tyX0 tyX0_ok nmX0 (List.mem_of_getElem? (i := 4) rfl) rfl (by decide) rfl rfl (Nat.le_of_ble_eq_true rfl) (cwx yI yZ a (kFee K) (kDry K) (kMill K) (kMark K) (kNb K) (kSpr K) (kGoal K) (dHour V1) ((dBank V1) + (kFee K)) (dLev V1) (dOver V1) (dDrawn V1) (dFull V1) (dLock V1) (dFill V1) (upd (dAt V1) b (nI k)) (upd (dPur V1) b (((dPur V1) b) - (kFee K))) (dSer V1)) rfl dX0_serve_63 ?_
      refine xr_aload_n F dX0_serve_66 rfl 0 rfl ?_
      refine xr_get F hin0 0 rfl rfl 17 (by decide) (List.mem_of_getElem? (i := 5) rfl) (v := .ref (a 11)) rfl dX0_serve_67 ?_
      refine xr_iload_n F dX0_serve_70 rfl 2 rfl ?_
      refine xr_dup2 F dX0_serve_71 rfl rfl ?_
      refine xr_iald F 11 0 rfl rfl (b) rfl (by omega) (by decide) dX0_serve_72 ?_
      refine xr_iconst F dX0_serve_73 (v := 1) (by decide) ?_
      refine xr_iadd F (((dSer V1) b) + 1) dX0_serve_74 rfl ?_
      refine xr_iast F 11 0 rfl rfl (b) rfl (by omega) (by decide) (cwx yI yZ a (kFee K) (kDry K) (kMill K) (kMark K) (kNb K) (kSpr K) (kGoal K) (dHour V1) ((dBank V1) + (kFee K)) (dLev V1) (dOver V1) (dDrawn V1) (dFull V1) (dLock V1) (dFill V1) (upd (dAt V1) b (nI k)) (upd (dPur V1) b (((dPur V1) b) - (kFee K))) (upd (dSer V1) b (((dSer V1) b) + 1))) rfl dX0_serve_75 ?_
      refine xr_aload_n F dX0_serve_76 rfl 0 rfl ?_
      refine xr_get F hin0 0 rfl rfl 11 (by decide) (List.mem_of_getElem? (i := 6) rfl) (v := .ref (a 6)) rfl dX0_serve_77 ?_
      refine xr_iload_n F dX0_serve_80 rfl 1 rfl ?_
      refine xr_dup2 F dX0_serve_81 rfl rfl ?_
      refine xr_iald F 6 0 rfl rfl (k) rfl (by omega) (by decide) dX0_serve_82 ?_
      refine xr_iconst F dX0_serve_83 (v := 1) (by decide) ?_
      refine xr_iadd F (((dLock V1) k) + 1) dX0_serve_84 rfl ?_
      refine xr_iast F 6 0 rfl rfl (k) rfl (by omega) (by decide) (cwx yI yZ a (kFee K) (kDry K) (kMill K) (kMark K) (kNb K) (kSpr K) (kGoal K) (dHour V1) ((dBank V1) + (kFee K)) (dLev V1) (dOver V1) (dDrawn V1) (dFull V1) (upd (dLock V1) k (((dLock V1) k) + 1)) (dFill V1) (upd (dAt V1) b (nI k)) (upd (dPur V1) b (((dPur V1) b) - (kFee K))) (upd (dSer V1) b (((dSer V1) b) + 1))) rfl dX0_serve_85 ?_
      have e9 : c_serve K V k b = c_serve2 K V1 k b := by rw [c_serve, if_neg c6, ← eV1]
      refine ret _ _ _ dX0_serve_86 ?_
      have e8 : c_serve2 K V1 k b = (dHour V1, (dBank V1) + (kFee K), dLev V1, dOver V1, dDrawn V1, dFull V1, upd (dLock V1) k (((dLock V1) k) + 1), dFill V1, upd (dAt V1) b (nI k), upd (dPur V1) b (((dPur V1) b) - (kFee K)), upd (dSer V1) b (((dSer V1) b) + 1)) := by
        simp only [c_serve2, c29, ↓reduceIte]
        try simp only [tHour, tBank, tLev, tOver, tDrawn, tFull, tLock, tFill, tAt, tPur, tSer, dHour, dBank, dLev, dOver, dDrawn, dFull, dLock, dFill, dAt, dPur, dSer]
      rw [e9, e8, cw_mk]
  · skip
    refine xr_aload_n F dX0_serve_9 rfl 0 rfl ?_
    refine xr_iload_n F dX0_serve_10 rfl 1 rfl ?_
    refine xr_callVv F (wr := ([] : va_W)) (rest := []) (As := [.int (nI k)]) (k_X0_turnChamber l D yI yZ yL a K V k (by omega)) (cwV 1 F.hts gX0_serve_X0_turnChamber rfl rfl rfl (by decide +kernel) ⟨Nat.le_of_ble_eq_true rfl, Nat.le_of_ble_eq_true rfl⟩) (q0 := 0) rfl rfl [0, 1, 2, 3, 4, 5, 6, 7, 8, 9, 10, 11] [] rfl rfl (by decide) (by decide) (by decide) rfl rfl (Nat.le_of_ble_eq_true rfl) dX0_serve_11 ⟨Nat.le_of_ble_eq_true rfl, Nat.le_of_ble_eq_true rfl⟩ (fun W1 z1 => ?_)
    obtain ⟨V2, eV2⟩ : ∃ x9 : CD, x9 = c_turn V k := ⟨_, rfl⟩
    rw [← eV2] at z1
    subst z1
    refine xr_ws (ws' := cw yI yZ a K V2) rfl ?_
    refine xr_aload_n F dX0_serve_14 rfl 0 rfl ?_
    refine xr_iload_n F dX0_serve_15 rfl 1 rfl ?_
    refine xr_callVv F (wr := ([] : va_W)) (rest := []) (As := [.int (nI k)]) (k_X0_turnChamber l D yI yZ yL a K V2 k (by omega)) (cwV 1 F.hts gX0_serve_X0_turnChamber rfl rfl rfl (by decide +kernel) ⟨Nat.le_of_ble_eq_true rfl, Nat.le_of_ble_eq_true rfl⟩) (q0 := 0) rfl rfl [0, 1, 2, 3, 4, 5, 6, 7, 8, 9, 10, 11] [] rfl rfl (by decide) (by decide) (by decide) rfl rfl (Nat.le_of_ble_eq_true rfl) dX0_serve_16 ⟨Nat.le_of_ble_eq_true rfl, Nat.le_of_ble_eq_true rfl⟩ (fun W1 z1 => ?_)
    obtain ⟨V3, eV3⟩ : ∃ x9 : CD, x9 = c_turn V2 k := ⟨_, rfl⟩
    rw [← eV3] at z1
    subst z1
    refine xr_ws (ws' := cw yI yZ a K V3) rfl ?_
    refine xr_aload_n F dX0_serve_19 rfl 0 rfl ?_
    refine xr_get F hin0 0 rfl rfl 14 (by decide) (List.mem_of_getElem? (i := 1) rfl) (v := .ref (a 8)) rfl dX0_serve_20 ?_
    refine xr_iload_n F dX0_serve_23 rfl 2 rfl ?_
    refine xr_aload_n F dX0_serve_24 rfl 0 rfl ?_
    refine xr_iload_n F dX0_serve_25 rfl 2 rfl ?_
    refine xr_callVz F (wr := ([] : va_W)) (rest := [.int (nI b), .ref (a 8)]) (As := [.int (nI b)]) (k_X0_goesDown l D yI yZ yL a K V3 b (by omega)) (cwV 1 F.hts gX0_serve_X0_goesDown rfl rfl rfl (by decide +kernel) ⟨Nat.le_of_ble_eq_true rfl, Nat.le_of_ble_eq_true rfl⟩) (q0 := 0) rfl rfl [0, 1, 2, 3, 4, 5, 6, 7, 8, 9, 10, 11] [] rfl rfl (by decide) (by decide) (by decide) rfl rfl (Nat.le_of_ble_eq_true rfl) dX0_serve_26 ⟨Nat.le_of_ble_eq_true rfl, Nat.le_of_ble_eq_true rfl⟩ (fun r1 W1 z1 => ?_)
    obtain ⟨z0, z1⟩ := z1
    subst z0
    subst z1
    refine xr_ws (ws' := cw yI yZ a K V3) rfl ?_
    refine xr_if_eq F 36 dX0_serve_29 (by decide) (fun c29 => ?_) (fun c29 => ?_)
    · skip
      refine xr_iload_n F dX0_serve_36 rfl 1 rfl ?_
      refine xr_iconst F dX0_serve_37 (v := 1) (by decide) ?_
      refine xr_iadd F (nI (k + 1)) dX0_serve_38 (nI_add k 1) ?_
      refine xr_iast F 8 0 rfl rfl (b) rfl (by omega) (by decide) (cwx yI yZ a (kFee K) (kDry K) (kMill K) (kMark K) (kNb K) (kSpr K) (kGoal K) (dHour V3) (dBank V3) (dLev V3) (dOver V3) (dDrawn V3) (dFull V3) (dLock V3) (dFill V3) (upd (dAt V3) b (nI (k + 1))) (dPur V3) (dSer V3)) rfl dX0_serve_39 ?_
      refine xr_aload_n F dX0_serve_40 rfl 0 rfl ?_
      refine xr_get F hin0 0 rfl rfl 16 (by decide) (List.mem_of_getElem? (i := 2) rfl) (v := .ref (a 10)) rfl dX0_serve_41 ?_
      refine xr_iload_n F dX0_serve_44 rfl 2 rfl ?_
      refine xr_dup2 F dX0_serve_45 rfl rfl ?_
      refine xr_iald F 10 0 rfl rfl (b) rfl (by omega) (by decide) dX0_serve_46 ?_
      refine xr_aload_n F dX0_serve_47 rfl 0 rfl ?_
      refine xr_get F hin0 0 rfl rfl 2 (by decide) (List.mem_of_getElem? (i := 3) rfl) (v := .int (kFee K)) rfl dX0_serve_48 ?_
      refine xr_isub F (((dPur V3) b) - (kFee K)) dX0_serve_51 rfl ?_
      refine xr_iast F 10 0 rfl rfl (b) rfl (by omega) (by decide) (cwx yI yZ a (kFee K) (kDry K) (kMill K) (kMark K) (kNb K) (kSpr K) (kGoal K) (dHour V3) (dBank V3) (dLev V3) (dOver V3) (dDrawn V3) (dFull V3) (dLock V3) (dFill V3) (upd (dAt V3) b (nI (k + 1))) (upd (dPur V3) b (((dPur V3) b) - (kFee K))) (dSer V3)) rfl dX0_serve_52 ?_
      refine xr_aload_n F dX0_serve_53 rfl 0 rfl ?_
      refine xr_dup F dX0_serve_54 rfl ?_
      refine xr_get F hin0 0 rfl rfl 1 (by decide) (List.mem_of_getElem? (i := 4) rfl) (v := .int (dBank V3)) rfl dX0_serve_55 ?_
      refine xr_aload_n F dX0_serve_58 rfl 0 rfl ?_
      refine xr_get F hin0 0 rfl rfl 2 (by decide) (List.mem_of_getElem? (i := 3) rfl) (v := .int (kFee K)) rfl dX0_serve_59 ?_
      refine xr_iadd F ((dBank V3) + (kFee K)) dX0_serve_62 rfl ?_
      refine xr_put (ty := .int) F hin0 0 rfl rfl 1 (by decide) tyX0 tyX0_ok nmX0 (List.mem_of_getElem? (i := 4) rfl) rfl (by decide) rfl rfl (Nat.le_of_ble_eq_true rfl) (cwx yI yZ a (kFee K) (kDry K) (kMill K) (kMark K) (kNb K) (kSpr K) (kGoal K) (dHour V3) ((dBank V3) + (kFee K)) (dLev V3) (dOver V3) (dDrawn V3) (dFull V3) (dLock V3) (dFill V3) (upd (dAt V3) b (nI (k + 1))) (upd (dPur V3) b (((dPur V3) b) - (kFee K))) (dSer V3)) rfl dX0_serve_63 ?_
      refine xr_aload_n F dX0_serve_66 rfl 0 rfl ?_
      refine xr_get F hin0 0 rfl rfl 17 (by decide) (List.mem_of_getElem? (i := 5) rfl) (v := .ref (a 11)) rfl dX0_serve_67 ?_
      refine xr_iload_n F dX0_serve_70 rfl 2 rfl ?_
      refine xr_dup2 F dX0_serve_71 rfl rfl ?_
      refine xr_iald F 11 0 rfl rfl (b) rfl (by omega) (by decide) dX0_serve_72 ?_
      refine xr_iconst F dX0_serve_73 (v := 1) (by decide) ?_
      refine xr_iadd F (((dSer V3) b) + 1) dX0_serve_74 rfl ?_
      refine xr_iast F 11 0 rfl rfl (b) rfl (by omega) (by decide) (cwx yI yZ a (kFee K) (kDry K) (kMill K) (kMark K) (kNb K) (kSpr K) (kGoal K) (dHour V3) ((dBank V3) + (kFee K)) (dLev V3) (dOver V3) (dDrawn V3) (dFull V3) (dLock V3) (dFill V3) (upd (dAt V3) b (nI (k + 1))) (upd (dPur V3) b (((dPur V3) b) - (kFee K))) (upd (dSer V3) b (((dSer V3) b) + 1))) rfl dX0_serve_75 ?_
      refine xr_aload_n F dX0_serve_76 rfl 0 rfl ?_
      refine xr_get F hin0 0 rfl rfl 11 (by decide) (List.mem_of_getElem? (i := 6) rfl) (v := .ref (a 6)) rfl dX0_serve_77 ?_
      refine xr_iload_n F dX0_serve_80 rfl 1 rfl ?_
      refine xr_dup2 F dX0_serve_81 rfl rfl ?_
      refine xr_iald F 6 0 rfl rfl (k) rfl (by omega) (by decide) dX0_serve_82 ?_
      refine xr_iconst F dX0_serve_83 (v := 1) (by decide) ?_
      refine xr_iadd F (((dLock V3) k) + 1) dX0_serve_84 rfl ?_
      refine xr_iast F 6 0 rfl rfl (k) rfl (by omega) (by decide) (cwx yI yZ a (kFee K) (kDry K) (kMill K) (kMark K) (kNb K) (kSpr K) (kGoal K) (dHour V3) ((dBank V3) + (kFee K)) (dLev V3) (dOver V3) (dDrawn V3) (dFull V3) (upd (dLock V3) k (((dLock V3) k) + 1)) (dFill V3) (upd (dAt V3) b (nI (k + 1))) (upd (dPur V3) b (((dPur V3) b) - (kFee K))) (upd (dSer V3) b (((dSer V3) b) + 1))) rfl dX0_serve_85 ?_
      have e9 : c_serve K V k b = c_serve2 K V3 k b := by rw [c_serve, if_pos c6, ← eV2, ← eV3]
      refine ret _ _ _ dX0_serve_86 ?_
      have e8 : c_serve2 K V3 k b = (dHour V3, (dBank V3) + (kFee K), dLev V3, dOver V3, dDrawn V3, dFull V3, upd (dLock V3) k (((dLock V3) k) + 1), dFill V3, upd (dAt V3) b (nI (k + 1)), upd (dPur V3) b (((dPur V3) b) - (kFee K)), upd (dSer V3) b (((dSer V3) b) + 1)) := by
        simp only [c_serve2, c29, ↓reduceIte]
        try simp only [tHour, tBank, tLev, tOver, tDrawn, tFull, tLock, tFill, tAt, tPur, tSer, dHour, dBank, dLev, dOver, dDrawn, dFull, dLock, dFill, dAt, dPur, dSer]
      rw [e9, e8, cw_mk]
    · skip
      refine xr_iload_n F dX0_serve_32 rfl 1 rfl ?_
      refine xr_goto F 39 dX0_serve_33 (by decide) ?_
      refine xr_iast F 8 0 rfl rfl (b) rfl (by omega) (by decide) (cwx yI yZ a (kFee K) (kDry K) (kMill K) (kMark K) (kNb K) (kSpr K) (kGoal K) (dHour V3) (dBank V3) (dLev V3) (dOver V3) (dDrawn V3) (dFull V3) (dLock V3) (dFill V3) (upd (dAt V3) b (nI k)) (dPur V3) (dSer V3)) rfl dX0_serve_39 ?_
      refine xr_aload_n F dX0_serve_40 rfl 0 rfl ?_
      refine xr_get F hin0 0 rfl rfl 16 (by decide) (List.mem_of_getElem? (i := 2) rfl) (v := .ref (a 10)) rfl dX0_serve_41 ?_
      refine xr_iload_n F dX0_serve_44 rfl 2 rfl ?_
      refine xr_dup2 F dX0_serve_45 rfl rfl ?_
      refine xr_iald F 10 0 rfl rfl (b) rfl (by omega) (by decide) dX0_serve_46 ?_
      refine xr_aload_n F dX0_serve_47 rfl 0 rfl ?_
      refine xr_get F hin0 0 rfl rfl 2 (by decide) (List.mem_of_getElem? (i := 3) rfl) (v := .int (kFee K)) rfl dX0_serve_48 ?_
      refine xr_isub F (((dPur V3) b) - (kFee K)) dX0_serve_51 rfl ?_
      refine xr_iast F 10 0 rfl rfl (b) rfl (by omega) (by decide) (cwx yI yZ a (kFee K) (kDry K) (kMill K) (kMark K) (kNb K) (kSpr K) (kGoal K) (dHour V3) (dBank V3) (dLev V3) (dOver V3) (dDrawn V3) (dFull V3) (dLock V3) (dFill V3) (upd (dAt V3) b (nI k)) (upd (dPur V3) b (((dPur V3) b) - (kFee K))) (dSer V3)) rfl dX0_serve_52 ?_
      refine xr_aload_n F dX0_serve_53 rfl 0 rfl ?_
      refine xr_dup F dX0_serve_54 rfl ?_
      refine xr_get F hin0 0 rfl rfl 1 (by decide) (List.mem_of_getElem? (i := 4) rfl) (v := .int (dBank V3)) rfl dX0_serve_55 ?_
      refine xr_aload_n F dX0_serve_58 rfl 0 rfl ?_
      refine xr_get F hin0 0 rfl rfl 2 (by decide) (List.mem_of_getElem? (i := 3) rfl) (v := .int (kFee K)) rfl dX0_serve_59 ?_
      refine xr_iadd F ((dBank V3) + (kFee K)) dX0_serve_62 rfl ?_
      refine xr_put (ty := .int) F hin0 0 rfl rfl 1 (by decide) tyX0 tyX0_ok nmX0 (List.mem_of_getElem? (i := 4) rfl) rfl (by decide) rfl rfl (Nat.le_of_ble_eq_true rfl) (cwx yI yZ a (kFee K) (kDry K) (kMill K) (kMark K) (kNb K) (kSpr K) (kGoal K) (dHour V3) ((dBank V3) + (kFee K)) (dLev V3) (dOver V3) (dDrawn V3) (dFull V3) (dLock V3) (dFill V3) (upd (dAt V3) b (nI k)) (upd (dPur V3) b (((dPur V3) b) - (kFee K))) (dSer V3)) rfl dX0_serve_63 ?_
      refine xr_aload_n F dX0_serve_66 rfl 0 rfl ?_
      refine xr_get F hin0 0 rfl rfl 17 (by decide) (List.mem_of_getElem? (i := 5) rfl) (v := .ref (a 11)) rfl dX0_serve_67 ?_
      refine xr_iload_n F dX0_serve_70 rfl 2 rfl ?_
      refine xr_dup2 F dX0_serve_71 rfl rfl ?_
      refine xr_iald F 11 0 rfl rfl (b) rfl (by omega) (by decide) dX0_serve_72 ?_
      refine xr_iconst F dX0_serve_73 (v := 1) (by decide) ?_
      refine xr_iadd F (((dSer V3) b) + 1) dX0_serve_74 rfl ?_
      refine xr_iast F 11 0 rfl rfl (b) rfl (by omega) (by decide) (cwx yI yZ a (kFee K) (kDry K) (kMill K) (kMark K) (kNb K) (kSpr K) (kGoal K) (dHour V3) ((dBank V3) + (kFee K)) (dLev V3) (dOver V3) (dDrawn V3) (dFull V3) (dLock V3) (dFill V3) (upd (dAt V3) b (nI k)) (upd (dPur V3) b (((dPur V3) b) - (kFee K))) (upd (dSer V3) b (((dSer V3) b) + 1))) rfl dX0_serve_75 ?_
      refine xr_aload_n F dX0_serve_76 rfl 0 rfl ?_
      refine xr_get F hin0 0 rfl rfl 11 (by decide) (List.mem_of_getElem? (i := 6) rfl) (v := .ref (a 6)) rfl dX0_serve_77 ?_
      refine xr_iload_n F dX0_serve_80 rfl 1 rfl ?_
      refine xr_dup2 F dX0_serve_81 rfl rfl ?_
      refine xr_iald F 6 0 rfl rfl (k) rfl (by omega) (by decide) dX0_serve_82 ?_
      refine xr_iconst F dX0_serve_83 (v := 1) (by decide) ?_
      refine xr_iadd F (((dLock V3) k) + 1) dX0_serve_84 rfl ?_
      refine xr_iast F 6 0 rfl rfl (k) rfl (by omega) (by decide) (cwx yI yZ a (kFee K) (kDry K) (kMill K) (kMark K) (kNb K) (kSpr K) (kGoal K) (dHour V3) ((dBank V3) + (kFee K)) (dLev V3) (dOver V3) (dDrawn V3) (dFull V3) (upd (dLock V3) k (((dLock V3) k) + 1)) (dFill V3) (upd (dAt V3) b (nI k)) (upd (dPur V3) b (((dPur V3) b) - (kFee K))) (upd (dSer V3) b (((dSer V3) b) + 1))) rfl dX0_serve_85 ?_
      have e9 : c_serve K V k b = c_serve2 K V3 k b := by rw [c_serve, if_pos c6, ← eV2, ← eV3]
      refine ret _ _ _ dX0_serve_86 ?_
      have e8 : c_serve2 K V3 k b = (dHour V3, (dBank V3) + (kFee K), dLev V3, dOver V3, dDrawn V3, dFull V3, upd (dLock V3) k (((dLock V3) k) + 1), dFill V3, upd (dAt V3) b (nI k), upd (dPur V3) b (((dPur V3) b) - (kFee K)), upd (dSer V3) b (((dSer V3) b) + 1)) := by
        simp only [c_serve2, c29, ↓reduceIte]
        try simp only [tHour, tBank, tLev, tOver, tDrawn, tFull, tLock, tFill, tAt, tPur, tSer, dHour, dBank, dLev, dOver, dDrawn, dFull, dLock, dFill, dAt, dPur, dSer]
      rw [e9, e8, cw_mk]
