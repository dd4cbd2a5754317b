def rm_X0_goesDown : Room := { frames := 0, cells := 0, slots := 0, locals := 0 }
set_option maxHeartbeats 4000000 in
set_option maxRecDepth 100000 in
/-- goesDown -/
theorem k_X0_goesDown (l : Launch) (D : va_G) (yI yZ yL : ClassId) (a : Nat → Nat) (K : CK) (V : CD) (b : Nat) (h0 : b < 10) : xMi l yX0_goesDown wsX0_goesDown rm_X0_goesDown D (tysG yI yZ yL) (cw yI yZ a K V) [.ref (a 0), .int (nI b)] 0 0 (fun (r : Int32) (W1 : va_W) => r = c_down K V b ∧ W1 = cw yI yZ a K V) := by
  refine xE_z (cc := cX0_goesDown) (nL := 2) (by decide) rfl (Nat.le_of_ble_eq_true rfl) ?_
  intro p e s m args below meth c A Q F hnm ret
  have hin0 : ∀ w ∈ u_ws RX0 TX0 18, w ∈ wsX0_goesDown := by decide +kernel
  show AW p l e rm_X0_goesDown s m args below meth c 2 D A 0 0 Q (cw yI yZ a K V) [(0, .ref (a 0)), (1, .int (nI b))] 0 []
  refine xr_aload_n F dX0_goesDown_0 rfl 0 rfl ?_
  refine xr_get F hin0 0 rfl rfl 15 (by decide) (List.mem_of_getElem? (i := 1) rfl) (v := .ref (a 9)) rfl dX0_goesDown_1 ?_
  refine xr_iload_n F dX0_goesDown_4 rfl 1 rfl ?_
  refine xr_iald F 9 0 rfl rfl (b) rfl (by omega) (by decide) dX0_goesDown_5 ?_
  refine xr_aload_n F dX0_goesDown_6 rfl 0 rfl ?_
  refine xr_get F hin0 0 rfl rfl 14 (by decide) (List.mem_of_getElem? (i := 2) rfl) (v := .ref (a 8)) rfl dX0_goesDown_7 ?_
  refine xr_iload_n F dX0_goesDown_10 rfl 1 rfl ?_
  refine xr_iald F 8 0 rfl rfl (b) rfl (by omega) (by decide) dX0_goesDown_11 ?_
  refine xr_icmp_ge F 19 dX0_goesDown_12 (by decide) (fun c12 => ?_) (fun c12 => ?_)
  · skip
    refine xr_iconst F dX0_goesDown_19 (v := 0) (by decide) ?_
    refine ret _ _ _ _ dX0_goesDown_20 rfl ⟨?_, rfl⟩
    first | rfl | (simp only [c_down, c12, ↓reduceIte]; done) | (simp only [c_down, c12, ↓reduceIte]; rfl)
  · skip
    refine xr_iconst F dX0_goesDown_15 (v := 1) (by decide) ?_
    refine xr_goto F 20 dX0_goesDown_16 (by decide) ?_
    refine ret _ _ _ _ dX0_goesDown_20 rfl ⟨?_, rfl⟩
    first | rfl | (simp only [c_down, c12, ↓reduceIte]; done) | (simp only [c_down, c12, ↓reduceIte]; rfl)

def rm_X0_hasCome : Room := { frames := 0, cells := 0, slots := 0, locals := 0 }
set_option maxHeartbeats 4000000 in
set_option maxRecDepth 100000 in
/-- hasCome -/
theorem k_X0_hasCome (l : Launch) (D : va_G) (yI yZ yL : ClassId) (a : Nat → Nat) (K : CK) (V : CD) (b : Nat) (h0 : b < 10) : xMi l yX0_hasCome wsX0_hasCome rm_X0_hasCome D (tysG yI yZ yL) (cw yI yZ a K V) [.ref (a 0), .int (nI b)] 0 0 (fun (r : Int32) (W1 : va_W) => r = c_come K V b ∧ W1 = cw yI yZ a K V) := by
  refine xE_z (cc := cX0_hasCome) (nL := 2) (by decide) rfl (Nat.le_of_ble_eq_true rfl) ?_
  intro p e s m args below meth c A Q F hnm ret
  have hin0 : ∀ w ∈ u_ws RX0 TX0 18, w ∈ wsX0_hasCome := by decide +kernel
  show AW p l e rm_X0_hasCome s m args below meth c 2 D A 0 0 Q (cw yI yZ a K V) [(0, .ref (a 0)), (1, .int (nI b))] 0 []
  refine xr_aload_n F dX0_hasCome_0 rfl 0 rfl ?_
  refine xr_get F hin0 0 rfl rfl 14 (by decide) (List.mem_of_getElem? (i := 1) rfl) (v := .ref (a 8)) rfl dX0_hasCome_1 ?_
  refine xr_iload_n F dX0_hasCome_4 rfl 1 rfl ?_
  refine xr_iald F 8 0 rfl rfl (b) rfl (by omega) (by decide) dX0_hasCome_5 ?_
  refine xr_aload_n F dX0_hasCome_6 rfl 0 rfl ?_
  refine xr_get F hin0 0 rfl rfl 15 (by decide) (List.mem_of_getElem? (i := 2) rfl) (v := .ref (a 9)) rfl dX0_hasCome_7 ?_
  refine xr_iload_n F dX0_hasCome_10 rfl 1 rfl ?_
  refine xr_iald F 9 0 rfl rfl (b) rfl (by omega) (by decide) dX0_hasCome_11 ?_
  refine xr_icmp_ne F 19 dX0_hasCome_12 (by decide) (fun c12 => ?_) (fun c12 => ?_)
  · skip
    refine xr_iconst F dX0_hasCome_19 (v := 0) (by decide) ?_
    refine ret _ _ _ _ dX0_hasCome_20 rfl ⟨?_, rfl⟩
    first | rfl | (simp only [c_come, c12, ↓reduceIte]; done) | (simp only [c_come, c12, ↓reduceIte]; rfl)
  · skip
    refine xr_iconst F dX0_hasCome_15 (v := 1) (by decide) ?_
    refine xr_goto F 20 dX0_hasCome_16 (by decide) ?_
    refine ret _ _ _ _ dX0_hasCome_20 rfl ⟨?_, rfl⟩
    first | rfl | (simp only [c_come, c12, ↓reduceIte]; done) | (simp only [c_come, c12, ↓reduceIte]; rfl)

def rm_X0_canFill : Room := { frames := 0, cells := 0, slots := 0, locals := 0 }
set_option maxHeartbeats 4000000 in
set_option maxRecDepth 100000 in
/-- canFill -/
theorem k_X0_canFill (l : Launch) (D : va_G) (yI yZ yL : ClassId) (a : Nat → Nat) (K : CK) (V : CD) (k : Nat) (h0 : k < 5) : xMi l yX0_canFill wsX0_canFill rm_X0_canFill D (tysG yI yZ yL) (cw yI yZ a K V) [.ref (a 0), .int (nI k)] 0 0 (fun (r : Int32) (W1 : va_W) => r = c_canFill V k ∧ W1 = cw yI yZ a K V) := by
  refine xE_z (cc := cX0_canFill) (nL := 2) (by decide) rfl (Nat.le_of_ble_eq_true rfl) ?_
  intro p e s m args below meth c A Q F hnm ret
  have hin0 : ∀ w ∈ u_ws RX0 TX0 18, w ∈ wsX0_canFill := by decide +kernel
  show AW p l e rm_X0_canFill s m args below meth c 2 D A 0 0 Q (cw yI yZ a K V) [(0, .ref (a 0)), (1, .int (nI k))] 0 []
  refine xr_aload_n F dX0_canFill_0 rfl 0 rfl ?_
  refine xr_get F hin0 0 rfl rfl 7 (by decide) (List.mem_of_getElem? (i := 1) rfl) (v := .ref (a 2)) rfl dX0_canFill_1 ?_
  refine xr_iload_n F dX0_canFill_4 rfl 1 rfl ?_
  refine xr_iconst F dX0_canFill_5 (v := 1) (by decide) ?_
  refine xr_iadd F (nI (k + 1)) dX0_canFill_6 (nI_add k 1) ?_
  refine xr_iald F 2 0 rfl rfl (k + 1) rfl (by omega) (by decide) dX0_canFill_7 ?_
  refine xr_bipush F dX0_canFill_8 (v := 32) (by decide) ?_
  refine xr_icmp_lt F 17 dX0_canFill_10 (by decide) (fun c10 => ?_) (fun c10 => ?_)
  · skip
    refine xr_iconst F dX0_canFill_17 (v := 0) (by decide) ?_
    refine ret _ _ _ _ dX0_canFill_18 rfl ⟨?_, rfl⟩
    first | rfl | (simp only [c_canFill, c10, ↓reduceIte]; done) | (simp only [c_canFill, c10, ↓reduceIte]; rfl)
  · skip
    refine xr_iconst F dX0_canFill_13 (v := 1) (by decide) ?_
    refine xr_goto F 18 dX0_canFill_14 (by decide) ?_
    refine ret _ _ _ _ dX0_canFill_18 rfl ⟨?_, rfl⟩
    first | rfl | (simp only [c_canFill, c10, ↓reduceIte]; done) | (simp only [c_canFill, c10, ↓reduceIte]; rfl)

def rm_X0_fits : Room := { frames := 1, cells := 0, slots := 0, locals := 21 }
set_option maxHeartbeats 4000000 in
set_option maxRecDepth 100000 in
/-- fits -/
theorem k_X0_fits (l : Launch) (D : va_G) (yI yZ yL : ClassId) (a : Nat → Nat) (K : CK) (V : CD) (k : Nat) (b : Nat) (h0 : k < 5) (h1 : b < 10) : xMi l yX0_fits wsX0_fits rm_X0_fits D (tysG yI yZ yL) (cw yI yZ a K V) [.ref (a 0), .int (nI k), .int (nI b)] 0 0 (fun (r : Int32) (W1 : va_W) => r = c_fits K V k b ∧ W1 = cw yI yZ a K V) := by
  refine xE_z (cc := cX0_fits) (nL := 3) (by decide) rfl (Nat.le_of_ble_eq_true rfl) ?_
  intro p e s m args below meth c A Q F hnm ret
  have hin0 : ∀ w ∈ u_ws RX0 TX0 18, w ∈ wsX0_fits := by decide +kernel
  show AW p l e rm_X0_fits s m args below meth c 3 D A 0 0 Q (cw yI yZ a K V) [(0, .ref (a 0)), (1, .int (nI k)), (2, .int (nI b))] 0 []
  refine xr_aload_n F dX0_fits_0 rfl 0 rfl ?_
  refine xr_get F hin0 0 rfl rfl 10 (by decide) (List.mem_of_getElem? (i := 1) rfl) (v := .ref (a 5)) rfl dX0_fits_1 ?_
  refine xr_iload_n F dX0_fits_4 rfl 1 rfl ?_
  refine xr_zald F 5 1 rfl rfl (k) rfl (by omega) (by decide) dX0_fits_5 ?_
  refine xr_aload_n F dX0_fits_6 rfl 0 rfl ?_
  refine xr_iload_n F dX0_fits_7 rfl 2 rfl ?_
  refine xr_callVz F (wr := ([] : va_W)) (rest := [.int ((dFull V) k)]) (As := [.int (nI b)]) (k_X0_goesDown l D yI yZ yL a K V b (by omega)) (cwV 1 F.hts gX0_fits_X0_goesDown rfl rfl rfl (by decide +kernel) ⟨Nat.le_of_ble_eq_true rfl, Nat.le_of_ble_eq_true rfl⟩) (q0 := 0) rfl rfl [0, 1, 2, 3, 4, 5, 6, 7, 8, 9, 10, 11] [] rfl rfl (by decide) (by decide) (by decide) rfl rfl (Nat.le_of_ble_eq_true rfl) dX0_fits_8 ⟨Nat.le_of_ble_eq_true rfl, Nat.le_of_ble_eq_true rfl⟩ (fun r1 W1 z1 => ?_)
  obtain ⟨z0, z1⟩ := z1
  subst z0
  subst z1
  refine xr_ws (ws' := cw yI yZ a K V) rfl ?_
  refine xr_icmp_ne F 18 dX0_fits_11 (by decide) (fun c11 => ?_) (fun c11 => ?_)
  · skip
    refine xr_iconst F dX0_fits_18 (v := 0) (by decide) ?_
    refine ret _ _ _ _ dX0_fits_19 rfl ⟨?_, rfl⟩
    first | rfl | (simp only [c_fits, c11, ↓reduceIte]; done) | (simp only [c_fits, c11, ↓reduceIte]; rfl)
  · skip
    refine xr_iconst F dX0_fits_14 (v := 1) (by decide) ?_
    refine xr_goto F 19 dX0_fits_15 (by decide) ?_
    refine ret _ _ _ _ dX0_fits_19 rfl ⟨?_, rfl⟩
    first | rfl | (simp only [c_fits, c11, ↓reduceIte]; done) | (simp only [c_fits, c11, ↓reduceIte]; rfl)

def rm_X0_waitsAt : Room := { frames := 1, cells := 0, slots := 0, locals := 21 }
set_option maxHeartbeats 4000000 in
set_option maxRecDepth 100000 in
/-- waitsAt -/
theorem k_X0_waitsAt (l : Launch) (D : va_G) (yI yZ yL : ClassId) (a : Nat → Nat) (K : CK) (V : CD) (b : Nat) (h0 : b < 10) : xMi l yX0_waitsAt wsX0_waitsAt rm_X0_waitsAt D (tysG yI yZ yL) (cw yI yZ a K V) [.ref (a 0), .int (nI b)] 0 0 (fun (r : Int32) (W1 : va_W) => r = c_waits K V b ∧ W1 = cw yI yZ a K V) := by
  refine xE_i (cc := cX0_waitsAt) (nL := 2) (by decide) rfl (Nat.le_of_ble_eq_true rfl) ?_
  intro p e s m args below meth c A Q F hnm ret
  have hin0 : ∀ w ∈ u_ws RX0 TX0 18, w ∈ wsX0_waitsAt := by decide +kernel
  show AW p l e rm_X0_waitsAt s m args below meth c 2 D A 0 0 Q (cw yI yZ a K V) [(0, .ref (a 0)), (1, .int (nI b))] 0 []
  refine xr_aload_n F dX0_waitsAt_0 rfl 0 rfl ?_
  refine xr_iload_n F dX0_waitsAt_1 rfl 1 rfl ?_
  refine xr_callVz F (wr := ([] : va_W)) (rest := []) (As := [.int (nI b)]) (k_X0_hasCome l D yI yZ yL a K V b (by omega)) (cwV 1 F.hts gX0_waitsAt_X0_hasCome rfl rfl rfl (by decide +kernel) ⟨Nat.le_of_ble_eq_true rfl, Nat.le_of_ble_eq_true rfl⟩) (q0 := 0) rfl rfl [0, 1, 2, 3, 4, 5, 6, 7, 8, 9, 10, 11] [] rfl rfl (by decide) (by decide) (by decide) rfl rfl (Nat.le_of_ble_eq_true rfl) dX0_waitsAt_2 ⟨Nat.le_of_ble_eq_true rfl, Nat.le_of_ble_eq_true rfl⟩ (fun r1 W1 z1 => ?_)
  obtain ⟨z0, z1⟩ := z1
  subst z0
  subst z1
  refine xr_ws (ws' := cw yI yZ a K V) rfl ?_
  refine xr_if_eq F 10 dX0_waitsAt_5 (by decide) (fun c5 => ?_) (fun c5 => ?_)
  · skip
    refine xr_aload_n F dX0_waitsAt_10 rfl 0 rfl ?_
    refine xr_iload_n F dX0_waitsAt_11 rfl 1 rfl ?_
    refine xr_callVz F (wr := ([] : va_W)) (rest := []) (As := [.int (nI b)]) (k_X0_goesDown l D yI yZ yL a K V b (by omega)) (cwV 1 F.hts gX0_waitsAt_X0_goesDown rfl rfl rfl (by decide +kernel) ⟨Nat.le_of_ble_eq_true rfl, Nat.le_of_ble_eq_true rfl⟩) (q0 := 0) rfl rfl [0, 1, 2, 3, 4, 5, 6, 7, 8, 9, 10, 11] [] rfl rfl (by decide) (by decide) (by decide) rfl rfl (Nat.le_of_ble_eq_true rfl) dX0_waitsAt_12 ⟨Nat.le_of_ble_eq_true rfl, Nat.le_of_ble_eq_true rfl⟩ (fun r1 W1 z1 => ?_)
    obtain ⟨z0, z1⟩ := z1
    subst z0
    subst z1
    refine xr_ws (ws' := cw yI yZ a K V) rfl ?_
    refine xr_if_eq F 29 dX0_waitsAt_15 (by decide) (fun c15 => ?_) (fun c15 => ?_)
    · skip
      refine xr_aload_n F dX0_waitsAt_29 rfl 0 rfl ?_
      refine xr_get F hin0 0 rfl rfl 14 (by decide) (List.mem_of_getElem? (i := 1) rfl) (v := .ref (a 8)) rfl dX0_waitsAt_30 ?_
      refine xr_iload_n F dX0_waitsAt_33 rfl 1 rfl ?_
      refine xr_iald F 8 0 rfl rfl (b) rfl (by omega) (by decide) dX0_waitsAt_34 ?_
      refine ret _ _ _ _ dX0_waitsAt_35 ⟨?_, rfl⟩
      first | rfl | (simp only [c_waits, c5, c15, ↓reduceIte]; done) | (simp only [c_waits, c5, c15, ↓reduceIte]; rfl)
    · skip
      refine xr_aload_n F dX0_waitsAt_18 rfl 0 rfl ?_
      refine xr_get F hin0 0 rfl rfl 14 (by decide) (List.mem_of_getElem? (i := 1) rfl) (v := .ref (a 8)) rfl dX0_waitsAt_19 ?_
      refine xr_iload_n F dX0_waitsAt_22 rfl 1 rfl ?_
      refine xr_iald F 8 0 rfl rfl (b) rfl (by omega) (by decide) dX0_waitsAt_23 ?_
      refine xr_iconst F dX0_waitsAt_24 (v := 1) (by decide) ?_
      refine xr_isub F (((dAt V) b) - 1) dX0_waitsAt_25 rfl ?_
      refine xr_goto F 35 dX0_waitsAt_26 (by decide) ?_
      refine ret _ _ _ _ dX0_waitsAt_35 ⟨?_, rfl⟩
      first | rfl | (simp only [c_waits, c5, c15, ↓reduceIte]; done) | (simp only [c_waits, c5, c15, ↓reduceIte]; rfl)
  · skip
    refine xr_iconst F dX0_waitsAt_8 (v := (-1)) (by decide) ?_
    refine ret _ _ _ _ dX0_waitsAt_9 ⟨?_, rfl⟩
    first | rfl | (simp only [c_waits, c5, ↓reduceIte]; done) | (simp only [c_waits, c5, ↓reduceIte]; rfl)

def rm_X0_canServe : Room := { frames := 2, cells := 0, slots := 0, locals := 43 }
set_option maxHeartbeats 4000000 in
set_option maxRecDepth 100000 in
/-- canServe -/
theorem k_X0_canServe (l : Launch) (D : va_G) (yI yZ yL : ClassId) (a : Nat → Nat) (K : CK) (V : CD) (k : Nat) (b : Nat) (h0 : k < 5) (h1 : b < 10) : xMi l yX0_canServe wsX0_canServe rm_X0_canServe D (tysG yI yZ yL) (cw yI yZ a K V) [.ref (a 0), .int (nI k), .int (nI b)] 0 0 (fun (r : Int32) (W1 : va_W) => r = c_can K V k b ∧ W1 = cw yI yZ a K V) := by
  refine xE_z (cc := cX0_canServe) (nL := 4) (by decide) rfl (Nat.le_of_ble_eq_true rfl) ?_
  intro p e s m args below meth c A Q F hnm ret
  have hin0 : ∀ w ∈ u_ws RX0 TX0 18, w ∈ wsX0_canServe := by decide +kernel
  show AW p l e rm_X0_canServe s m args below meth c 4 D A 0 0 Q (cw yI yZ a K V) [(0, .ref (a 0)), (1, .int (nI k)), (2, .int (nI b))] 0 []
  refine xr_aload_n F dX0_canServe_0 rfl 0 rfl ?_
  refine xr_get F hin0 0 rfl rfl 16 (by decide) (List.mem_of_getElem? (i := 1) rfl) (v := .ref (a 10)) rfl dX0_canServe_1 ?_
  refine xr_iload_n F dX0_canServe_4 rfl 2 rfl ?_
  refine xr_iald F 10 0 rfl rfl (b) rfl (by omega) (by decide) dX0_canServe_5 ?_
  refine xr_aload_n F dX0_canServe_6 rfl 0 rfl ?_
  refine xr_get F hin0 0 rfl rfl 2 (by decide) (List.mem_of_getElem? (i := 2) rfl) (v := .int (kFee K)) rfl dX0_canServe_7 ?_
  refine xr_icmp_ge F 15 dX0_canServe_10 (by decide) (fun c10 => ?_) (fun c10 => ?_)
  · skip
    refine xr_aload_n F dX0_canServe_15 rfl 0 rfl ?_
    refine xr_get F hin0 0 rfl rfl 3 (by decide) (List.mem_of_getElem? (i := 3) rfl) (v := .int (kDry K)) rfl dX0_canServe_16 ?_
    refine xr_if_eq F 33 dX0_canServe_19 (by decide) (fun c19 => ?_) (fun c19 => ?_)
    · skip
      refine xr_aload_n F dX0_canServe_33 rfl 0 rfl ?_
      refine xr_iload_n F dX0_canServe_34 rfl 2 rfl ?_
      refine xr_callVz F (wr := ([] : va_W)) (rest := []) (As := [.int (nI b)]) (k_X0_goesDown l D yI yZ yL a K V b (by omega)) (cwV 1 F.hts gX0_canServe_X0_goesDown rfl rfl rfl (by decide +kernel) ⟨Nat.le_of_ble_eq_true rfl, Nat.le_of_ble_eq_true rfl⟩) (q0 := 0) rfl rfl [0, 1, 2, 3, 4, 5, 6, 7, 8, 9, 10, 11] [] rfl rfl (by decide) (by decide) (by decide) rfl rfl (Nat.le_of_ble_eq_true rfl) dX0_canServe_35 ⟨Nat.le_of_ble_eq_true rfl, Nat.le_of_ble_eq_true rfl⟩ (fun r1 W1 z1 => ?_)
      obtain ⟨z0, z1⟩ := z1
      subst z0
      subst z1
      refine xr_ws (ws' := cw yI yZ a K V) rfl ?_
      refine xr_if_eq F 50 dX0_canServe_38 (by decide) (fun c38 => ?_) (fun c38 => ?_)
      · skip
        refine xr_iconst F dX0_canServe_50 (v := 1) (by decide) ?_
        refine xr_goto F 55 dX0_canServe_51 (by decide) ?_
        refine xr_istore_n F [(3, .int 1), (0, .ref (a 0)), (1, .int (nI k)), (2, .int (nI b))] dX0_canServe_55 rfl (by decide) rfl ?_
        refine xr_iload_n F dX0_canServe_56 rfl 0 rfl ?_
        refine xr_if_eq F 68 dX0_canServe_57 (by decide) (fun c57 => ?_) (fun c57 => ?_)
        · exact absurd c57 (by decide)
        · skip
          refine xr_aload_n F dX0_canServe_60 rfl 1 rfl ?_
          refine xr_iload_n F dX0_canServe_61 rfl 2 rfl ?_
          refine xr_callVz F (wr := ([] : va_W)) (rest := []) (As := [.int (nI k)]) (k_X0_canFill l D yI yZ yL a K V k (by omega)) (cwV 1 F.hts gX0_canServe_X0_canFill rfl rfl rfl (by decide +kernel) ⟨Nat.le_of_ble_eq_true rfl, Nat.le_of_ble_eq_true rfl⟩) (q0 := 0) rfl rfl [0, 1, 2, 3, 4, 5, 6, 7, 8, 9, 10, 11] [] rfl rfl (by decide) (by decide) (by decide) rfl rfl (Nat.le_of_ble_eq_true rfl) dX0_canServe_62 ⟨Nat.le_of_ble_eq_true rfl, Nat.le_of_ble_eq_true rfl⟩ (fun r1 W1 z1 => ?_)
          obtain ⟨z0, z1⟩ := z1
          subst z0
          subst z1
          refine xr_ws (ws' := cw yI yZ a K V) rfl ?_
          refine xr_if_eq F 72 dX0_canServe_65 (by decide) (fun c65 => ?_) (fun c65 => ?_)
          · skip
            refine xr_iconst F dX0_canServe_72 (v := 0) (by decide) ?_
            refine ret _ _ _ _ dX0_canServe_73 rfl ⟨?_, rfl⟩
            first | rfl | (simp only [c_can, c_can2, c_need, xk_10, c10, c19, c38, c65, ↓reduceIte]; done) | (simp only [c_can, c_can2, c_need, xk_10, c10, c19, c38, c65, ↓reduceIte]; rfl)
          · skip
            refine xr_iconst F dX0_canServe_68 (v := 1) (by decide) ?_
            refine xr_goto F 73 dX0_canServe_69 (by decide) ?_
            refine ret _ _ _ _ dX0_canServe_73 rfl ⟨?_, rfl⟩
            first | rfl | (simp only [c_can, c_can2, c_need, xk_10, c10, c19, c38, c65, ↓reduceIte]; done) | (simp only [c_can, c_can2, c_need, xk_10, c10, c19, c38, c65, ↓reduceIte]; rfl)
      · skip
        refine xr_aload_n F dX0_canServe_41 rfl 0 rfl ?_
        refine xr_get F hin0 0 rfl rfl 10 (by decide) (List.mem_of_getElem? (i := 4) rfl) (v := .ref (a 5)) rfl dX0_canServe_42 ?_
        refine xr_iload_n F dX0_canServe_45 rfl 1 rfl ?_
        refine xr_zald F 5 1 rfl rfl (k) rfl (by omega) (by decide) dX0_canServe_46 ?_
        refine xr_if_ne F 54 dX0_canServe_47 (by decide) (fun c47 => ?_) (fun c47 => ?_)
        · skip
          refine xr_iconst F dX0_canServe_54 (v := 0) (by decide) ?_
          refine xr_istore_n F [(3, .int 0), (0, .ref (a 0)), (1, .int (nI k)), (2, .int (nI b))] dX0_canServe_55 rfl (by decide) rfl ?_
          refine xr_iload_n F dX0_canServe_56 rfl 0 rfl ?_
          refine xr_if_eq F 68 dX0_canServe_57 (by decide) (fun c57 => ?_) (fun c57 => ?_)
          · skip
            refine xr_iconst F dX0_canServe_68 (v := 1) (by decide) ?_
            refine xr_goto F 73 dX0_canServe_69 (by decide) ?_
            refine ret _ _ _ _ dX0_canServe_73 rfl ⟨?_, rfl⟩
            first | rfl | (simp only [c_can, c_can2, c_need, xk_10, c10, c19, c38, c47, ↓reduceIte]; done) | (simp only [c_can, c_can2, c_need, xk_10, c10, c19, c38, c47, ↓reduceIte]; rfl)
          · exact absurd (by decide) c57
        · skip
          refine xr_iconst F dX0_canServe_50 (v := 1) (by decide) ?_
          refine xr_goto F 55 dX0_canServe_51 (by decide) ?_
          refine xr_istore_n F [(3, .int 1), (0, .ref (a 0)), (1, .int (nI k)), (2, .int (nI b))] dX0_canServe_55 rfl (by decide) rfl ?_
          refine xr_iload_n F dX0_canServe_56 rfl 0 rfl ?_
          refine xr_if_eq F 68 dX0_canServe_57 (by decide) (fun c57 => ?_) (fun c57 => ?_)
          · exact absurd c57 (by decide)
          · skip
            refine xr_aload_n F dX0_canServe_60 rfl 1 rfl ?_
            refine xr_iload_n F dX0_canServe_61 rfl 2 rfl ?_
            refine xr_callVz F (wr := ([] : va_W)) (rest := []) (As := [.int (nI k)]) (k_X0_canFill l D yI yZ yL a K V k (by omega)) (cwV 1 F.hts gX0_canServe_X0_canFill rfl rfl rfl (by decide +kernel) ⟨Nat.le_of_ble_eq_true rfl, Nat.le_of_ble_eq_true rfl⟩) (q0 := 0) rfl rfl [0, 1, 2, 3, 4, 5, 6, 7, 8, 9, 10, 11] [] rfl rfl (by decide) (by decide) (by decide) rfl rfl (Nat.le_of_ble_eq_true rfl) dX0_canServe_62 ⟨Nat.le_of_ble_eq_true rfl, Nat.le_of_ble_eq_true rfl⟩ (fun r1 W1 z1 => ?_)
            obtain ⟨z0, z1⟩ := z1
            subst z0
            subst z1
            refine xr_ws (ws' := cw yI yZ a K V) rfl ?_
            refine xr_if_eq F 72 dX0_canServe_65 (by decide) (fun c65 => ?_) (fun c65 => ?_)
            · skip
              refine xr_iconst F dX0_canServe_72 (v := 0) (by decide) ?_
              refine ret _ _ _ _ dX0_canServe_73 rfl ⟨?_, rfl⟩
              first | rfl | (simp only [c_can, c_can2, c_need, xk_10, c10, c19, c38, c47, c65, ↓reduceIte]; done) | (simp only [c_can, c_can2, c_need, xk_10, c10, c19, c38, c47, c65, ↓reduceIte]; rfl)
            · skip
              refine xr_iconst F dX0_canServe_68 (v := 1) (by decide) ?_
              refine xr_goto F 73 dX0_canServe_69 (by decide) ?_
              refine ret _ _ _ _ dX0_canServe_73 rfl ⟨?_, rfl⟩
              first | rfl | (simp only [c_can, c_can2, c_need, xk_10, c10, c19, c38, c47, c65, ↓reduceIte]; done) | (simp only [c_can, c_can2, c_need, xk_10, c10, c19, c38, c47, c65, ↓reduceIte]; rfl)
    · skip
      refine xr_aload_n F dX0_canServe_22 rfl 0 rfl ?_
      refine xr_iload_n F dX0_canServe_23 rfl 1 rfl ?_
      refine xr_iload_n F dX0_canServe_24 rfl 2 rfl ?_
      refine xr_callVz F (wr := ([] : va_W)) (rest := []) (As := [.int (nI k), .int (nI b)]) (k_X0_fits l D yI yZ yL a K V k b (by omega) (by omega)) (cwV 2 F.hts gX0_canServe_X0_fits rfl rfl rfl (by decide +kernel) ⟨Nat.le_of_ble_eq_true rfl, Nat.le_of_ble_eq_true rfl⟩) (q0 := 0) rfl rfl [0, 1, 2, 3, 4, 5, 6, 7, 8, 9, 10, 11] [] rfl rfl (by decide) (by decide) (by decide) rfl rfl (Nat.le_of_ble_eq_true rfl) dX0_canServe_25 ⟨Nat.le_of_ble_eq_true rfl, Nat.le_of_ble_eq_true rfl⟩ (fun r1 W1 z1 => ?_)
      obtain ⟨z0, z1⟩ := z1
      subst z0
      subst z1
      refine xr_ws (ws' := cw yI yZ a K V) rfl ?_
      refine xr_if_ne F 33 dX0_canServe_28 (by decide) (fun c28 => ?_) (fun c28 => ?_)
      · skip
        refine xr_aload_n F dX0_canServe_33 rfl 0 rfl ?_
        refine xr_iload_n F dX0_canServe_34 rfl 2 rfl ?_
        refine xr_callVz F (wr := ([] : va_W)) (rest := []) (As := [.int (nI b)]) (k_X0_goesDown l D yI yZ yL a K V b (by omega)) (cwV 1 F.hts gX0_canServe_X0_goesDown rfl rfl rfl (by decide +kernel) ⟨Nat.le_of_ble_eq_true rfl, Nat.le_of_ble_eq_true rfl⟩) (q0 := 0) rfl rfl [0, 1, 2, 3, 4, 5, 6, 7, 8, 9, 10, 11] [] rfl rfl (by decide) (by decide) (by decide) rfl rfl (Nat.le_of_ble_eq_true rfl) dX0_canServe_35 ⟨Nat.le_of_ble_eq_true rfl, Nat.le_of_ble_eq_true rfl⟩ (fun r1 W1 z1 => ?_)
        obtain ⟨z0, z1⟩ := z1
        subst z0
        subst z1
        refine xr_ws (ws' := cw yI yZ a K V) rfl ?_
        refine xr_if_eq F 50 dX0_canServe_38 (by decide) (fun c38 => ?_) (fun c38 => ?_)
        · skip
          refine xr_iconst F dX0_canServe_50 (v := 1) (by decide) ?_
          refine xr_goto F 55 dX0_canServe_51 (by decide) ?_
          refine xr_istore_n F [(3, .int 1), (0, .ref (a 0)), (1, .int (nI k)), (2, .int (nI b))] dX0_canServe_55 rfl (by decide) rfl ?_
          refine xr_iload_n F dX0_canServe_56 rfl 0 rfl ?_
          refine xr_if_eq F 68 dX0_canServe_57 (by decide) (fun c57 => ?_) (fun c57 => ?_)
          · exact absurd c57 (by decide)
          · skip
            refine xr_aload_n F dX0_canServe_60 rfl 1 rfl ?_
            refine xr_iload_n F dX0_canServe_61 rfl 2 rfl ?_
            refine xr_callVz F (wr := ([] : va_W)) (rest := []) (As := [.int (nI k)]) (k_X0_canFill l D yI yZ yL a K V k (by omega)) (cwV 1 F.hts gX0_canServe_X0_canFill rfl rfl rfl (by decide +kernel) ⟨Nat.le_of_ble_eq_true rfl, Nat.le_of_ble_eq_true rfl⟩) (q0 := 0) rfl rfl [0, 1, 2, 3, 4, 5, 6, 7, 8, 9, 10, 11] [] rfl rfl (by decide) (by decide) (by decide) rfl rfl (Nat.le_of_ble_eq_true rfl) dX0_canServe_62 ⟨Nat.le_of_ble_eq_true rfl, Nat.le_of_ble_eq_true rfl⟩ (fun r1 W1 z1 => ?_)
            obtain ⟨z0, z1⟩ := z1
            subst z0
            subst z1
            refine xr_ws (ws' := cw yI yZ a K V) rfl ?_
            refine xr_if_eq F 72 dX0_canServe_65 (by decide) (fun c65 => ?_) (fun c65 => ?_)
            · skip
              refine xr_iconst F dX0_canServe_72 (v := 0) (by decide) ?_
              refine ret _ _ _ _ dX0_canServe_73 rfl ⟨?_, rfl⟩
              first | rfl | (simp only [c_can, c_can2, c_need, xk_10, c10, c19, c28, c38, c65, ↓reduceIte]; done) | (simp only [c_can, c_can2, c_need, xk_10, c10, c19, c28, c38, c65, ↓reduceIte]; rfl)
            · skip
              refine xr_iconst F dX0_canServe_68 (v := 1) (by decide) ?_
              refine xr_goto F 73 dX0_canServe_69 (by decide) ?_
              refine ret _ _ _ _ dX0_canServe_73 rfl ⟨?_, rfl⟩
              first | rfl | (simp only [c_can, c_can2, c_need, xk_10, c10, c19, c28, c38, c65, ↓reduceIte]; done) | (simp only [c_can, c_can2, c_need, xk_10, c10, c19, c28, c38, c65, ↓reduceIte]; rfl)
        · skip
          refine xr_aload_n F dX0_canServe_41 rfl 0 rfl ?_
          refine xr_get F hin0 0 rfl rfl 10 (by decide) (List.mem_of_getElem? (i := 4) rfl) (v := .ref (a 5)) rfl dX0_canServe_42 ?_
          refine xr_iload_n F dX0_canServe_45 rfl 1 rfl ?_
          refine xr_zald F 5 1 rfl rfl (k) rfl (by omega) (by decide) dX0_canServe_46 ?_
          refine xr_if_ne F 54 dX0_canServe_47 (by decide) (fun c47 => ?_) (fun c47 => ?_)
          · skip
            refine xr_iconst F dX0_canServe_54 (v := 0) (by decide) ?_
            refine xr_istore_n F [(3, .int 0), (0, .ref (a 0)), (1, .int (nI k)), (2, .int (nI b))] dX0_canServe_55 rfl (by decide) rfl ?_
            refine xr_iload_n F dX0_canServe_56 rfl 0 rfl ?_
            refine xr_if_eq F 68 dX0_canServe_57 (by decide) (fun c57 => ?_) (fun c57 => ?_)
            · skip
              refine xr_iconst F dX0_canServe_68 (v := 1) (by decide) ?_
              refine xr_goto F 73 dX0_canServe_69 (by decide) ?_
              refine ret _ _ _ _ dX0_canServe_73 rfl ⟨?_, rfl⟩
              first | rfl | (simp only [c_can, c_can2, c_need, xk_10, c10, c19, c28, c38, c47, ↓reduceIte]; done) | (simp only [c_can, c_can2, c_need, xk_10, c10, c19, c28, c38, c47, ↓reduceIte]; rfl)
            · exact absurd (by decide) c57
          · skip
            refine xr_iconst F dX0_canServe_50 (v := 1) (by decide) ?_
            refine xr_goto F 55 dX0_canServe_51 (by decide) ?_
            refine xr_istore_n F [(3, .int 1), (0, .ref (a 0)), (1, .int (nI k)), (2, .int (nI b))] dX0_canServe_55 rfl (by decide) rfl ?_
            refine xr_iload_n F dX0_canServe_56 rfl 0 rfl ?_
            refine xr_if_eq F 68 dX0_canServe_57 (by decide) (fun c57 => ?_) (fun c57 => ?_)
            · exact absurd c57 (by decide)
            · skip
              refine xr_aload_n F dX0_canServe_60 rfl 1 rfl ?_
              refine xr_iload_n F dX0_canServe_61 rfl 2 rfl ?_
              refine xr_callVz F (wr := ([] : va_W)) (rest := []) (As := [.int (nI k)]) (k_X0_canFill l D yI yZ yL a K V k (by omega)) (cwV 1 F.hts gX0_canServe_X0_canFill rfl rfl rfl (by decide +kernel) ⟨Nat.le_of_ble_eq_true rfl, Nat.le_of_ble_eq_true rfl⟩) (q0 := 0) rfl rfl [0, 1, 2, 3, 4, 5, 6, 7, 8, 9, 10, 11] [] rfl rfl (by decide) (by decide) (by decide) rfl rfl (Nat.le_of_ble_eq_true rfl) dX0_canServe_62 ⟨Nat.le_of_ble_eq_true rfl, Nat.le_of_ble_eq_true rfl⟩ (fun r1 W1 z1 => ?_)
              obtain ⟨z0, z1⟩ := z1
              subst z0
              subst z1
              refine xr_ws (ws' := cw yI yZ a K V) rfl ?_
              refine xr_if_eq F 72 dX0_canServe_65 (by decide) (fun c65 => ?_) (fun c65 => ?_)
              · skip
                refine xr_iconst F dX0_canServe_72 (v := 0) (by decide) ?_
                refine ret _ _ _ _ dX0_canServe_73 rfl ⟨?_, rfl⟩
                first | rfl | (simp only [c_can, c_can2, c_need, xk_10, c10, c19, c28, c38, c47, c65, ↓reduceIte]; done) | (simp only [c_can, c_can2, c_need, xk_10, c10, c19, c28, c38, c47, c65, ↓reduceIte]; rfl)
              · skip
                refine xr_iconst F dX0_canServe_68 (v := 1) (by decide) ?_
                refine xr_goto F 73 dX0_canServe_69 (by decide) ?_
                refine ret _ _ _ _ dX0_canServe_73 rfl ⟨?_, rfl⟩
                first | rfl | (simp only [c_can, c_can2, c_need, xk_10, c10, c19, c28, c38, c47, c65, ↓reduceIte]; done) | (simp only [c_can, c_can2, c_need, xk_10, c10, c19, c28, c38, c47, c65, ↓reduceIte]; rfl)
      · skip
        refine xr_iconst F dX0_canServe_31 (v := 0) (by decide) ?_
        refine ret _ _ _ _ dX0_canServe_32 rfl ⟨?_, rfl⟩
        first | rfl | (simp only [c_can, c_can2, c_need, xk_10, c10, c19, c28, ↓reduceIte]; done) | (simp only [c_can, c_can2, c_need, xk_10, c10, c19, c28, ↓reduceIte]; rfl)
  · skip
    refine xr_iconst F dX0_canServe_13 (v := 0) (by decide) ?_
    refine ret _ _ _ _ dX0_canServe_14 rfl ⟨?_, rfl⟩
    first | rfl | (simp only [c_can, c_can2, c_need, xk_10, c10, ↓reduceIte]; done) | (simp only [c_can, c_can2, c_need, xk_10, c10, ↓reduceIte]; rfl)
