def rm_X3_lockOf : Room := { frames := 0, cells := 0, slots := 0, locals := 0 }
set_option maxHeartbeats 4000000 in
set_option maxRecDepth 100000 in
/-- lockOf -/
theorem k_X3_lockOf (l : Launch) (D : va_G) (yI yZ yL : ClassId) (g u t o : Nat → Nat) (th : Int32) (K : CK) (aw : Int32) (wh : Nat → Int32) (V : CD) (b : Nat) (h0 : b < 10) : xMi l yX3_lockOf wsX3_lockOf rm_X3_lockOf D (tysG yI yZ yL) ((mw yI g u t th K) ++ (sw yI o (kMark K) aw wh V)) [.ref (g 0), .ref (o 0), .int (nI b)] 0 0 (fun (r : Int32) (W1 : va_W) => r = m_lockOf K V b ∧ W1 = (mw yI g u t th K) ++ (sw yI o (kMark K) aw wh V)) := by
  refine xE_i (cc := cX3_lockOf) (nL := 3) (by decide) rfl (Nat.le_of_ble_eq_true rfl) ?_
  intro p e s m args below meth c A Q F hnm ret
  have hin2 : ∀ w ∈ u_ws RX2 TX2 14, w ∈ wsX3_lockOf := by decide +kernel
  have hin3 : ∀ w ∈ u_ws RX3 TX3 9, w ∈ wsX3_lockOf := by decide +kernel
  show AW p l e rm_X3_lockOf s m args below meth c 3 D A 0 0 Q ((mw yI g u t th K) ++ (sw yI o (kMark K) aw wh V)) [(0, .ref (g 0)), (1, .ref (o 0)), (2, .int (nI b))] 0 []
  refine xr_aload_n F dX3_lockOf_0 rfl 0 rfl ?_
  refine xr_get F hin3 0 rfl rfl 2 (by decide) (List.mem_of_getElem? (i := 1) rfl) (v := .ref (g 1)) rfl dX3_lockOf_1 ?_
  refine xr_iload_n F dX3_lockOf_4 rfl 2 rfl ?_
  refine xr_iald F 1 0 rfl rfl (b) rfl (by omega) (by decide) dX3_lockOf_5 ?_
  refine xr_aload_n F dX3_lockOf_6 rfl 1 rfl ?_
  refine xr_getN F hin2 3 rfl rfl 10 (by decide) (List.mem_of_getElem? (i := 10) rfl) (v := .ref (o 7)) rfl dX3_lockOf_7 ?_
  refine xr_iload_n F dX3_lockOf_10 rfl 2 rfl ?_
  refine xr_iald F 10 0 rfl rfl (b) rfl (by omega) (by decide) dX3_lockOf_11 ?_
  refine xr_icmp_ge F 26 dX3_lockOf_12 (by decide) (fun c12 => ?_) (fun c12 => ?_)
  · skip
    refine xr_aload_n F dX3_lockOf_26 rfl 0 rfl ?_
    refine xr_get F hin3 0 rfl rfl 2 (by decide) (List.mem_of_getElem? (i := 1) rfl) (v := .ref (g 1)) rfl dX3_lockOf_27 ?_
    refine xr_iload_n F dX3_lockOf_30 rfl 2 rfl ?_
    refine xr_iald F 1 0 rfl rfl (b) rfl (by omega) (by decide) dX3_lockOf_31 ?_
    refine xr_aload_n F dX3_lockOf_32 rfl 1 rfl ?_
    refine xr_getN F hin2 3 rfl rfl 10 (by decide) (List.mem_of_getElem? (i := 10) rfl) (v := .ref (o 7)) rfl dX3_lockOf_33 ?_
    refine xr_iload_n F dX3_lockOf_36 rfl 2 rfl ?_
    refine xr_iald F 10 0 rfl rfl (b) rfl (by omega) (by decide) dX3_lockOf_37 ?_
    refine xr_icmp_le F 50 dX3_lockOf_38 (by decide) (fun c38 => ?_) (fun c38 => ?_)
    · skip
      refine xr_iconst F dX3_lockOf_50 (v := (-1)) (by decide) ?_
      refine ret _ _ _ _ dX3_lockOf_51 ⟨?_, rfl⟩
      first | with_reducible rfl | (simp only [m_lockOf, c12, c38, ↓reduceIte]; done) | (simp only [m_lockOf, c12, c38, ↓reduceIte]; rfl) | rfl
    · skip
      refine xr_aload_n F dX3_lockOf_41 rfl 1 rfl ?_
      refine xr_getN F hin2 3 rfl rfl 10 (by decide) (List.mem_of_getElem? (i := 10) rfl) (v := .ref (o 7)) rfl dX3_lockOf_42 ?_
      refine xr_iload_n F dX3_lockOf_45 rfl 2 rfl ?_
      refine xr_iald F 10 0 rfl rfl (b) rfl (by omega) (by decide) dX3_lockOf_46 ?_
      refine xr_goto F 51 dX3_lockOf_47 (by decide) ?_
      refine ret _ _ _ _ dX3_lockOf_51 ⟨?_, rfl⟩
      first | with_reducible rfl | (simp only [m_lockOf, c12, c38, ↓reduceIte]; done) | (simp only [m_lockOf, c12, c38, ↓reduceIte]; rfl) | rfl
  · skip
    refine xr_aload_n F dX3_lockOf_15 rfl 1 rfl ?_
    refine xr_getN F hin2 3 rfl rfl 10 (by decide) (List.mem_of_getElem? (i := 10) rfl) (v := .ref (o 7)) rfl dX3_lockOf_16 ?_
    refine xr_iload_n F dX3_lockOf_19 rfl 2 rfl ?_
    refine xr_iald F 10 0 rfl rfl (b) rfl (by omega) (by decide) dX3_lockOf_20 ?_
    refine xr_iconst F dX3_lockOf_21 (v := 1) (by decide) ?_
    refine xr_isub F (((dAt V) b) - 1) dX3_lockOf_22 rfl ?_
    refine xr_goto F 51 dX3_lockOf_23 (by decide) ?_
    refine ret _ _ _ _ dX3_lockOf_51 ⟨?_, rfl⟩
    first | with_reducible rfl | (simp only [m_lockOf, c12, ↓reduceIte]; done) | (simp only [m_lockOf, c12, ↓reduceIte]; rfl) | rfl

def rm_X3_goesDown : Room := { frames := 0, cells := 0, slots := 0, locals := 0 }
set_option maxHeartbeats 4000000 in
set_option maxRecDepth 100000 in
/-- goesDown -/
theorem k_X3_goesDown (l : Launch) (D : va_G) (yI yZ yL : ClassId) (g u t o : Nat → Nat) (th : Int32) (K : CK) (aw : Int32) (wh : Nat → Int32) (V : CD) (b : Nat) (h0 : b < 10) : xMi l yX3_goesDown wsX3_goesDown rm_X3_goesDown D (tysG yI yZ yL) ((mw yI g u t th K) ++ (sw yI o (kMark K) aw wh V)) [.ref (g 0), .ref (o 0), .int (nI b)] 0 0 (fun (r : Int32) (W1 : va_W) => r = c_down K V b ∧ W1 = (mw yI g u t th K) ++ (sw yI o (kMark K) aw wh V)) := by
  refine xE_z (cc := cX3_goesDown) (nL := 3) (by decide) rfl (Nat.le_of_ble_eq_true rfl) ?_
  intro p e s m args below meth c A Q F hnm ret
  have hin2 : ∀ w ∈ u_ws RX2 TX2 14, w ∈ wsX3_goesDown := by decide +kernel
  have hin3 : ∀ w ∈ u_ws RX3 TX3 9, w ∈ wsX3_goesDown := by decide +kernel
  show AW p l e rm_X3_goesDown s m args below meth c 3 D A 0 0 Q ((mw yI g u t th K) ++ (sw yI o (kMark K) aw wh V)) [(0, .ref (g 0)), (1, .ref (o 0)), (2, .int (nI b))] 0 []
  refine xr_aload_n F dX3_goesDown_0 rfl 0 rfl ?_
  refine xr_get F hin3 0 rfl rfl 2 (by decide) (List.mem_of_getElem? (i := 1) rfl) (v := .ref (g 1)) rfl dX3_goesDown_1 ?_
  refine xr_iload_n F dX3_goesDown_4 rfl 2 rfl ?_
  refine xr_iald F 1 0 rfl rfl (b) rfl (by omega) (by decide) dX3_goesDown_5 ?_
  refine xr_aload_n F dX3_goesDown_6 rfl 1 rfl ?_
  refine xr_getN F hin2 3 rfl rfl 10 (by decide) (List.mem_of_getElem? (i := 10) rfl) (v := .ref (o 7)) rfl dX3_goesDown_7 ?_
  refine xr_iload_n F dX3_goesDown_10 rfl 2 rfl ?_
  refine xr_iald F 10 0 rfl rfl (b) rfl (by omega) (by decide) dX3_goesDown_11 ?_
  refine xr_icmp_ge F 19 dX3_goesDown_12 (by decide) (fun c12 => ?_) (fun c12 => ?_)
  · skip
    refine xr_iconst F dX3_goesDown_19 (v := 0) (by decide) ?_
    refine ret _ _ _ _ dX3_goesDown_20 rfl ⟨?_, rfl⟩
    first | with_reducible rfl | (simp only [c_down, c12, ↓reduceIte]; done) | (simp only [c_down, c12, ↓reduceIte]; rfl) | rfl
  · skip
    refine xr_iconst F dX3_goesDown_15 (v := 1) (by decide) ?_
    refine xr_goto F 20 dX3_goesDown_16 (by decide) ?_
    refine ret _ _ _ _ dX3_goesDown_20 rfl ⟨?_, rfl⟩
    first | with_reducible rfl | (simp only [c_down, c12, ↓reduceIte]; done) | (simp only [c_down, c12, ↓reduceIte]; rfl) | rfl

def rm_X3_isWaiting : Room := { frames := 1, cells := 0, slots := 0, locals := 22 }
set_option maxHeartbeats 4000000 in
set_option maxRecDepth 100000 in
/-- isWaiting -/
theorem k_X3_isWaiting (l : Launch) (D : va_G) (yI yZ yL : ClassId) (g u t o : Nat → Nat) (th : Int32) (K : CK) (aw : Int32) (wh : Nat → Int32) (V : CD) (b : Nat) (k : Nat) (h0 : b < 10) : xMi l yX3_isWaiting wsX3_isWaiting rm_X3_isWaiting D (tysG yI yZ yL) ((mw yI g u t th K) ++ (sw yI o (kMark K) aw wh V)) [.ref (g 0), .ref (o 0), .int (nI b), .int (nI k)] 0 0 (fun (r : Int32) (W1 : va_W) => r = m_wait K V wh k b ∧ W1 = (mw yI g u t th K) ++ (sw yI o (kMark K) aw wh V)) := by
  refine xE_z (cc := cX3_isWaiting) (nL := 4) (by decide) rfl (Nat.le_of_ble_eq_true rfl) ?_
  intro p e s m args below meth c A Q F hnm ret
  have hin2 : ∀ w ∈ u_ws RX2 TX2 14, w ∈ wsX3_isWaiting := by decide +kernel
  show AW p l e rm_X3_isWaiting s m args below meth c 4 D A 0 0 Q ((mw yI g u t th K) ++ (sw yI o (kMark K) aw wh V)) [(0, .ref (g 0)), (1, .ref (o 0)), (2, .int (nI b)), (3, .int (nI k))] 0 []
  refine xr_aload_n F dX3_isWaiting_0 rfl 0 rfl ?_
  refine xr_aload_n F dX3_isWaiting_1 rfl 1 rfl ?_
  refine xr_iload_n F dX3_isWaiting_2 rfl 2 rfl ?_
  refine xr_callVi F (wr := ([] : va_W)) (rest := []) (As := [.ref (o 0), .int (nI b)]) (k_X3_lockOf l D yI yZ yL g u t o th K aw wh V b (by omega)) (cwV 2 F.hts gX3_isWaiting_X3_lockOf rfl rfl rfl (by decide +kernel) ⟨Nat.le_of_ble_eq_true rfl, Nat.le_of_ble_eq_true rfl⟩) (q0 := 0) rfl rfl [0, 1, 2, 3, 4, 5, 6, 7, 8, 9, 10, 11, 12, 13] [] rfl rfl (by decide) (by decide) (by decide) rfl rfl (Nat.le_of_ble_eq_true rfl) dX3_isWaiting_3 ⟨Nat.le_of_ble_eq_true rfl, Nat.le_of_ble_eq_true rfl⟩ (fun r1 W1 z1 => ?_)
  obtain ⟨z0, z1⟩ := z1
  subst z0
  subst z1
  refine xr_ws (ws' := (mw yI g u t th K) ++ (sw yI o (kMark K) aw wh V)) rfl ?_
  refine xr_iload_n F dX3_isWaiting_6 rfl 3 rfl ?_
  refine xr_icmp_ne F 27 dX3_isWaiting_7 (by decide) (fun c7 => ?_) (fun c7 => ?_)
  · skip
    refine xr_iconst F dX3_isWaiting_27 (v := 0) (by decide) ?_
    refine ret _ _ _ _ dX3_isWaiting_28 rfl ⟨?_, rfl⟩
    first | with_reducible rfl | (simp only [m_wait, c7, ↓reduceIte]; done) | (simp only [m_wait, c7, ↓reduceIte]; rfl) | rfl
  · skip
    refine xr_aload_n F dX3_isWaiting_10 rfl 1 rfl ?_
    refine xr_getN F hin2 3 rfl rfl 13 (by decide) (List.mem_of_getElem? (i := 13) rfl) (v := .ref (o 10)) rfl dX3_isWaiting_11 ?_
    refine xr_iload_n F dX3_isWaiting_14 rfl 2 rfl ?_
    refine xr_iald F 13 0 rfl rfl (b) rfl (by omega) (by decide) dX3_isWaiting_15 ?_
    refine xr_aload_n F dX3_isWaiting_16 rfl 1 rfl ?_
    refine xr_getN F hin2 3 rfl rfl 0 (by decide) (List.mem_of_getElem? (i := 0) rfl) (v := .int (nI (dHour V))) rfl dX3_isWaiting_17 ?_
    refine xr_icmp_eq F 27 dX3_isWaiting_20 (by decide) (fun c20 => ?_) (fun c20 => ?_)
    · skip
      refine xr_iconst F dX3_isWaiting_27 (v := 0) (by decide) ?_
      refine ret _ _ _ _ dX3_isWaiting_28 rfl ⟨?_, rfl⟩
      first | with_reducible rfl | (simp only [m_wait, c7, c20, ↓reduceIte]; done) | (simp only [m_wait, c7, c20, ↓reduceIte]; rfl) | rfl
    · skip
      refine xr_iconst F dX3_isWaiting_23 (v := 1) (by decide) ?_
      refine xr_goto F 28 dX3_isWaiting_24 (by decide) ?_
      refine ret _ _ _ _ dX3_isWaiting_28 rfl ⟨?_, rfl⟩
      first | with_reducible rfl | (simp only [m_wait, c7, c20, ↓reduceIte]; done) | (simp only [m_wait, c7, c20, ↓reduceIte]; rfl) | rfl

def rm_X3_fits : Room := { frames := 1, cells := 0, slots := 0, locals := 22 }
set_option maxHeartbeats 4000000 in
set_option maxRecDepth 100000 in
/-- fits -/
theorem k_X3_fits (l : Launch) (D : va_G) (yI yZ yL : ClassId) (g u t o : Nat → Nat) (th : Int32) (K : CK) (aw : Int32) (wh : Nat → Int32) (V : CD) (b : Nat) (k : Nat) (h0 : b < 10) (h1 : k < 5) : xMi l yX3_fits wsX3_fits rm_X3_fits D (tysG yI yZ yL) ((mw yI g u t th K) ++ (sw yI o (kMark K) aw wh V)) [.ref (g 0), .ref (o 0), .int (nI b), .int (nI k)] 0 0 (fun (r : Int32) (W1 : va_W) => r = m_fits K V k b ∧ W1 = (mw yI g u t th K) ++ (sw yI o (kMark K) aw wh V)) := by
  refine xE_z (cc := cX3_fits) (nL := 4) (by decide) rfl (Nat.le_of_ble_eq_true rfl) ?_
  intro p e s m args below meth c A Q F hnm ret
  have hin2 : ∀ w ∈ u_ws RX2 TX2 14, w ∈ wsX3_fits := by decide +kernel
  show AW p l e rm_X3_fits s m args below meth c 4 D A 0 0 Q ((mw yI g u t th K) ++ (sw yI o (kMark K) aw wh V)) [(0, .ref (g 0)), (1, .ref (o 0)), (2, .int (nI b)), (3, .int (nI k))] 0 []
  refine xr_aload_n F dX3_fits_0 rfl 0 rfl ?_
  refine xr_aload_n F dX3_fits_1 rfl 1 rfl ?_
  refine xr_iload_n F dX3_fits_2 rfl 2 rfl ?_
  refine xr_callVz F (wr := ([] : va_W)) (rest := []) (As := [.ref (o 0), .int (nI b)]) (k_X3_goesDown l D yI yZ yL g u t o th K aw wh V b (by omega)) (cwV 2 F.hts gX3_fits_X3_goesDown rfl rfl rfl (by decide +kernel) ⟨Nat.le_of_ble_eq_true rfl, Nat.le_of_ble_eq_true rfl⟩) (q0 := 0) rfl rfl [0, 1, 2, 3, 4, 5, 6, 7, 8, 9, 10, 11, 12, 13] [] rfl rfl (by decide) (by decide) (by decide) rfl rfl (Nat.le_of_ble_eq_true rfl) dX3_fits_3 ⟨Nat.le_of_ble_eq_true rfl, Nat.le_of_ble_eq_true rfl⟩ (fun r1 W1 z1 => ?_)
  obtain ⟨z0, z1⟩ := z1
  subst z0
  subst z1
  refine xr_ws (ws' := (mw yI g u t th K) ++ (sw yI o (kMark K) aw wh V)) rfl ?_
  refine xr_aload_n F dX3_fits_6 rfl 1 rfl ?_
  refine xr_getN F hin2 3 rfl rfl 7 (by decide) (List.mem_of_getElem? (i := 7) rfl) (v := .ref (o 4)) rfl dX3_fits_7 ?_
  refine xr_iload_n F dX3_fits_10 rfl 3 rfl ?_
  refine xr_iald F 7 0 rfl rfl (k) rfl (by omega) (by decide) dX3_fits_11 ?_
  refine xr_iconst F dX3_fits_12 (v := 1) (by decide) ?_
  refine xr_icmp_ne F 20 dX3_fits_13 (by decide) (fun c13 => ?_) (fun c13 => ?_)
  · skip
    refine xr_iconst F dX3_fits_20 (v := 0) (by decide) ?_
    refine xr_icmp_ne F 28 dX3_fits_21 (by decide) (fun c21 => ?_) (fun c21 => ?_)
    · skip
      refine xr_iconst F dX3_fits_28 (v := 0) (by decide) ?_
      refine ret _ _ _ _ dX3_fits_29 rfl ⟨?_, rfl⟩
      first | with_reducible rfl | (simp only [m_fits, c13, c21, ↓reduceIte]; done) | (simp only [m_fits, c13, c21, ↓reduceIte]; rfl) | rfl
    · skip
      refine xr_iconst F dX3_fits_24 (v := 1) (by decide) ?_
      refine xr_goto F 29 dX3_fits_25 (by decide) ?_
      refine ret _ _ _ _ dX3_fits_29 rfl ⟨?_, rfl⟩
      first | with_reducible rfl | (simp only [m_fits, c13, c21, ↓reduceIte]; done) | (simp only [m_fits, c13, c21, ↓reduceIte]; rfl) | rfl
  · skip
    refine xr_iconst F dX3_fits_16 (v := 1) (by decide) ?_
    refine xr_goto F 21 dX3_fits_17 (by decide) ?_
    refine xr_icmp_ne F 28 dX3_fits_21 (by decide) (fun c21 => ?_) (fun c21 => ?_)
    · skip
      refine xr_iconst F dX3_fits_28 (v := 0) (by decide) ?_
      refine ret _ _ _ _ dX3_fits_29 rfl ⟨?_, rfl⟩
      first | with_reducible rfl | (simp only [m_fits, c13, c21, ↓reduceIte]; done) | (simp only [m_fits, c13, c21, ↓reduceIte]; rfl) | rfl
    · skip
      refine xr_iconst F dX3_fits_24 (v := 1) (by decide) ?_
      refine xr_goto F 29 dX3_fits_25 (by decide) ?_
      refine ret _ _ _ _ dX3_fits_29 rfl ⟨?_, rfl⟩
      first | with_reducible rfl | (simp only [m_fits, c13, c21, ↓reduceIte]; done) | (simp only [m_fits, c13, c21, ↓reduceIte]; rfl) | rfl

def rm_X3_canServe : Room := { frames := 2, cells := 0, slots := 0, locals := 45 }
set_option maxHeartbeats 4000000 in
set_option maxRecDepth 100000 in
/-- canServe -/
theorem k_X3_canServe (l : Launch) (D : va_G) (yI yZ yL : ClassId) (g u t o : Nat → Nat) (th : Int32) (K : CK) (aw : Int32) (wh : Nat → Int32) (V : CD) (b : Nat) (k : Nat) (h0 : b < 10) (h1 : k < 5) : xMi l yX3_canServe wsX3_canServe rm_X3_canServe D (tysG yI yZ yL) ((mw yI g u t th K) ++ (sw yI o (kMark K) aw wh V)) [.ref (g 0), .ref (o 0), .int (nI b), .int (nI k)] 0 0 (fun (r : Int32) (W1 : va_W) => r = m_can K V k b ∧ W1 = (mw yI g u t th K) ++ (sw yI o (kMark K) aw wh V)) := by
  refine xE_z (cc := cX3_canServe) (nL := 4) (by decide) rfl (Nat.le_of_ble_eq_true rfl) ?_
  intro p e s m args below meth c A Q F hnm ret
  have hin2 : ∀ w ∈ u_ws RX2 TX2 14, w ∈ wsX3_canServe := by decide +kernel
  have hin3 : ∀ w ∈ u_ws RX3 TX3 9, w ∈ wsX3_canServe := by decide +kernel
  show AW p l e rm_X3_canServe s m args below meth c 4 D A 0 0 Q ((mw yI g u t th K) ++ (sw yI o (kMark K) aw wh V)) [(0, .ref (g 0)), (1, .ref (o 0)), (2, .int (nI b)), (3, .int (nI k))] 0 []
  refine xr_aload_n F dX3_canServe_0 rfl 1 rfl ?_
  refine xr_getN F hin2 3 rfl rfl 11 (by decide) (List.mem_of_getElem? (i := 11) rfl) (v := .ref (o 8)) rfl dX3_canServe_1 ?_
  refine xr_iload_n F dX3_canServe_4 rfl 2 rfl ?_
  refine xr_iald F 11 0 rfl rfl (b) rfl (by omega) (by decide) dX3_canServe_5 ?_
  refine xr_aload_n F dX3_canServe_6 rfl 0 rfl ?_
  refine xr_get F hin3 0 rfl rfl 6 (by decide) (List.mem_of_getElem? (i := 1) rfl) (v := .int (kFee K)) rfl dX3_canServe_7 ?_
  refine xr_icmp_lt F 30 dX3_canServe_10 (by decide) (fun c10 => ?_) (fun c10 => ?_)
  · skip
    refine xr_iconst F dX3_canServe_30 (v := 0) (by decide) ?_
    refine ret _ _ _ _ dX3_canServe_31 rfl ⟨?_, rfl⟩
    first | with_reducible rfl | (simp only [m_can, m_can2, c10, ↓reduceIte]; done) | (simp only [m_can, m_can2, c10, ↓reduceIte]; rfl) | rfl
  · skip
    refine xr_aload_n F dX3_canServe_13 rfl 0 rfl ?_
    refine xr_get F hin3 0 rfl rfl 5 (by decide) (List.mem_of_getElem? (i := 2) rfl) (v := .int (kDry K)) rfl dX3_canServe_14 ?_
    refine xr_if_eq F 32 dX3_canServe_17 (by decide) (fun c17 => ?_) (fun c17 => ?_)
    · skip
      refine xr_aload_n F dX3_canServe_32 rfl 0 rfl ?_
      refine xr_aload_n F dX3_canServe_33 rfl 1 rfl ?_
      refine xr_iload_n F dX3_canServe_34 rfl 2 rfl ?_
      refine xr_callVz F (wr := ([] : va_W)) (rest := []) (As := [.ref (o 0), .int (nI b)]) (k_X3_goesDown l D yI yZ yL g u t o th K aw wh V b (by omega)) (cwV 2 F.hts gX3_canServe_X3_goesDown rfl rfl rfl (by decide +kernel) ⟨Nat.le_of_ble_eq_true rfl, Nat.le_of_ble_eq_true rfl⟩) (q0 := 0) rfl rfl [0, 1, 2, 3, 4, 5, 6, 7, 8, 9, 10, 11, 12, 13] [] rfl rfl (by decide) (by decide) (by decide) rfl rfl (Nat.le_of_ble_eq_true rfl) dX3_canServe_35 ⟨Nat.le_of_ble_eq_true rfl, Nat.le_of_ble_eq_true rfl⟩ (fun r1 W1 z1 => ?_)
      obtain ⟨z0, z1⟩ := z1
      subst z0
      subst z1
      refine xr_ws (ws' := (mw yI g u t th K) ++ (sw yI o (kMark K) aw wh V)) rfl ?_
      refine xr_if_eq F 51 dX3_canServe_38 (by decide) (fun c38 => ?_) (fun c38 => ?_)
      · skip
        refine xr_aload_n F dX3_canServe_51 rfl 1 rfl ?_
        refine xr_iload_n F dX3_canServe_52 rfl 3 rfl ?_
        refine xr_callVz F (wr := mw yI g u t th K) (rest := []) (As := [.int (nI k)]) (k_X2_canFill l D yI yZ yL o (kMark K) aw wh V k (by omega)) (cwV 1 F.hts gX3_canServe_X2_canFill rfl rfl rfl (by decide +kernel) ⟨Nat.le_of_ble_eq_true rfl, Nat.le_of_ble_eq_true rfl⟩) (q0 := 0) rfl rfl [3, 4, 5, 6, 7, 8, 9, 10, 11, 12, 13] [0, 1, 2] rfl rfl (by decide) (by decide) (by decide) rfl rfl (Nat.le_of_ble_eq_true rfl) dX3_canServe_53 ⟨Nat.le_of_ble_eq_true rfl, Nat.le_of_ble_eq_true rfl⟩ (fun r1 W1 z1 => ?_)
        obtain ⟨z0, z1⟩ := z1
        subst z0
        subst z1
        refine xr_ws (ws' := (mw yI g u t th K) ++ (sw yI o (kMark K) aw wh V)) rfl ?_
        refine xr_if_eq F 63 dX3_canServe_56 (by decide) (fun c56 => ?_) (fun c56 => ?_)
        · skip
          refine xr_iconst F dX3_canServe_63 (v := 0) (by decide) ?_
          refine ret _ _ _ _ dX3_canServe_64 rfl ⟨?_, rfl⟩
          first | with_reducible rfl | (simp only [m_can, m_can2, c10, c17, c38, c56, ↓reduceIte]; done) | (simp only [m_can, m_can2, c10, c17, c38, c56, ↓reduceIte]; rfl) | rfl
        · skip
          refine xr_iconst F dX3_canServe_59 (v := 1) (by decide) ?_
          refine xr_goto F 64 dX3_canServe_60 (by decide) ?_
          refine ret _ _ _ _ dX3_canServe_64 rfl ⟨?_, rfl⟩
          first | with_reducible rfl | (simp only [m_can, m_can2, c10, c17, c38, c56, ↓reduceIte]; done) | (simp only [m_can, m_can2, c10, c17, c38, c56, ↓reduceIte]; rfl) | rfl
      · skip
        refine xr_aload_n F dX3_canServe_41 rfl 1 rfl ?_
        refine xr_getN F hin2 3 rfl rfl 7 (by decide) (List.mem_of_getElem? (i := 7) rfl) (v := .ref (o 4)) rfl dX3_canServe_42 ?_
        refine xr_iload_n F dX3_canServe_45 rfl 3 rfl ?_
        refine xr_iald F 7 0 rfl rfl (k) rfl (by omega) (by decide) dX3_canServe_46 ?_
        refine xr_iconst F dX3_canServe_47 (v := 1) (by decide) ?_
        refine xr_icmp_eq F 59 dX3_canServe_48 (by decide) (fun c48 => ?_) (fun c48 => ?_)
        · skip
          refine xr_iconst F dX3_canServe_59 (v := 1) (by decide) ?_
          refine xr_goto F 64 dX3_canServe_60 (by decide) ?_
          refine ret _ _ _ _ dX3_canServe_64 rfl ⟨?_, rfl⟩
          first | with_reducible rfl | (simp only [m_can, m_can2, c10, c17, c38, c48, ↓reduceIte]; done) | (simp only [m_can, m_can2, c10, c17, c38, c48, ↓reduceIte]; rfl) | rfl
        · skip
          refine xr_aload_n F dX3_canServe_51 rfl 1 rfl ?_
          refine xr_iload_n F dX3_canServe_52 rfl 3 rfl ?_
          refine xr_callVz F (wr := mw yI g u t th K) (rest := []) (As := [.int (nI k)]) (k_X2_canFill l D yI yZ yL o (kMark K) aw wh V k (by omega)) (cwV 1 F.hts gX3_canServe_X2_canFill rfl rfl rfl (by decide +kernel) ⟨Nat.le_of_ble_eq_true rfl, Nat.le_of_ble_eq_true rfl⟩) (q0 := 0) rfl rfl [3, 4, 5, 6, 7, 8, 9, 10, 11, 12, 13] [0, 1, 2] rfl rfl (by decide) (by decide) (by decide) rfl rfl (Nat.le_of_ble_eq_true rfl) dX3_canServe_53 ⟨Nat.le_of_ble_eq_true rfl, Nat.le_of_ble_eq_true rfl⟩ (fun r1 W1 z1 => ?_)
          obtain ⟨z0, z1⟩ := z1
          subst z0
          subst z1
          refine xr_ws (ws' := (mw yI g u t th K) ++ (sw yI o (kMark K) aw wh V)) rfl ?_
          refine xr_if_eq F 63 dX3_canServe_56 (by decide) (fun c56 => ?_) (fun c56 => ?_)
          · skip
            refine xr_iconst F dX3_canServe_63 (v := 0) (by decide) ?_
            refine ret _ _ _ _ dX3_canServe_64 rfl ⟨?_, rfl⟩
            first | with_reducible rfl | (simp only [m_can, m_can2, c10, c17, c38, c48, c56, ↓reduceIte]; done) | (simp only [m_can, m_can2, c10, c17, c38, c48, c56, ↓reduceIte]; rfl) | rfl
          · skip
            refine xr_iconst F dX3_canServe_59 (v := 1) (by decide) ?_
            refine xr_goto F 64 dX3_canServe_60 (by decide) ?_
            refine ret _ _ _ _ dX3_canServe_64 rfl ⟨?_, rfl⟩
            first | with_reducible rfl | (simp only [m_can, m_can2, c10, c17, c38, c48, c56, ↓reduceIte]; done) | (simp only [m_can, m_can2, c10, c17, c38, c48, c56, ↓reduceIte]; rfl) | rfl
    · skip
      refine xr_aload_n F dX3_canServe_20 rfl 0 rfl ?_
      refine xr_aload_n F dX3_canServe_21 rfl 1 rfl ?_
      refine xr_iload_n F dX3_canServe_22 rfl 2 rfl ?_
      refine xr_iload_n F dX3_canServe_23 rfl 3 rfl ?_
      refine xr_callVz F (wr := ([] : va_W)) (rest := []) (As := [.ref (o 0), .int (nI b), .int (nI k)]) (k_X3_fits l D yI yZ yL g u t o th K aw wh V b k (by omega) (by omega)) (cwV 3 F.hts gX3_canServe_X3_fits rfl rfl rfl (by decide +kernel) ⟨Nat.le_of_ble_eq_true rfl, Nat.le_of_ble_eq_true rfl⟩) (q0 := 0) rfl rfl [0, 1, 2, 3, 4, 5, 6, 7, 8, 9, 10, 11, 12, 13] [] rfl rfl (by decide) (by decide) (by decide) rfl rfl (Nat.le_of_ble_eq_true rfl) dX3_canServe_24 ⟨Nat.le_of_ble_eq_true rfl, Nat.le_of_ble_eq_true rfl⟩ (fun r1 W1 z1 => ?_)
      obtain ⟨z0, z1⟩ := z1
      subst z0
      subst z1
      refine xr_ws (ws' := (mw yI g u t th K) ++ (sw yI o (kMark K) aw wh V)) rfl ?_
      refine xr_if_ne F 32 dX3_canServe_27 (by decide) (fun c27 => ?_) (fun c27 => ?_)
      · skip
        refine xr_aload_n F dX3_canServe_32 rfl 0 rfl ?_
        refine xr_aload_n F dX3_canServe_33 rfl 1 rfl ?_
        refine xr_iload_n F dX3_canServe_34 rfl 2 rfl ?_
        refine xr_callVz F (wr := ([] : va_W)) (rest := []) (As := [.ref (o 0), .int (nI b)]) (k_X3_goesDown l D yI yZ yL g u t o th K aw wh V b (by omega)) (cwV 2 F.hts gX3_canServe_X3_goesDown rfl rfl rfl (by decide +kernel) ⟨Nat.le_of_ble_eq_true rfl, Nat.le_of_ble_eq_true rfl⟩) (q0 := 0) rfl rfl [0, 1, 2, 3, 4, 5, 6, 7, 8, 9, 10, 11, 12, 13] [] rfl rfl (by decide) (by decide) (by decide) rfl rfl (Nat.le_of_ble_eq_true rfl) dX3_canServe_35 ⟨Nat.le_of_ble_eq_true rfl, Nat.le_of_ble_eq_true rfl⟩ (fun r1 W1 z1 => ?_)
        obtain ⟨z0, z1⟩ := z1
        subst z0
        subst z1
        refine xr_ws (ws' := (mw yI g u t th K) ++ (sw yI o (kMark K) aw wh V)) rfl ?_
        refine xr_if_eq F 51 dX3_canServe_38 (by decide) (fun c38 => ?_) (fun c38 => ?_)
        · skip
          refine xr_aload_n F dX3_canServe_51 rfl 1 rfl ?_
          refine xr_iload_n F dX3_canServe_52 rfl 3 rfl ?_
          refine xr_callVz F (wr := mw yI g u t th K) (rest := []) (As := [.int (nI k)]) (k_X2_canFill l D yI yZ yL o (kMark K) aw wh V k (by omega)) (cwV 1 F.hts gX3_canServe_X2_canFill rfl rfl rfl (by decide +kernel) ⟨Nat.le_of_ble_eq_true rfl, Nat.le_of_ble_eq_true rfl⟩) (q0 := 0) rfl rfl [3, 4, 5, 6, 7, 8, 9, 10, 11, 12, 13] [0, 1, 2] rfl rfl (by decide) (by decide) (by decide) rfl rfl (Nat.le_of_ble_eq_true rfl) dX3_canServe_53 ⟨Nat.le_of_ble_eq_true rfl, Nat.le_of_ble_eq_true rfl⟩ (fun r1 W1 z1 => ?_)
          obtain ⟨z0, z1⟩ := z1
          subst z0
          subst z1
          refine xr_ws (ws' := (mw yI g u t th K) ++ (sw yI o (kMark K) aw wh V)) rfl ?_
          refine xr_if_eq F 63 dX3_canServe_56 (by decide) (fun c56 => ?_) (fun c56 => ?_)
          · skip
            refine xr_iconst F dX3_canServe_63 (v := 0) (by decide) ?_
            refine ret _ _ _ _ dX3_canServe_64 rfl ⟨?_, rfl⟩
            first | with_reducible rfl | (simp only [m_can, m_can2, c10, c17, c27, c38, c56, ↓reduceIte]; done) | (simp only [m_can, m_can2, c10, c17, c27, c38, c56, ↓reduceIte]; rfl) | rfl
          · skip
            refine xr_iconst F dX3_canServe_59 (v := 1) (by decide) ?_
            refine xr_goto F 64 dX3_canServe_60 (by decide) ?_
            refine ret _ _ _ _ dX3_canServe_64 rfl ⟨?_, rfl⟩
            first | with_reducible rfl | (simp only [m_can, m_can2, c10, c17, c27, c38, c56, ↓reduceIte]; done) | (simp only [m_can, m_can2, c10, c17, c27, c38, c56, ↓reduceIte]; rfl) | rfl
        · skip
          refine xr_aload_n F dX3_canServe_41 rfl 1 rfl ?_
          refine xr_getN F hin2 3 rfl rfl 7 (by decide) (List.mem_of_getElem? (i := 7) rfl) (v := .ref (o 4)) rfl dX3_canServe_42 ?_
          refine xr_iload_n F dX3_canServe_45 rfl 3 rfl ?_
          refine xr_iald F 7 0 rfl rfl (k) rfl (by omega) (by decide) dX3_canServe_46 ?_
          refine xr_iconst F dX3_canServe_47 (v := 1) (by decide) ?_
          refine xr_icmp_eq F 59 dX3_canServe_48 (by decide) (fun c48 => ?_) (fun c48 => ?_)
          · skip
            refine xr_iconst F dX3_canServe_59 (v := 1) (by decide) ?_
            refine xr_goto F 64 dX3_canServe_60 (by decide) ?_
            refine ret _ _ _ _ dX3_canServe_64 rfl ⟨?_, rfl⟩
            first | with_reducible rfl | (simp only [m_can, m_can2, c10, c17, c27, c38, c48, ↓reduceIte]; done) | (simp only [m_can, m_can2, c10, c17, c27, c38, c48, ↓reduceIte]; rfl) | rfl
          · skip
            refine xr_aload_n F dX3_canServe_51 rfl 1 rfl ?_
            refine xr_iload_n F dX3_canServe_52 rfl 3 rfl ?_
            refine xr_callVz F (wr := mw yI g u t th K) (rest := []) (As := [.int (nI k)]) (k_X2_canFill l D yI yZ yL o (kMark K) aw wh V k (by omega)) (cwV 1 F.hts gX3_canServe_X2_canFill rfl rfl rfl (by decide +kernel) ⟨Nat.le_of_ble_eq_true rfl, Nat.le_of_ble_eq_true rfl⟩) (q0 := 0) rfl rfl [3, 4, 5, 6, 7, 8, 9, 10, 11, 12, 13] [0, 1, 2] rfl rfl (by decide) (by decide) (by decide) rfl rfl (Nat.le_of_ble_eq_true rfl) dX3_canServe_53 ⟨Nat.le_of_ble_eq_true rfl, Nat.le_of_ble_eq_true rfl⟩ (fun r1 W1 z1 => ?_)
            obtain ⟨z0, z1⟩ := z1
            subst z0
            subst z1
            refine xr_ws (ws' := (mw yI g u t th K) ++ (sw yI o (kMark K) aw wh V)) rfl ?_
            refine xr_if_eq F 63 dX3_canServe_56 (by decide) (fun c56 => ?_) (fun c56 => ?_)
            · skip
              refine xr_iconst F dX3_canServe_63 (v := 0) (by decide) ?_
              refine ret _ _ _ _ dX3_canServe_64 rfl ⟨?_, rfl⟩
              first | with_reducible rfl | (simp only [m_can, m_can2, c10, c17, c27, c38, c48, c56, ↓reduceIte]; done) | (simp only [m_can, m_can2, c10, c17, c27, c38, c48, c56, ↓reduceIte]; rfl) | rfl
            · skip
              refine xr_iconst F dX3_canServe_59 (v := 1) (by decide) ?_
              refine xr_goto F 64 dX3_canServe_60 (by decide) ?_
              refine ret _ _ _ _ dX3_canServe_64 rfl ⟨?_, rfl⟩
              first | with_reducible rfl | (simp only [m_can, m_can2, c10, c17, c27, c38, c48, c56, ↓reduceIte]; done) | (simp only [m_can, m_can2, c10, c17, c27, c38, c48, c56, ↓reduceIte]; rfl) | rfl
      · skip
        refine xr_iconst F dX3_canServe_30 (v := 0) (by decide) ?_
        refine ret _ _ _ _ dX3_canServe_31 rfl ⟨?_, rfl⟩
        first | with_reducible rfl | (simp only [m_can, m_can2, c10, c17, c27, ↓reduceIte]; done) | (simp only [m_can, m_can2, c10, c17, c27, ↓reduceIte]; rfl) | rfl

def rm_X3_nextAt : Room := { frames := 3, cells := 0, slots := 0, locals := 68 }
set_option maxHeartbeats 4000000 in
set_option maxRecDepth 100000 in
/-- nextAt -/
theorem k_X3_nextAt (l : Launch) (D : va_G) (yI yZ yL : ClassId) (g u t o : Nat → Nat) (th : Int32) (K : CK) (aw : Int32) (wh : Nat → Int32) (V : CD) (k : Nat) (h0 : k < 5) (h1 : kNb K ≤ 10) : xMi l yX3_nextAt wsX3_nextAt rm_X3_nextAt D (tysG yI yZ yL) ((mw yI g u t th K) ++ (sw yI o (kMark K) aw wh V)) [.ref (g 0), .ref (o 0), .int (nI k)] 0 0 (fun (r : Int32) (W1 : va_W) => r = m_next K V wh k ∧ W1 = (mw yI g u t th K) ++ (sw yI o (kMark K) aw wh V)) := by
  refine xE_i (cc := cX3_nextAt) (nL := 5) (by decide) rfl (Nat.le_of_ble_eq_true rfl) ?_
  intro p e s m args below meth c A Q F hnm ret
  have hin3 : ∀ w ∈ u_ws RX3 TX3 9, w ∈ wsX3_nextAt := by decide +kernel
  show AW p l e rm_X3_nextAt s m args below meth c 5 D A 0 0 Q ((mw yI g u t th K) ++ (sw yI o (kMark K) aw wh V)) [(0, .ref (g 0)), (1, .ref (o 0)), (2, .int (nI k))] 0 []
  refine xr_iconst F dX3_nextAt_0 (v := (-1)) (by decide) ?_
  refine xr_istore_n F [(3, .int ((-1))), (0, .ref (g 0)), (1, .ref (o 0)), (2, .int (nI k))] dX3_nextAt_1 rfl (by decide) rfl ?_
  refine xr_iconst F dX3_nextAt_2 (v := 0) (by decide) ?_
  refine xr_istore F [(4, .int 0), (3, .int ((-1))), (0, .ref (g 0)), (1, .ref (o 0)), (2, .int (nI k))] dX3_nextAt_3 (by decide) rfl ?_
  have lp : ∀ (i : Nat) (b : Nat) (f : Int32), i + b = kNb K → m_nextL K V wh k i b f = m_next K V wh k → AW p l e rm_X3_nextAt s m args below meth c 5 D A 0 0 Q ((mw yI g u t th K) ++ (sw yI o (kMark K) aw wh V)) [(4, .int (nI b)), (3, .int f), (0, .ref (g 0)), (1, .ref (o 0)), (2, .int (nI k))] 5 [] := by
    intro i
    induction i with
    | zero =>
      intro b f hb hi
      refine xr_iload F dX3_nextAt_5 0 rfl ?_
      refine xr_aload_n F dX3_nextAt_7 rfl 2 rfl ?_
      refine xr_get F hin3 0 rfl rfl 1 (by decide) (List.mem_of_getElem? (i := 1) rfl) (v := .int (nI (kNb K))) rfl dX3_nextAt_8 ?_
      refine xr_icmp_ge F 71 dX3_nextAt_11 (by decide) (fun c11 => ?_) (fun c11 => ?_)
      · skip
        refine xr_iload_n F dX3_nextAt_71 rfl 1 rfl ?_
        exact ret _ _ _ _ dX3_nextAt_72 ⟨hi, rfl⟩
      · exact (xk_ge (a := kNb K) (b := b) (by omega) (by omega) c11).elim
    | succ i ih =>
      intro b f hb hi
      refine xr_iload F dX3_nextAt_5 0 rfl ?_
      refine xr_aload_n F dX3_nextAt_7 rfl 2 rfl ?_
      refine xr_get F hin3 0 rfl rfl 1 (by decide) (List.mem_of_getElem? (i := 1) rfl) (v := .int (nI (kNb K))) rfl dX3_nextAt_8 ?_
      refine xr_icmp_ge F 71 dX3_nextAt_11 (by decide) (fun c11 => ?_) (fun c11 => ?_)
      · exact (xk_nlt (a := b) (b := kNb K) (by omega) (by omega) (by omega) c11).elim
      · skip
        refine xr_aload_n F dX3_nextAt_14 rfl 2 rfl ?_
        refine xr_aload_n F dX3_nextAt_15 rfl 3 rfl ?_
        refine xr_iload F dX3_nextAt_16 0 rfl ?_
        refine xr_iload_n F dX3_nextAt_18 rfl 4 rfl ?_
        refine xr_callVz F (wr := ([] : va_W)) (rest := []) (As := [.ref (o 0), .int (nI b), .int (nI k)]) (k_X3_isWaiting l D yI yZ yL g u t o th K aw wh V b k (by omega)) (cwV 3 F.hts gX3_nextAt_X3_isWaiting rfl rfl rfl (by decide +kernel) ⟨Nat.le_of_ble_eq_true rfl, Nat.le_of_ble_eq_true rfl⟩) (q0 := 0) rfl rfl [0, 1, 2, 3, 4, 5, 6, 7, 8, 9, 10, 11, 12, 13] [] rfl rfl (by decide) (by decide) (by decide) rfl rfl (Nat.le_of_ble_eq_true rfl) dX3_nextAt_19 ⟨Nat.le_of_ble_eq_true rfl, Nat.le_of_ble_eq_true rfl⟩ (fun r1 W1 z1 => ?_)
        obtain ⟨z0, z1⟩ := z1
        subst z0
        subst z1
        refine xr_ws (ws' := (mw yI g u t th K) ++ (sw yI o (kMark K) aw wh V)) rfl ?_
        refine xr_if_eq F 65 dX3_nextAt_22 (by decide) (fun c22 => ?_) (fun c22 => ?_)
        · skip
          refine xr_iinc F (nI (b + 1)) [(4, .int (nI (b + 1))), (3, .int f), (0, .ref (g 0)), (1, .ref (o 0)), (2, .int (nI k))] dX3_nextAt_65 0 rfl (nI_add b 1) (by decide) rfl ?_
          refine xr_goto F 5 dX3_nextAt_68 (by decide) ?_
          refine xr_lv (lv' := [(4, .int (nI (b + 1))), (3, .int f), (0, .ref (g 0)), (1, .ref (o 0)), (2, .int (nI k))]) [0, 1, 2, 3, 4] rfl ?_
          exact ih (b + 1) f (by omega) (by rw [← hi]; simp only [m_nextL, c11, c22, xk_10, eq_self, ↓reduceIte])
        · skip
          refine xr_aload_n F dX3_nextAt_25 rfl 2 rfl ?_
          refine xr_aload_n F dX3_nextAt_26 rfl 3 rfl ?_
          refine xr_iload F dX3_nextAt_27 0 rfl ?_
          refine xr_iload_n F dX3_nextAt_29 rfl 4 rfl ?_
          refine xr_callVz F (wr := ([] : va_W)) (rest := []) (As := [.ref (o 0), .int (nI b), .int (nI k)]) (k_X3_canServe l D yI yZ yL g u t o th K aw wh V b k (by omega) (by omega)) (cwV 3 F.hts gX3_nextAt_X3_canServe rfl rfl rfl (by decide +kernel) ⟨Nat.le_of_ble_eq_true rfl, Nat.le_of_ble_eq_true rfl⟩) (q0 := 0) rfl rfl [0, 1, 2, 3, 4, 5, 6, 7, 8, 9, 10, 11, 12, 13] [] rfl rfl (by decide) (by decide) (by decide) rfl rfl (Nat.le_of_ble_eq_true rfl) dX3_nextAt_30 ⟨Nat.le_of_ble_eq_true rfl, Nat.le_of_ble_eq_true rfl⟩ (fun r1 W1 z1 => ?_)
          obtain ⟨z0, z1⟩ := z1
          subst z0
          subst z1
          refine xr_ws (ws' := (mw yI g u t th K) ++ (sw yI o (kMark K) aw wh V)) rfl ?_
          refine xr_if_ne F 39 dX3_nextAt_33 (by decide) (fun c33 => ?_) (fun c33 => ?_)
          · skip
            refine xr_aload_n F dX3_nextAt_39 rfl 2 rfl ?_
            refine xr_aload_n F dX3_nextAt_40 rfl 3 rfl ?_
            refine xr_iload F dX3_nextAt_41 0 rfl ?_
            refine xr_iload_n F dX3_nextAt_43 rfl 4 rfl ?_
            refine xr_callVz F (wr := ([] : va_W)) (rest := []) (As := [.ref (o 0), .int (nI b), .int (nI k)]) (k_X3_fits l D yI yZ yL g u t o th K aw wh V b k (by omega) (by omega)) (cwV 3 F.hts gX3_nextAt_X3_fits rfl rfl rfl (by decide +kernel) ⟨Nat.le_of_ble_eq_true rfl, Nat.le_of_ble_eq_true rfl⟩) (q0 := 0) rfl rfl [0, 1, 2, 3, 4, 5, 6, 7, 8, 9, 10, 11, 12, 13] [] rfl rfl (by decide) (by decide) (by decide) rfl rfl (Nat.le_of_ble_eq_true rfl) dX3_nextAt_44 ⟨Nat.le_of_ble_eq_true rfl, Nat.le_of_ble_eq_true rfl⟩ (fun r1 W1 z1 => ?_)
            obtain ⟨z0, z1⟩ := z1
            subst z0
            subst z1
            refine xr_ws (ws' := (mw yI g u t th K) ++ (sw yI o (kMark K) aw wh V)) rfl ?_
            refine xr_if_eq F 53 dX3_nextAt_47 (by decide) (fun c47 => ?_) (fun c47 => ?_)
            · skip
              refine xr_iload_n F dX3_nextAt_53 rfl 1 rfl ?_
              refine xr_iconst F dX3_nextAt_54 (v := (-1)) (by decide) ?_
              refine xr_icmp_ne F 63 dX3_nextAt_55 (by decide) (fun c55 => ?_) (fun c55 => ?_)
              · skip
                refine xr_iload_n F dX3_nextAt_63 rfl 1 rfl ?_
                refine xr_istore_n F [(3, .int f), (4, .int (nI b)), (0, .ref (g 0)), (1, .ref (o 0)), (2, .int (nI k))] dX3_nextAt_64 rfl (by decide) rfl ?_
                refine xr_iinc F (nI (b + 1)) [(4, .int (nI (b + 1))), (3, .int f), (0, .ref (g 0)), (1, .ref (o 0)), (2, .int (nI k))] dX3_nextAt_65 1 rfl (nI_add b 1) (by decide) rfl ?_
                refine xr_goto F 5 dX3_nextAt_68 (by decide) ?_
                refine xr_lv (lv' := [(4, .int (nI (b + 1))), (3, .int f), (0, .ref (g 0)), (1, .ref (o 0)), (2, .int (nI k))]) [0, 1, 2, 3, 4] rfl ?_
                exact ih (b + 1) f (by omega) (by rw [← hi]; simp only [m_nextL, c11, c22, c33, c47, c55, xk_10, eq_self, ↓reduceIte])
              · skip
                refine xr_iload F dX3_nextAt_58 0 rfl ?_
                refine xr_goto F 64 dX3_nextAt_60 (by decide) ?_
                refine xr_istore_n F [(3, .int (nI b)), (4, .int (nI b)), (0, .ref (g 0)), (1, .ref (o 0)), (2, .int (nI k))] dX3_nextAt_64 rfl (by decide) rfl ?_
                refine xr_iinc F (nI (b + 1)) [(4, .int (nI (b + 1))), (3, .int (nI b)), (0, .ref (g 0)), (1, .ref (o 0)), (2, .int (nI k))] dX3_nextAt_65 1 rfl (nI_add b 1) (by decide) rfl ?_
                refine xr_goto F 5 dX3_nextAt_68 (by decide) ?_
                refine xr_lv (lv' := [(4, .int (nI (b + 1))), (3, .int (nI b)), (0, .ref (g 0)), (1, .ref (o 0)), (2, .int (nI k))]) [0, 1, 2, 3, 4] rfl ?_
                exact ih (b + 1) (nI b) (by omega) (by rw [← hi]; simp only [m_nextL, c11, c22, c33, c47, c55, xk_10, eq_self, ↓reduceIte])
            · skip
              refine xr_iload F dX3_nextAt_50 0 rfl ?_
              exact ret _ _ _ _ dX3_nextAt_52 ⟨(by rw [← hi]; simp only [m_nextL, c11, c22, c33, c47, xk_10, eq_self, ↓reduceIte]), rfl⟩
          · skip
            refine xr_goto F 65 dX3_nextAt_36 (by decide) ?_
            refine xr_iinc F (nI (b + 1)) [(4, .int (nI (b + 1))), (3, .int f), (0, .ref (g 0)), (1, .ref (o 0)), (2, .int (nI k))] dX3_nextAt_65 0 rfl (nI_add b 1) (by decide) rfl ?_
            refine xr_goto F 5 dX3_nextAt_68 (by decide) ?_
            refine xr_lv (lv' := [(4, .int (nI (b + 1))), (3, .int f), (0, .ref (g 0)), (1, .ref (o 0)), (2, .int (nI k))]) [0, 1, 2, 3, 4] rfl ?_
            exact ih (b + 1) f (by omega) (by rw [← hi]; simp only [m_nextL, c11, c22, c33, xk_10, eq_self, ↓reduceIte])
  refine xr_lv (lv' := [(4, .int 0), (3, .int ((-1))), (0, .ref (g 0)), (1, .ref (o 0)), (2, .int (nI k))]) [0, 1, 2, 3, 4] rfl ?_
  exact lp (kNb K) 0 (-1) rfl rfl
