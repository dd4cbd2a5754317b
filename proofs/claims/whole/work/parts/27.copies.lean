def rm_X2_copy : Room := { frames := 1, cells := 0, slots := 0, locals := 26 }
set_option maxHeartbeats 4000000 in
set_option maxRecDepth 100000 in
/-- State.copy -/
theorem k_X2_copy (l : Launch) (D : va_G) (yI yZ yL : ClassId) (p0 q0 n : Nat) (f g : Nat → Int32) (h0 : n < 2147483648) : xMv l yX2_copy wsX2_copy rm_X2_copy D (tysG yI yZ yL) (([(p0, .inl (yI, n, .inl f))] : va_W) ++ ([(q0, .inl (yI, n, .inl g))] : va_W)) [.ref p0, .ref q0] 0 0 (fun W1 : va_W => W1 = ([(p0, .inl (yI, n, .inl f))] : va_W) ++ ([(q0, .inl (yI, n, .inl f))] : va_W)) := by
  refine xE_v (cc := cX2_copy) (nL := 2) (by decide) rfl (Nat.le_of_ble_eq_true rfl) ?_
  intro p e s m args below meth c A Q F hnm ret
  show AW p l e rm_X2_copy s m args below meth c 2 D A 0 0 Q (([(p0, .inl (yI, n, .inl f))] : va_W) ++ ([(q0, .inl (yI, n, .inl g))] : va_W)) [(0, .ref p0), (1, .ref q0)] 0 []
  refine xr_aload_n F dX2_copy_0 rfl 0 rfl ?_
  refine xr_iconst F dX2_copy_1 (v := 0) (by decide) ?_
  refine xr_aload_n F dX2_copy_2 rfl 1 rfl ?_
  refine xr_iconst F dX2_copy_3 (v := 0) (by decide) ?_
  refine xr_aload_n F dX2_copy_4 rfl 0 rfl ?_
  refine xr_alen F 0 0 rfl rfl (v := nI n) rfl dX2_copy_5 ?_
  refine xr_copy F 0 1 0 (List.mem_of_getElem? (i := 1) rfl) (List.mem_of_getElem? (i := 2) rfl) (List.mem_of_getElem? (i := 3) rfl) (List.mem_of_getElem? (i := 4) rfl) n rfl rfl rfl rfl rfl h0 (fun _ _ => rfl) (Nat.le_of_ble_eq_true rfl) (Nat.le_of_ble_eq_true rfl) (([(p0, .inl (yI, n, .inl f))] : va_W) ++ ([(q0, .inl (yI, n, .inl f))] : va_W)) rfl dX2_copy_6 ?_
  exact ret _ _ _ dX2_copy_9 rfl

def rm_X2_become : Room := { frames := 2, cells := 0, slots := 0, locals := 47 }
set_option maxHeartbeats 4000000 in
set_option maxRecDepth 100000 in
/-- State.become -/
theorem k_X2_become (l : Launch) (D : va_G) (yI yZ yL : ClassId) (o r : Nat → Nat) (mk aw : Int32) (wh : Nat → Int32) (V : CD) (mk2 aw2 : Int32) (wh2 : Nat → Int32) (V2 : CD)  : xMr l yX2_become wsX2_become rm_X2_become D (tysG yI yZ yL) ((sw yI o mk aw wh V) ++ (sw yI r mk2 aw2 wh2 V2)) [.ref (o 0), .ref (r 0)] 0 0 (fun (x9 : Nat) (W1 : va_W) => x9 = o 0 ∧ W1 = sw yI o mk2 aw2 wh2 V2 ++ sw yI r mk2 aw2 wh2 V2) := by
  refine xE_r (cc := cX2_become) (nL := 2) (by decide) rfl (Nat.le_of_ble_eq_true rfl) (Or.inl ⟨_, rfl⟩) ?_
  intro p e s m args below meth c A Q F hnm ret
  have hin2 : ∀ w ∈ u_ws RX2 TX2 14, w ∈ wsX2_become := by decide +kernel
  show AW p l e rm_X2_become s m args below meth c 2 D A 0 0 Q ((sw yI o mk aw wh V) ++ (sw yI r mk2 aw2 wh2 V2)) [(0, .ref (o 0)), (1, .ref (r 0))] 0 []
  refine xr_aload_n F dX2_become_0 rfl 0 rfl ?_
  refine xr_aload_n F dX2_become_1 rfl 1 rfl ?_
  refine xr_get F hin2 11 rfl rfl 0 (by decide) (List.mem_of_getElem? (i := 1) rfl) (v := .int (nI (dHour V2))) rfl dX2_become_2 ?_
  refine xr_put (ty := .int) F hin2 0 rfl rfl 0 (by decide) tyX2 tyX2_ok nmX2 (List.mem_of_getElem? (i := 1) rfl) rfl (by decide) rfl rfl (Nat.le_of_ble_eq_true rfl) ((swx yI o mk aw wh (dHour V2) (dBank V) (dLev V) (dOver V) (dDrawn V) (dFull V) (dLock V) (dFill V) (dAt V) (dPur V) (dSer V)) ++ (sw yI r mk2 aw2 wh2 V2)) rfl dX2_become_5 ?_
  refine xr_aload_n F dX2_become_8 rfl 0 rfl ?_
  refine xr_aload_n F dX2_become_9 rfl 1 rfl ?_
  refine xr_get F hin2 11 rfl rfl 1 (by decide) (List.mem_of_getElem? (i := 2) rfl) (v := .int mk2) rfl dX2_become_10 ?_
  refine xr_put (ty := .int) F hin2 0 rfl rfl 1 (by decide) tyX2 tyX2_ok nmX2 (List.mem_of_getElem? (i := 2) rfl) rfl (by decide) rfl rfl (Nat.le_of_ble_eq_true rfl) ((swx yI o mk2 aw wh (dHour V2) (dBank V) (dLev V) (dOver V) (dDrawn V) (dFull V) (dLock V) (dFill V) (dAt V) (dPur V) (dSer V)) ++ (sw yI r mk2 aw2 wh2 V2)) rfl dX2_become_13 ?_
  refine xr_aload_n F dX2_become_16 rfl 0 rfl ?_
  refine xr_aload_n F dX2_become_17 rfl 1 rfl ?_
  refine xr_get F hin2 11 rfl rfl 2 (by decide) (List.mem_of_getElem? (i := 3) rfl) (v := .int (dBank V2)) rfl dX2_become_18 ?_
  refine xr_put (ty := .int) F hin2 0 rfl rfl 2 (by decide) tyX2 tyX2_ok nmX2 (List.mem_of_getElem? (i := 3) rfl) rfl (by decide) rfl rfl (Nat.le_of_ble_eq_true rfl) ((swx yI o mk2 aw wh (dHour V2) (dBank V2) (dLev V) (dOver V) (dDrawn V) (dFull V) (dLock V) (dFill V) (dAt V) (dPur V) (dSer V)) ++ (sw yI r mk2 aw2 wh2 V2)) rfl dX2_become_21 ?_
  refine xr_aload_n F dX2_become_24 rfl 0 rfl ?_
  refine xr_aload_n F dX2_become_25 rfl 1 rfl ?_
  refine xr_get F hin2 11 rfl rfl 3 (by decide) (List.mem_of_getElem? (i := 4) rfl) (v := .int aw2) rfl dX2_become_26 ?_
  refine xr_put (ty := .int) F hin2 0 rfl rfl 3 (by decide) tyX2 tyX2_ok nmX2 (List.mem_of_getElem? (i := 4) rfl) rfl (by decide) rfl rfl (Nat.le_of_ble_eq_true rfl) ((swx yI o mk2 aw2 wh (dHour V2) (dBank V2) (dLev V) (dOver V) (dDrawn V) (dFull V) (dLock V) (dFill V) (dAt V) (dPur V) (dSer V)) ++ (sw yI r mk2 aw2 wh2 V2)) rfl dX2_become_29 ?_
  refine xr_aload_n F dX2_become_32 rfl 1 rfl ?_
  refine xr_get F hin2 11 rfl rfl 4 (by decide) (List.mem_of_getElem? (i := 5) rfl) (v := .ref (r 1)) rfl dX2_become_33 ?_
  refine xr_aload_n F dX2_become_36 rfl 0 rfl ?_
  refine xr_get F hin2 0 rfl rfl 4 (by decide) (List.mem_of_getElem? (i := 5) rfl) (v := .ref (o 1)) rfl dX2_become_37 ?_
  refine xr_callSv F (wr := [(o 0, .inr (2, [.int (nI (dHour V2)), .int mk2, .int (dBank V2), .int aw2, .ref (o 1), .ref (o 2), .ref (o 3), .ref (o 4), .ref (o 5), .ref (o 6), .ref (o 7), .ref (o 8), .ref (o 9), .ref (o 10)])), (o 2, .inl (yI, 6, .inl (dOver V))), (o 3, .inl (yI, 6, .inl (dDrawn V))), (o 4, .inl (yI, 5, .inl (dFull V))), (o 5, .inl (yI, 5, .inl (dLock V))), (o 6, .inl (yI, 5, .inl (dFill V))), (o 7, .inl (yI, 10, .inl (dAt V))), (o 8, .inl (yI, 10, .inl (dPur V))), (o 9, .inl (yI, 10, .inl (dSer V))), (o 10, .inl (yI, 10, .inl wh)), (r 0, .inr (2, [.int (nI (dHour V2)), .int mk2, .int (dBank V2), .int aw2, .ref (r 1), .ref (r 2), .ref (r 3), .ref (r 4), .ref (r 5), .ref (r 6), .ref (r 7), .ref (r 8), .ref (r 9), .ref (r 10)])), (r 2, .inl (yI, 6, .inl (dOver V2))), (r 3, .inl (yI, 6, .inl (dDrawn V2))), (r 4, .inl (yI, 5, .inl (dFull V2))), (r 5, .inl (yI, 5, .inl (dLock V2))), (r 6, .inl (yI, 5, .inl (dFill V2))), (r 7, .inl (yI, 10, .inl (dAt V2))), (r 8, .inl (yI, 10, .inl (dPur V2))), (r 9, .inl (yI, 10, .inl (dSer V2))), (r 10, .inl (yI, 10, .inl wh2))]) (rest := []) (As := [.ref (r 1), .ref (o 1)]) (k_X2_copy l D yI yZ yL (r 1) (o 1) 6 (dLev V2) (dLev V) (by decide)) (va_cwS 2 F.hts gX2_become_X2_copy rfl rfl rfl (by decide +kernel) ⟨Nat.le_of_ble_eq_true rfl, Nat.le_of_ble_eq_true rfl⟩) [12, 1] [0, 2, 3, 4, 5, 6, 7, 8, 9, 10, 11, 13, 14, 15, 16, 17, 18, 19, 20, 21] rfl rfl (by decide) (by decide) (by decide) rfl rfl (Nat.le_of_ble_eq_true rfl) dX2_become_40 ⟨Nat.le_of_ble_eq_true rfl, Nat.le_of_ble_eq_true rfl⟩ (fun W1 z1 => ?_)
  subst z1
  refine xr_sub (ws' := (swx yI o mk2 aw2 wh (dHour V2) (dBank V2) (dLev V2) (dOver V) (dDrawn V) (dFull V) (dLock V) (dFill V) (dAt V) (dPur V) (dSer V)) ++ (sw yI r mk2 aw2 wh2 V2)) [0, 21, 1, 2, 3, 4, 5, 6, 7, 8, 9, 10, 20, 11, 12, 13, 14, 15, 16, 17, 18, 19] (by decide) rfl ?_
  refine xr_aload_n F dX2_become_43 rfl 1 rfl ?_
  refine xr_get F hin2 11 rfl rfl 5 (by decide) (List.mem_of_getElem? (i := 6) rfl) (v := .ref (r 2)) rfl dX2_become_44 ?_
  refine xr_aload_n F dX2_become_47 rfl 0 rfl ?_
  refine xr_get F hin2 0 rfl rfl 5 (by decide) (List.mem_of_getElem? (i := 6) rfl) (v := .ref (o 2)) rfl dX2_become_48 ?_
  refine xr_callSv F (wr := [(o 0, .inr (2, [.int (nI (dHour V2)), .int mk2, .int (dBank V2), .int aw2, .ref (o 1), .ref (o 2), .ref (o 3), .ref (o 4), .ref (o 5), .ref (o 6), .ref (o 7), .ref (o 8), .ref (o 9), .ref (o 10)])), (o 1, .inl (yI, 6, .inl (dLev V2))), (o 3, .inl (yI, 6, .inl (dDrawn V))), (o 4, .inl (yI, 5, .inl (dFull V))), (o 5, .inl (yI, 5, .inl (dLock V))), (o 6, .inl (yI, 5, .inl (dFill V))), (o 7, .inl (yI, 10, .inl (dAt V))), (o 8, .inl (yI, 10, .inl (dPur V))), (o 9, .inl (yI, 10, .inl (dSer V))), (o 10, .inl (yI, 10, .inl wh)), (r 0, .inr (2, [.int (nI (dHour V2)), .int mk2, .int (dBank V2), .int aw2, .ref (r 1), .ref (r 2), .ref (r 3), .ref (r 4), .ref (r 5), .ref (r 6), .ref (r 7), .ref (r 8), .ref (r 9), .ref (r 10)])), (r 1, .inl (yI, 6, .inl (dLev V2))), (r 3, .inl (yI, 6, .inl (dDrawn V2))), (r 4, .inl (yI, 5, .inl (dFull V2))), (r 5, .inl (yI, 5, .inl (dLock V2))), (r 6, .inl (yI, 5, .inl (dFill V2))), (r 7, .inl (yI, 10, .inl (dAt V2))), (r 8, .inl (yI, 10, .inl (dPur V2))), (r 9, .inl (yI, 10, .inl (dSer V2))), (r 10, .inl (yI, 10, .inl wh2))]) (rest := []) (As := [.ref (r 2), .ref (o 2)]) (k_X2_copy l D yI yZ yL (r 2) (o 2) 6 (dOver V2) (dOver V) (by decide)) (va_cwS 2 F.hts gX2_become_X2_copy rfl rfl rfl (by decide +kernel) ⟨Nat.le_of_ble_eq_true rfl, Nat.le_of_ble_eq_true rfl⟩) [13, 2] [0, 1, 3, 4, 5, 6, 7, 8, 9, 10, 11, 12, 14, 15, 16, 17, 18, 19, 20, 21] rfl rfl (by decide) (by decide) (by decide) rfl rfl (Nat.le_of_ble_eq_true rfl) dX2_become_51 ⟨Nat.le_of_ble_eq_true rfl, Nat.le_of_ble_eq_true rfl⟩ (fun W1 z1 => ?_)
  subst z1
  refine xr_sub (ws' := (swx yI o mk2 aw2 wh (dHour V2) (dBank V2) (dLev V2) (dOver V2) (dDrawn V) (dFull V) (dLock V) (dFill V) (dAt V) (dPur V) (dSer V)) ++ (sw yI r mk2 aw2 wh2 V2)) [0, 1, 21, 2, 3, 4, 5, 6, 7, 8, 9, 10, 11, 20, 12, 13, 14, 15, 16, 17, 18, 19] (by decide) rfl ?_
  refine xr_aload_n F dX2_become_54 rfl 1 rfl ?_
  refine xr_get F hin2 11 rfl rfl 6 (by decide) (List.mem_of_getElem? (i := 7) rfl) (v := .ref (r 3)) rfl dX2_become_55 ?_
  refine xr_aload_n F dX2_become_58 rfl 0 rfl ?_
  refine xr_get F hin2 0 rfl rfl 6 (by decide) (List.mem_of_getElem? (i := 7) rfl) (v := .ref (o 3)) rfl dX2_become_59 ?_
  refine xr_callSv F (wr := [(o 0, .inr (2, [.int (nI (dHour V2)), .int mk2, .int (dBank V2), .int aw2, .ref (o 1), .ref (o 2), .ref (o 3), .ref (o 4), .ref (o 5), .ref (o 6), .ref (o 7), .ref (o 8), .ref (o 9), .ref (o 10)])), (o 1, .inl (yI, 6, .inl (dLev V2))), (o 2, .inl (yI, 6, .inl (dOver V2))), (o 4, .inl (yI, 5, .inl (dFull V))), (o 5, .inl (yI, 5, .inl (dLock V))), (o 6, .inl (yI, 5, .inl (dFill V))), (o 7, .inl (yI, 10, .inl (dAt V))), (o 8, .inl (yI, 10, .inl (dPur V))), (o 9, .inl (yI, 10, .inl (dSer V))), (o 10, .inl (yI, 10, .inl wh)), (r 0, .inr (2, [.int (nI (dHour V2)), .int mk2, .int (dBank V2), .int aw2, .ref (r 1), .ref (r 2), .ref (r 3), .ref (r 4), .ref (r 5), .ref (r 6), .ref (r 7), .ref (r 8), .ref (r 9), .ref (r 10)])), (r 1, .inl (yI, 6, .inl (dLev V2))), (r 2, .inl (yI, 6, .inl (dOver V2))), (r 4, .inl (yI, 5, .inl (dFull V2))), (r 5, .inl (yI, 5, .inl (dLock V2))), (r 6, .inl (yI, 5, .inl (dFill V2))), (r 7, .inl (yI, 10, .inl (dAt V2))), (r 8, .inl (yI, 10, .inl (dPur V2))), (r 9, .inl (yI, 10, .inl (dSer V2))), (r 10, .inl (yI, 10, .inl wh2))]) (rest := []) (As := [.ref (r 3), .ref (o 3)]) (k_X2_copy l D yI yZ yL (r 3) (o 3) 6 (dDrawn V2) (dDrawn V) (by decide)) (va_cwS 2 F.hts gX2_become_X2_copy rfl rfl rfl (by decide +kernel) ⟨Nat.le_of_ble_eq_true rfl, Nat.le_of_ble_eq_true rfl⟩) [14, 3] [0, 1, 2, 4, 5, 6, 7, 8, 9, 10, 11, 12, 13, 15, 16, 17, 18, 19, 20, 21] rfl rfl (by decide) (by decide) (by decide) rfl rfl (Nat.le_of_ble_eq_true rfl) dX2_become_62 ⟨Nat.le_of_ble_eq_true rfl, Nat.le_of_ble_eq_true rfl⟩ (fun W1 z1 => ?_)
  subst z1
  refine xr_sub (ws' := (swx yI o mk2 aw2 wh (dHour V2) (dBank V2) (dLev V2) (dOver V2) (dDrawn V2) (dFull V) (dLock V) (dFill V) (dAt V) (dPur V) (dSer V)) ++ (sw yI r mk2 aw2 wh2 V2)) [0, 1, 2, 21, 3, 4, 5, 6, 7, 8, 9, 10, 11, 12, 20, 13, 14, 15, 16, 17, 18, 19] (by decide) rfl ?_
  refine xr_aload_n F dX2_become_65 rfl 1 rfl ?_
  refine xr_get F hin2 11 rfl rfl 7 (by decide) (List.mem_of_getElem? (i := 8) rfl) (v := .ref (r 4)) rfl dX2_become_66 ?_
  refine xr_aload_n F dX2_become_69 rfl 0 rfl ?_
  refine xr_get F hin2 0 rfl rfl 7 (by decide) (List.mem_of_getElem? (i := 8) rfl) (v := .ref (o 4)) rfl dX2_become_70 ?_
  refine xr_callSv F (wr := [(o 0, .inr (2, [.int (nI (dHour V2)), .int mk2, .int (dBank V2), .int aw2, .ref (o 1), .ref (o 2), .ref (o 3), .ref (o 4), .ref (o 5), .ref (o 6), .ref (o 7), .ref (o 8), .ref (o 9), .ref (o 10)])), (o 1, .inl (yI, 6, .inl (dLev V2))), (o 2, .inl (yI, 6, .inl (dOver V2))), (o 3, .inl (yI, 6, .inl (dDrawn V2))), (o 5, .inl (yI, 5, .inl (dLock V))), (o 6, .inl (yI, 5, .inl (dFill V))), (o 7, .inl (yI, 10, .inl (dAt V))), (o 8, .inl (yI, 10, .inl (dPur V))), (o 9, .inl (yI, 10, .inl (dSer V))), (o 10, .inl (yI, 10, .inl wh)), (r 0, .inr (2, [.int (nI (dHour V2)), .int mk2, .int (dBank V2), .int aw2, .ref (r 1), .ref (r 2), .ref (r 3), .ref (r 4), .ref (r 5), .ref (r 6), .ref (r 7), .ref (r 8), .ref (r 9), .ref (r 10)])), (r 1, .inl (yI, 6, .inl (dLev V2))), (r 2, .inl (yI, 6, .inl (dOver V2))), (r 3, .inl (yI, 6, .inl (dDrawn V2))), (r 5, .inl (yI, 5, .inl (dLock V2))), (r 6, .inl (yI, 5, .inl (dFill V2))), (r 7, .inl (yI, 10, .inl (dAt V2))), (r 8, .inl (yI, 10, .inl (dPur V2))), (r 9, .inl (yI, 10, .inl (dSer V2))), (r 10, .inl (yI, 10, .inl wh2))]) (rest := []) (As := [.ref (r 4), .ref (o 4)]) (k_X2_copy l D yI yZ yL (r 4) (o 4) 5 (dFull V2) (dFull V) (by decide)) (va_cwS 2 F.hts gX2_become_X2_copy rfl rfl rfl (by decide +kernel) ⟨Nat.le_of_ble_eq_true rfl, Nat.le_of_ble_eq_true rfl⟩) [15, 4] [0, 1, 2, 3, 5, 6, 7, 8, 9, 10, 11, 12, 13, 14, 16, 17, 18, 19, 20, 21] rfl rfl (by decide) (by decide) (by decide) rfl rfl (Nat.le_of_ble_eq_true rfl) dX2_become_73 ⟨Nat.le_of_ble_eq_true rfl, Nat.le_of_ble_eq_true rfl⟩ (fun W1 z1 => ?_)
  subst z1
  refine xr_sub (ws' := (swx yI o mk2 aw2 wh (dHour V2) (dBank V2) (dLev V2) (dOver V2) (dDrawn V2) (dFull V2) (dLock V) (dFill V) (dAt V) (dPur V) (dSer V)) ++ (sw yI r mk2 aw2 wh2 V2)) [0, 1, 2, 3, 21, 4, 5, 6, 7, 8, 9, 10, 11, 12, 13, 20, 14, 15, 16, 17, 18, 19] (by decide) rfl ?_
  refine xr_aload_n F dX2_become_76 rfl 1 rfl ?_
  refine xr_get F hin2 11 rfl rfl 8 (by decide) (List.mem_of_getElem? (i := 9) rfl) (v := .ref (r 5)) rfl dX2_become_77 ?_
  refine xr_aload_n F dX2_become_80 rfl 0 rfl ?_
  refine xr_get F hin2 0 rfl rfl 8 (by decide) (List.mem_of_getElem? (i := 9) rfl) (v := .ref (o 5)) rfl dX2_become_81 ?_
  refine xr_callSv F (wr := [(o 0, .inr (2, [.int (nI (dHour V2)), .int mk2, .int (dBank V2), .int aw2, .ref (o 1), .ref (o 2), .ref (o 3), .ref (o 4), .ref (o 5), .ref (o 6), .ref (o 7), .ref (o 8), .ref (o 9), .ref (o 10)])), (o 1, .inl (yI, 6, .inl (dLev V2))), (o 2, .inl (yI, 6, .inl (dOver V2))), (o 3, .inl (yI, 6, .inl (dDrawn V2))), (o 4, .inl (yI, 5, .inl (dFull V2))), (o 6, .inl (yI, 5, .inl (dFill V))), (o 7, .inl (yI, 10, .inl (dAt V))), (o 8, .inl (yI, 10, .inl (dPur V))), (o 9, .inl (yI, 10, .inl (dSer V))), (o 10, .inl (yI, 10, .inl wh)), (r 0, .inr (2, [.int (nI (dHour V2)), .int mk2, .int (dBank V2), .int aw2, .ref (r 1), .ref (r 2), .ref (r 3), .ref (r 4), .ref (r 5), .ref (r 6), .ref (r 7), .ref (r 8), .ref (r 9), .ref (r 10)])), (r 1, .inl (yI, 6, .inl (dLev V2))), (r 2, .inl (yI, 6, .inl (dOver V2))), (r 3, .inl (yI, 6, .inl (dDrawn V2))), (r 4, .inl (yI, 5, .inl (dFull V2))), (r 6, .inl (yI, 5, .inl (dFill V2))), (r 7, .inl (yI, 10, .inl (dAt V2))), (r 8, .inl (yI, 10, .inl (dPur V2))), (r 9, .inl (yI, 10, .inl (dSer V2))), (r 10, .inl (yI, 10, .inl wh2))]) (rest := []) (As := [.ref (r 5), .ref (o 5)]) (k_X2_copy l D yI yZ yL (r 5) (o 5) 5 (dLock V2) (dLock V) (by decide)) (va_cwS 2 F.hts gX2_become_X2_copy rfl rfl rfl (by decide +kernel) ⟨Nat.le_of_ble_eq_true rfl, Nat.le_of_ble_eq_true rfl⟩) [16, 5] [0, 1, 2, 3, 4, 6, 7, 8, 9, 10, 11, 12, 13, 14, 15, 17, 18, 19, 20, 21] rfl rfl (by decide) (by decide) (by decide) rfl rfl (Nat.le_of_ble_eq_true rfl) dX2_become_84 ⟨Nat.le_of_ble_eq_true rfl, Nat.le_of_ble_eq_true rfl⟩ (fun W1 z1 => ?_)
  subst z1
  refine xr_sub (ws' := (swx yI o mk2 aw2 wh (dHour V2) (dBank V2) (dLev V2) (dOver V2) (dDrawn V2) (dFull V2) (dLock V2) (dFill V) (dAt V) (dPur V) (dSer V)) ++ (sw yI r mk2 aw2 wh2 V2)) [0, 1, 2, 3, 4, 21, 5, 6, 7, 8, 9, 10, 11, 12, 13, 14, 20, 15, 16, 17, 18, 19] (by decide) rfl ?_
  refine xr_aload_n F dX2_become_87 rfl 1 rfl ?_
  refine xr_get F hin2 11 rfl rfl 9 (by decide) (List.mem_of_getElem? (i := 10) rfl) (v := .ref (r 6)) rfl dX2_become_88 ?_
  refine xr_aload_n F dX2_become_91 rfl 0 rfl ?_
  refine xr_get F hin2 0 rfl rfl 9 (by decide) (List.mem_of_getElem? (i := 10) rfl) (v := .ref (o 6)) rfl dX2_become_92 ?_
  refine xr_callSv F (wr := [(o 0, .inr (2, [.int (nI (dHour V2)), .int mk2, .int (dBank V2), .int aw2, .ref (o 1), .ref (o 2), .ref (o 3), .ref (o 4), .ref (o 5), .ref (o 6), .ref (o 7), .ref (o 8), .ref (o 9), .ref (o 10)])), (o 1, .inl (yI, 6, .inl (dLev V2))), (o 2, .inl (yI, 6, .inl (dOver V2))), (o 3, .inl (yI, 6, .inl (dDrawn V2))), (o 4, .inl (yI, 5, .inl (dFull V2))), (o 5, .inl (yI, 5, .inl (dLock V2))), (o 7, .inl (yI, 10, .inl (dAt V))), (o 8, .inl (yI, 10, .inl (dPur V))), (o 9, .inl (yI, 10, .inl (dSer V))), (o 10, .inl (yI, 10, .inl wh)), (r 0, .inr (2, [.int (nI (dHour V2)), .int mk2, .int (dBank V2), .int aw2, .ref (r 1), .ref (r 2), .ref (r 3), .ref (r 4), .ref (r 5), .ref (r 6), .ref (r 7), .ref (r 8), .ref (r 9), .ref (r 10)])), (r 1, .inl (yI, 6, .inl (dLev V2))), (r 2, .inl (yI, 6, .inl (dOver V2))), (r 3, .inl (yI, 6, .inl (dDrawn V2))), (r 4, .inl (yI, 5, .inl (dFull V2))), (r 5, .inl (yI, 5, .inl (dLock V2))), (r 7, .inl (yI, 10, .inl (dAt V2))), (r 8, .inl (yI, 10, .inl (dPur V2))), (r 9, .inl (yI, 10, .inl (dSer V2))), (r 10, .inl (yI, 10, .inl wh2))]) (rest := []) (As := [.ref (r 6), .ref (o 6)]) (k_X2_copy l D yI yZ yL (r 6) (o 6) 5 (dFill V2) (dFill V) (by decide)) (va_cwS 2 F.hts gX2_become_X2_copy rfl rfl rfl (by decide +kernel) ⟨Nat.le_of_ble_eq_true rfl, Nat.le_of_ble_eq_true rfl⟩) [17, 6] [0, 1, 2, 3, 4, 5, 7, 8, 9, 10, 11, 12, 13, 14, 15, 16, 18, 19, 20, 21] rfl rfl (by decide) (by decide) (by decide) rfl rfl (Nat.le_of_ble_eq_true rfl) dX2_become_95 ⟨Nat.le_of_ble_eq_true rfl, Nat.le_of_ble_eq_true rfl⟩ (fun W1 z1 => ?_)
  subst z1
  refine xr_sub (ws' := (swx yI o mk2 aw2 wh (dHour V2) (dBank V2) (dLev V2) (dOver V2) (dDrawn V2) (dFull V2) (dLock V2) (dFill V2) (dAt V) (dPur V) (dSer V)) ++ (sw yI r mk2 aw2 wh2 V2)) [0, 1, 2, 3, 4, 5, 21, 6, 7, 8, 9, 10, 11, 12, 13, 14, 15, 20, 16, 17, 18, 19] (by decide) rfl ?_
  refine xr_aload_n F dX2_become_98 rfl 1 rfl ?_
  refine xr_get F hin2 11 rfl rfl 10 (by decide) (List.mem_of_getElem? (i := 11) rfl) (v := .ref (r 7)) rfl dX2_become_99 ?_
  refine xr_aload_n F dX2_become_102 rfl 0 rfl ?_
  refine xr_get F hin2 0 rfl rfl 10 (by decide) (List.mem_of_getElem? (i := 11) rfl) (v := .ref (o 7)) rfl dX2_become_103 ?_
  refine xr_callSv F (wr := [(o 0, .inr (2, [.int (nI (dHour V2)), .int mk2, .int (dBank V2), .int aw2, .ref (o 1), .ref (o 2), .ref (o 3), .ref (o 4), .ref (o 5), .ref (o 6), .ref (o 7), .ref (o 8), .ref (o 9), .ref (o 10)])), (o 1, .inl (yI, 6, .inl (dLev V2))), (o 2, .inl (yI, 6, .inl (dOver V2))), (o 3, .inl (yI, 6, .inl (dDrawn V2))), (o 4, .inl (yI, 5, .inl (dFull V2))), (o 5, .inl (yI, 5, .inl (dLock V2))), (o 6, .inl (yI, 5, .inl (dFill V2))), (o 8, .inl (yI, 10, .inl (dPur V))), (o 9, .inl (yI, 10, .inl (dSer V))), (o 10, .inl (yI, 10, .inl wh)), (r 0, .inr (2, [.int (nI (dHour V2)), .int mk2, .int (dBank V2), .int aw2, .ref (r 1), .ref (r 2), .ref (r 3), .ref (r 4), .ref (r 5), .ref (r 6), .ref (r 7), .ref (r 8), .ref (r 9), .ref (r 10)])), (r 1, .inl (yI, 6, .inl (dLev V2))), (r 2, .inl (yI, 6, .inl (dOver V2))), (r 3, .inl (yI, 6, .inl (dDrawn V2))), (r 4, .inl (yI, 5, .inl (dFull V2))), (r 5, .inl (yI, 5, .inl (dLock V2))), (r 6, .inl (yI, 5, .inl (dFill V2))), (r 8, .inl (yI, 10, .inl (dPur V2))), (r 9, .inl (yI, 10, .inl (dSer V2))), (r 10, .inl (yI, 10, .inl wh2))]) (rest := []) (As := [.ref (r 7), .ref (o 7)]) (k_X2_copy l D yI yZ yL (r 7) (o 7) 10 (dAt V2) (dAt V) (by decide)) (va_cwS 2 F.hts gX2_become_X2_copy rfl rfl rfl (by decide +kernel) ⟨Nat.le_of_ble_eq_true rfl, Nat.le_of_ble_eq_true rfl⟩) [18, 7] [0, 1, 2, 3, 4, 5, 6, 8, 9, 10, 11, 12, 13, 14, 15, 16, 17, 19, 20, 21] rfl rfl (by decide) (by decide) (by decide) rfl rfl (Nat.le_of_ble_eq_true rfl) dX2_become_106 ⟨Nat.le_of_ble_eq_true rfl, Nat.le_of_ble_eq_true rfl⟩ (fun W1 z1 => ?_)
  subst z1
  refine xr_sub (ws' := (swx yI o mk2 aw2 wh (dHour V2) (dBank V2) (dLev V2) (dOver V2) (dDrawn V2) (dFull V2) (dLock V2) (dFill V2) (dAt V2) (dPur V) (dSer V)) ++ (sw yI r mk2 aw2 wh2 V2)) [0, 1, 2, 3, 4, 5, 6, 21, 7, 8, 9, 10, 11, 12, 13, 14, 15, 16, 20, 17, 18, 19] (by decide) rfl ?_
  refine xr_aload_n F dX2_become_109 rfl 1 rfl ?_
  refine xr_get F hin2 11 rfl rfl 11 (by decide) (List.mem_of_getElem? (i := 12) rfl) (v := .ref (r 8)) rfl dX2_become_110 ?_
  refine xr_aload_n F dX2_become_113 rfl 0 rfl ?_
  refine xr_get F hin2 0 rfl rfl 11 (by decide) (List.mem_of_getElem? (i := 12) rfl) (v := .ref (o 8)) rfl dX2_become_114 ?_
  refine xr_callSv F (wr := [(o 0, .inr (2, [.int (nI (dHour V2)), .int mk2, .int (dBank V2), .int aw2, .ref (o 1), .ref (o 2), .ref (o 3), .ref (o 4), .ref (o 5), .ref (o 6), .ref (o 7), .ref (o 8), .ref (o 9), .ref (o 10)])), (o 1, .inl (yI, 6, .inl (dLev V2))), (o 2, .inl (yI, 6, .inl (dOver V2))), (o 3, .inl (yI, 6, .inl (dDrawn V2))), (o 4, .inl (yI, 5, .inl (dFull V2))), (o 5, .inl (yI, 5, .inl (dLock V2))), (o 6, .inl (yI, 5, .inl (dFill V2))), (o 7, .inl (yI, 10, .inl (dAt V2))), (o 9, .inl (yI, 10, .inl (dSer V))), (o 10, .inl (yI, 10, .inl wh)), (r 0, .inr (2, [.int (nI (dHour V2)), .int mk2, .int (dBank V2), .int aw2, .ref (r 1), .ref (r 2), .ref (r 3), .ref (r 4), .ref (r 5), .ref (r 6), .ref (r 7), .ref (r 8), .ref (r 9), .ref (r 10)])), (r 1, .inl (yI, 6, .inl (dLev V2))), (r 2, .inl (yI, 6, .inl (dOver V2))), (r 3, .inl (yI, 6, .inl (dDrawn V2))), (r 4, .inl (yI, 5, .inl (dFull V2))), (r 5, .inl (yI, 5, .inl (dLock V2))), (r 6, .inl (yI, 5, .inl (dFill V2))), (r 7, .inl (yI, 10, .inl (dAt V2))), (r 9, .inl (yI, 10, .inl (dSer V2))), (r 10, .inl (yI, 10, .inl wh2))]) (rest := []) (As := [.ref (r 8), .ref (o 8)]) (k_X2_copy l D yI yZ yL (r 8) (o 8) 10 (dPur V2) (dPur V) (by decide)) (va_cwS 2 F.hts gX2_become_X2_copy rfl rfl rfl (by decide +kernel) ⟨Nat.le_of_ble_eq_true rfl, Nat.le_of_ble_eq_true rfl⟩) [19, 8] [0, 1, 2, 3, 4, 5, 6, 7, 9, 10, 11, 12, 13, 14, 15, 16, 17, 18, 20, 21] rfl rfl (by decide) (by decide) (by decide) rfl rfl (Nat.le_of_ble_eq_true rfl) dX2_become_117 ⟨Nat.le_of_ble_eq_true rfl, Nat.le_of_ble_eq_true rfl⟩ (fun W1 z1 => ?_)
  subst z1
  refine xr_sub (ws' := (swx yI o mk2 aw2 wh (dHour V2) (dBank V2) (dLev V2) (dOver V2) (dDrawn V2) (dFull V2) (dLock V2) (dFill V2) (dAt V2) (dPur V2) (dSer V)) ++ (sw yI r mk2 aw2 wh2 V2)) [0, 1, 2, 3, 4, 5, 6, 7, 21, 8, 9, 10, 11, 12, 13, 14, 15, 16, 17, 20, 18, 19] (by decide) rfl ?_
  refine xr_aload_n F dX2_become_120 rfl 1 rfl ?_
  refine xr_get F hin2 11 rfl rfl 12 (by decide) (List.mem_of_getElem? (i := 13) rfl) (v := .ref (r 9)) rfl dX2_become_121 ?_
  refine xr_aload_n F dX2_become_124 rfl 0 rfl ?_
  refine xr_get F hin2 0 rfl rfl 12 (by decide) (List.mem_of_getElem? (i := 13) rfl) (v := .ref (o 9)) rfl dX2_become_125 ?_
  refine xr_callSv F (wr := [(o 0, .inr (2, [.int (nI (dHour V2)), .int mk2, .int (dBank V2), .int aw2, .ref (o 1), .ref (o 2), .ref (o 3), .ref (o 4), .ref (o 5), .ref (o 6), .ref (o 7), .ref (o 8), .ref (o 9), .ref (o 10)])), (o 1, .inl (yI, 6, .inl (dLev V2))), (o 2, .inl (yI, 6, .inl (dOver V2))), (o 3, .inl (yI, 6, .inl (dDrawn V2))), (o 4, .inl (yI, 5, .inl (dFull V2))), (o 5, .inl (yI, 5, .inl (dLock V2))), (o 6, .inl (yI, 5, .inl (dFill V2))), (o 7, .inl (yI, 10, .inl (dAt V2))), (o 8, .inl (yI, 10, .inl (dPur V2))), (o 10, .inl (yI, 10, .inl wh)), (r 0, .inr (2, [.int (nI (dHour V2)), .int mk2, .int (dBank V2), .int aw2, .ref (r 1), .ref (r 2), .ref (r 3), .ref (r 4), .ref (r 5), .ref (r 6), .ref (r 7), .ref (r 8), .ref (r 9), .ref (r 10)])), (r 1, .inl (yI, 6, .inl (dLev V2))), (r 2, .inl (yI, 6, .inl (dOver V2))), (r 3, .inl (yI, 6, .inl (dDrawn V2))), (r 4, .inl (yI, 5, .inl (dFull V2))), (r 5, .inl (yI, 5, .inl (dLock V2))), (r 6, .inl (yI, 5, .inl (dFill V2))), (r 7, .inl (yI, 10, .inl (dAt V2))), (r 8, .inl (yI, 10, .inl (dPur V2))), (r 10, .inl (yI, 10, .inl wh2))]) (rest := []) (As := [.ref (r 9), .ref (o 9)]) (k_X2_copy l D yI yZ yL (r 9) (o 9) 10 (dSer V2) (dSer V) (by decide)) (va_cwS 2 F.hts gX2_become_X2_copy rfl rfl rfl (by decide +kernel) ⟨Nat.le_of_ble_eq_true rfl, Nat.le_of_ble_eq_true rfl⟩) [20, 9] [0, 1, 2, 3, 4, 5, 6, 7, 8, 10, 11, 12, 13, 14, 15, 16, 17, 18, 19, 21] rfl rfl (by decide) (by decide) (by decide) rfl rfl (Nat.le_of_ble_eq_true rfl) dX2_become_128 ⟨Nat.le_of_ble_eq_true rfl, Nat.le_of_ble_eq_true rfl⟩ (fun W1 z1 => ?_)
  subst z1
  refine xr_sub (ws' := (swx yI o mk2 aw2 wh (dHour V2) (dBank V2) (dLev V2) (dOver V2) (dDrawn V2) (dFull V2) (dLock V2) (dFill V2) (dAt V2) (dPur V2) (dSer V2)) ++ (sw yI r mk2 aw2 wh2 V2)) [0, 1, 2, 3, 4, 5, 6, 7, 8, 21, 9, 10, 11, 12, 13, 14, 15, 16, 17, 18, 20, 19] (by decide) rfl ?_
  refine xr_aload_n F dX2_become_131 rfl 1 rfl ?_
  refine xr_get F hin2 11 rfl rfl 13 (by decide) (List.mem_of_getElem? (i := 14) rfl) (v := .ref (r 10)) rfl dX2_become_132 ?_
  refine xr_aload_n F dX2_become_135 rfl 0 rfl ?_
  refine xr_get F hin2 0 rfl rfl 13 (by decide) (List.mem_of_getElem? (i := 14) rfl) (v := .ref (o 10)) rfl dX2_become_136 ?_
  refine xr_callSv F (wr := [(o 0, .inr (2, [.int (nI (dHour V2)), .int mk2, .int (dBank V2), .int aw2, .ref (o 1), .ref (o 2), .ref (o 3), .ref (o 4), .ref (o 5), .ref (o 6), .ref (o 7), .ref (o 8), .ref (o 9), .ref (o 10)])), (o 1, .inl (yI, 6, .inl (dLev V2))), (o 2, .inl (yI, 6, .inl (dOver V2))), (o 3, .inl (yI, 6, .inl (dDrawn V2))), (o 4, .inl (yI, 5, .inl (dFull V2))), (o 5, .inl (yI, 5, .inl (dLock V2))), (o 6, .inl (yI, 5, .inl (dFill V2))), (o 7, .inl (yI, 10, .inl (dAt V2))), (o 8, .inl (yI, 10, .inl (dPur V2))), (o 9, .inl (yI, 10, .inl (dSer V2))), (r 0, .inr (2, [.int (nI (dHour V2)), .int mk2, .int (dBank V2), .int aw2, .ref (r 1), .ref (r 2), .ref (r 3), .ref (r 4), .ref (r 5), .ref (r 6), .ref (r 7), .ref (r 8), .ref (r 9), .ref (r 10)])), (r 1, .inl (yI, 6, .inl (dLev V2))), (r 2, .inl (yI, 6, .inl (dOver V2))), (r 3, .inl (yI, 6, .inl (dDrawn V2))), (r 4, .inl (yI, 5, .inl (dFull V2))), (r 5, .inl (yI, 5, .inl (dLock V2))), (r 6, .inl (yI, 5, .inl (dFill V2))), (r 7, .inl (yI, 10, .inl (dAt V2))), (r 8, .inl (yI, 10, .inl (dPur V2))), (r 9, .inl (yI, 10, .inl (dSer V2)))]) (rest := []) (As := [.ref (r 10), .ref (o 10)]) (k_X2_copy l D yI yZ yL (r 10) (o 10) 10 wh2 wh (by decide)) (va_cwS 2 F.hts gX2_become_X2_copy rfl rfl rfl (by decide +kernel) ⟨Nat.le_of_ble_eq_true rfl, Nat.le_of_ble_eq_true rfl⟩) [21, 10] [0, 1, 2, 3, 4, 5, 6, 7, 8, 9, 11, 12, 13, 14, 15, 16, 17, 18, 19, 20] rfl rfl (by decide) (by decide) (by decide) rfl rfl (Nat.le_of_ble_eq_true rfl) dX2_become_139 ⟨Nat.le_of_ble_eq_true rfl, Nat.le_of_ble_eq_true rfl⟩ (fun W1 z1 => ?_)
  subst z1
  refine xr_sub (ws' := (swx yI o mk2 aw2 wh2 (dHour V2) (dBank V2) (dLev V2) (dOver V2) (dDrawn V2) (dFull V2) (dLock V2) (dFill V2) (dAt V2) (dPur V2) (dSer V2)) ++ (sw yI r mk2 aw2 wh2 V2)) [0, 1, 2, 3, 4, 5, 6, 7, 8, 9, 21, 10, 11, 12, 13, 14, 15, 16, 17, 18, 19, 20] (by decide) rfl ?_
  refine xr_aload_n F dX2_become_142 rfl 0 rfl ?_
  exact ret _ _ _ _ dX2_become_143 ⟨rfl, rfl⟩

section XKIT4
variable {p : Program} {l : Launch} {e : Env} {R : Room} {s : State} {m : MethodId} {args : Array Value} {below : List Frame} {meth : Method} {c : Code} {Q : State → Prop}
variable {nL : Nat} {D : va_G} {A : Nat → Prop} {cells slots : Nat}
variable {ws : va_W} {lv : List (Nat × Value)} {pc : Nat} {st : List Value}
/-- a row whose values are known by another function -/
theorem xr_fc (q0 : Nat) {c0 : ClassId} {a0 n : Nat} {f : Nat → Int32} (g : Nat → Int32) (h : ws[q0]? = some (a0, .inl (c0, n, .inl f))) (e9 : ∀ j, j < n → f j = g j) (ws' : va_W) (hw : ws.set q0 (a0, .inl (c0, n, .inl g)) = ws')
    (kk : AW p l e R s m args below meth c nL D A cells slots Q ws' lv pc st) : AW p l e R s m args below meth c nL D A cells slots Q ws lv pc st := by
  intro H locs ls hP hD hS hl
  subst hw
  have h1 : ws.set q0 (a0, .inl (c0, n, .inl f)) = ws := by
    obtain ⟨hlt, he⟩ := List.getElem?_eq_some_iff.mp h
    rw [← he]; exact List.set_getElem_self hlt
  exact kk H locs ls (xk_cellcong (f := g) (g := f) (by rw [h1]; exact hP) e9) (hD.set h) hS hl
end XKIT4

theorem xk_updfn {f g : Nat → Int32} {k : Nat} (h : ∀ j, j < k → f j = g j) : ∀ j, j < k + 1 → upd f k (g k) j = g j := by
  intro j hj
  unfold upd
  by_cases e : j = k
  · rw [if_pos e, e]
  · rw [if_neg e]
    exact h j (by omega)

def rm_X0_copyFrom : Room := { frames := 1, cells := 0, slots := 0, locals := 26 }
set_option maxHeartbeats 4000000 in
set_option maxRecDepth 100000 in
/-- copyFrom -/
theorem k_X0_copyFrom (l : Launch) (D : va_G) (yI yZ yL : ClassId) (a b : Nat → Nat) (K : CK) (V : CD) (K2 : CK) (V2 : CD) (h0 : kDry K2 = 0 ∨ kDry K2 = 1) (h1 : ∀ k, k < 5 → dFull V2 k = 0 ∨ dFull V2 k = 1) : xMv l yX0_copyFrom wsX0_copyFrom rm_X0_copyFrom D (tysG yI yZ yL) ((cw yI yZ a K V) ++ (cw yI yZ b K2 V2)) [.ref (a 0), .ref (b 0)] 0 0 (fun W1 : va_W => W1 = cw yI yZ a K2 V2 ++ cw yI yZ b K2 V2) := by
  refine xE_v (cc := cX0_copyFrom) (nL := 3) (by decide) rfl (Nat.le_of_ble_eq_true rfl) ?_
  intro p e s m args below meth c A Q F hnm ret
  have hin0 : ∀ w ∈ u_ws RX0 TX0 18, w ∈ wsX0_copyFrom := by decide +kernel
  show AW p l e rm_X0_copyFrom s m args below meth c 3 D A 0 0 Q ((cw yI yZ a K V) ++ (cw yI yZ b K2 V2)) [(0, .ref (a 0)), (1, .ref (b 0))] 0 []
  refine xr_aload_n F dX0_copyFrom_0 rfl 0 rfl ?_
  refine xr_aload_n F dX0_copyFrom_1 rfl 1 rfl ?_
  refine xr_get F hin0 12 rfl rfl 0 (by decide) (List.mem_of_getElem? (i := 1) rfl) (v := .int (nI (dHour V2))) rfl dX0_copyFrom_2 ?_
  refine xr_put (ty := .int) F hin0 0 rfl rfl 0 (by decide) tyX0 tyX0_ok nmX0 (List.mem_of_getElem? (i := 1) rfl) rfl (by decide) rfl rfl (Nat.le_of_ble_eq_true rfl) ((cwx yI yZ a (kFee K) (kDry K) (kMill K) (kMark K) (kNb K) (kSpr K) (kGoal K) (dHour V2) (dBank V) (dLev V) (dOver V) (dDrawn V) (dFull V) (dLock V) (dFill V) (dAt V) (dPur V) (dSer V)) ++ (cw yI yZ b K2 V2)) rfl dX0_copyFrom_5 ?_
  refine xr_aload_n F dX0_copyFrom_8 rfl 0 rfl ?_
  refine xr_aload_n F dX0_copyFrom_9 rfl 1 rfl ?_
  refine xr_get F hin0 12 rfl rfl 1 (by decide) (List.mem_of_getElem? (i := 2) rfl) (v := .int (dBank V2)) rfl dX0_copyFrom_10 ?_
  refine xr_put (ty := .int) F hin0 0 rfl rfl 1 (by decide) tyX0 tyX0_ok nmX0 (List.mem_of_getElem? (i := 2) rfl) rfl (by decide) rfl rfl (Nat.le_of_ble_eq_true rfl) ((cwx yI yZ a (kFee K) (kDry K) (kMill K) (kMark K) (kNb K) (kSpr K) (kGoal K) (dHour V2) (dBank V2) (dLev V) (dOver V) (dDrawn V) (dFull V) (dLock V) (dFill V) (dAt V) (dPur V) (dSer V)) ++ (cw yI yZ b K2 V2)) rfl dX0_copyFrom_13 ?_
  refine xr_aload_n F dX0_copyFrom_16 rfl 0 rfl ?_
  refine xr_aload_n F dX0_copyFrom_17 rfl 1 rfl ?_
  refine xr_get F hin0 12 rfl rfl 2 (by decide) (List.mem_of_getElem? (i := 3) rfl) (v := .int (kFee K2)) rfl dX0_copyFrom_18 ?_
  refine xr_put (ty := .int) F hin0 0 rfl rfl 2 (by decide) tyX0 tyX0_ok nmX0 (List.mem_of_getElem? (i := 3) rfl) rfl (by decide) rfl rfl (Nat.le_of_ble_eq_true rfl) ((cwx yI yZ a (kFee K2) (kDry K) (kMill K) (kMark K) (kNb K) (kSpr K) (kGoal K) (dHour V2) (dBank V2) (dLev V) (dOver V) (dDrawn V) (dFull V) (dLock V) (dFill V) (dAt V) (dPur V) (dSer V)) ++ (cw yI yZ b K2 V2)) rfl dX0_copyFrom_21 ?_
  refine xr_aload_n F dX0_copyFrom_24 rfl 0 rfl ?_
  refine xr_aload_n F dX0_copyFrom_25 rfl 1 rfl ?_
  refine xr_get F hin0 12 rfl rfl 3 (by decide) (List.mem_of_getElem? (i := 4) rfl) (v := .int (kDry K2)) rfl dX0_copyFrom_26 ?_
  refine xr_put (ty := .boolean) F hin0 0 rfl rfl 3 (by decide) tyX0 tyX0_ok nmX0 (List.mem_of_getElem? (i := 4) rfl) rfl (by decide) (nz01 h0) (fz01 h0) (Nat.le_of_ble_eq_true rfl) ((cwx yI yZ a (kFee K2) (kDry K2) (kMill K) (kMark K) (kNb K) (kSpr K) (kGoal K) (dHour V2) (dBank V2) (dLev V) (dOver V) (dDrawn V) (dFull V) (dLock V) (dFill V) (dAt V) (dPur V) (dSer V)) ++ (cw yI yZ b K2 V2)) rfl dX0_copyFrom_29 ?_
  refine xr_aload_n F dX0_copyFrom_32 rfl 0 rfl ?_
  refine xr_aload_n F dX0_copyFrom_33 rfl 1 rfl ?_
  refine xr_get F hin0 12 rfl rfl 4 (by decide) (List.mem_of_getElem? (i := 5) rfl) (v := .int (nI (kMill K2) - 1)) rfl dX0_copyFrom_34 ?_
  refine xr_put (ty := .int) F hin0 0 rfl rfl 4 (by decide) tyX0 tyX0_ok nmX0 (List.mem_of_getElem? (i := 5) rfl) rfl (by decide) rfl rfl (Nat.le_of_ble_eq_true rfl) ((cwx yI yZ a (kFee K2) (kDry K2) (kMill K2) (kMark K) (kNb K) (kSpr K) (kGoal K) (dHour V2) (dBank V2) (dLev V) (dOver V) (dDrawn V) (dFull V) (dLock V) (dFill V) (dAt V) (dPur V) (dSer V)) ++ (cw yI yZ b K2 V2)) rfl dX0_copyFrom_37 ?_
  refine xr_aload_n F dX0_copyFrom_40 rfl 0 rfl ?_
  refine xr_aload_n F dX0_copyFrom_41 rfl 1 rfl ?_
  refine xr_get F hin0 12 rfl rfl 5 (by decide) (List.mem_of_getElem? (i := 6) rfl) (v := .int (kMark K2)) rfl dX0_copyFrom_42 ?_
  refine xr_put (ty := .int) F hin0 0 rfl rfl 5 (by decide) tyX0 tyX0_ok nmX0 (List.mem_of_getElem? (i := 6) rfl) rfl (by decide) rfl rfl (Nat.le_of_ble_eq_true rfl) ((cwx yI yZ a (kFee K2) (kDry K2) (kMill K2) (kMark K2) (kNb K) (kSpr K) (kGoal K) (dHour V2) (dBank V2) (dLev V) (dOver V) (dDrawn V) (dFull V) (dLock V) (dFill V) (dAt V) (dPur V) (dSer V)) ++ (cw yI yZ b K2 V2)) rfl dX0_copyFrom_45 ?_
  refine xr_aload_n F dX0_copyFrom_48 rfl 1 rfl ?_
  refine xr_get F hin0 12 rfl rfl 6 (by decide) (List.mem_of_getElem? (i := 7) rfl) (v := .ref (b 1)) rfl dX0_copyFrom_49 ?_
  refine xr_iconst F dX0_copyFrom_52 (v := 0) (by decide) ?_
  refine xr_aload_n F dX0_copyFrom_53 rfl 0 rfl ?_
  refine xr_get F hin0 0 rfl rfl 6 (by decide) (List.mem_of_getElem? (i := 7) rfl) (v := .ref (a 1)) rfl dX0_copyFrom_54 ?_
  refine xr_iconst F dX0_copyFrom_57 (v := 0) (by decide) ?_
  refine xr_bipush F dX0_copyFrom_58 (v := 8) (by decide) ?_
  refine xr_copy F 13 1 0 (List.mem_of_getElem? (i := 8) rfl) (List.mem_of_getElem? (i := 9) rfl) (List.mem_of_getElem? (i := 10) rfl) (List.mem_of_getElem? (i := 11) rfl) 8 rfl rfl rfl rfl rfl (by decide) (fun _ _ => rfl) (Nat.le_of_ble_eq_true rfl) (Nat.le_of_ble_eq_true rfl) ((cwx yI yZ a (kFee K2) (kDry K2) (kMill K2) (kMark K2) (kNb K) (kSpr K2) (kGoal K) (dHour V2) (dBank V2) (dLev V) (dOver V) (dDrawn V) (dFull V) (dLock V) (dFill V) (dAt V) (dPur V) (dSer V)) ++ (cw yI yZ b K2 V2)) rfl dX0_copyFrom_60 ?_
  refine xr_aload_n F dX0_copyFrom_63 rfl 1 rfl ?_
  refine xr_get F hin0 12 rfl rfl 7 (by decide) (List.mem_of_getElem? (i := 12) rfl) (v := .ref (b 2)) rfl dX0_copyFrom_64 ?_
  refine xr_iconst F dX0_copyFrom_67 (v := 0) (by decide) ?_
  refine xr_aload_n F dX0_copyFrom_68 rfl 0 rfl ?_
  refine xr_get F hin0 0 rfl rfl 7 (by decide) (List.mem_of_getElem? (i := 12) rfl) (v := .ref (a 2)) rfl dX0_copyFrom_69 ?_
  refine xr_iconst F dX0_copyFrom_72 (v := 0) (by decide) ?_
  refine xr_bipush F dX0_copyFrom_73 (v := 6) (by decide) ?_
  refine xr_copy F 14 2 0 (List.mem_of_getElem? (i := 8) rfl) (List.mem_of_getElem? (i := 9) rfl) (List.mem_of_getElem? (i := 10) rfl) (List.mem_of_getElem? (i := 11) rfl) 6 rfl rfl rfl rfl rfl (by decide) (fun _ _ => rfl) (Nat.le_of_ble_eq_true rfl) (Nat.le_of_ble_eq_true rfl) ((cwx yI yZ a (kFee K2) (kDry K2) (kMill K2) (kMark K2) (kNb K) (kSpr K2) (kGoal K) (dHour V2) (dBank V2) (dLev V2) (dOver V) (dDrawn V) (dFull V) (dLock V) (dFill V) (dAt V) (dPur V) (dSer V)) ++ (cw yI yZ b K2 V2)) rfl dX0_copyFrom_75 ?_
  refine xr_aload_n F dX0_copyFrom_78 rfl 1 rfl ?_
  refine xr_get F hin0 12 rfl rfl 8 (by decide) (List.mem_of_getElem? (i := 13) rfl) (v := .ref (b 3)) rfl dX0_copyFrom_79 ?_
  refine xr_iconst F dX0_copyFrom_82 (v := 0) (by decide) ?_
  refine xr_aload_n F dX0_copyFrom_83 rfl 0 rfl ?_
  refine xr_get F hin0 0 rfl rfl 8 (by decide) (List.mem_of_getElem? (i := 13) rfl) (v := .ref (a 3)) rfl dX0_copyFrom_84 ?_
  refine xr_iconst F dX0_copyFrom_87 (v := 0) (by decide) ?_
  refine xr_bipush F dX0_copyFrom_88 (v := 6) (by decide) ?_
  refine xr_copy F 15 3 0 (List.mem_of_getElem? (i := 8) rfl) (List.mem_of_getElem? (i := 9) rfl) (List.mem_of_getElem? (i := 10) rfl) (List.mem_of_getElem? (i := 11) rfl) 6 rfl rfl rfl rfl rfl (by decide) (fun _ _ => rfl) (Nat.le_of_ble_eq_true rfl) (Nat.le_of_ble_eq_true rfl) ((cwx yI yZ a (kFee K2) (kDry K2) (kMill K2) (kMark K2) (kNb K) (kSpr K2) (kGoal K) (dHour V2) (dBank V2) (dLev V2) (dOver V2) (dDrawn V) (dFull V) (dLock V) (dFill V) (dAt V) (dPur V) (dSer V)) ++ (cw yI yZ b K2 V2)) rfl dX0_copyFrom_90 ?_
  refine xr_aload_n F dX0_copyFrom_93 rfl 1 rfl ?_
  refine xr_get F hin0 12 rfl rfl 9 (by decide) (List.mem_of_getElem? (i := 14) rfl) (v := .ref (b 4)) rfl dX0_copyFrom_94 ?_
  refine xr_iconst F dX0_copyFrom_97 (v := 0) (by decide) ?_
  refine xr_aload_n F dX0_copyFrom_98 rfl 0 rfl ?_
  refine xr_get F hin0 0 rfl rfl 9 (by decide) (List.mem_of_getElem? (i := 14) rfl) (v := .ref (a 4)) rfl dX0_copyFrom_99 ?_
  refine xr_iconst F dX0_copyFrom_102 (v := 0) (by decide) ?_
  refine xr_bipush F dX0_copyFrom_103 (v := 6) (by decide) ?_
  refine xr_copy F 16 4 0 (List.mem_of_getElem? (i := 8) rfl) (List.mem_of_getElem? (i := 9) rfl) (List.mem_of_getElem? (i := 10) rfl) (List.mem_of_getElem? (i := 11) rfl) 6 rfl rfl rfl rfl rfl (by decide) (fun _ _ => rfl) (Nat.le_of_ble_eq_true rfl) (Nat.le_of_ble_eq_true rfl) ((cwx yI yZ a (kFee K2) (kDry K2) (kMill K2) (kMark K2) (kNb K) (kSpr K2) (kGoal K) (dHour V2) (dBank V2) (dLev V2) (dOver V2) (dDrawn V2) (dFull V) (dLock V) (dFill V) (dAt V) (dPur V) (dSer V)) ++ (cw yI yZ b K2 V2)) rfl dX0_copyFrom_105 ?_
  refine xr_iconst F dX0_copyFrom_108 (v := 0) (by decide) ?_
  refine xr_istore_n F [(2, .int 0), (0, .ref (a 0)), (1, .ref (b 0))] dX0_copyFrom_109 rfl (by decide) rfl ?_
  have lp : ∀ (i : Nat) (k : Nat) (f : Nat → Int32), i + k = 5 → (∀ j, j < k → f j = dFull V2 j) → AW p l e rm_X0_copyFrom s m args below meth c 3 D A 0 0 Q ((cwx yI yZ a (kFee K2) (kDry K2) (kMill K2) (kMark K2) (kNb K) (kSpr K2) (kGoal K) (dHour V2) (dBank V2) (dLev V2) (dOver V2) (dDrawn V2) f (dLock V) (dFill V) (dAt V) (dPur V) (dSer V)) ++ (cw yI yZ b K2 V2)) [(2, .int (nI k)), (0, .ref (a 0)), (1, .ref (b 0))] 110 [] := by
    intro i
    induction i with
    | zero =>
      intro k f hb hf
      refine xr_iload_n F dX0_copyFrom_110 rfl 0 rfl ?_
      refine xr_iconst F dX0_copyFrom_111 (v := 5) (by decide) ?_
      refine xr_icmp_ge F 133 dX0_copyFrom_112 (by decide) (fun c112 => ?_) (fun c112 => ?_)
      · skip
        refine xr_fc 5 (dFull V2) rfl (fun j h => hf j (by omega)) ((cwx yI yZ a (kFee K2) (kDry K2) (kMill K2) (kMark K2) (kNb K) (kSpr K2) (kGoal K) (dHour V2) (dBank V2) (dLev V2) (dOver V2) (dDrawn V2) (dFull V2) (dLock V) (dFill V) (dAt V) (dPur V) (dSer V)) ++ (cw yI yZ b K2 V2)) rfl ?_
        refine xr_aload_n F dX0_copyFrom_133 rfl 2 rfl ?_
        refine xr_get F hin0 12 rfl rfl 11 (by decide) (List.mem_of_getElem? (i := 16) rfl) (v := .ref (b 6)) rfl dX0_copyFrom_134 ?_
        refine xr_iconst F dX0_copyFrom_137 (v := 0) (by decide) ?_
        refine xr_aload_n F dX0_copyFrom_138 rfl 1 rfl ?_
        refine xr_get F hin0 0 rfl rfl 11 (by decide) (List.mem_of_getElem? (i := 16) rfl) (v := .ref (a 6)) rfl dX0_copyFrom_139 ?_
        refine xr_iconst F dX0_copyFrom_142 (v := 0) (by decide) ?_
        refine xr_iconst F dX0_copyFrom_143 (v := 5) (by decide) ?_
        refine xr_copy F 18 6 0 (List.mem_of_getElem? (i := 8) rfl) (List.mem_of_getElem? (i := 9) rfl) (List.mem_of_getElem? (i := 10) rfl) (List.mem_of_getElem? (i := 11) rfl) 5 rfl rfl rfl rfl rfl (by decide) (fun _ _ => rfl) (Nat.le_of_ble_eq_true rfl) (Nat.le_of_ble_eq_true rfl) ((cwx yI yZ a (kFee K2) (kDry K2) (kMill K2) (kMark K2) (kNb K) (kSpr K2) (kGoal K) (dHour V2) (dBank V2) (dLev V2) (dOver V2) (dDrawn V2) (dFull V2) (dLock V2) (dFill V) (dAt V) (dPur V) (dSer V)) ++ (cw yI yZ b K2 V2)) rfl dX0_copyFrom_144 ?_
        refine xr_aload_n F dX0_copyFrom_147 rfl 2 rfl ?_
        refine xr_get F hin0 12 rfl rfl 12 (by decide) (List.mem_of_getElem? (i := 17) rfl) (v := .ref (b 7)) rfl dX0_copyFrom_148 ?_
        refine xr_iconst F dX0_copyFrom_151 (v := 0) (by decide) ?_
        refine xr_aload_n F dX0_copyFrom_152 rfl 1 rfl ?_
        refine xr_get F hin0 0 rfl rfl 12 (by decide) (List.mem_of_getElem? (i := 17) rfl) (v := .ref (a 7)) rfl dX0_copyFrom_153 ?_
        refine xr_iconst F dX0_copyFrom_156 (v := 0) (by decide) ?_
        refine xr_iconst F dX0_copyFrom_157 (v := 5) (by decide) ?_
        refine xr_copy F 19 7 0 (List.mem_of_getElem? (i := 8) rfl) (List.mem_of_getElem? (i := 9) rfl) (List.mem_of_getElem? (i := 10) rfl) (List.mem_of_getElem? (i := 11) rfl) 5 rfl rfl rfl rfl rfl (by decide) (fun _ _ => rfl) (Nat.le_of_ble_eq_true rfl) (Nat.le_of_ble_eq_true rfl) ((cwx yI yZ a (kFee K2) (kDry K2) (kMill K2) (kMark K2) (kNb K) (kSpr K2) (kGoal K) (dHour V2) (dBank V2) (dLev V2) (dOver V2) (dDrawn V2) (dFull V2) (dLock V2) (dFill V2) (dAt V) (dPur V) (dSer V)) ++ (cw yI yZ b K2 V2)) rfl dX0_copyFrom_158 ?_
        refine xr_aload_n F dX0_copyFrom_161 rfl 1 rfl ?_
        refine xr_aload_n F dX0_copyFrom_162 rfl 2 rfl ?_
        refine xr_get F hin0 12 rfl rfl 13 (by decide) (List.mem_of_getElem? (i := 18) rfl) (v := .int (nI (kNb K2))) rfl dX0_copyFrom_163 ?_
        refine xr_put (ty := .int) F hin0 0 rfl rfl 13 (by decide) tyX0 tyX0_ok nmX0 (List.mem_of_getElem? (i := 18) rfl) rfl (by decide) rfl rfl (Nat.le_of_ble_eq_true rfl) ((cwx yI yZ a (kFee K2) (kDry K2) (kMill K2) (kMark K2) (kNb K2) (kSpr K2) (kGoal K) (dHour V2) (dBank V2) (dLev V2) (dOver V2) (dDrawn V2) (dFull V2) (dLock V2) (dFill V2) (dAt V) (dPur V) (dSer V)) ++ (cw yI yZ b K2 V2)) rfl dX0_copyFrom_166 ?_
        refine xr_aload_n F dX0_copyFrom_169 rfl 2 rfl ?_
        refine xr_get F hin0 12 rfl rfl 14 (by decide) (List.mem_of_getElem? (i := 19) rfl) (v := .ref (b 8)) rfl dX0_copyFrom_170 ?_
        refine xr_iconst F dX0_copyFrom_173 (v := 0) (by decide) ?_
        refine xr_aload_n F dX0_copyFrom_174 rfl 1 rfl ?_
        refine xr_get F hin0 0 rfl rfl 14 (by decide) (List.mem_of_getElem? (i := 19) rfl) (v := .ref (a 8)) rfl dX0_copyFrom_175 ?_
        refine xr_iconst F dX0_copyFrom_178 (v := 0) (by decide) ?_
        refine xr_bipush F dX0_copyFrom_179 (v := 10) (by decide) ?_
        refine xr_copy F 20 8 0 (List.mem_of_getElem? (i := 8) rfl) (List.mem_of_getElem? (i := 9) rfl) (List.mem_of_getElem? (i := 10) rfl) (List.mem_of_getElem? (i := 11) rfl) 10 rfl rfl rfl rfl rfl (by decide) (fun _ _ => rfl) (Nat.le_of_ble_eq_true rfl) (Nat.le_of_ble_eq_true rfl) ((cwx yI yZ a (kFee K2) (kDry K2) (kMill K2) (kMark K2) (kNb K2) (kSpr K2) (kGoal K) (dHour V2) (dBank V2) (dLev V2) (dOver V2) (dDrawn V2) (dFull V2) (dLock V2) (dFill V2) (dAt V2) (dPur V) (dSer V)) ++ (cw yI yZ b K2 V2)) rfl dX0_copyFrom_181 ?_
        refine xr_aload_n F dX0_copyFrom_184 rfl 2 rfl ?_
        refine xr_get F hin0 12 rfl rfl 15 (by decide) (List.mem_of_getElem? (i := 20) rfl) (v := .ref (b 9)) rfl dX0_copyFrom_185 ?_
        refine xr_iconst F dX0_copyFrom_188 (v := 0) (by decide) ?_
        refine xr_aload_n F dX0_copyFrom_189 rfl 1 rfl ?_
        refine xr_get F hin0 0 rfl rfl 15 (by decide) (List.mem_of_getElem? (i := 20) rfl) (v := .ref (a 9)) rfl dX0_copyFrom_190 ?_
        refine xr_iconst F dX0_copyFrom_193 (v := 0) (by decide) ?_
        refine xr_bipush F dX0_copyFrom_194 (v := 10) (by decide) ?_
        refine xr_copy F 21 9 0 (List.mem_of_getElem? (i := 8) rfl) (List.mem_of_getElem? (i := 9) rfl) (List.mem_of_getElem? (i := 10) rfl) (List.mem_of_getElem? (i := 11) rfl) 10 rfl rfl rfl rfl rfl (by decide) (fun _ _ => rfl) (Nat.le_of_ble_eq_true rfl) (Nat.le_of_ble_eq_true rfl) ((cwx yI yZ a (kFee K2) (kDry K2) (kMill K2) (kMark K2) (kNb K2) (kSpr K2) (kGoal K2) (dHour V2) (dBank V2) (dLev V2) (dOver V2) (dDrawn V2) (dFull V2) (dLock V2) (dFill V2) (dAt V2) (dPur V) (dSer V)) ++ (cw yI yZ b K2 V2)) rfl dX0_copyFrom_196 ?_
        refine xr_aload_n F dX0_copyFrom_199 rfl 2 rfl ?_
        refine xr_get F hin0 12 rfl rfl 16 (by decide) (List.mem_of_getElem? (i := 21) rfl) (v := .ref (b 10)) rfl dX0_copyFrom_200 ?_
        refine xr_iconst F dX0_copyFrom_203 (v := 0) (by decide) ?_
        refine xr_aload_n F dX0_copyFrom_204 rfl 1 rfl ?_
        refine xr_get F hin0 0 rfl rfl 16 (by decide) (List.mem_of_getElem? (i := 21) rfl) (v := .ref (a 10)) rfl dX0_copyFrom_205 ?_
        refine xr_iconst F dX0_copyFrom_208 (v := 0) (by decide) ?_
        refine xr_bipush F dX0_copyFrom_209 (v := 10) (by decide) ?_
        refine xr_copy F 22 10 0 (List.mem_of_getElem? (i := 8) rfl) (List.mem_of_getElem? (i := 9) rfl) (List.mem_of_getElem? (i := 10) rfl) (List.mem_of_getElem? (i := 11) rfl) 10 rfl rfl rfl rfl rfl (by decide) (fun _ _ => rfl) (Nat.le_of_ble_eq_true rfl) (Nat.le_of_ble_eq_true rfl) ((cwx yI yZ a (kFee K2) (kDry K2) (kMill K2) (kMark K2) (kNb K2) (kSpr K2) (kGoal K2) (dHour V2) (dBank V2) (dLev V2) (dOver V2) (dDrawn V2) (dFull V2) (dLock V2) (dFill V2) (dAt V2) (dPur V2) (dSer V)) ++ (cw yI yZ b K2 V2)) rfl dX0_copyFrom_211 ?_
        refine xr_aload_n F dX0_copyFrom_214 rfl 2 rfl ?_
        refine xr_get F hin0 12 rfl rfl 17 (by decide) (List.mem_of_getElem? (i := 22) rfl) (v := .ref (b 11)) rfl dX0_copyFrom_215 ?_
        refine xr_iconst F dX0_copyFrom_218 (v := 0) (by decide) ?_
        refine xr_aload_n F dX0_copyFrom_219 rfl 1 rfl ?_
        refine xr_get F hin0 0 rfl rfl 17 (by decide) (List.mem_of_getElem? (i := 22) rfl) (v := .ref (a 11)) rfl dX0_copyFrom_220 ?_
        refine xr_iconst F dX0_copyFrom_223 (v := 0) (by decide) ?_
        refine xr_bipush F dX0_copyFrom_224 (v := 10) (by decide) ?_
        refine xr_copy F 23 11 0 (List.mem_of_getElem? (i := 8) rfl) (List.mem_of_getElem? (i := 9) rfl) (List.mem_of_getElem? (i := 10) rfl) (List.mem_of_getElem? (i := 11) rfl) 10 rfl rfl rfl rfl rfl (by decide) (fun _ _ => rfl) (Nat.le_of_ble_eq_true rfl) (Nat.le_of_ble_eq_true rfl) ((cwx yI yZ a (kFee K2) (kDry K2) (kMill K2) (kMark K2) (kNb K2) (kSpr K2) (kGoal K2) (dHour V2) (dBank V2) (dLev V2) (dOver V2) (dDrawn V2) (dFull V2) (dLock V2) (dFill V2) (dAt V2) (dPur V2) (dSer V2)) ++ (cw yI yZ b K2 V2)) rfl dX0_copyFrom_226 ?_
        exact ret _ _ _ dX0_copyFrom_229 rfl
      · exact (xk_ge (a := 5) (b := k) (by omega) (by omega) c112).elim
    | succ i ih =>
      intro k f hb hf
      refine xr_iload_n F dX0_copyFrom_110 rfl 0 rfl ?_
      refine xr_iconst F dX0_copyFrom_111 (v := 5) (by decide) ?_
      refine xr_icmp_ge F 133 dX0_copyFrom_112 (by decide) (fun c112 => ?_) (fun c112 => ?_)
      · exact (xk_nlt (a := k) (b := 5) (by omega) (by omega) (by omega) c112).elim
      · skip
        refine xr_aload_n F dX0_copyFrom_115 rfl 1 rfl ?_
        refine xr_get F hin0 0 rfl rfl 10 (by decide) (List.mem_of_getElem? (i := 15) rfl) (v := .ref (a 5)) rfl dX0_copyFrom_116 ?_
        refine xr_iload_n F dX0_copyFrom_119 rfl 0 rfl ?_
        refine xr_aload_n F dX0_copyFrom_120 rfl 2 rfl ?_
        refine xr_get F hin0 12 rfl rfl 10 (by decide) (List.mem_of_getElem? (i := 15) rfl) (v := .ref (b 5)) rfl dX0_copyFrom_121 ?_
        refine xr_iload_n F dX0_copyFrom_124 rfl 0 rfl ?_
        refine xr_zald F 17 1 rfl rfl (k) rfl (by omega) (by decide) dX0_copyFrom_125 ?_
        have e8 : vp_nar .boolean (dFull V2 k) = dFull V2 k := by rcases h1 k (by omega) with e | e <;> rw [e] <;> rfl
        refine xr_zast F 5 1 rfl rfl (k) rfl (by omega) (by decide) ((cwx yI yZ a (kFee K2) (kDry K2) (kMill K2) (kMark K2) (kNb K) (kSpr K2) (kGoal K) (dHour V2) (dBank V2) (dLev V2) (dOver V2) (dDrawn V2) (upd f k ((dFull V2) k)) (dLock V) (dFill V) (dAt V) (dPur V) (dSer V)) ++ (cw yI yZ b K2 V2)) (by rw [e8]; rfl) dX0_copyFrom_126 ?_
        refine xr_iinc F (nI (k + 1)) [(2, .int (nI (k + 1))), (0, .ref (a 0)), (1, .ref (b 0))] dX0_copyFrom_127 0 rfl (nI_add k 1) (by decide) rfl ?_
        refine xr_goto F 110 dX0_copyFrom_130 (by decide) ?_
        refine xr_lv (lv' := [(2, .int (nI (k + 1))), (0, .ref (a 0)), (1, .ref (b 0))]) [0, 1, 2] rfl ?_
        exact ih (k + 1) (upd f k ((dFull V2) k)) (by omega) (xk_updfn hf)
  refine xr_lv (lv' := [(2, .int 0), (0, .ref (a 0)), (1, .ref (b 0))]) [0, 1, 2] rfl ?_
  exact lp 5 0 (dFull V) rfl (fun j h => absurd h (Nat.not_lt_zero j))
