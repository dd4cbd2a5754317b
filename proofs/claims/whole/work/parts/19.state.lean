def rm_X2_canFill : Room := { frames := 0, cells := 0, slots := 0, locals := 0 }
set_option maxHeartbeats 4000000 in
set_option maxRecDepth 100000 in
/-- State.canFill -/
theorem k_X2_canFill (l : Launch) (D : va_G) (yI yZ yL : ClassId) (o : Nat → Nat) (mk aw : Int32) (wh : Nat → Int32) (V : CD) (k : Nat) (h0 : k < 5) : xMi l yX2_canFill wsX2_canFill rm_X2_canFill D (tysG yI yZ yL) (sw yI o mk aw wh V) [.ref (o 0), .int (nI k)] 0 0 (fun (r : Int32) (W1 : va_W) => r = c_canFill V k ∧ W1 = sw yI o mk aw wh V) := by
  refine xE_z (cc := cX2_canFill) (nL := 2) (by decide) rfl (Nat.le_of_ble_eq_true rfl) ?_
  intro p e s m args below meth c A Q F hnm ret
  have hin2 : ∀ w ∈ u_ws RX2 TX2 14, w ∈ wsX2_canFill := by decide +kernel
  show AW p l e rm_X2_canFill s m args below meth c 2 D A 0 0 Q (sw yI o mk aw wh V) [(0, .ref (o 0)), (1, .int (nI k))] 0 []
  refine xr_aload_n F dX2_canFill_0 rfl 0 rfl ?_
  refine xr_get F hin2 0 rfl rfl 4 (by decide) (List.mem_of_getElem? (i := 1) rfl) (v := .ref (o 1)) rfl dX2_canFill_1 ?_
  refine xr_iload_n F dX2_canFill_4 rfl 1 rfl ?_
  refine xr_iconst F dX2_canFill_5 (v := 1) (by decide) ?_
  refine xr_iadd F (nI (k + 1)) dX2_canFill_6 (nI_add k 1) ?_
  refine xr_iald F 1 0 rfl rfl (k + 1) rfl (by omega) (by decide) dX2_canFill_7 ?_
  refine xr_bipush F dX2_canFill_8 (v := 32) (by decide) ?_
  refine xr_icmp_lt F 17 dX2_canFill_10 (by decide) (fun c10 => ?_) (fun c10 => ?_)
  · skip
    refine xr_iconst F dX2_canFill_17 (v := 0) (by decide) ?_
    refine ret _ _ _ _ dX2_canFill_18 rfl ⟨?_, rfl⟩
    first | with_reducible rfl | (simp only [c_canFill, c10, ↓reduceIte]; done) | (simp only [c_canFill, c10, ↓reduceIte]; rfl) | rfl
  · skip
    refine xr_iconst F dX2_canFill_13 (v := 1) (by decide) ?_
    refine xr_goto F 18 dX2_canFill_14 (by decide) ?_
    refine ret _ _ _ _ dX2_canFill_18 rfl ⟨?_, rfl⟩
    first | with_reducible rfl | (simp only [c_canFill, c10, ↓reduceIte]; done) | (simp only [c_canFill, c10, ↓reduceIte]; rfl) | rfl

def rm_X2_fill : Room := { frames := 0, cells := 0, slots := 0, locals := 0 }
set_option maxHeartbeats 4000000 in
set_option maxRecDepth 100000 in
/-- State.fill -/
theorem k_X2_fill (l : Launch) (D : va_G) (yI yZ yL : ClassId) (o : Nat → Nat) (mk aw : Int32) (wh : Nat → Int32) (V : CD) (k : Nat) (h0 : k < 5) : xMv l yX2_fill wsX2_fill rm_X2_fill D (tysG yI yZ yL) (sw yI o mk aw wh V) [.ref (o 0), .int (nI k)] 0 0 (fun W1 : va_W => W1 = sw yI o mk aw wh (s_fill V k)) := by
  refine xE_v (cc := cX2_fill) (nL := 2) (by decide) rfl (Nat.le_of_ble_eq_true rfl) ?_
  intro p e s m args below meth c A Q F hnm ret
  have hin2 : ∀ w ∈ u_ws RX2 TX2 14, w ∈ wsX2_fill := by decide +kernel
  show AW p l e rm_X2_fill s m args below meth c 2 D A 0 0 Q (sw yI o mk aw wh V) [(0, .ref (o 0)), (1, .int (nI k))] 0 []
  refine xr_aload_n F dX2_fill_0 rfl 0 rfl ?_
  refine xr_get F hin2 0 rfl rfl 4 (by decide) (List.mem_of_getElem? (i := 1) rfl) (v := .ref (o 1)) rfl dX2_fill_1 ?_
  refine xr_iload_n F dX2_fill_4 rfl 1 rfl ?_
  refine xr_iconst F dX2_fill_5 (v := 1) (by decide) ?_
  refine xr_iadd F (nI (k + 1)) dX2_fill_6 (nI_add k 1) ?_
  refine xr_dup2 F dX2_fill_7 rfl rfl ?_
  refine xr_iald F 1 0 rfl rfl (k + 1) rfl (by omega) (by decide) dX2_fill_8 ?_
  refine xr_bipush F dX2_fill_9 (v := 12) (by decide) ?_
  refine xr_isub F (((dLev V) (k + 1)) - 12) dX2_fill_11 rfl ?_
  refine xr_iast F 1 0 rfl rfl (k + 1) rfl (by omega) (by decide) (swx yI o mk aw wh (dHour V) (dBank V) (upd (dLev V) (k + 1) (((dLev V) (k + 1)) - 12)) (dOver V) (dDrawn V) (dFull V) (dLock V) (dFill V) (dAt V) (dPur V) (dSer V)) rfl dX2_fill_12 ?_
  refine xr_aload_n F dX2_fill_13 rfl 0 rfl ?_
  refine xr_get F hin2 0 rfl rfl 9 (by decide) (List.mem_of_getElem? (i := 2) rfl) (v := .ref (o 6)) rfl dX2_fill_14 ?_
  refine xr_iload_n F dX2_fill_17 rfl 1 rfl ?_
  refine xr_dup2 F dX2_fill_18 rfl rfl ?_
  refine xr_iald F 6 0 rfl rfl (k) rfl (by omega) (by decide) dX2_fill_19 ?_
  refine xr_bipush F dX2_fill_20 (v := 12) (by decide) ?_
  refine xr_iadd F (((dFill V) k) + 12) dX2_fill_22 rfl ?_
  refine xr_iast F 6 0 rfl rfl (k) rfl (by omega) (by decide) (swx yI o mk aw wh (dHour V) (dBank V) (upd (dLev V) (k + 1) (((dLev V) (k + 1)) - 12)) (dOver V) (dDrawn V) (dFull V) (dLock V) (upd (dFill V) k (((dFill V) k) + 12)) (dAt V) (dPur V) (dSer V)) rfl dX2_fill_23 ?_
  refine xr_aload_n F dX2_fill_24 rfl 0 rfl ?_
  refine xr_get F hin2 0 rfl rfl 7 (by decide) (List.mem_of_getElem? (i := 3) rfl) (v := .ref (o 4)) rfl dX2_fill_25 ?_
  refine xr_iload_n F dX2_fill_28 rfl 1 rfl ?_
  refine xr_iconst F dX2_fill_29 (v := 1) (by decide) ?_
  refine xr_iast F 4 0 rfl rfl (k) rfl (by omega) (by decide) (swx yI o mk aw wh (dHour V) (dBank V) (upd (dLev V) (k + 1) (((dLev V) (k + 1)) - 12)) (dOver V) (dDrawn V) (upd (dFull V) k 1) (dLock V) (upd (dFill V) k (((dFill V) k) + 12)) (dAt V) (dPur V) (dSer V)) rfl dX2_fill_30 ?_
  refine ret _ _ _ dX2_fill_31 ?_
  have f0 : s_fill V k = (dHour V, dBank V, upd (dLev V) (k + 1) (((dLev V) (k + 1)) - 12), dOver V, dDrawn V, upd (dFull V) k 1, dLock V, upd (dFill V) k (((dFill V) k) + 12), dAt V, dPur V, dSer V) := by
    simp only [s_fill, ↓reduceIte]
    try simp only [tHour, tBank, tLev, tOver, tDrawn, tFull, tLock, tFill, tAt, tPur, tSer, dHour, dBank, dLev, dOver, dDrawn, dFull, dLock, dFill, dAt, dPur, dSer]
  rw [f0, sw_mk]

def rm_X2_pour : Room := { frames := 1, cells := 0, slots := 0, locals := 21 }
set_option maxHeartbeats 4000000 in
set_option maxRecDepth 100000 in
/-- State.pour -/
theorem k_X2_pour (l : Launch) (D : va_G) (yI yZ yL : ClassId) (o : Nat → Nat) (mk aw : Int32) (wh : Nat → Int32) (V : CD) (n : Nat) (x : Int32) (h0 : n ≤ 6) : xMv l yX2_pour wsX2_pour rm_X2_pour D (tysG yI yZ yL) (sw yI o mk aw wh V) [.ref (o 0), .int (nI n - 1), .int x] 0 0 (fun W1 : va_W => W1 = sw yI o mk ((s_pour V aw n x).2) wh ((s_pour V aw n x).1)) := by
  refine xE_v (cc := cX2_pour) (nL := 5) (by decide) rfl (Nat.le_of_ble_eq_true rfl) ?_
  intro p e s m args below meth c A Q F hnm ret
  have hin2 : ∀ w ∈ u_ws RX2 TX2 14, w ∈ wsX2_pour := by decide +kernel
  show AW p l e rm_X2_pour s m args below meth c 5 D A 0 0 Q (sw yI o mk aw wh V) [(0, .ref (o 0)), (1, .int (nI n - 1)), (2, .int x)] 0 []
  refine xr_iload_n F dX2_pour_0 rfl 2 rfl ?_
  refine xr_istore_n F [(3, .int x), (0, .ref (o 0)), (1, .int (nI n - 1)), (2, .int x)] dX2_pour_1 rfl (by decide) rfl ?_
  refine xr_iload_n F dX2_pour_2 rfl 2 rfl ?_
  refine xr_istore F [(4, .int (nI n - 1)), (3, .int x), (0, .ref (o 0)), (1, .int (nI n - 1)), (2, .int x)] dX2_pour_3 (by decide) rfl ?_
  have lp : ∀ (i : Nat) (z : Int32) (f : Nat → Int32) (g : Nat → Int32), i ≤ 6 → s_pourL i z f g = s_pourL n x (dLev V) (dOver V) → AW p l e rm_X2_pour s m args below meth c 5 D A 0 0 Q (swx yI o mk aw wh (dHour V) (dBank V) f g (dDrawn V) (dFull V) (dLock V) (dFill V) (dAt V) (dPur V) (dSer V)) [(4, .int (nI i - 1)), (3, .int z), (0, .ref (o 0))] 5 [] := by
    intro i
    induction i with
    | zero =>
      intro z f g hn hi
      refine xr_iload F dX2_pour_5 0 rfl ?_
      refine xr_if_lt F 68 dX2_pour_7 (by decide) (fun c7 => ?_) (fun c7 => ?_)
      · skip
        refine xr_aload_n F dX2_pour_68 rfl 2 rfl ?_
        refine xr_dup F dX2_pour_69 rfl ?_
        refine xr_get F hin2 0 rfl rfl 3 (by decide) (List.mem_of_getElem? (i := 7) rfl) (v := .int aw) rfl dX2_pour_70 ?_
        refine xr_iload_n F dX2_pour_73 rfl 1 rfl ?_
        refine xr_iadd F (aw + z) dX2_pour_74 rfl ?_
        refine xr_put (ty := .int) F hin2 0 rfl rfl 3 (by decide) tyX2 tyX2_ok nmX2 (List.mem_of_getElem? (i := 7) rfl) rfl (by decide) rfl rfl (Nat.le_of_ble_eq_true rfl) (swx yI o mk (aw + z) wh (dHour V) (dBank V) f g (dDrawn V) (dFull V) (dLock V) (dFill V) (dAt V) (dPur V) (dSer V)) rfl dX2_pour_75 ?_
        refine ret _ _ _ dX2_pour_78 ?_
        have f0 : (s_pour V aw n x).1 = (dHour V, dBank V, f, g, dDrawn V, dFull V, dLock V, dFill V, dAt V, dPur V, dSer V) := by
          unfold s_pour
          rw [← hi]
          simp only [s_pourL, c7, ↓reduceIte]
          try simp only [tHour, tBank, tLev, tOver, tDrawn, tFull, tLock, tFill, tAt, tPur, tSer, dHour, dBank, dLev, dOver, dDrawn, dFull, dLock, dFill, dAt, dPur, dSer]
        have f1 : (s_pour V aw n x).2 = aw + z := by
          unfold s_pour
          rw [← hi]
          simp only [s_pourL, c7, ↓reduceIte]
        rw [f0, f1, sw_mk]
      · exact absurd (by decide) c7
    | succ i ih =>
      intro z f g hn hi
      refine xr_lveq (lv' := [(4, .int (nI i)), (3, .int z), (0, .ref (o 0))]) (by rw [nI_pred]) ?_
      refine xr_iload F dX2_pour_5 0 rfl ?_
      refine xr_if_lt F 68 dX2_pour_7 (by decide) (fun c7 => ?_) (fun c7 => ?_)
      · exact absurd c7 (nI_pos (by omega))
      · skip
        refine xr_iload_n F dX2_pour_10 rfl 1 rfl ?_
        refine xr_if_le F 68 dX2_pour_11 (by decide) (fun c11 => ?_) (fun c11 => ?_)
        · skip
          refine xr_aload_n F dX2_pour_68 rfl 2 rfl ?_
          refine xr_dup F dX2_pour_69 rfl ?_
          refine xr_get F hin2 0 rfl rfl 3 (by decide) (List.mem_of_getElem? (i := 7) rfl) (v := .int aw) rfl dX2_pour_70 ?_
          refine xr_iload_n F dX2_pour_73 rfl 1 rfl ?_
          refine xr_iadd F (aw + z) dX2_pour_74 rfl ?_
          refine xr_put (ty := .int) F hin2 0 rfl rfl 3 (by decide) tyX2 tyX2_ok nmX2 (List.mem_of_getElem? (i := 7) rfl) rfl (by decide) rfl rfl (Nat.le_of_ble_eq_true rfl) (swx yI o mk (aw + z) wh (dHour V) (dBank V) f g (dDrawn V) (dFull V) (dLock V) (dFill V) (dAt V) (dPur V) (dSer V)) rfl dX2_pour_75 ?_
          refine ret _ _ _ dX2_pour_78 ?_
          have f0 : (s_pour V aw n x).1 = (dHour V, dBank V, f, g, dDrawn V, dFull V, dLock V, dFill V, dAt V, dPur V, dSer V) := by
            unfold s_pour
            rw [← hi]
            simp only [s_pourL, c7, c11, ↓reduceIte]
            try simp only [tHour, tBank, tLev, tOver, tDrawn, tFull, tLock, tFill, tAt, tPur, tSer, dHour, dBank, dLev, dOver, dDrawn, dFull, dLock, dFill, dAt, dPur, dSer]
          have f1 : (s_pour V aw n x).2 = aw + z := by
            unfold s_pour
            rw [← hi]
            simp only [s_pourL, c7, c11, ↓reduceIte]
          rw [f0, f1, sw_mk]
        · skip
          refine xr_aload_n F dX2_pour_14 rfl 2 rfl ?_
          refine xr_get F hin2 0 rfl rfl 4 (by decide) (List.mem_of_getElem? (i := 1) rfl) (v := .ref (o 1)) rfl dX2_pour_15 ?_
          refine xr_iload F dX2_pour_18 0 rfl ?_
          refine xr_dup2 F dX2_pour_20 rfl rfl ?_
          refine xr_iald F 1 0 rfl rfl (i) rfl (by omega) (by decide) dX2_pour_21 ?_
          refine xr_iload_n F dX2_pour_22 rfl 1 rfl ?_
          refine xr_iadd F ((f i) + z) dX2_pour_23 rfl ?_
          refine xr_iast F 1 0 rfl rfl (i) rfl (by omega) (by decide) (swx yI o mk aw wh (dHour V) (dBank V) (upd f i ((f i) + z)) g (dDrawn V) (dFull V) (dLock V) (dFill V) (dAt V) (dPur V) (dSer V)) rfl dX2_pour_24 ?_
          refine xr_iconst F dX2_pour_25 (v := 0) (by decide) ?_
          refine xr_aload_n F dX2_pour_26 rfl 2 rfl ?_
          refine xr_get F hin2 0 rfl rfl 4 (by decide) (List.mem_of_getElem? (i := 1) rfl) (v := .ref (o 1)) rfl dX2_pour_27 ?_
          refine xr_iload F dX2_pour_30 0 rfl ?_
          refine xr_iald F 1 0 rfl rfl (i) rfl (by omega) (by decide) dX2_pour_32 ?_
          refine xr_bipush F dX2_pour_33 (v := 100) (by decide) ?_
          refine xr_isub F (((upd f i ((f i) + z)) i) - 100) dX2_pour_35 rfl ?_
          refine xr_mmax F (List.mem_of_getElem? (i := 2) rfl) (List.mem_of_getElem? (i := 3) rfl) (List.mem_of_getElem? (i := 4) rfl) (List.mem_of_getElem? (i := 5) rfl) (Nat.le_of_ble_eq_true rfl) (Nat.le_of_ble_eq_true rfl) (Nat.le_of_ble_eq_true rfl) (Nat.le_of_ble_eq_true rfl) dX2_pour_36 ?_
          refine xr_istore_n F [(3, .int (if 0 < (((upd f i ((f i) + z)) i) - 100) then ((upd f i ((f i) + z)) i) - 100 else 0)), (4, .int (nI i)), (0, .ref (o 0))] dX2_pour_39 rfl (by decide) rfl ?_
          refine xr_aload_n F dX2_pour_40 rfl 2 rfl ?_
          refine xr_get F hin2 0 rfl rfl 4 (by decide) (List.mem_of_getElem? (i := 1) rfl) (v := .ref (o 1)) rfl dX2_pour_41 ?_
          refine xr_iload F dX2_pour_44 1 rfl ?_
          refine xr_dup2 F dX2_pour_46 rfl rfl ?_
          refine xr_iald F 1 0 rfl rfl (i) rfl (by omega) (by decide) dX2_pour_47 ?_
          refine xr_iload_n F dX2_pour_48 rfl 0 rfl ?_
          refine xr_isub F (((upd f i ((f i) + z)) i) - (if 0 < (((upd f i ((f i) + z)) i) - 100) then ((upd f i ((f i) + z)) i) - 100 else 0)) dX2_pour_49 rfl ?_
          refine xr_iast F 1 0 rfl rfl (i) rfl (by omega) (by decide) (swx yI o mk aw wh (dHour V) (dBank V) (upd (upd f i ((f i) + z)) i (((upd f i ((f i) + z)) i) - (if 0 < (((upd f i ((f i) + z)) i) - 100) then ((upd f i ((f i) + z)) i) - 100 else 0))) g (dDrawn V) (dFull V) (dLock V) (dFill V) (dAt V) (dPur V) (dSer V)) rfl dX2_pour_50 ?_
          refine xr_aload_n F dX2_pour_51 rfl 2 rfl ?_
          refine xr_get F hin2 0 rfl rfl 5 (by decide) (List.mem_of_getElem? (i := 6) rfl) (v := .ref (o 2)) rfl dX2_pour_52 ?_
          refine xr_iload F dX2_pour_55 1 rfl ?_
          refine xr_dup2 F dX2_pour_57 rfl rfl ?_
          refine xr_iald F 2 0 rfl rfl (i) rfl (by omega) (by decide) dX2_pour_58 ?_
          refine xr_iload_n F dX2_pour_59 rfl 0 rfl ?_
          refine xr_iadd F ((g i) + (if 0 < (((upd f i ((f i) + z)) i) - 100) then ((upd f i ((f i) + z)) i) - 100 else 0)) dX2_pour_60 rfl ?_
          refine xr_iast F 2 0 rfl rfl (i) rfl (by omega) (by decide) (swx yI o mk aw wh (dHour V) (dBank V) (upd (upd f i ((f i) + z)) i (((upd f i ((f i) + z)) i) - (if 0 < (((upd f i ((f i) + z)) i) - 100) then ((upd f i ((f i) + z)) i) - 100 else 0))) (upd g i ((g i) + (if 0 < (((upd f i ((f i) + z)) i) - 100) then ((upd f i ((f i) + z)) i) - 100 else 0))) (dDrawn V) (dFull V) (dLock V) (dFill V) (dAt V) (dPur V) (dSer V)) rfl dX2_pour_61 ?_
          refine xr_iinc F (nI i - 1) [(4, .int (nI i - 1)), (3, .int (if 0 < (((upd f i ((f i) + z)) i) - 100) then ((upd f i ((f i) + z)) i) - 100 else 0)), (0, .ref (o 0))] dX2_pour_62 1 rfl (xk_m1 (nI i)) (by decide) rfl ?_
          refine xr_goto F 5 dX2_pour_65 (by decide) ?_
          refine xr_lv (lv' := [(4, .int (nI i - 1)), (3, .int (if 0 < (((upd f i ((f i) + z)) i) - 100) then ((upd f i ((f i) + z)) i) - 100 else 0)), (0, .ref (o 0))]) [0, 1, 2] rfl ?_
          exact ih (if 0 < (((upd f i ((f i) + z)) i) - 100) then ((upd f i ((f i) + z)) i) - 100 else 0) (upd (upd f i ((f i) + z)) i (((upd f i ((f i) + z)) i) - (if 0 < (((upd f i ((f i) + z)) i) - 100) then ((upd f i ((f i) + z)) i) - 100 else 0))) (upd g i ((g i) + (if 0 < (((upd f i ((f i) + z)) i) - 100) then ((upd f i ((f i) + z)) i) - 100 else 0))) (by omega) (by rw [← hi]; simp only [s_pourL, c7, c11, ↓reduceIte])
  refine xr_lv (lv' := [(4, .int (nI n - 1)), (3, .int x), (0, .ref (o 0))]) [0, 1, 2] rfl ?_
  exact lp n x (dLev V) (dOver V) h0 rfl

def rm_X2_empty : Room := { frames := 2, cells := 0, slots := 0, locals := 45 }
set_option maxHeartbeats 4000000 in
set_option maxRecDepth 100000 in
/-- State.empty -/
theorem k_X2_empty (l : Launch) (D : va_G) (yI yZ yL : ClassId) (o : Nat → Nat) (mk aw : Int32) (wh : Nat → Int32) (V : CD) (k : Nat) (h0 : k < 5) : xMv l yX2_empty wsX2_empty rm_X2_empty D (tysG yI yZ yL) (sw yI o mk aw wh V) [.ref (o 0), .int (nI k)] 0 0 (fun W1 : va_W => W1 = sw yI o mk ((s_empty V aw k).2) wh ((s_empty V aw k).1)) := by
  refine xE_v (cc := cX2_empty) (nL := 2) (by decide) rfl (Nat.le_of_ble_eq_true rfl) ?_
  intro p e s m args below meth c A Q F hnm ret
  have hin2 : ∀ w ∈ u_ws RX2 TX2 14, w ∈ wsX2_empty := by decide +kernel
  show AW p l e rm_X2_empty s m args below meth c 2 D A 0 0 Q (sw yI o mk aw wh V) [(0, .ref (o 0)), (1, .int (nI k))] 0 []
  refine xr_aload_n F dX2_empty_0 rfl 0 rfl ?_
  refine xr_get F hin2 0 rfl rfl 7 (by decide) (List.mem_of_getElem? (i := 1) rfl) (v := .ref (o 4)) rfl dX2_empty_1 ?_
  refine xr_iload_n F dX2_empty_4 rfl 1 rfl ?_
  refine xr_iconst F dX2_empty_5 (v := 0) (by decide) ?_
  refine xr_iast F 4 0 rfl rfl (k) rfl (by omega) (by decide) (swx yI o mk aw wh (dHour V) (dBank V) (dLev V) (dOver V) (dDrawn V) (upd (dFull V) k 0) (dLock V) (dFill V) (dAt V) (dPur V) (dSer V)) rfl dX2_empty_6 ?_
  refine xr_aload_n F dX2_empty_7 rfl 0 rfl ?_
  refine xr_iload_n F dX2_empty_8 rfl 1 rfl ?_
  refine xr_bipush F dX2_empty_9 (v := 12) (by decide) ?_
  refine xr_stk (st' := [.int 12, .int (nI (k + 1) - 1), .ref (o 0)]) (by rw [nI_pred]) ?_
  obtain ⟨V1, eV1⟩ : ∃ x9 : CD, x9 = (dHour V, dBank V, dLev V, dOver V, dDrawn V, upd (dFull V) k 0, dLock V, dFill V, dAt V, dPur V, dSer V) := ⟨_, rfl⟩
  refine xr_ws (ws' := sw yI o mk aw wh V1) (by rw [eV1, sw_mk]) ?_
  refine xr_callVv F (wr := ([] : va_W)) (rest := []) (As := [.int (nI (k + 1) - 1), .int 12]) (k_X2_pour l D yI yZ yL o mk aw wh V1 (k + 1) 12 (by omega)) (cwV 2 F.hts gX2_empty_X2_pour rfl rfl rfl (by decide +kernel) ⟨Nat.le_of_ble_eq_true rfl, Nat.le_of_ble_eq_true rfl⟩) (q0 := 0) rfl rfl [0, 1, 2, 3, 4, 5, 6, 7, 8, 9, 10] [] rfl rfl (by decide) (by decide) (by decide) rfl rfl (Nat.le_of_ble_eq_true rfl) dX2_empty_11 ⟨Nat.le_of_ble_eq_true rfl, Nat.le_of_ble_eq_true rfl⟩ (fun W1 z1 => ?_)
  obtain ⟨V2, eV2⟩ : ∃ x9 : CD, x9 = (s_pour V1 aw (k + 1) 12).1 := ⟨_, rfl⟩
  rw [← eV2] at z1
  obtain ⟨x3, ex3⟩ : ∃ x9 : Int32, x9 = (s_pour V1 aw (k + 1) 12).2 := ⟨_, rfl⟩
  rw [← ex3] at z1
  subst z1
  refine xr_ws (ws' := sw yI o mk x3 wh V2) rfl ?_
  refine ret _ _ _ dX2_empty_14 ?_
  have f0 : (s_empty V aw k).1 = V2 := by
    subst ex3
    subst eV2
    subst eV1
    simp only [s_empty, ↓reduceIte]
    try simp only [tHour, tBank, tLev, tOver, tDrawn, tFull, tLock, tFill, tAt, tPur, tSer, dHour, dBank, dLev, dOver, dDrawn, dFull, dLock, dFill, dAt, dPur, dSer]
  have f1 : (s_empty V aw k).2 = x3 := by
    subst ex3
    subst eV2
    subst eV1
    simp only [s_empty, ↓reduceIte]
    try simp only [tHour, tBank, tLev, tOver, tDrawn, tFull, tLock, tFill, tAt, tPur, tSer, dHour, dBank, dLev, dOver, dDrawn, dFull, dLock, dFill, dAt, dPur, dSer]
  rw [f0, f1]

def rm_X2_allWater : Room := { frames := 0, cells := 0, slots := 0, locals := 0 }
set_option maxHeartbeats 4000000 in
set_option maxRecDepth 100000 in
/-- allWater -/
theorem k_X2_allWater (l : Launch) (D : va_G) (yI yZ yL : ClassId) (o : Nat → Nat) (mk aw : Int32) (wh : Nat → Int32) (V : CD)   : xMi l yX2_allWater wsX2_allWater rm_X2_allWater D (tysG yI yZ yL) (sw yI o mk aw wh V) [.ref (o 0)] 0 0 (fun (r : Int32) (W1 : va_W) => r = c_water V ∧ W1 = sw yI o mk aw wh V) := by
  refine xE_i (cc := cX2_allWater) (nL := 6) (by decide) rfl (Nat.le_of_ble_eq_true rfl) ?_
  intro p e s m args below meth c A Q F hnm ret
  have hin2 : ∀ w ∈ u_ws RX2 TX2 14, w ∈ wsX2_allWater := by decide +kernel
  show AW p l e rm_X2_allWater s m args below meth c 6 D A 0 0 Q (sw yI o mk aw wh V) [(0, .ref (o 0))] 0 []
  refine xr_iconst F dX2_allWater_0 (v := 0) (by decide) ?_
  refine xr_istore_n F [(1, .int 0), (0, .ref (o 0))] dX2_allWater_1 rfl (by decide) rfl ?_
  refine xr_aload_n F dX2_allWater_2 rfl 1 rfl ?_
  refine xr_get F hin2 0 rfl rfl 4 (by decide) (List.mem_of_getElem? (i := 1) rfl) (v := .ref (o 1)) rfl dX2_allWater_3 ?_
  refine xr_astore_n F [(2, .ref (o 1)), (1, .int 0), (0, .ref (o 0))] dX2_allWater_6 rfl (by decide) rfl ?_
  refine xr_aload_n F dX2_allWater_7 rfl 0 rfl ?_
  refine xr_alen F 1 0 rfl rfl (v := 6) rfl dX2_allWater_8 ?_
  refine xr_istore_n F [(3, .int 6), (2, .ref (o 1)), (1, .int 0), (0, .ref (o 0))] dX2_allWater_9 rfl (by decide) rfl ?_
  refine xr_iconst F dX2_allWater_10 (v := 0) (by decide) ?_
  refine xr_istore F [(4, .int 0), (3, .int 6), (2, .ref (o 1)), (1, .int 0), (0, .ref (o 0))] dX2_allWater_11 (by decide) rfl ?_
  have lp : ∀ (i : Nat) (b : Nat) (r : Int32), i + b = 6 → c_sumL (dLev V) i b r = c_sumL (dLev V) 6 0 0 → AW p l e rm_X2_allWater s m args below meth c 6 D A 0 0 Q (sw yI o mk aw wh V) [(4, .int (nI b)), (3, .int 6), (2, .ref (o 1)), (1, .int r), (0, .ref (o 0))] 13 [] := by
    intro i
    induction i with
    | zero =>
      intro b r hb hi
      refine xr_iload F dX2_allWater_13 0 rfl ?_
      refine xr_iload_n F dX2_allWater_15 rfl 1 rfl ?_
      refine xr_icmp_ge F 36 dX2_allWater_16 (by decide) (fun c16 => ?_) (fun c16 => ?_)
      · skip
        refine xr_iload_n F dX2_allWater_36 rfl 3 rfl ?_
        exact ret _ _ _ _ dX2_allWater_37 ⟨hi, rfl⟩
      · exact (xk_ge (a := 6) (b := b) (by omega) (by omega) c16).elim
    | succ i ih =>
      intro b r hb hi
      refine xr_iload F dX2_allWater_13 0 rfl ?_
      refine xr_iload_n F dX2_allWater_15 rfl 1 rfl ?_
      refine xr_icmp_ge F 36 dX2_allWater_16 (by decide) (fun c16 => ?_) (fun c16 => ?_)
      · exact (xk_nlt (a := b) (b := 6) (by omega) (by omega) (by omega) c16).elim
      · skip
        refine xr_aload_n F dX2_allWater_19 rfl 2 rfl ?_
        refine xr_iload F dX2_allWater_20 0 rfl ?_
        refine xr_iald F 1 0 rfl rfl (b) rfl (by omega) (by decide) dX2_allWater_22 ?_
        refine xr_istore F [(5, .int ((dLev V) b)), (4, .int (nI b)), (3, .int 6), (2, .ref (o 1)), (1, .int r), (0, .ref (o 0))] dX2_allWater_23 (by decide) rfl ?_
        refine xr_iload_n F dX2_allWater_25 rfl 4 rfl ?_
        refine xr_iload F dX2_allWater_26 0 rfl ?_
        refine xr_iadd F (r + ((dLev V) b)) dX2_allWater_28 rfl ?_
        refine xr_istore_n F [(1, .int (r + ((dLev V) b))), (5, .int ((dLev V) b)), (4, .int (nI b)), (3, .int 6), (2, .ref (o 1)), (0, .ref (o 0))] dX2_allWater_29 rfl (by decide) rfl ?_
        refine xr_iinc F (nI (b + 1)) [(4, .int (nI (b + 1))), (1, .int (r + ((dLev V) b))), (5, .int ((dLev V) b)), (3, .int 6), (2, .ref (o 1)), (0, .ref (o 0))] dX2_allWater_30 2 rfl (nI_add b 1) (by decide) rfl ?_
        refine xr_goto F 13 dX2_allWater_33 (by decide) ?_
        refine xr_lv (lv' := [(4, .int (nI (b + 1))), (3, .int 6), (2, .ref (o 1)), (1, .int (r + ((dLev V) b))), (0, .ref (o 0))]) [0, 3, 4, 1, 5] rfl ?_
        exact ih (b + 1) (r + ((dLev V) b)) (by omega) (by rw [← hi]; simp only [c_sumL])
  refine xr_lv (lv' := [(4, .int 0), (3, .int 6), (2, .ref (o 1)), (1, .int 0), (0, .ref (o 0))]) [0, 1, 2, 3, 4] rfl ?_
  exact lp 6 0 0 rfl rfl

def rm_X2_fullOnes : Room := { frames := 0, cells := 0, slots := 0, locals := 0 }
set_option maxHeartbeats 4000000 in
set_option maxRecDepth 100000 in
/-- fullOnes -/
theorem k_X2_fullOnes (l : Launch) (D : va_G) (yI yZ yL : ClassId) (o : Nat → Nat) (mk aw : Int32) (wh : Nat → Int32) (V : CD)   : xMi l yX2_fullOnes wsX2_fullOnes rm_X2_fullOnes D (tysG yI yZ yL) (sw yI o mk aw wh V) [.ref (o 0)] 0 0 (fun (r : Int32) (W1 : va_W) => r = m_fullN V ∧ W1 = sw yI o mk aw wh V) := by
  refine xE_i (cc := cX2_fullOnes) (nL := 6) (by decide) rfl (Nat.le_of_ble_eq_true rfl) ?_
  intro p e s m args below meth c A Q F hnm ret
  have hin2 : ∀ w ∈ u_ws RX2 TX2 14, w ∈ wsX2_fullOnes := by decide +kernel
  show AW p l e rm_X2_fullOnes s m args below meth c 6 D A 0 0 Q (sw yI o mk aw wh V) [(0, .ref (o 0))] 0 []
  refine xr_iconst F dX2_fullOnes_0 (v := 0) (by decide) ?_
  refine xr_istore_n F [(1, .int 0), (0, .ref (o 0))] dX2_fullOnes_1 rfl (by decide) rfl ?_
  refine xr_aload_n F dX2_fullOnes_2 rfl 1 rfl ?_
  refine xr_get F hin2 0 rfl rfl 7 (by decide) (List.mem_of_getElem? (i := 1) rfl) (v := .ref (o 4)) rfl dX2_fullOnes_3 ?_
  refine xr_astore_n F [(2, .ref (o 4)), (1, .int 0), (0, .ref (o 0))] dX2_fullOnes_6 rfl (by decide) rfl ?_
  refine xr_aload_n F dX2_fullOnes_7 rfl 0 rfl ?_
  refine xr_alen F 4 0 rfl rfl (v := 5) rfl dX2_fullOnes_8 ?_
  refine xr_istore_n F [(3, .int 5), (2, .ref (o 4)), (1, .int 0), (0, .ref (o 0))] dX2_fullOnes_9 rfl (by decide) rfl ?_
  refine xr_iconst F dX2_fullOnes_10 (v := 0) (by decide) ?_
  refine xr_istore F [(4, .int 0), (3, .int 5), (2, .ref (o 4)), (1, .int 0), (0, .ref (o 0))] dX2_fullOnes_11 (by decide) rfl ?_
  have lp : ∀ (i : Nat) (b : Nat) (r : Int32), i + b = 5 → c_sumL (dFull V) i b r = c_sumL (dFull V) 5 0 0 → AW p l e rm_X2_fullOnes s m args below meth c 6 D A 0 0 Q (sw yI o mk aw wh V) [(4, .int (nI b)), (3, .int 5), (2, .ref (o 4)), (1, .int r), (0, .ref (o 0))] 13 [] := by
    intro i
    induction i with
    | zero =>
      intro b r hb hi
      refine xr_iload F dX2_fullOnes_13 0 rfl ?_
      refine xr_iload_n F dX2_fullOnes_15 rfl 1 rfl ?_
      refine xr_icmp_ge F 36 dX2_fullOnes_16 (by decide) (fun c16 => ?_) (fun c16 => ?_)
      · skip
        refine xr_iload_n F dX2_fullOnes_36 rfl 3 rfl ?_
        exact ret _ _ _ _ dX2_fullOnes_37 ⟨hi, rfl⟩
      · exact (xk_ge (a := 5) (b := b) (by omega) (by omega) c16).elim
    | succ i ih =>
      intro b r hb hi
      refine xr_iload F dX2_fullOnes_13 0 rfl ?_
      refine xr_iload_n F dX2_fullOnes_15 rfl 1 rfl ?_
      refine xr_icmp_ge F 36 dX2_fullOnes_16 (by decide) (fun c16 => ?_) (fun c16 => ?_)
      · exact (xk_nlt (a := b) (b := 5) (by omega) (by omega) (by omega) c16).elim
      · skip
        refine xr_aload_n F dX2_fullOnes_19 rfl 2 rfl ?_
        refine xr_iload F dX2_fullOnes_20 0 rfl ?_
        refine xr_iald F 4 0 rfl rfl (b) rfl (by omega) (by decide) dX2_fullOnes_22 ?_
        refine xr_istore F [(5, .int ((dFull V) b)), (4, .int (nI b)), (3, .int 5), (2, .ref (o 4)), (1, .int r), (0, .ref (o 0))] dX2_fullOnes_23 (by decide) rfl ?_
        refine xr_iload_n F dX2_fullOnes_25 rfl 4 rfl ?_
        refine xr_iload F dX2_fullOnes_26 0 rfl ?_
        refine xr_iadd F (r + ((dFull V) b)) dX2_fullOnes_28 rfl ?_
        refine xr_istore_n F [(1, .int (r + ((dFull V) b))), (5, .int ((dFull V) b)), (4, .int (nI b)), (3, .int 5), (2, .ref (o 4)), (0, .ref (o 0))] dX2_fullOnes_29 rfl (by decide) rfl ?_
        refine xr_iinc F (nI (b + 1)) [(4, .int (nI (b + 1))), (1, .int (r + ((dFull V) b))), (5, .int ((dFull V) b)), (3, .int 5), (2, .ref (o 4)), (0, .ref (o 0))] dX2_fullOnes_30 2 rfl (nI_add b 1) (by decide) rfl ?_
        refine xr_goto F 13 dX2_fullOnes_33 (by decide) ?_
        refine xr_lv (lv' := [(4, .int (nI (b + 1))), (3, .int 5), (2, .ref (o 4)), (1, .int (r + ((dFull V) b))), (0, .ref (o 0))]) [0, 3, 4, 1, 5] rfl ?_
        exact ih (b + 1) (r + ((dFull V) b)) (by omega) (by rw [← hi]; simp only [c_sumL])
  refine xr_lv (lv' := [(4, .int 0), (3, .int 5), (2, .ref (o 4)), (1, .int 0), (0, .ref (o 0))]) [0, 1, 2, 3, 4] rfl ?_
  exact lp 5 0 0 rfl rfl
