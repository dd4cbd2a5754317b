def rm_X0_bargesAt : Room := { frames := 0, cells := 0, slots := 0, locals := 0 }
set_option maxHeartbeats 4000000 in
set_option maxRecDepth 100000 in
/-- bargesAt -/
theorem k_X0_bargesAt (l : Launch) (D : va_G) (yI yZ yL : ClassId) (a : Nat → Nat) (K : CK) (V : CD) (x : Int32) (h0 : kNb K ≤ 10) : xMi l yX0_bargesAt wsX0_bargesAt rm_X0_bargesAt D (tysG yI yZ yL) (cw yI yZ a K V) [.ref (a 0), .int x] 0 0 (fun (r : Int32) (W1 : va_W) => r = c_atN K V x ∧ W1 = cw yI yZ a K V) := by
  refine xE_i (cc := cX0_bargesAt) (nL := 4) (by decide) rfl (Nat.le_of_ble_eq_true rfl) ?_
  intro p e s m args below meth c A Q F hnm ret
  have hin0 : ∀ w ∈ u_ws RX0 TX0 18, w ∈ wsX0_bargesAt := by decide +kernel
  show AW p l e rm_X0_bargesAt s m args below meth c 4 D A 0 0 Q (cw yI yZ a K V) [(0, .ref (a 0)), (1, .int x)] 0 []
  refine xr_iconst F dX0_bargesAt_0 (v := 0) (by decide) ?_
  refine xr_istore_n F [(2, .int 0), (0, .ref (a 0)), (1, .int x)] dX0_bargesAt_1 rfl (by decide) rfl ?_
  refine xr_iconst F dX0_bargesAt_2 (v := 0) (by decide) ?_
  refine xr_istore_n F [(3, .int 0), (2, .int 0), (0, .ref (a 0)), (1, .int x)] dX0_bargesAt_3 rfl (by decide) rfl ?_
  have lp : ∀ (i : Nat) (b : Nat) (r : Int32), i + b = kNb K → c_cntL (dAt V) x i b r = c_cntL (dAt V) x (kNb K) 0 0 → AW p l e rm_X0_bargesAt s m args below meth c 4 D A 0 0 Q (cw yI yZ a K V) [(3, .int (nI b)), (2, .int r), (0, .ref (a 0)), (1, .int x)] 4 [] := by
    intro i
    induction i with
    | zero =>
      intro b r hb hi
      refine xr_iload_n F dX0_bargesAt_4 rfl 0 rfl ?_
      refine xr_aload_n F dX0_bargesAt_5 rfl 2 rfl ?_
      refine xr_get F hin0 0 rfl rfl 13 (by decide) (List.mem_of_getElem? (i := 1) rfl) (v := .int (nI (kNb K))) rfl dX0_bargesAt_6 ?_
      refine xr_icmp_ge F 36 dX0_bargesAt_9 (by decide) (fun c9 => ?_) (fun c9 => ?_)
      · skip
        refine xr_iload_n F dX0_bargesAt_36 rfl 1 rfl ?_
        exact ret _ _ _ _ dX0_bargesAt_37 ⟨hi, rfl⟩
      · exact (xk_ge (a := kNb K) (b := b) (by omega) (by omega) c9).elim
    | succ i ih =>
      intro b r hb hi
      refine xr_iload_n F dX0_bargesAt_4 rfl 0 rfl ?_
      refine xr_aload_n F dX0_bargesAt_5 rfl 2 rfl ?_
      refine xr_get F hin0 0 rfl rfl 13 (by decide) (List.mem_of_getElem? (i := 1) rfl) (v := .int (nI (kNb K))) rfl dX0_bargesAt_6 ?_
      refine xr_icmp_ge F 36 dX0_bargesAt_9 (by decide) (fun c9 => ?_) (fun c9 => ?_)
      · exact (xk_nlt (a := b) (b := kNb K) (by omega) (by omega) (by omega) c9).elim
      · skip
        refine xr_iload_n F dX0_bargesAt_12 rfl 1 rfl ?_
        refine xr_aload_n F dX0_bargesAt_13 rfl 2 rfl ?_
        refine xr_get F hin0 0 rfl rfl 14 (by decide) (List.mem_of_getElem? (i := 2) rfl) (v := .ref (a 8)) rfl dX0_bargesAt_14 ?_
        refine xr_iload_n F dX0_bargesAt_17 rfl 0 rfl ?_
        refine xr_iald F 8 0 rfl rfl (b) rfl (by omega) (by decide) dX0_bargesAt_18 ?_
        refine xr_iload_n F dX0_bargesAt_19 rfl 3 rfl ?_
        refine xr_icmp_ne F 27 dX0_bargesAt_20 (by decide) (fun c20 => ?_) (fun c20 => ?_)
        · skip
          refine xr_iconst F dX0_bargesAt_27 (v := 0) (by decide) ?_
          refine xr_iadd F (r + 0) dX0_bargesAt_28 rfl ?_
          refine xr_istore_n F [(2, .int (r + 0)), (3, .int (nI b)), (0, .ref (a 0)), (1, .int x)] dX0_bargesAt_29 rfl (by decide) rfl ?_
          refine xr_iinc F (nI (b + 1)) [(3, .int (nI (b + 1))), (2, .int (r + 0)), (0, .ref (a 0)), (1, .int x)] dX0_bargesAt_30 1 rfl (nI_add b 1) (by decide) rfl ?_
          refine xr_goto F 4 dX0_bargesAt_33 (by decide) ?_
          refine xr_lv (lv' := [(3, .int (nI (b + 1))), (2, .int (r + 0)), (0, .ref (a 0)), (1, .int x)]) [0, 1, 2, 3] rfl ?_
          exact ih (b + 1) (r + 0) (by omega) (by rw [← hi]; simp only [c_cntL, c9, c20, xk_10, eq_self, ↓reduceIte])
        · skip
          refine xr_iconst F dX0_bargesAt_23 (v := 1) (by decide) ?_
          refine xr_goto F 28 dX0_bargesAt_24 (by decide) ?_
          refine xr_iadd F (r + 1) dX0_bargesAt_28 rfl ?_
          refine xr_istore_n F [(2, .int (r + 1)), (3, .int (nI b)), (0, .ref (a 0)), (1, .int x)] dX0_bargesAt_29 rfl (by decide) rfl ?_
          refine xr_iinc F (nI (b + 1)) [(3, .int (nI (b + 1))), (2, .int (r + 1)), (0, .ref (a 0)), (1, .int x)] dX0_bargesAt_30 1 rfl (nI_add b 1) (by decide) rfl ?_
          refine xr_goto F 4 dX0_bargesAt_33 (by decide) ?_
          refine xr_lv (lv' := [(3, .int (nI (b + 1))), (2, .int (r + 1)), (0, .ref (a 0)), (1, .int x)]) [0, 1, 2, 3] rfl ?_
          exact ih (b + 1) (r + 1) (by omega) (by rw [← hi]; simp only [c_cntL, c9, c20, xk_10, eq_self, ↓reduceIte])
  refine xr_lv (lv' := [(3, .int 0), (2, .int 0), (0, .ref (a 0)), (1, .int x)]) [0, 1, 2, 3] rfl ?_
  exact lp (kNb K) 0 0 rfl rfl

def rm_X0_bargesWaitingAt : Room := { frames := 2, cells := 0, slots := 0, locals := 42 }
set_option maxHeartbeats 4000000 in
set_option maxRecDepth 100000 in
/-- bargesWaitingAt -/
theorem k_X0_bargesWaitingAt (l : Launch) (D : va_G) (yI yZ yL : ClassId) (a : Nat → Nat) (K : CK) (V : CD) (x : Int32) (h0 : kNb K ≤ 10) : xMi l yX0_bargesWaitingAt wsX0_bargesWaitingAt rm_X0_bargesWaitingAt D (tysG yI yZ yL) (cw yI yZ a K V) [.ref (a 0), .int x] 0 0 (fun (r : Int32) (W1 : va_W) => r = c_waitN K V x ∧ W1 = cw yI yZ a K V) := by
  refine xE_i (cc := cX0_bargesWaitingAt) (nL := 4) (by decide) rfl (Nat.le_of_ble_eq_true rfl) ?_
  intro p e s m args below meth c A Q F hnm ret
  have hin0 : ∀ w ∈ u_ws RX0 TX0 18, w ∈ wsX0_bargesWaitingAt := by decide +kernel
  show AW p l e rm_X0_bargesWaitingAt s m args below meth c 4 D A 0 0 Q (cw yI yZ a K V) [(0, .ref (a 0)), (1, .int x)] 0 []
  refine xr_iconst F dX0_bargesWaitingAt_0 (v := 0) (by decide) ?_
  refine xr_istore_n F [(2, .int 0), (0, .ref (a 0)), (1, .int x)] dX0_bargesWaitingAt_1 rfl (by decide) rfl ?_
  refine xr_iconst F dX0_bargesWaitingAt_2 (v := 0) (by decide) ?_
  refine xr_istore_n F [(3, .int 0), (2, .int 0), (0, .ref (a 0)), (1, .int x)] dX0_bargesWaitingAt_3 rfl (by decide) rfl ?_
  have lp : ∀ (i : Nat) (b : Nat) (r : Int32), i + b = kNb K → c_cntL (c_waits K V) x i b r = c_cntL (c_waits K V) x (kNb K) 0 0 → AW p l e rm_X0_bargesWaitingAt s m args below meth c 4 D A 0 0 Q (cw yI yZ a K V) [(3, .int (nI b)), (2, .int r), (0, .ref (a 0)), (1, .int x)] 4 [] := by
    intro i
    induction i with
    | zero =>
      intro b r hb hi
      refine xr_iload_n F dX0_bargesWaitingAt_4 rfl 0 rfl ?_
      refine xr_aload_n F dX0_bargesWaitingAt_5 rfl 2 rfl ?_
      refine xr_get F hin0 0 rfl rfl 13 (by decide) (List.mem_of_getElem? (i := 1) rfl) (v := .int (nI (kNb K))) rfl dX0_bargesWaitingAt_6 ?_
      refine xr_icmp_ge F 35 dX0_bargesWaitingAt_9 (by decide) (fun c9 => ?_) (fun c9 => ?_)
      · skip
        refine xr_iload_n F dX0_bargesWaitingAt_35 rfl 1 rfl ?_
        exact ret _ _ _ _ dX0_bargesWaitingAt_36 ⟨hi, rfl⟩
      · exact (xk_ge (a := kNb K) (b := b) (by omega) (by omega) c9).elim
    | succ i ih =>
      intro b r hb hi
      refine xr_iload_n F dX0_bargesWaitingAt_4 rfl 0 rfl ?_
      refine xr_aload_n F dX0_bargesWaitingAt_5 rfl 2 rfl ?_
      refine xr_get F hin0 0 rfl rfl 13 (by decide) (List.mem_of_getElem? (i := 1) rfl) (v := .int (nI (kNb K))) rfl dX0_bargesWaitingAt_6 ?_
      refine xr_icmp_ge F 35 dX0_bargesWaitingAt_9 (by decide) (fun c9 => ?_) (fun c9 => ?_)
      · exact (xk_nlt (a := b) (b := kNb K) (by omega) (by omega) (by omega) c9).elim
      · skip
        refine xr_iload_n F dX0_bargesWaitingAt_12 rfl 1 rfl ?_
        refine xr_aload_n F dX0_bargesWaitingAt_13 rfl 2 rfl ?_
        refine xr_iload_n F dX0_bargesWaitingAt_14 rfl 0 rfl ?_
        refine xr_callVi F (wr := ([] : va_W)) (rest := [.int r]) (As := [.int (nI b)]) (k_X0_waitsAt l D yI yZ yL a K V b (by omega)) (cwV 1 F.hts gX0_bargesWaitingAt_X0_waitsAt rfl rfl rfl (by decide +kernel) ⟨Nat.le_of_ble_eq_true rfl, Nat.le_of_ble_eq_true rfl⟩) (q0 := 0) rfl rfl [0, 1, 2, 3, 4, 5, 6, 7, 8, 9, 10, 11] [] rfl rfl (by decide) (by decide) (by decide) rfl rfl (Nat.le_of_ble_eq_true rfl) dX0_bargesWaitingAt_15 ⟨Nat.le_of_ble_eq_true rfl, Nat.le_of_ble_eq_true rfl⟩ (fun r1 W1 z1 => ?_)
        obtain ⟨z0, z1⟩ := z1
        subst z0
        subst z1
        refine xr_ws (ws' := cw yI yZ a K V) rfl ?_
        refine xr_iload_n F dX0_bargesWaitingAt_18 rfl 3 rfl ?_
        refine xr_icmp_ne F 26 dX0_bargesWaitingAt_19 (by decide) (fun c19 => ?_) (fun c19 => ?_)
        · skip
          refine xr_iconst F dX0_bargesWaitingAt_26 (v := 0) (by decide) ?_
          refine xr_iadd F (r + 0) dX0_bargesWaitingAt_27 rfl ?_
          refine xr_istore_n F [(2, .int (r + 0)), (3, .int (nI b)), (0, .ref (a 0)), (1, .int x)] dX0_bargesWaitingAt_28 rfl (by decide) rfl ?_
          refine xr_iinc F (nI (b + 1)) [(3, .int (nI (b + 1))), (2, .int (r + 0)), (0, .ref (a 0)), (1, .int x)] dX0_bargesWaitingAt_29 1 rfl (nI_add b 1) (by decide) rfl ?_
          refine xr_goto F 4 dX0_bargesWaitingAt_32 (by decide) ?_
          refine xr_lv (lv' := [(3, .int (nI (b + 1))), (2, .int (r + 0)), (0, .ref (a 0)), (1, .int x)]) [0, 1, 2, 3] rfl ?_
          exact ih (b + 1) (r + 0) (by omega) (by rw [← hi]; simp only [c_cntL, c9, c19, xk_10, eq_self, ↓reduceIte])
        · skip
          refine xr_iconst F dX0_bargesWaitingAt_22 (v := 1) (by decide) ?_
          refine xr_goto F 27 dX0_bargesWaitingAt_23 (by decide) ?_
          refine xr_iadd F (r + 1) dX0_bargesWaitingAt_27 rfl ?_
          refine xr_istore_n F [(2, .int (r + 1)), (3, .int (nI b)), (0, .ref (a 0)), (1, .int x)] dX0_bargesWaitingAt_28 rfl (by decide) rfl ?_
          refine xr_iinc F (nI (b + 1)) [(3, .int (nI (b + 1))), (2, .int (r + 1)), (0, .ref (a 0)), (1, .int x)] dX0_bargesWaitingAt_29 1 rfl (nI_add b 1) (by decide) rfl ?_
          refine xr_goto F 4 dX0_bargesWaitingAt_32 (by decide) ?_
          refine xr_lv (lv' := [(3, .int (nI (b + 1))), (2, .int (r + 1)), (0, .ref (a 0)), (1, .int x)]) [0, 1, 2, 3] rfl ?_
          exact ih (b + 1) (r + 1) (by omega) (by rw [← hi]; simp only [c_cntL, c9, c19, xk_10, eq_self, ↓reduceIte])
  refine xr_lv (lv' := [(3, .int 0), (2, .int 0), (0, .ref (a 0)), (1, .int x)]) [0, 1, 2, 3] rfl ?_
  exact lp (kNb K) 0 0 rfl rfl

def rm_X0_bargesThatHaveCome : Room := { frames := 1, cells := 0, slots := 0, locals := 21 }
set_option maxHeartbeats 4000000 in
set_option maxRecDepth 100000 in
/-- bargesThatHaveCome -/
theorem k_X0_bargesThatHaveCome (l : Launch) (D : va_G) (yI yZ yL : ClassId) (a : Nat → Nat) (K : CK) (V : CD)  (h0 : kNb K ≤ 10) : xMi l yX0_bargesThatHaveCome wsX0_bargesThatHaveCome rm_X0_bargesThatHaveCome D (tysG yI yZ yL) (cw yI yZ a K V) [.ref (a 0)] 0 0 (fun (r : Int32) (W1 : va_W) => r = c_comeN K V ∧ W1 = cw yI yZ a K V) := by
  refine xE_i (cc := cX0_bargesThatHaveCome) (nL := 3) (by decide) rfl (Nat.le_of_ble_eq_true rfl) ?_
  intro p e s m args below meth c A Q F hnm ret
  have hin0 : ∀ w ∈ u_ws RX0 TX0 18, w ∈ wsX0_bargesThatHaveCome := by decide +kernel
  show AW p l e rm_X0_bargesThatHaveCome s m args below meth c 3 D A 0 0 Q (cw yI yZ a K V) [(0, .ref (a 0))] 0 []
  refine xr_iconst F dX0_bargesThatHaveCome_0 (v := 0) (by decide) ?_
  refine xr_istore_n F [(1, .int 0), (0, .ref (a 0))] dX0_bargesThatHaveCome_1 rfl (by decide) rfl ?_
  refine xr_iconst F dX0_bargesThatHaveCome_2 (v := 0) (by decide) ?_
  refine xr_istore_n F [(2, .int 0), (1, .int 0), (0, .ref (a 0))] dX0_bargesThatHaveCome_3 rfl (by decide) rfl ?_
  have lp : ∀ (i : Nat) (b : Nat) (r : Int32), i + b = kNb K → c_comeL (c_come K V) i b r = c_comeL (c_come K V) (kNb K) 0 0 → AW p l e rm_X0_bargesThatHaveCome s m args below meth c 3 D A 0 0 Q (cw yI yZ a K V) [(2, .int (nI b)), (1, .int r), (0, .ref (a 0))] 4 [] := by
    intro i
    induction i with
    | zero =>
      intro b r hb hi
      refine xr_iload_n F dX0_bargesThatHaveCome_4 rfl 0 rfl ?_
      refine xr_aload_n F dX0_bargesThatHaveCome_5 rfl 2 rfl ?_
      refine xr_get F hin0 0 rfl rfl 13 (by decide) (List.mem_of_getElem? (i := 1) rfl) (v := .int (nI (kNb K))) rfl dX0_bargesThatHaveCome_6 ?_
      refine xr_icmp_ge F 34 dX0_bargesThatHaveCome_9 (by decide) (fun c9 => ?_) (fun c9 => ?_)
      · skip
        refine xr_iload_n F dX0_bargesThatHaveCome_34 rfl 1 rfl ?_
        exact ret _ _ _ _ dX0_bargesThatHaveCome_35 ⟨hi, rfl⟩
      · exact (xk_ge (a := kNb K) (b := b) (by omega) (by omega) c9).elim
    | succ i ih =>
      intro b r hb hi
      refine xr_iload_n F dX0_bargesThatHaveCome_4 rfl 0 rfl ?_
      refine xr_aload_n F dX0_bargesThatHaveCome_5 rfl 2 rfl ?_
      refine xr_get F hin0 0 rfl rfl 13 (by decide) (List.mem_of_getElem? (i := 1) rfl) (v := .int (nI (kNb K))) rfl dX0_bargesThatHaveCome_6 ?_
      refine xr_icmp_ge F 34 dX0_bargesThatHaveCome_9 (by decide) (fun c9 => ?_) (fun c9 => ?_)
      · exact (xk_nlt (a := b) (b := kNb K) (by omega) (by omega) (by omega) c9).elim
      · skip
        refine xr_iload_n F dX0_bargesThatHaveCome_12 rfl 1 rfl ?_
        refine xr_aload_n F dX0_bargesThatHaveCome_13 rfl 2 rfl ?_
        refine xr_iload_n F dX0_bargesThatHaveCome_14 rfl 0 rfl ?_
        refine xr_callVz F (wr := ([] : va_W)) (rest := [.int r]) (As := [.int (nI b)]) (k_X0_hasCome l D yI yZ yL a K V b (by omega)) (cwV 1 F.hts gX0_bargesThatHaveCome_X0_hasCome rfl rfl rfl (by decide +kernel) ⟨Nat.le_of_ble_eq_true rfl, Nat.le_of_ble_eq_true rfl⟩) (q0 := 0) rfl rfl [0, 1, 2, 3, 4, 5, 6, 7, 8, 9, 10, 11] [] rfl rfl (by decide) (by decide) (by decide) rfl rfl (Nat.le_of_ble_eq_true rfl) dX0_bargesThatHaveCome_15 ⟨Nat.le_of_ble_eq_true rfl, Nat.le_of_ble_eq_true rfl⟩ (fun r1 W1 z1 => ?_)
        obtain ⟨z0, z1⟩ := z1
        subst z0
        subst z1
        refine xr_ws (ws' := cw yI yZ a K V) rfl ?_
        refine xr_if_eq F 25 dX0_bargesThatHaveCome_18 (by decide) (fun c18 => ?_) (fun c18 => ?_)
        · skip
          refine xr_iconst F dX0_bargesThatHaveCome_25 (v := 0) (by decide) ?_
          refine xr_iadd F (r + 0) dX0_bargesThatHaveCome_26 rfl ?_
          refine xr_istore_n F [(1, .int (r + 0)), (2, .int (nI b)), (0, .ref (a 0))] dX0_bargesThatHaveCome_27 rfl (by decide) rfl ?_
          refine xr_iinc F (nI (b + 1)) [(2, .int (nI (b + 1))), (1, .int (r + 0)), (0, .ref (a 0))] dX0_bargesThatHaveCome_28 1 rfl (nI_add b 1) (by decide) rfl ?_
          refine xr_goto F 4 dX0_bargesThatHaveCome_31 (by decide) ?_
          refine xr_lv (lv' := [(2, .int (nI (b + 1))), (1, .int (r + 0)), (0, .ref (a 0))]) [0, 1, 2] rfl ?_
          exact ih (b + 1) (r + 0) (by omega) (by rw [← hi]; simp only [c_comeL, c9, c18, xk_10, eq_self, ↓reduceIte])
        · skip
          refine xr_iconst F dX0_bargesThatHaveCome_21 (v := 1) (by decide) ?_
          refine xr_goto F 26 dX0_bargesThatHaveCome_22 (by decide) ?_
          refine xr_iadd F (r + 1) dX0_bargesThatHaveCome_26 rfl ?_
          refine xr_istore_n F [(1, .int (r + 1)), (2, .int (nI b)), (0, .ref (a 0))] dX0_bargesThatHaveCome_27 rfl (by decide) rfl ?_
          refine xr_iinc F (nI (b + 1)) [(2, .int (nI (b + 1))), (1, .int (r + 1)), (0, .ref (a 0))] dX0_bargesThatHaveCome_28 1 rfl (nI_add b 1) (by decide) rfl ?_
          refine xr_goto F 4 dX0_bargesThatHaveCome_31 (by decide) ?_
          refine xr_lv (lv' := [(2, .int (nI (b + 1))), (1, .int (r + 1)), (0, .ref (a 0))]) [0, 1, 2] rfl ?_
          exact ih (b + 1) (r + 1) (by omega) (by rw [← hi]; simp only [c_comeL, c9, c18, xk_10, eq_self, ↓reduceIte])
  refine xr_lv (lv' := [(2, .int 0), (1, .int 0), (0, .ref (a 0))]) [0, 1, 2] rfl ?_
  exact lp (kNb K) 0 0 rfl rfl

def rm_X0_fullChambers : Room := { frames := 0, cells := 0, slots := 0, locals := 0 }
set_option maxHeartbeats 4000000 in
set_option maxRecDepth 100000 in
/-- fullChambers -/
theorem k_X0_fullChambers (l : Launch) (D : va_G) (yI yZ yL : ClassId) (a : Nat → Nat) (K : CK) (V : CD)   : xMi l yX0_fullChambers wsX0_fullChambers rm_X0_fullChambers D (tysG yI yZ yL) (cw yI yZ a K V) [.ref (a 0)] 0 0 (fun (r : Int32) (W1 : va_W) => r = c_fullN V ∧ W1 = cw yI yZ a K V) := by
  refine xE_i (cc := cX0_fullChambers) (nL := 3) (by decide) rfl (Nat.le_of_ble_eq_true rfl) ?_
  intro p e s m args below meth c A Q F hnm ret
  have hin0 : ∀ w ∈ u_ws RX0 TX0 18, w ∈ wsX0_fullChambers := by decide +kernel
  show AW p l e rm_X0_fullChambers s m args below meth c 3 D A 0 0 Q (cw yI yZ a K V) [(0, .ref (a 0))] 0 []
  refine xr_iconst F dX0_fullChambers_0 (v := 0) (by decide) ?_
  refine xr_istore_n F [(1, .int 0), (0, .ref (a 0))] dX0_fullChambers_1 rfl (by decide) rfl ?_
  refine xr_iconst F dX0_fullChambers_2 (v := 0) (by decide) ?_
  refine xr_istore_n F [(2, .int 0), (1, .int 0), (0, .ref (a 0))] dX0_fullChambers_3 rfl (by decide) rfl ?_
  have lp : ∀ (i : Nat) (b : Nat) (r : Int32), i + b = 5 → c_comeL (dFull V) i b r = c_comeL (dFull V) 5 0 0 → AW p l e rm_X0_fullChambers s m args below meth c 3 D A 0 0 Q (cw yI yZ a K V) [(2, .int (nI b)), (1, .int r), (0, .ref (a 0))] 4 [] := by
    intro i
    induction i with
    | zero =>
      intro b r hb hi
      refine xr_iload_n F dX0_fullChambers_4 rfl 0 rfl ?_
      refine xr_iconst F dX0_fullChambers_5 (v := 5) (by decide) ?_
      refine xr_icmp_ge F 32 dX0_fullChambers_6 (by decide) (fun c6 => ?_) (fun c6 => ?_)
      · skip
        refine xr_iload_n F dX0_fullChambers_32 rfl 1 rfl ?_
        exact ret _ _ _ _ dX0_fullChambers_33 ⟨hi, rfl⟩
      · exact (xk_ge (a := 5) (b := b) (by omega) (by omega) c6).elim
    | succ i ih =>
      intro b r hb hi
      refine xr_iload_n F dX0_fullChambers_4 rfl 0 rfl ?_
      refine xr_iconst F dX0_fullChambers_5 (v := 5) (by decide) ?_
      refine xr_icmp_ge F 32 dX0_fullChambers_6 (by decide) (fun c6 => ?_) (fun c6 => ?_)
      · exact (xk_nlt (a := b) (b := 5) (by omega) (by omega) (by omega) c6).elim
      · skip
        refine xr_iload_n F dX0_fullChambers_9 rfl 1 rfl ?_
        refine xr_aload_n F dX0_fullChambers_10 rfl 2 rfl ?_
        refine xr_get F hin0 0 rfl rfl 10 (by decide) (List.mem_of_getElem? (i := 1) rfl) (v := .ref (a 5)) rfl dX0_fullChambers_11 ?_
        refine xr_iload_n F dX0_fullChambers_14 rfl 0 rfl ?_
        refine xr_zald F 5 1 rfl rfl (b) rfl (by omega) (by decide) dX0_fullChambers_15 ?_
        refine xr_if_eq F 23 dX0_fullChambers_16 (by decide) (fun c16 => ?_) (fun c16 => ?_)
        · skip
          refine xr_iconst F dX0_fullChambers_23 (v := 0) (by decide) ?_
          refine xr_iadd F (r + 0) dX0_fullChambers_24 rfl ?_
          refine xr_istore_n F [(1, .int (r + 0)), (2, .int (nI b)), (0, .ref (a 0))] dX0_fullChambers_25 rfl (by decide) rfl ?_
          refine xr_iinc F (nI (b + 1)) [(2, .int (nI (b + 1))), (1, .int (r + 0)), (0, .ref (a 0))] dX0_fullChambers_26 1 rfl (nI_add b 1) (by decide) rfl ?_
          refine xr_goto F 4 dX0_fullChambers_29 (by decide) ?_
          refine xr_lv (lv' := [(2, .int (nI (b + 1))), (1, .int (r + 0)), (0, .ref (a 0))]) [0, 1, 2] rfl ?_
          exact ih (b + 1) (r + 0) (by omega) (by rw [← hi]; simp only [c_comeL, c6, c16, xk_10, eq_self, ↓reduceIte])
        · skip
          refine xr_iconst F dX0_fullChambers_19 (v := 1) (by decide) ?_
          refine xr_goto F 24 dX0_fullChambers_20 (by decide) ?_
          refine xr_iadd F (r + 1) dX0_fullChambers_24 rfl ?_
          refine xr_istore_n F [(1, .int (r + 1)), (2, .int (nI b)), (0, .ref (a 0))] dX0_fullChambers_25 rfl (by decide) rfl ?_
          refine xr_iinc F (nI (b + 1)) [(2, .int (nI (b + 1))), (1, .int (r + 1)), (0, .ref (a 0))] dX0_fullChambers_26 1 rfl (nI_add b 1) (by decide) rfl ?_
          refine xr_goto F 4 dX0_fullChambers_29 (by decide) ?_
          refine xr_lv (lv' := [(2, .int (nI (b + 1))), (1, .int (r + 1)), (0, .ref (a 0))]) [0, 1, 2] rfl ?_
          exact ih (b + 1) (r + 1) (by omega) (by rw [← hi]; simp only [c_comeL, c6, c16, xk_10, eq_self, ↓reduceIte])
  refine xr_lv (lv' := [(2, .int 0), (1, .int 0), (0, .ref (a 0))]) [0, 1, 2] rfl ?_
  exact lp 5 0 0 rfl rfl

def rm_X0_waterOfAll : Room := { frames := 0, cells := 0, slots := 0, locals := 0 }
set_option maxHeartbeats 4000000 in
set_option maxRecDepth 100000 in
/-- waterOfAll -/
theorem k_X0_waterOfAll (l : Launch) (D : va_G) (yI yZ yL : ClassId) (a : Nat → Nat) (K : CK) (V : CD)   : xMi l yX0_waterOfAll wsX0_waterOfAll rm_X0_waterOfAll D (tysG yI yZ yL) (cw yI yZ a K V) [.ref (a 0)] 0 0 (fun (r : Int32) (W1 : va_W) => r = c_water V ∧ W1 = cw yI yZ a K V) := by
  refine xE_i (cc := cX0_waterOfAll) (nL := 3) (by decide) rfl (Nat.le_of_ble_eq_true rfl) ?_
  intro p e s m args below meth c A Q F hnm ret
  have hin0 : ∀ w ∈ u_ws RX0 TX0 18, w ∈ wsX0_waterOfAll := by decide +kernel
  show AW p l e rm_X0_waterOfAll s m args below meth c 3 D A 0 0 Q (cw yI yZ a K V) [(0, .ref (a 0))] 0 []
  refine xr_iconst F dX0_waterOfAll_0 (v := 0) (by decide) ?_
  refine xr_istore_n F [(1, .int 0), (0, .ref (a 0))] dX0_waterOfAll_1 rfl (by decide) rfl ?_
  refine xr_iconst F dX0_waterOfAll_2 (v := 0) (by decide) ?_
  refine xr_istore_n F [(2, .int 0), (1, .int 0), (0, .ref (a 0))] dX0_waterOfAll_3 rfl (by decide) rfl ?_
  have lp : ∀ (i : Nat) (b : Nat) (r : Int32), i + b = 6 → c_sumL (dLev V) i b r = c_sumL (dLev V) 6 0 0 → AW p l e rm_X0_waterOfAll s m args below meth c 3 D A 0 0 Q (cw yI yZ a K V) [(2, .int (nI b)), (1, .int r), (0, .ref (a 0))] 4 [] := by
    intro i
    induction i with
    | zero =>
      intro b r hb hi
      refine xr_iload_n F dX0_waterOfAll_4 rfl 0 rfl ?_
      refine xr_bipush F dX0_waterOfAll_5 (v := 6) (by decide) ?_
      refine xr_icmp_ge F 25 dX0_waterOfAll_7 (by decide) (fun c7 => ?_) (fun c7 => ?_)
      · skip
        refine xr_iload_n F dX0_waterOfAll_25 rfl 1 rfl ?_
        exact ret _ _ _ _ dX0_waterOfAll_26 ⟨hi, rfl⟩
      · exact (xk_ge (a := 6) (b := b) (by omega) (by omega) c7).elim
    | succ i ih =>
      intro b r hb hi
      refine xr_iload_n F dX0_waterOfAll_4 rfl 0 rfl ?_
      refine xr_bipush F dX0_waterOfAll_5 (v := 6) (by decide) ?_
      refine xr_icmp_ge F 25 dX0_waterOfAll_7 (by decide) (fun c7 => ?_) (fun c7 => ?_)
      · exact (xk_nlt (a := b) (b := 6) (by omega) (by omega) (by omega) c7).elim
      · skip
        refine xr_iload_n F dX0_waterOfAll_10 rfl 1 rfl ?_
        refine xr_aload_n F dX0_waterOfAll_11 rfl 2 rfl ?_
        refine xr_get F hin0 0 rfl rfl 7 (by decide) (List.mem_of_getElem? (i := 1) rfl) (v := .ref (a 2)) rfl dX0_waterOfAll_12 ?_
        refine xr_iload_n F dX0_waterOfAll_15 rfl 0 rfl ?_
        refine xr_iald F 2 0 rfl rfl (b) rfl (by omega) (by decide) dX0_waterOfAll_16 ?_
        refine xr_iadd F (r + ((dLev V) b)) dX0_waterOfAll_17 rfl ?_
        refine xr_istore_n F [(1, .int (r + ((dLev V) b))), (2, .int (nI b)), (0, .ref (a 0))] dX0_waterOfAll_18 rfl (by decide) rfl ?_
        refine xr_iinc F (nI (b + 1)) [(2, .int (nI (b + 1))), (1, .int (r + ((dLev V) b))), (0, .ref (a 0))] dX0_waterOfAll_19 1 rfl (nI_add b 1) (by decide) rfl ?_
        refine xr_goto F 4 dX0_waterOfAll_22 (by decide) ?_
        refine xr_lv (lv' := [(2, .int (nI (b + 1))), (1, .int (r + ((dLev V) b))), (0, .ref (a 0))]) [0, 1, 2] rfl ?_
        exact ih (b + 1) (r + ((dLev V) b)) (by omega) (by rw [← hi]; simp only [c_sumL, c7, xk_10, eq_self, ↓reduceIte])
  refine xr_lv (lv' := [(2, .int 0), (1, .int 0), (0, .ref (a 0))]) [0, 1, 2] rfl ?_
  exact lp 6 0 0 rfl rfl

def rm_X0_tellBarge : Room := { frames := 2, cells := 0, slots := 0, locals := 42 }
set_option maxHeartbeats 4000000 in
set_option maxRecDepth 100000 in
/-- tellBarge -/
theorem k_X0_tellBarge (l : Launch) (D : va_G) (yI yZ yL : ClassId) (a : Nat → Nat) (K : CK) (V : CD) (b : Nat) (w : Nat) (h0 : b < 10) (h1 : w < 5) : xMi l yX0_tellBarge wsX0_tellBarge rm_X0_tellBarge D (tysG yI yZ yL) (cw yI yZ a K V) [.ref (a 0), .int (nI b), .int (nI w)] 0 0 (fun (r : Int32) (W1 : va_W) => r = c_tellB K V b w ∧ W1 = cw yI yZ a K V) := by
  refine xE_i (cc := cX0_tellBarge) (nL := 3) (by decide) rfl (Nat.le_of_ble_eq_true rfl) ?_
  intro p e s m args below meth c A Q F hnm ret
  have hin0 : ∀ w ∈ u_ws RX0 TX0 18, w ∈ wsX0_tellBarge := by decide +kernel
  show AW p l e rm_X0_tellBarge s m args below meth c 3 D A 0 0 Q (cw yI yZ a K V) [(0, .ref (a 0)), (1, .int (nI b)), (2, .int (nI w))] 0 []
  refine xr_iload_n F dX0_tellBarge_0 rfl 2 rfl ?_
  rcases (by omega : w = 0 ∨ w = 1 ∨ w = 2 ∨ w = 3 ∨ w = 4) with rfl | rfl | rfl | rfl | rfl
  · skip
    refine xr_tableIn F (off := 31) 32 dX0_tellBarge_1 (by decide) (by decide) (by decide) (by decide) ?_
    refine xr_aload_n F dX0_tellBarge_32 rfl 0 rfl ?_
    refine xr_get F hin0 0 rfl rfl 14 (by decide) (List.mem_of_getElem? (i := 1) rfl) (v := .ref (a 8)) rfl dX0_tellBarge_33 ?_
    refine xr_iload_n F dX0_tellBarge_36 rfl 1 rfl ?_
    refine xr_iald F 8 0 rfl rfl (b) rfl (by omega) (by decide) dX0_tellBarge_37 ?_
    refine ret _ _ _ _ dX0_tellBarge_38 ⟨?_, rfl⟩
    first | rfl | (simp only [↓reduceIte]; done) | (simp only [↓reduceIte]; rfl)
  · skip
    refine xr_tableIn F (off := 38) 39 dX0_tellBarge_1 (by decide) (by decide) (by decide) (by decide) ?_
    refine xr_aload_n F dX0_tellBarge_39 rfl 0 rfl ?_
    refine xr_get F hin0 0 rfl rfl 15 (by decide) (List.mem_of_getElem? (i := 2) rfl) (v := .ref (a 9)) rfl dX0_tellBarge_40 ?_
    refine xr_iload_n F dX0_tellBarge_43 rfl 1 rfl ?_
    refine xr_iald F 9 0 rfl rfl (b) rfl (by omega) (by decide) dX0_tellBarge_44 ?_
    refine ret _ _ _ _ dX0_tellBarge_45 ⟨?_, rfl⟩
    first | rfl | (simp only [↓reduceIte]; done) | (simp only [↓reduceIte]; rfl)
  · skip
    refine xr_tableIn F (off := 45) 46 dX0_tellBarge_1 (by decide) (by decide) (by decide) (by decide) ?_
    refine xr_aload_n F dX0_tellBarge_46 rfl 0 rfl ?_
    refine xr_get F hin0 0 rfl rfl 16 (by decide) (List.mem_of_getElem? (i := 3) rfl) (v := .ref (a 10)) rfl dX0_tellBarge_47 ?_
    refine xr_iload_n F dX0_tellBarge_50 rfl 1 rfl ?_
    refine xr_iald F 10 0 rfl rfl (b) rfl (by omega) (by decide) dX0_tellBarge_51 ?_
    refine ret _ _ _ _ dX0_tellBarge_52 ⟨?_, rfl⟩
    first | rfl | (simp only [↓reduceIte]; done) | (simp only [↓reduceIte]; rfl)
  · skip
    refine xr_tableIn F (off := 52) 53 dX0_tellBarge_1 (by decide) (by decide) (by decide) (by decide) ?_
    refine xr_aload_n F dX0_tellBarge_53 rfl 0 rfl ?_
    refine xr_get F hin0 0 rfl rfl 17 (by decide) (List.mem_of_getElem? (i := 4) rfl) (v := .ref (a 11)) rfl dX0_tellBarge_54 ?_
    refine xr_iload_n F dX0_tellBarge_57 rfl 1 rfl ?_
    refine xr_iald F 11 0 rfl rfl (b) rfl (by omega) (by decide) dX0_tellBarge_58 ?_
    refine ret _ _ _ _ dX0_tellBarge_59 ⟨?_, rfl⟩
    first | rfl | (simp only [↓reduceIte]; done) | (simp only [↓reduceIte]; rfl)
  · skip
    refine xr_tableOut F 60 dX0_tellBarge_1 (by decide) (by decide) ?_
    refine xr_aload_n F dX0_tellBarge_60 rfl 0 rfl ?_
    refine xr_iload_n F dX0_tellBarge_61 rfl 1 rfl ?_
    refine xr_callVi F (wr := ([] : va_W)) (rest := []) (As := [.int (nI b)]) (k_X0_waitsAt l D yI yZ yL a K V b (by omega)) (cwV 1 F.hts gX0_tellBarge_X0_waitsAt rfl rfl rfl (by decide +kernel) ⟨Nat.le_of_ble_eq_true rfl, Nat.le_of_ble_eq_true rfl⟩) (q0 := 0) rfl rfl [0, 1, 2, 3, 4, 5, 6, 7, 8, 9, 10, 11] [] rfl rfl (by decide) (by decide) (by decide) rfl rfl (Nat.le_of_ble_eq_true rfl) dX0_tellBarge_62 ⟨Nat.le_of_ble_eq_true rfl, Nat.le_of_ble_eq_true rfl⟩ (fun r1 W1 z1 => ?_)
    obtain ⟨z0, z1⟩ := z1
    subst z0
    subst z1
    refine xr_ws (ws' := cw yI yZ a K V) rfl ?_
    refine ret _ _ _ _ dX0_tellBarge_65 ⟨?_, rfl⟩
    first | rfl | (simp only [↓reduceIte]; done) | (simp only [↓reduceIte]; rfl)

def rm_X0_tellPound : Room := { frames := 1, cells := 0, slots := 0, locals := 23 }
set_option maxHeartbeats 4000000 in
set_option maxRecDepth 100000 in
/-- tellPound -/
theorem k_X0_tellPound (l : Launch) (D : va_G) (yI yZ yL : ClassId) (a : Nat → Nat) (K : CK) (V : CD) (k : Nat) (w : Nat) (h0 : k < 6) (h1 : w < 4) (h2 : kNb K ≤ 10) : xMi l yX0_tellPound wsX0_tellPound rm_X0_tellPound D (tysG yI yZ yL) (cw yI yZ a K V) [.ref (a 0), .int (nI k), .int (nI w)] 0 0 (fun (r : Int32) (W1 : va_W) => r = c_tellP K V k w ∧ W1 = cw yI yZ a K V) := by
  refine xE_i (cc := cX0_tellPound) (nL := 3) (by decide) rfl (Nat.le_of_ble_eq_true rfl) ?_
  intro p e s m args below meth c A Q F hnm ret
  have hin0 : ∀ w ∈ u_ws RX0 TX0 18, w ∈ wsX0_tellPound := by decide +kernel
  show AW p l e rm_X0_tellPound s m args below meth c 3 D A 0 0 Q (cw yI yZ a K V) [(0, .ref (a 0)), (1, .int (nI k)), (2, .int (nI w))] 0 []
  refine xr_iload_n F dX0_tellPound_0 rfl 2 rfl ?_
  rcases (by omega : w = 0 ∨ w = 1 ∨ w = 2 ∨ w = 3) with rfl | rfl | rfl | rfl
  · skip
    refine xr_tableIn F (off := 27) 28 dX0_tellPound_1 (by decide) (by decide) (by decide) (by decide) ?_
    refine xr_aload_n F dX0_tellPound_28 rfl 0 rfl ?_
    refine xr_get F hin0 0 rfl rfl 7 (by decide) (List.mem_of_getElem? (i := 1) rfl) (v := .ref (a 2)) rfl dX0_tellPound_29 ?_
    refine xr_iload_n F dX0_tellPound_32 rfl 1 rfl ?_
    refine xr_iald F 2 0 rfl rfl (k) rfl (by omega) (by decide) dX0_tellPound_33 ?_
    refine ret _ _ _ _ dX0_tellPound_34 ⟨?_, rfl⟩
    first | rfl | (simp only [↓reduceIte]; done) | (simp only [↓reduceIte]; rfl)
  · skip
    refine xr_tableIn F (off := 34) 35 dX0_tellPound_1 (by decide) (by decide) (by decide) (by decide) ?_
    refine xr_aload_n F dX0_tellPound_35 rfl 0 rfl ?_
    refine xr_iload_n F dX0_tellPound_36 rfl 1 rfl ?_
    refine xr_callVi F (wr := ([] : va_W)) (rest := []) (As := [.int (nI k)]) (k_X0_bargesAt l D yI yZ yL a K V (nI k) (by assumption)) (cwV 1 F.hts gX0_tellPound_X0_bargesAt rfl rfl rfl (by decide +kernel) ⟨Nat.le_of_ble_eq_true rfl, Nat.le_of_ble_eq_true rfl⟩) (q0 := 0) rfl rfl [0, 1, 2, 3, 4, 5, 6, 7, 8, 9, 10, 11] [] rfl rfl (by decide) (by decide) (by decide) rfl rfl (Nat.le_of_ble_eq_true rfl) dX0_tellPound_37 ⟨Nat.le_of_ble_eq_true rfl, Nat.le_of_ble_eq_true rfl⟩ (fun r1 W1 z1 => ?_)
    obtain ⟨z0, z1⟩ := z1
    subst z0
    subst z1
    refine xr_ws (ws' := cw yI yZ a K V) rfl ?_
    refine ret _ _ _ _ dX0_tellPound_40 ⟨?_, rfl⟩
    first | rfl | (simp only [↓reduceIte]; done) | (simp only [↓reduceIte]; rfl)
  · skip
    refine xr_tableIn F (off := 40) 41 dX0_tellPound_1 (by decide) (by decide) (by decide) (by decide) ?_
    refine xr_aload_n F dX0_tellPound_41 rfl 0 rfl ?_
    refine xr_get F hin0 0 rfl rfl 8 (by decide) (List.mem_of_getElem? (i := 2) rfl) (v := .ref (a 3)) rfl dX0_tellPound_42 ?_
    refine xr_iload_n F dX0_tellPound_45 rfl 1 rfl ?_
    refine xr_iald F 3 0 rfl rfl (k) rfl (by omega) (by decide) dX0_tellPound_46 ?_
    refine ret _ _ _ _ dX0_tellPound_47 ⟨?_, rfl⟩
    first | rfl | (simp only [↓reduceIte]; done) | (simp only [↓reduceIte]; rfl)
  · skip
    refine xr_tableOut F 48 dX0_tellPound_1 (by decide) (by decide) ?_
    refine xr_aload_n F dX0_tellPound_48 rfl 0 rfl ?_
    refine xr_get F hin0 0 rfl rfl 9 (by decide) (List.mem_of_getElem? (i := 3) rfl) (v := .ref (a 4)) rfl dX0_tellPound_49 ?_
    refine xr_iload_n F dX0_tellPound_52 rfl 1 rfl ?_
    refine xr_iald F 4 0 rfl rfl (k) rfl (by omega) (by decide) dX0_tellPound_53 ?_
    refine ret _ _ _ _ dX0_tellPound_54 ⟨?_, rfl⟩
    first | rfl | (simp only [↓reduceIte]; done) | (simp only [↓reduceIte]; rfl)

def rm_X0_tellLock : Room := { frames := 4, cells := 0, slots := 0, locals := 91 }
set_option maxHeartbeats 4000000 in
set_option maxRecDepth 100000 in
/-- tellLock -/
theorem k_X0_tellLock (l : Launch) (D : va_G) (yI yZ yL : ClassId) (a : Nat → Nat) (K : CK) (V : CD) (k : Nat) (w : Nat) (h0 : k < 5) (h1 : w < 5) (h2 : kNb K ≤ 10) : xMi l yX0_tellLock wsX0_tellLock rm_X0_tellLock D (tysG yI yZ yL) (cw yI yZ a K V) [.ref (a 0), .int (nI k), .int (nI w)] 0 0 (fun (r : Int32) (W1 : va_W) => r = c_tellL K V k w ∧ W1 = cw yI yZ a K V) := by
  refine xE_i (cc := cX0_tellLock) (nL := 3) (by decide) rfl (Nat.le_of_ble_eq_true rfl) ?_
  intro p e s m args below meth c A Q F hnm ret
  have hin0 : ∀ w ∈ u_ws RX0 TX0 18, w ∈ wsX0_tellLock := by decide +kernel
  show AW p l e rm_X0_tellLock s m args below meth c 3 D A 0 0 Q (cw yI yZ a K V) [(0, .ref (a 0)), (1, .int (nI k)), (2, .int (nI w))] 0 []
  refine xr_iload_n F dX0_tellLock_0 rfl 2 rfl ?_
  rcases (by omega : w = 0 ∨ w = 1 ∨ w = 2 ∨ w = 3 ∨ w = 4) with rfl | rfl | rfl | rfl | rfl
  · skip
    refine xr_tableIn F (off := 31) 32 dX0_tellLock_1 (by decide) (by decide) (by decide) (by decide) ?_
    refine xr_aload_n F dX0_tellLock_32 rfl 0 rfl ?_
    refine xr_get F hin0 0 rfl rfl 10 (by decide) (List.mem_of_getElem? (i := 1) rfl) (v := .ref (a 5)) rfl dX0_tellLock_33 ?_
    refine xr_iload_n F dX0_tellLock_36 rfl 1 rfl ?_
    refine xr_zald F 5 1 rfl rfl (k) rfl (by omega) (by decide) dX0_tellLock_37 ?_
    refine xr_if_eq F 45 dX0_tellLock_38 (by decide) (fun c38 => ?_) (fun c38 => ?_)
    · skip
      refine xr_iconst F dX0_tellLock_45 (v := 0) (by decide) ?_
      refine ret _ _ _ _ dX0_tellLock_46 ⟨?_, rfl⟩
      first | rfl | (simp only [c_tellL, c38, ↓reduceIte]; done) | (simp only [c_tellL, c38, ↓reduceIte]; rfl)
    · skip
      refine xr_iconst F dX0_tellLock_41 (v := 1) (by decide) ?_
      refine xr_goto F 46 dX0_tellLock_42 (by decide) ?_
      refine ret _ _ _ _ dX0_tellLock_46 ⟨?_, rfl⟩
      first | rfl | (simp only [c_tellL, c38, ↓reduceIte]; done) | (simp only [c_tellL, c38, ↓reduceIte]; rfl)
  · skip
    refine xr_tableIn F (off := 46) 47 dX0_tellLock_1 (by decide) (by decide) (by decide) (by decide) ?_
    refine xr_aload_n F dX0_tellLock_47 rfl 0 rfl ?_
    refine xr_iload_n F dX0_tellLock_48 rfl 1 rfl ?_
    refine xr_callVi F (wr := ([] : va_W)) (rest := []) (As := [.int (nI k)]) (k_X0_bargesWaitingAt l D yI yZ yL a K V (nI k) (by assumption)) (cwV 1 F.hts gX0_tellLock_X0_bargesWaitingAt rfl rfl rfl (by decide +kernel) ⟨Nat.le_of_ble_eq_true rfl, Nat.le_of_ble_eq_true rfl⟩) (q0 := 0) rfl rfl [0, 1, 2, 3, 4, 5, 6, 7, 8, 9, 10, 11] [] rfl rfl (by decide) (by decide) (by decide) rfl rfl (Nat.le_of_ble_eq_true rfl) dX0_tellLock_49 ⟨Nat.le_of_ble_eq_true rfl, Nat.le_of_ble_eq_true rfl⟩ (fun r1 W1 z1 => ?_)
    obtain ⟨z0, z1⟩ := z1
    subst z0
    subst z1
    refine xr_ws (ws' := cw yI yZ a K V) rfl ?_
    refine ret _ _ _ _ dX0_tellLock_52 ⟨?_, rfl⟩
    first | rfl | (simp only [c_tellL, ↓reduceIte]; done) | (simp only [c_tellL, ↓reduceIte]; rfl)
  · skip
    refine xr_tableIn F (off := 52) 53 dX0_tellLock_1 (by decide) (by decide) (by decide) (by decide) ?_
    refine xr_aload_n F dX0_tellLock_53 rfl 0 rfl ?_
    refine xr_get F hin0 0 rfl rfl 11 (by decide) (List.mem_of_getElem? (i := 2) rfl) (v := .ref (a 6)) rfl dX0_tellLock_54 ?_
    refine xr_iload_n F dX0_tellLock_57 rfl 1 rfl ?_
    refine xr_iald F 6 0 rfl rfl (k) rfl (by omega) (by decide) dX0_tellLock_58 ?_
    refine ret _ _ _ _ dX0_tellLock_59 ⟨?_, rfl⟩
    first | rfl | (simp only [c_tellL, ↓reduceIte]; done) | (simp only [c_tellL, ↓reduceIte]; rfl)
  · skip
    refine xr_tableIn F (off := 59) 60 dX0_tellLock_1 (by decide) (by decide) (by decide) (by decide) ?_
    refine xr_aload_n F dX0_tellLock_60 rfl 0 rfl ?_
    refine xr_get F hin0 0 rfl rfl 12 (by decide) (List.mem_of_getElem? (i := 3) rfl) (v := .ref (a 7)) rfl dX0_tellLock_61 ?_
    refine xr_iload_n F dX0_tellLock_64 rfl 1 rfl ?_
    refine xr_iald F 7 0 rfl rfl (k) rfl (by omega) (by decide) dX0_tellLock_65 ?_
    refine ret _ _ _ _ dX0_tellLock_66 ⟨?_, rfl⟩
    first | rfl | (simp only [c_tellL, ↓reduceIte]; done) | (simp only [c_tellL, ↓reduceIte]; rfl)
  · skip
    refine xr_tableOut F 67 dX0_tellLock_1 (by decide) (by decide) ?_
    refine xr_aload_n F dX0_tellLock_67 rfl 0 rfl ?_
    refine xr_iload_n F dX0_tellLock_68 rfl 1 rfl ?_
    refine xr_iconst F dX0_tellLock_69 (v := 0) (by decide) ?_
    refine xr_callVi F (wr := ([] : va_W)) (rest := []) (As := [.int (nI k), .int 0]) (k_X0_nextBarge l D yI yZ yL a K V k 0 (by omega) (by assumption)) (cwV 2 F.hts gX0_tellLock_X0_nextBarge rfl rfl rfl (by decide +kernel) ⟨Nat.le_of_ble_eq_true rfl, Nat.le_of_ble_eq_true rfl⟩) (q0 := 0) rfl rfl [0, 1, 2, 3, 4, 5, 6, 7, 8, 9, 10, 11] [] rfl rfl (by decide) (by decide) (by decide) rfl rfl (Nat.le_of_ble_eq_true rfl) dX0_tellLock_70 ⟨Nat.le_of_ble_eq_true rfl, Nat.le_of_ble_eq_true rfl⟩ (fun r1 W1 z1 => ?_)
    obtain ⟨z0, z1⟩ := z1
    subst z0
    subst z1
    refine xr_ws (ws' := cw yI yZ a K V) rfl ?_
    refine ret _ _ _ _ dX0_tellLock_73 ⟨?_, rfl⟩
    first | rfl | (simp only [c_tellL, ↓reduceIte]; done) | (simp only [c_tellL, ↓reduceIte]; rfl)

def rm_X0_tellWhole : Room := { frames := 2, cells := 0, slots := 0, locals := 43 }
set_option maxHeartbeats 4000000 in
set_option maxRecDepth 100000 in
/-- tellWhole -/
theorem k_X0_tellWhole (l : Launch) (D : va_G) (yI yZ yL : ClassId) (a : Nat → Nat) (K : CK) (V : CD) (w : Nat) (h0 : w < 10) (h1 : kNb K ≤ 10) : xMi l yX0_tellWhole wsX0_tellWhole rm_X0_tellWhole D (tysG yI yZ yL) (cw yI yZ a K V) [.ref (a 0), .int (nI w)] 0 0 (fun (r : Int32) (W1 : va_W) => r = c_tellW K V w ∧ W1 = cw yI yZ a K V) := by
  refine xE_i (cc := cX0_tellWhole) (nL := 2) (by decide) rfl (Nat.le_of_ble_eq_true rfl) ?_
  intro p e s m args below meth c A Q F hnm ret
  have hin0 : ∀ w ∈ u_ws RX0 TX0 18, w ∈ wsX0_tellWhole := by decide +kernel
  show AW p l e rm_X0_tellWhole s m args below meth c 2 D A 0 0 Q (cw yI yZ a K V) [(0, .ref (a 0)), (1, .int (nI w))] 0 []
  refine xr_iload_n F dX0_tellWhole_0 rfl 1 rfl ?_
  rcases (by omega : w = 0 ∨ w = 1 ∨ w = 2 ∨ w = 3 ∨ w = 4 ∨ w = 5 ∨ w = 6 ∨ w = 7 ∨ w = 8 ∨ w = 9) with rfl | rfl | rfl | rfl | rfl | rfl | rfl | rfl | rfl | rfl
  · skip
    refine xr_tableIn F (off := 51) 52 dX0_tellWhole_1 (by decide) (by decide) (by decide) (by decide) ?_
    refine xr_aload_n F dX0_tellWhole_52 rfl 0 rfl ?_
    refine xr_get F hin0 0 rfl rfl 0 (by decide) (List.mem_of_getElem? (i := 1) rfl) (v := .int (nI (dHour V))) rfl dX0_tellWhole_53 ?_
    refine ret _ _ _ _ dX0_tellWhole_56 ⟨?_, rfl⟩
    first | rfl | (simp only [↓reduceIte]; done) | (simp only [↓reduceIte]; rfl)
  · skip
    refine xr_tableIn F (off := 56) 57 dX0_tellWhole_1 (by decide) (by decide) (by decide) (by decide) ?_
    refine xr_aload_n F dX0_tellWhole_57 rfl 0 rfl ?_
    refine xr_get F hin0 0 rfl rfl 13 (by decide) (List.mem_of_getElem? (i := 2) rfl) (v := .int (nI (kNb K))) rfl dX0_tellWhole_58 ?_
    refine ret _ _ _ _ dX0_tellWhole_61 ⟨?_, rfl⟩
    first | rfl | (simp only [↓reduceIte]; done) | (simp only [↓reduceIte]; rfl)
  · skip
    refine xr_tableIn F (off := 61) 62 dX0_tellWhole_1 (by decide) (by decide) (by decide) (by decide) ?_
    refine xr_aload_n F dX0_tellWhole_62 rfl 0 rfl ?_
    refine xr_callVi F (wr := ([] : va_W)) (rest := []) (As := []) (k_X0_bargesThatHaveCome l D yI yZ yL a K V (by assumption)) (cwV 0 F.hts gX0_tellWhole_X0_bargesThatHaveCome rfl rfl rfl (by decide +kernel) ⟨Nat.le_of_ble_eq_true rfl, Nat.le_of_ble_eq_true rfl⟩) (q0 := 0) rfl rfl [0, 1, 2, 3, 4, 5, 6, 7, 8, 9, 10, 11] [] rfl rfl (by decide) (by decide) (by decide) rfl rfl (Nat.le_of_ble_eq_true rfl) dX0_tellWhole_63 ⟨Nat.le_of_ble_eq_true rfl, Nat.le_of_ble_eq_true rfl⟩ (fun r1 W1 z1 => ?_)
    obtain ⟨z0, z1⟩ := z1
    subst z0
    subst z1
    refine xr_ws (ws' := cw yI yZ a K V) rfl ?_
    refine ret _ _ _ _ dX0_tellWhole_66 ⟨?_, rfl⟩
    first | rfl | (simp only [↓reduceIte]; done) | (simp only [↓reduceIte]; rfl)
  · skip
    refine xr_tableIn F (off := 66) 67 dX0_tellWhole_1 (by decide) (by decide) (by decide) (by decide) ?_
    refine xr_aload_n F dX0_tellWhole_67 rfl 0 rfl ?_
    refine xr_get F hin0 0 rfl rfl 1 (by decide) (List.mem_of_getElem? (i := 3) rfl) (v := .int (dBank V)) rfl dX0_tellWhole_68 ?_
    refine ret _ _ _ _ dX0_tellWhole_71 ⟨?_, rfl⟩
    first | rfl | (simp only [↓reduceIte]; done) | (simp only [↓reduceIte]; rfl)
  · skip
    refine xr_tableIn F (off := 71) 72 dX0_tellWhole_1 (by decide) (by decide) (by decide) (by decide) ?_
    refine xr_aload_n F dX0_tellWhole_72 rfl 0 rfl ?_
    refine xr_callVi F (wr := ([] : va_W)) (rest := []) (As := []) (k_X0_waterOfAll l D yI yZ yL a K V ) (cwV 0 F.hts gX0_tellWhole_X0_waterOfAll rfl rfl rfl (by decide +kernel) ⟨Nat.le_of_ble_eq_true rfl, Nat.le_of_ble_eq_true rfl⟩) (q0 := 0) rfl rfl [0, 1, 2, 3, 4, 5, 6, 7, 8, 9, 10, 11] [] rfl rfl (by decide) (by decide) (by decide) rfl rfl (Nat.le_of_ble_eq_true rfl) dX0_tellWhole_73 ⟨Nat.le_of_ble_eq_true rfl, Nat.le_of_ble_eq_true rfl⟩ (fun r1 W1 z1 => ?_)
    obtain ⟨z0, z1⟩ := z1
    subst z0
    subst z1
    refine xr_ws (ws' := cw yI yZ a K V) rfl ?_
    refine ret _ _ _ _ dX0_tellWhole_76 ⟨?_, rfl⟩
    first | rfl | (simp only [↓reduceIte]; done) | (simp only [↓reduceIte]; rfl)
  · skip
    refine xr_tableIn F (off := 76) 77 dX0_tellWhole_1 (by decide) (by decide) (by decide) (by decide) ?_
    refine xr_aload_n F dX0_tellWhole_77 rfl 0 rfl ?_
    refine xr_callVi F (wr := ([] : va_W)) (rest := []) (As := []) (k_X0_fullChambers l D yI yZ yL a K V ) (cwV 0 F.hts gX0_tellWhole_X0_fullChambers rfl rfl rfl (by decide +kernel) ⟨Nat.le_of_ble_eq_true rfl, Nat.le_of_ble_eq_true rfl⟩) (q0 := 0) rfl rfl [0, 1, 2, 3, 4, 5, 6, 7, 8, 9, 10, 11] [] rfl rfl (by decide) (by decide) (by decide) rfl rfl (Nat.le_of_ble_eq_true rfl) dX0_tellWhole_78 ⟨Nat.le_of_ble_eq_true rfl, Nat.le_of_ble_eq_true rfl⟩ (fun r1 W1 z1 => ?_)
    obtain ⟨z0, z1⟩ := z1
    subst z0
    subst z1
    refine xr_ws (ws' := cw yI yZ a K V) rfl ?_
    refine ret _ _ _ _ dX0_tellWhole_81 ⟨?_, rfl⟩
    first | rfl | (simp only [↓reduceIte]; done) | (simp only [↓reduceIte]; rfl)
  · skip
    refine xr_tableIn F (off := 81) 82 dX0_tellWhole_1 (by decide) (by decide) (by decide) (by decide) ?_
    refine xr_aload_n F dX0_tellWhole_82 rfl 0 rfl ?_
    refine xr_get F hin0 0 rfl rfl 8 (by decide) (List.mem_of_getElem? (i := 4) rfl) (v := .ref (a 3)) rfl dX0_tellWhole_83 ?_
    refine xr_iconst F dX0_tellWhole_86 (v := 0) (by decide) ?_
    refine xr_iald F 3 0 rfl rfl (0) rfl (by decide) (by decide) dX0_tellWhole_87 ?_
    refine xr_aload_n F dX0_tellWhole_88 rfl 0 rfl ?_
    refine xr_get F hin0 0 rfl rfl 9 (by decide) (List.mem_of_getElem? (i := 5) rfl) (v := .ref (a 4)) rfl dX0_tellWhole_89 ?_
    refine xr_iconst F dX0_tellWhole_92 (v := 0) (by decide) ?_
    refine xr_iald F 4 0 rfl rfl (0) rfl (by decide) (by decide) dX0_tellWhole_93 ?_
    refine xr_iadd F (((dOver V) 0) + ((dDrawn V) 0)) dX0_tellWhole_94 rfl ?_
    refine ret _ _ _ _ dX0_tellWhole_95 ⟨?_, rfl⟩
    first | rfl | (simp only [↓reduceIte]; done) | (simp only [↓reduceIte]; rfl)
  · skip
    refine xr_tableIn F (off := 95) 96 dX0_tellWhole_1 (by decide) (by decide) (by decide) (by decide) ?_
    refine xr_aload_n F dX0_tellWhole_96 rfl 0 rfl ?_
    refine xr_get F hin0 0 rfl rfl 2 (by decide) (List.mem_of_getElem? (i := 6) rfl) (v := .int (kFee K)) rfl dX0_tellWhole_97 ?_
    refine ret _ _ _ _ dX0_tellWhole_100 ⟨?_, rfl⟩
    first | rfl | (simp only [↓reduceIte]; done) | (simp only [↓reduceIte]; rfl)
  · skip
    refine xr_tableIn F (off := 100) 101 dX0_tellWhole_1 (by decide) (by decide) (by decide) (by decide) ?_
    refine xr_aload_n F dX0_tellWhole_101 rfl 0 rfl ?_
    refine xr_get F hin0 0 rfl rfl 5 (by decide) (List.mem_of_getElem? (i := 7) rfl) (v := .int (kMark K)) rfl dX0_tellWhole_102 ?_
    refine ret _ _ _ _ dX0_tellWhole_105 ⟨?_, rfl⟩
    first | rfl | (simp only [↓reduceIte]; done) | (simp only [↓reduceIte]; rfl)
  · skip
    refine xr_tableOut F 106 dX0_tellWhole_1 (by decide) (by decide) ?_
    refine xr_aload_n F dX0_tellWhole_106 rfl 0 rfl ?_
    refine xr_get F hin0 0 rfl rfl 4 (by decide) (List.mem_of_getElem? (i := 8) rfl) (v := .int (nI (kMill K) - 1)) rfl dX0_tellWhole_107 ?_
    refine ret _ _ _ _ dX0_tellWhole_110 ⟨?_, rfl⟩
    first | rfl | (simp only [↓reduceIte]; done) | (simp only [↓reduceIte]; rfl)
