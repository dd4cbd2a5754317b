def rm_X3_bargesAt : Room := { frames := 0, cells := 0, slots := 0, locals := 0 }
set_option maxHeartbeats 4000000 in
set_option maxRecDepth 100000 in
/-- bargesAt -/
theorem k_X3_bargesAt (l : Launch) (D : va_G) (yI yZ yL : ClassId) (g u t : Nat → Nat) (th : Int32) (K : CK) (aw : Int32) (wh : Nat → Int32) (V : CD) (x : Int32) (h0 : kNb K ≤ 10) : xMi l yX3_bargesAt wsX3_bargesAt rm_X3_bargesAt D (tysG yI yZ yL) ((mw yI g u t th K) ++ (sw yI u (kMark K) aw wh V)) [.ref (g 0), .int x] 0 0 (fun (r : Int32) (W1 : va_W) => r = c_atN K V x ∧ W1 = (mw yI g u t th K) ++ (sw yI u (kMark K) aw wh V)) := by
  refine xE_i (cc := cX3_bargesAt) (nL := 4) (by decide) rfl (Nat.le_of_ble_eq_true rfl) ?_
  intro p e s m args below meth c A Q F hnm ret
  have hin2 : ∀ w ∈ u_ws RX2 TX2 14, w ∈ wsX3_bargesAt := by decide +kernel
  have hin3 : ∀ w ∈ u_ws RX3 TX3 9, w ∈ wsX3_bargesAt := by decide +kernel
  show AW p l e rm_X3_bargesAt s m args below meth c 4 D A 0 0 Q ((mw yI g u t th K) ++ (sw yI u (kMark K) aw wh V)) [(0, .ref (g 0)), (1, .int x)] 0 []
  refine xr_iconst F dX3_bargesAt_0 (v := 0) (by decide) ?_
  refine xr_istore_n F [(2, .int 0), (0, .ref (g 0)), (1, .int x)] dX3_bargesAt_1 rfl (by decide) rfl ?_
  refine xr_iconst F dX3_bargesAt_2 (v := 0) (by decide) ?_
  refine xr_istore_n F [(3, .int 0), (2, .int 0), (0, .ref (g 0)), (1, .int x)] dX3_bargesAt_3 rfl (by decide) rfl ?_
  have lp : ∀ (i : Nat) (b : Nat) (r : Int32), i + b = kNb K → c_cntL (dAt V) x i b r = c_cntL (dAt V) x (kNb K) 0 0 → AW p l e rm_X3_bargesAt s m args below meth c 4 D A 0 0 Q ((mw yI g u t th K) ++ (sw yI u (kMark K) aw wh V)) [(3, .int (nI b)), (2, .int r), (0, .ref (g 0)), (1, .int x)] 4 [] := by
    intro i
    induction i with
    | zero =>
      intro b r hb hi
      refine xr_iload_n F dX3_bargesAt_4 rfl 0 rfl ?_
      refine xr_aload_n F dX3_bargesAt_5 rfl 2 rfl ?_
      refine xr_get F hin3 0 rfl rfl 1 (by decide) (List.mem_of_getElem? (i := 1) rfl) (v := .int (nI (kNb K))) rfl dX3_bargesAt_6 ?_
      refine xr_icmp_ge F 39 dX3_bargesAt_9 (by decide) (fun c9 => ?_) (fun c9 => ?_)
      · skip
        refine xr_iload_n F dX3_bargesAt_39 rfl 1 rfl ?_
        exact ret _ _ _ _ dX3_bargesAt_40 ⟨hi, rfl⟩
      · exact (xk_ge (a := kNb K) (b := b) (by omega) (by omega) c9).elim
    | succ i ih =>
      intro b r hb hi
      refine xr_iload_n F dX3_bargesAt_4 rfl 0 rfl ?_
      refine xr_aload_n F dX3_bargesAt_5 rfl 2 rfl ?_
      refine xr_get F hin3 0 rfl rfl 1 (by decide) (List.mem_of_getElem? (i := 1) rfl) (v := .int (nI (kNb K))) rfl dX3_bargesAt_6 ?_
      refine xr_icmp_ge F 39 dX3_bargesAt_9 (by decide) (fun c9 => ?_) (fun c9 => ?_)
      · exact (xk_nlt (a := b) (b := kNb K) (by omega) (by omega) (by omega) c9).elim
      · skip
        refine xr_iload_n F dX3_bargesAt_12 rfl 1 rfl ?_
        refine xr_aload_n F dX3_bargesAt_13 rfl 2 rfl ?_
        refine xr_get F hin3 0 rfl rfl 7 (by decide) (List.mem_of_getElem? (i := 2) rfl) (v := .ref (u 0)) rfl dX3_bargesAt_14 ?_
        refine xr_getN F hin2 3 rfl rfl 10 (by decide) (List.mem_of_getElem? (i := 10) rfl) (v := .ref (u 7)) rfl dX3_bargesAt_17 ?_
        refine xr_iload_n F dX3_bargesAt_20 rfl 0 rfl ?_
        refine xr_iald F 10 0 rfl rfl (b) rfl (by omega) (by decide) dX3_bargesAt_21 ?_
        refine xr_iload_n F dX3_bargesAt_22 rfl 3 rfl ?_
        refine xr_icmp_ne F 30 dX3_bargesAt_23 (by decide) (fun c23 => ?_) (fun c23 => ?_)
        · skip
          refine xr_iconst F dX3_bargesAt_30 (v := 0) (by decide) ?_
          refine xr_iadd F (r + 0) dX3_bargesAt_31 rfl ?_
          refine xr_istore_n F [(2, .int (r + 0)), (3, .int (nI b)), (0, .ref (g 0)), (1, .int x)] dX3_bargesAt_32 rfl (by decide) rfl ?_
          refine xr_iinc F (nI (b + 1)) [(3, .int (nI (b + 1))), (2, .int (r + 0)), (0, .ref (g 0)), (1, .int x)] dX3_bargesAt_33 1 rfl (nI_add b 1) (by decide) rfl ?_
          refine xr_goto F 4 dX3_bargesAt_36 (by decide) ?_
          refine xr_lv (lv' := [(3, .int (nI (b + 1))), (2, .int (r + 0)), (0, .ref (g 0)), (1, .int x)]) [0, 1, 2, 3] rfl ?_
          exact ih (b + 1) (r + 0) (by omega) (by rw [← hi]; simp only [c_cntL, c9, c23, xk_10, eq_self, ↓reduceIte])
        · skip
          refine xr_iconst F dX3_bargesAt_26 (v := 1) (by decide) ?_
          refine xr_goto F 31 dX3_bargesAt_27 (by decide) ?_
          refine xr_iadd F (r + 1) dX3_bargesAt_31 rfl ?_
          refine xr_istore_n F [(2, .int (r + 1)), (3, .int (nI b)), (0, .ref (g 0)), (1, .int x)] dX3_bargesAt_32 rfl (by decide) rfl ?_
          refine xr_iinc F (nI (b + 1)) [(3, .int (nI (b + 1))), (2, .int (r + 1)), (0, .ref (g 0)), (1, .int x)] dX3_bargesAt_33 1 rfl (nI_add b 1) (by decide) rfl ?_
          refine xr_goto F 4 dX3_bargesAt_36 (by decide) ?_
          refine xr_lv (lv' := [(3, .int (nI (b + 1))), (2, .int (r + 1)), (0, .ref (g 0)), (1, .int x)]) [0, 1, 2, 3] rfl ?_
          exact ih (b + 1) (r + 1) (by omega) (by rw [← hi]; simp only [c_cntL, c9, c23, xk_10, eq_self, ↓reduceIte])
  refine xr_lv (lv' := [(3, .int 0), (2, .int 0), (0, .ref (g 0)), (1, .int x)]) [0, 1, 2, 3] rfl ?_
  exact lp (kNb K) 0 0 rfl rfl

def rm_X3_waitingAt : Room := { frames := 1, cells := 0, slots := 0, locals := 22 }
set_option maxHeartbeats 4000000 in
set_option maxRecDepth 100000 in
/-- waitingAt -/
theorem k_X3_waitingAt (l : Launch) (D : va_G) (yI yZ yL : ClassId) (g u t : Nat → Nat) (th : Int32) (K : CK) (aw : Int32) (wh : Nat → Int32) (V : CD) (x : Int32) (h0 : kNb K ≤ 10) : xMi l yX3_waitingAt wsX3_waitingAt rm_X3_waitingAt D (tysG yI yZ yL) ((mw yI g u t th K) ++ (sw yI u (kMark K) aw wh V)) [.ref (g 0), .int x] 0 0 (fun (r : Int32) (W1 : va_W) => r = m_waitN K V x ∧ W1 = (mw yI g u t th K) ++ (sw yI u (kMark K) aw wh V)) := by
  refine xE_i (cc := cX3_waitingAt) (nL := 4) (by decide) rfl (Nat.le_of_ble_eq_true rfl) ?_
  intro p e s m args below meth c A Q F hnm ret
  have hin3 : ∀ w ∈ u_ws RX3 TX3 9, w ∈ wsX3_waitingAt := by decide +kernel
  show AW p l e rm_X3_waitingAt s m args below meth c 4 D A 0 0 Q ((mw yI g u t th K) ++ (sw yI u (kMark K) aw wh V)) [(0, .ref (g 0)), (1, .int x)] 0 []
  refine xr_iconst F dX3_waitingAt_0 (v := 0) (by decide) ?_
  refine xr_istore_n F [(2, .int 0), (0, .ref (g 0)), (1, .int x)] dX3_waitingAt_1 rfl (by decide) rfl ?_
  refine xr_iconst F dX3_waitingAt_2 (v := 0) (by decide) ?_
  refine xr_istore_n F [(3, .int 0), (2, .int 0), (0, .ref (g 0)), (1, .int x)] dX3_waitingAt_3 rfl (by decide) rfl ?_
  have lp : ∀ (i : Nat) (b : Nat) (r : Int32), i + b = kNb K → c_cntL (m_lockOf K V) x i b r = c_cntL (m_lockOf K V) x (kNb K) 0 0 → AW p l e rm_X3_waitingAt s m args below meth c 4 D A 0 0 Q ((mw yI g u t th K) ++ (sw yI u (kMark K) aw wh V)) [(3, .int (nI b)), (2, .int r), (0, .ref (g 0)), (1, .int x)] 4 [] := by
    intro i
    induction i with
    | zero =>
      intro b r hb hi
      refine xr_iload_n F dX3_waitingAt_4 rfl 0 rfl ?_
      refine xr_aload_n F dX3_waitingAt_5 rfl 2 rfl ?_
      refine xr_get F hin3 0 rfl rfl 1 (by decide) (List.mem_of_getElem? (i := 1) rfl) (v := .int (nI (kNb K))) rfl dX3_waitingAt_6 ?_
      refine xr_icmp_ge F 39 dX3_waitingAt_9 (by decide) (fun c9 => ?_) (fun c9 => ?_)
      · skip
        refine xr_iload_n F dX3_waitingAt_39 rfl 1 rfl ?_
        exact ret _ _ _ _ dX3_waitingAt_40 ⟨hi, rfl⟩
      · exact (xk_ge (a := kNb K) (b := b) (by omega) (by omega) c9).elim
    | succ i ih =>
      intro b r hb hi
      refine xr_iload_n F dX3_waitingAt_4 rfl 0 rfl ?_
      refine xr_aload_n F dX3_waitingAt_5 rfl 2 rfl ?_
      refine xr_get F hin3 0 rfl rfl 1 (by decide) (List.mem_of_getElem? (i := 1) rfl) (v := .int (nI (kNb K))) rfl dX3_waitingAt_6 ?_
      refine xr_icmp_ge F 39 dX3_waitingAt_9 (by decide) (fun c9 => ?_) (fun c9 => ?_)
      · exact (xk_nlt (a := b) (b := kNb K) (by omega) (by omega) (by omega) c9).elim
      · skip
        refine xr_iload_n F dX3_waitingAt_12 rfl 1 rfl ?_
        refine xr_aload_n F dX3_waitingAt_13 rfl 2 rfl ?_
        refine xr_aload_n F dX3_waitingAt_14 rfl 2 rfl ?_
        refine xr_get F hin3 0 rfl rfl 7 (by decide) (List.mem_of_getElem? (i := 2) rfl) (v := .ref (u 0)) rfl dX3_waitingAt_15 ?_
        refine xr_iload_n F dX3_waitingAt_18 rfl 0 rfl ?_
        refine xr_callVi F (wr := ([] : va_W)) (rest := [.int r]) (As := [.ref (u 0), .int (nI b)]) (k_X3_lockOf l D yI yZ yL g u t u th K aw wh V b (by omega)) (cwV 2 F.hts gX3_waitingAt_X3_lockOf rfl rfl rfl (by decide +kernel) ⟨Nat.le_of_ble_eq_true rfl, Nat.le_of_ble_eq_true rfl⟩) (q0 := 0) rfl rfl [0, 1, 2, 3, 4, 5, 6, 7, 8, 9, 10, 11, 12, 13] [] rfl rfl (by decide) (by decide) (by decide) rfl rfl (Nat.le_of_ble_eq_true rfl) dX3_waitingAt_19 ⟨Nat.le_of_ble_eq_true rfl, Nat.le_of_ble_eq_true rfl⟩ (fun r1 W1 z1 => ?_)
        obtain ⟨z0, z1⟩ := z1
        subst z0
        subst z1
        refine xr_ws (ws' := (mw yI g u t th K) ++ (sw yI u (kMark K) aw wh V)) rfl ?_
        refine xr_iload_n F dX3_waitingAt_22 rfl 3 rfl ?_
        refine xr_icmp_ne F 30 dX3_waitingAt_23 (by decide) (fun c23 => ?_) (fun c23 => ?_)
        · skip
          refine xr_iconst F dX3_waitingAt_30 (v := 0) (by decide) ?_
          refine xr_iadd F (r + 0) dX3_waitingAt_31 rfl ?_
          refine xr_istore_n F [(2, .int (r + 0)), (3, .int (nI b)), (0, .ref (g 0)), (1, .int x)] dX3_waitingAt_32 rfl (by decide) rfl ?_
          refine xr_iinc F (nI (b + 1)) [(3, .int (nI (b + 1))), (2, .int (r + 0)), (0, .ref (g 0)), (1, .int x)] dX3_waitingAt_33 1 rfl (nI_add b 1) (by decide) rfl ?_
          refine xr_goto F 4 dX3_waitingAt_36 (by decide) ?_
          refine xr_lv (lv' := [(3, .int (nI (b + 1))), (2, .int (r + 0)), (0, .ref (g 0)), (1, .int x)]) [0, 1, 2, 3] rfl ?_
          exact ih (b + 1) (r + 0) (by omega) (by rw [← hi]; simp only [c_cntL, c9, c23, xk_10, eq_self, ↓reduceIte])
        · skip
          refine xr_iconst F dX3_waitingAt_26 (v := 1) (by decide) ?_
          refine xr_goto F 31 dX3_waitingAt_27 (by decide) ?_
          refine xr_iadd F (r + 1) dX3_waitingAt_31 rfl ?_
          refine xr_istore_n F [(2, .int (r + 1)), (3, .int (nI b)), (0, .ref (g 0)), (1, .int x)] dX3_waitingAt_32 rfl (by decide) rfl ?_
          refine xr_iinc F (nI (b + 1)) [(3, .int (nI (b + 1))), (2, .int (r + 1)), (0, .ref (g 0)), (1, .int x)] dX3_waitingAt_33 1 rfl (nI_add b 1) (by decide) rfl ?_
          refine xr_goto F 4 dX3_waitingAt_36 (by decide) ?_
          refine xr_lv (lv' := [(3, .int (nI (b + 1))), (2, .int (r + 1)), (0, .ref (g 0)), (1, .int x)]) [0, 1, 2, 3] rfl ?_
          exact ih (b + 1) (r + 1) (by omega) (by rw [← hi]; simp only [c_cntL, c9, c23, xk_10, eq_self, ↓reduceIte])
  refine xr_lv (lv' := [(3, .int 0), (2, .int 0), (0, .ref (g 0)), (1, .int x)]) [0, 1, 2, 3] rfl ?_
  exact lp (kNb K) 0 0 rfl rfl

def rm_X3_come : Room := { frames := 0, cells := 0, slots := 0, locals := 0 }
set_option maxHeartbeats 4000000 in
set_option maxRecDepth 100000 in
/-- come -/
theorem k_X3_come (l : Launch) (D : va_G) (yI yZ yL : ClassId) (g u t o : Nat → Nat) (th : Int32) (K : CK) (aw : Int32) (wh : Nat → Int32) (V : CD)  (h0 : kNb K ≤ 10) : xMi l yX3_come wsX3_come rm_X3_come D (tysG yI yZ yL) ((mw yI g u t th K) ++ (sw yI o (kMark K) aw wh V)) [.ref (g 0), .ref (o 0)] 0 0 (fun (r : Int32) (W1 : va_W) => r = m_comeN K V ∧ W1 = (mw yI g u t th K) ++ (sw yI o (kMark K) aw wh V)) := by
  refine xE_i (cc := cX3_come) (nL := 4) (by decide) rfl (Nat.le_of_ble_eq_true rfl) ?_
  intro p e s m args below meth c A Q F hnm ret
  have hin2 : ∀ w ∈ u_ws RX2 TX2 14, w ∈ wsX3_come := by decide +kernel
  have hin3 : ∀ w ∈ u_ws RX3 TX3 9, w ∈ wsX3_come := by decide +kernel
  show AW p l e rm_X3_come s m args below meth c 4 D A 0 0 Q ((mw yI g u t th K) ++ (sw yI o (kMark K) aw wh V)) [(0, .ref (g 0)), (1, .ref (o 0))] 0 []
  refine xr_iconst F dX3_come_0 (v := 0) (by decide) ?_
  refine xr_istore_n F [(2, .int 0), (0, .ref (g 0)), (1, .ref (o 0))] dX3_come_1 rfl (by decide) rfl ?_
  refine xr_iconst F dX3_come_2 (v := 0) (by decide) ?_
  refine xr_istore_n F [(3, .int 0), (2, .int 0), (0, .ref (g 0)), (1, .ref (o 0))] dX3_come_3 rfl (by decide) rfl ?_
  have lp : ∀ (i : Nat) (b : Nat) (r : Int32), i + b = kNb K → m_comeL (dAt V) (kGoal K) i b r = m_comeL (dAt V) (kGoal K) (kNb K) 0 0 → AW p l e rm_X3_come s m args below meth c 4 D A 0 0 Q ((mw yI g u t th K) ++ (sw yI o (kMark K) aw wh V)) [(3, .int (nI b)), (2, .int r), (0, .ref (g 0)), (1, .ref (o 0))] 4 [] := by
    intro i
    induction i with
    | zero =>
      intro b r hb hi
      refine xr_iload_n F dX3_come_4 rfl 0 rfl ?_
      refine xr_aload_n F dX3_come_5 rfl 2 rfl ?_
      refine xr_get F hin3 0 rfl rfl 1 (by decide) (List.mem_of_getElem? (i := 1) rfl) (v := .int (nI (kNb K))) rfl dX3_come_6 ?_
      refine xr_icmp_ge F 41 dX3_come_9 (by decide) (fun c9 => ?_) (fun c9 => ?_)
      · skip
        refine xr_iload_n F dX3_come_41 rfl 1 rfl ?_
        exact ret _ _ _ _ dX3_come_42 ⟨hi, rfl⟩
      · exact (xk_ge (a := kNb K) (b := b) (by omega) (by omega) c9).elim
    | succ i ih =>
      intro b r hb hi
      refine xr_iload_n F dX3_come_4 rfl 0 rfl ?_
      refine xr_aload_n F dX3_come_5 rfl 2 rfl ?_
      refine xr_get F hin3 0 rfl rfl 1 (by decide) (List.mem_of_getElem? (i := 1) rfl) (v := .int (nI (kNb K))) rfl dX3_come_6 ?_
      refine xr_icmp_ge F 41 dX3_come_9 (by decide) (fun c9 => ?_) (fun c9 => ?_)
      · exact (xk_nlt (a := b) (b := kNb K) (by omega) (by omega) (by omega) c9).elim
      · skip
        refine xr_iload_n F dX3_come_12 rfl 1 rfl ?_
        refine xr_aload_n F dX3_come_13 rfl 3 rfl ?_
        refine xr_getN F hin2 3 rfl rfl 10 (by decide) (List.mem_of_getElem? (i := 10) rfl) (v := .ref (o 7)) rfl dX3_come_14 ?_
        refine xr_iload_n F dX3_come_17 rfl 0 rfl ?_
        refine xr_iald F 10 0 rfl rfl (b) rfl (by omega) (by decide) dX3_come_18 ?_
        refine xr_aload_n F dX3_come_19 rfl 2 rfl ?_
        refine xr_get F hin3 0 rfl rfl 2 (by decide) (List.mem_of_getElem? (i := 2) rfl) (v := .ref (g 1)) rfl dX3_come_20 ?_
        refine xr_iload_n F dX3_come_23 rfl 0 rfl ?_
        refine xr_iald F 1 0 rfl rfl (b) rfl (by omega) (by decide) dX3_come_24 ?_
        refine xr_icmp_ne F 32 dX3_come_25 (by decide) (fun c25 => ?_) (fun c25 => ?_)
        · skip
          refine xr_iconst F dX3_come_32 (v := 0) (by decide) ?_
          refine xr_iadd F (r + 0) dX3_come_33 rfl ?_
          refine xr_istore_n F [(2, .int (r + 0)), (3, .int (nI b)), (0, .ref (g 0)), (1, .ref (o 0))] dX3_come_34 rfl (by decide) rfl ?_
          refine xr_iinc F (nI (b + 1)) [(3, .int (nI (b + 1))), (2, .int (r + 0)), (0, .ref (g 0)), (1, .ref (o 0))] dX3_come_35 1 rfl (nI_add b 1) (by decide) rfl ?_
          refine xr_goto F 4 dX3_come_38 (by decide) ?_
          refine xr_lv (lv' := [(3, .int (nI (b + 1))), (2, .int (r + 0)), (0, .ref (g 0)), (1, .ref (o 0))]) [0, 1, 2, 3] rfl ?_
          exact ih (b + 1) (r + 0) (by omega) (by rw [← hi]; simp only [m_comeL, c9, c25, xk_10, eq_self, ↓reduceIte])
        · skip
          refine xr_iconst F dX3_come_28 (v := 1) (by decide) ?_
          refine xr_goto F 33 dX3_come_29 (by decide) ?_
          refine xr_iadd F (r + 1) dX3_come_33 rfl ?_
          refine xr_istore_n F [(2, .int (r + 1)), (3, .int (nI b)), (0, .ref (g 0)), (1, .ref (o 0))] dX3_come_34 rfl (by decide) rfl ?_
          refine xr_iinc F (nI (b + 1)) [(3, .int (nI (b + 1))), (2, .int (r + 1)), (0, .ref (g 0)), (1, .ref (o 0))] dX3_come_35 1 rfl (nI_add b 1) (by decide) rfl ?_
          refine xr_goto F 4 dX3_come_38 (by decide) ?_
          refine xr_lv (lv' := [(3, .int (nI (b + 1))), (2, .int (r + 1)), (0, .ref (g 0)), (1, .ref (o 0))]) [0, 1, 2, 3] rfl ?_
          exact ih (b + 1) (r + 1) (by omega) (by rw [← hi]; simp only [m_comeL, c9, c25, xk_10, eq_self, ↓reduceIte])
  refine xr_lv (lv' := [(3, .int 0), (2, .int 0), (0, .ref (g 0)), (1, .ref (o 0))]) [0, 1, 2, 3] rfl ?_
  exact lp (kNb K) 0 0 rfl rfl

def rm_X3_bargeTold : Room := { frames := 1, cells := 0, slots := 0, locals := 22 }
set_option maxHeartbeats 4000000 in
set_option maxRecDepth 100000 in
/-- bargeTold -/
theorem k_X3_bargeTold (l : Launch) (D : va_G) (yI yZ yL : ClassId) (g u t : Nat → Nat) (th : Int32) (K : CK) (aw : Int32) (wh : Nat → Int32) (V : CD) (b : Nat) (w : Nat) (h0 : b < 10) (h1 : w < 5) : xMi l yX3_bargeTold wsX3_bargeTold rm_X3_bargeTold D (tysG yI yZ yL) ((mw yI g u t th K) ++ (sw yI u (kMark K) aw wh V)) [.ref (g 0), .int (nI b), .int (nI w)] 0 0 (fun (r : Int32) (W1 : va_W) => r = m_tellB K V b w ∧ W1 = (mw yI g u t th K) ++ (sw yI u (kMark K) aw wh V)) := by
  refine xE_i (cc := cX3_bargeTold) (nL := 3) (by decide) rfl (Nat.le_of_ble_eq_true rfl) ?_
  intro p e s m args below meth c A Q F hnm ret
  have hin2 : ∀ w ∈ u_ws RX2 TX2 14, w ∈ wsX3_bargeTold := by decide +kernel
  have hin3 : ∀ w ∈ u_ws RX3 TX3 9, w ∈ wsX3_bargeTold := by decide +kernel
  show AW p l e rm_X3_bargeTold s m args below meth c 3 D A 0 0 Q ((mw yI g u t th K) ++ (sw yI u (kMark K) aw wh V)) [(0, .ref (g 0)), (1, .int (nI b)), (2, .int (nI w))] 0 []
  refine xr_iload_n F dX3_bargeTold_0 rfl 2 rfl ?_
  rcases (by omega : w = 0 ∨ w = 1 ∨ w = 2 ∨ w = 3 ∨ w = 4) with rfl | rfl | rfl | rfl | rfl
  · skip
    refine xr_tableIn F (off := 31) 32 dX3_bargeTold_1 (by decide) (by decide) (by decide) (by decide) ?_
    refine xr_aload_n F dX3_bargeTold_32 rfl 0 rfl ?_
    refine xr_get F hin3 0 rfl rfl 7 (by decide) (List.mem_of_getElem? (i := 1) rfl) (v := .ref (u 0)) rfl dX3_bargeTold_33 ?_
    refine xr_getN F hin2 3 rfl rfl 10 (by decide) (List.mem_of_getElem? (i := 10) rfl) (v := .ref (u 7)) rfl dX3_bargeTold_36 ?_
    refine xr_iload_n F dX3_bargeTold_39 rfl 1 rfl ?_
    refine xr_iald F 10 0 rfl rfl (b) rfl (by omega) (by decide) dX3_bargeTold_40 ?_
    refine ret _ _ _ _ dX3_bargeTold_41 ⟨?_, rfl⟩
    first | with_reducible rfl | (simp only [↓reduceIte]; done) | (simp only [↓reduceIte]; rfl) | rfl
  · skip
    refine xr_tableIn F (off := 41) 42 dX3_bargeTold_1 (by decide) (by decide) (by decide) (by decide) ?_
    refine xr_aload_n F dX3_bargeTold_42 rfl 0 rfl ?_
    refine xr_get F hin3 0 rfl rfl 2 (by decide) (List.mem_of_getElem? (i := 2) rfl) (v := .ref (g 1)) rfl dX3_bargeTold_43 ?_
    refine xr_iload_n F dX3_bargeTold_46 rfl 1 rfl ?_
    refine xr_iald F 1 0 rfl rfl (b) rfl (by omega) (by decide) dX3_bargeTold_47 ?_
    refine ret _ _ _ _ dX3_bargeTold_48 ⟨?_, rfl⟩
    first | with_reducible rfl | (simp only [↓reduceIte]; done) | (simp only [↓reduceIte]; rfl) | rfl
  · skip
    refine xr_tableIn F (off := 48) 49 dX3_bargeTold_1 (by decide) (by decide) (by decide) (by decide) ?_
    refine xr_aload_n F dX3_bargeTold_49 rfl 0 rfl ?_
    refine xr_get F hin3 0 rfl rfl 7 (by decide) (List.mem_of_getElem? (i := 1) rfl) (v := .ref (u 0)) rfl dX3_bargeTold_50 ?_
    refine xr_getN F hin2 3 rfl rfl 11 (by decide) (List.mem_of_getElem? (i := 11) rfl) (v := .ref (u 8)) rfl dX3_bargeTold_53 ?_
    refine xr_iload_n F dX3_bargeTold_56 rfl 1 rfl ?_
    refine xr_iald F 11 0 rfl rfl (b) rfl (by omega) (by decide) dX3_bargeTold_57 ?_
    refine ret _ _ _ _ dX3_bargeTold_58 ⟨?_, rfl⟩
    first | with_reducible rfl | (simp only [↓reduceIte]; done) | (simp only [↓reduceIte]; rfl) | rfl
  · skip
    refine xr_tableIn F (off := 58) 59 dX3_bargeTold_1 (by decide) (by decide) (by decide) (by decide) ?_
    refine xr_aload_n F dX3_bargeTold_59 rfl 0 rfl ?_
    refine xr_get F hin3 0 rfl rfl 7 (by decide) (List.mem_of_getElem? (i := 1) rfl) (v := .ref (u 0)) rfl dX3_bargeTold_60 ?_
    refine xr_getN F hin2 3 rfl rfl 12 (by decide) (List.mem_of_getElem? (i := 12) rfl) (v := .ref (u 9)) rfl dX3_bargeTold_63 ?_
    refine xr_iload_n F dX3_bargeTold_66 rfl 1 rfl ?_
    refine xr_iald F 12 0 rfl rfl (b) rfl (by omega) (by decide) dX3_bargeTold_67 ?_
    refine ret _ _ _ _ dX3_bargeTold_68 ⟨?_, rfl⟩
    first | with_reducible rfl | (simp only [↓reduceIte]; done) | (simp only [↓reduceIte]; rfl) | rfl
  · skip
    refine xr_tableOut F 69 dX3_bargeTold_1 (by decide) (by decide) ?_
    refine xr_aload_n F dX3_bargeTold_69 rfl 0 rfl ?_
    refine xr_aload_n F dX3_bargeTold_70 rfl 0 rfl ?_
    refine xr_get F hin3 0 rfl rfl 7 (by decide) (List.mem_of_getElem? (i := 1) rfl) (v := .ref (u 0)) rfl dX3_bargeTold_71 ?_
    refine xr_iload_n F dX3_bargeTold_74 rfl 1 rfl ?_
    refine xr_callVi F (wr := ([] : va_W)) (rest := []) (As := [.ref (u 0), .int (nI b)]) (k_X3_lockOf l D yI yZ yL g u t u th K aw wh V b (by omega)) (cwV 2 F.hts gX3_bargeTold_X3_lockOf rfl rfl rfl (by decide +kernel) ⟨Nat.le_of_ble_eq_true rfl, Nat.le_of_ble_eq_true rfl⟩) (q0 := 0) rfl rfl [0, 1, 2, 3, 4, 5, 6, 7, 8, 9, 10, 11, 12, 13] [] rfl rfl (by decide) (by decide) (by decide) rfl rfl (Nat.le_of_ble_eq_true rfl) dX3_bargeTold_75 ⟨Nat.le_of_ble_eq_true rfl, Nat.le_of_ble_eq_true rfl⟩ (fun r1 W1 z1 => ?_)
    obtain ⟨z0, z1⟩ := z1
    subst z0
    subst z1
    refine xr_ws (ws' := (mw yI g u t th K) ++ (sw yI u (kMark K) aw wh V)) rfl ?_
    refine ret _ _ _ _ dX3_bargeTold_78 ⟨?_, rfl⟩
    first | with_reducible rfl | (simp only [↓reduceIte]; done) | (simp only [↓reduceIte]; rfl) | rfl

def rm_X3_poundTold : Room := { frames := 1, cells := 0, slots := 0, locals := 23 }
set_option maxHeartbeats 4000000 in
set_option maxRecDepth 100000 in
/-- poundTold -/
theorem k_X3_poundTold (l : Launch) (D : va_G) (yI yZ yL : ClassId) (g u t : Nat → Nat) (th : Int32) (K : CK) (aw : Int32) (wh : Nat → Int32) (V : CD) (k : Nat) (w : Nat) (h0 : k < 6) (h1 : w < 4) (h2 : kNb K ≤ 10) : xMi l yX3_poundTold wsX3_poundTold rm_X3_poundTold D (tysG yI yZ yL) ((mw yI g u t th K) ++ (sw yI u (kMark K) aw wh V)) [.ref (g 0), .int (nI k), .int (nI w)] 0 0 (fun (r : Int32) (W1 : va_W) => r = m_tellP K V k w ∧ W1 = (mw yI g u t th K) ++ (sw yI u (kMark K) aw wh V)) := by
  refine xE_i (cc := cX3_poundTold) (nL := 3) (by decide) rfl (Nat.le_of_ble_eq_true rfl) ?_
  intro p e s m args below meth c A Q F hnm ret
  have hin2 : ∀ w ∈ u_ws RX2 TX2 14, w ∈ wsX3_poundTold := by decide +kernel
  have hin3 : ∀ w ∈ u_ws RX3 TX3 9, w ∈ wsX3_poundTold := by decide +kernel
  show AW p l e rm_X3_poundTold s m args below meth c 3 D A 0 0 Q ((mw yI g u t th K) ++ (sw yI u (kMark K) aw wh V)) [(0, .ref (g 0)), (1, .int (nI k)), (2, .int (nI w))] 0 []
  rcases (by omega : w = 0 ∨ w = 1 ∨ w = 2 ∨ w = 3) with rfl | rfl | rfl | rfl
  · skip
    refine xr_iload_n F dX3_poundTold_0 rfl 2 rfl ?_
    refine xr_if_ne F 16 dX3_poundTold_1 (by decide) (fun c1 => ?_) (fun c1 => ?_)
    · exact absurd rfl c1
    · skip
      refine xr_aload_n F dX3_poundTold_4 rfl 0 rfl ?_
      refine xr_get F hin3 0 rfl rfl 7 (by decide) (List.mem_of_getElem? (i := 1) rfl) (v := .ref (u 0)) rfl dX3_poundTold_5 ?_
      refine xr_getN F hin2 3 rfl rfl 4 (by decide) (List.mem_of_getElem? (i := 4) rfl) (v := .ref (u 1)) rfl dX3_poundTold_8 ?_
      refine xr_iload_n F dX3_poundTold_11 rfl 1 rfl ?_
      refine xr_iald F 4 0 rfl rfl (k) rfl (by omega) (by decide) dX3_poundTold_12 ?_
      refine xr_goto F 55 dX3_poundTold_13 (by decide) ?_
      refine ret _ _ _ _ dX3_poundTold_55 ⟨?_, rfl⟩
      first | with_reducible rfl | (simp only [↓reduceIte]; done) | (simp only [↓reduceIte]; rfl) | rfl
  · skip
    refine xr_iload_n F dX3_poundTold_0 rfl 2 rfl ?_
    refine xr_if_ne F 16 dX3_poundTold_1 (by decide) (fun c1 => ?_) (fun c1 => ?_)
    · skip
      refine xr_iload_n F dX3_poundTold_16 rfl 2 rfl ?_
      refine xr_iconst F dX3_poundTold_17 (v := 1) (by decide) ?_
      refine xr_icmp_ne F 29 dX3_poundTold_18 (by decide) (fun c18 => ?_) (fun c18 => ?_)
      · exact absurd rfl c18
      · skip
        refine xr_aload_n F dX3_poundTold_21 rfl 0 rfl ?_
        refine xr_iload_n F dX3_poundTold_22 rfl 1 rfl ?_
        refine xr_callVi F (wr := ([] : va_W)) (rest := []) (As := [.int (nI k)]) (k_X3_bargesAt l D yI yZ yL g u t th K aw wh V (nI k) (by assumption)) (cwV 1 F.hts gX3_poundTold_X3_bargesAt rfl rfl rfl (by decide +kernel) ⟨Nat.le_of_ble_eq_true rfl, Nat.le_of_ble_eq_true rfl⟩) (q0 := 0) rfl rfl [0, 1, 2, 3, 4, 5, 6, 7, 8, 9, 10, 11, 12, 13] [] rfl rfl (by decide) (by decide) (by decide) rfl rfl (Nat.le_of_ble_eq_true rfl) dX3_poundTold_23 ⟨Nat.le_of_ble_eq_true rfl, Nat.le_of_ble_eq_true rfl⟩ (fun r1 W1 z1 => ?_)
        obtain ⟨z0, z1⟩ := z1
        subst z0
        subst z1
        refine xr_ws (ws' := (mw yI g u t th K) ++ (sw yI u (kMark K) aw wh V)) rfl ?_
        refine xr_goto F 55 dX3_poundTold_26 (by decide) ?_
        refine ret _ _ _ _ dX3_poundTold_55 ⟨?_, rfl⟩
        first | with_reducible rfl | (simp only [↓reduceIte]; done) | (simp only [↓reduceIte]; rfl) | rfl
    · exact absurd c1 (by decide)
  · skip
    refine xr_iload_n F dX3_poundTold_0 rfl 2 rfl ?_
    refine xr_if_ne F 16 dX3_poundTold_1 (by decide) (fun c1 => ?_) (fun c1 => ?_)
    · skip
      refine xr_iload_n F dX3_poundTold_16 rfl 2 rfl ?_
      refine xr_iconst F dX3_poundTold_17 (v := 1) (by decide) ?_
      refine xr_icmp_ne F 29 dX3_poundTold_18 (by decide) (fun c18 => ?_) (fun c18 => ?_)
      · skip
        refine xr_iload_n F dX3_poundTold_29 rfl 2 rfl ?_
        refine xr_iconst F dX3_poundTold_30 (v := 2) (by decide) ?_
        refine xr_icmp_ne F 46 dX3_poundTold_31 (by decide) (fun c31 => ?_) (fun c31 => ?_)
        · exact absurd rfl c31
        · skip
          refine xr_aload_n F dX3_poundTold_34 rfl 0 rfl ?_
          refine xr_get F hin3 0 rfl rfl 7 (by decide) (List.mem_of_getElem? (i := 1) rfl) (v := .ref (u 0)) rfl dX3_poundTold_35 ?_
          refine xr_getN F hin2 3 rfl rfl 5 (by decide) (List.mem_of_getElem? (i := 5) rfl) (v := .ref (u 2)) rfl dX3_poundTold_38 ?_
          refine xr_iload_n F dX3_poundTold_41 rfl 1 rfl ?_
          refine xr_iald F 5 0 rfl rfl (k) rfl (by omega) (by decide) dX3_poundTold_42 ?_
          refine xr_goto F 55 dX3_poundTold_43 (by decide) ?_
          refine ret _ _ _ _ dX3_poundTold_55 ⟨?_, rfl⟩
          first | with_reducible rfl | (simp only [↓reduceIte]; done) | (simp only [↓reduceIte]; rfl) | rfl
      · exact absurd c18 (by decide)
    · exact absurd c1 (by decide)
  · skip
    refine xr_iload_n F dX3_poundTold_0 rfl 2 rfl ?_
    refine xr_if_ne F 16 dX3_poundTold_1 (by decide) (fun c1 => ?_) (fun c1 => ?_)
    · skip
      refine xr_iload_n F dX3_poundTold_16 rfl 2 rfl ?_
      refine xr_iconst F dX3_poundTold_17 (v := 1) (by decide) ?_
      refine xr_icmp_ne F 29 dX3_poundTold_18 (by decide) (fun c18 => ?_) (fun c18 => ?_)
      · skip
        refine xr_iload_n F dX3_poundTold_29 rfl 2 rfl ?_
        refine xr_iconst F dX3_poundTold_30 (v := 2) (by decide) ?_
        refine xr_icmp_ne F 46 dX3_poundTold_31 (by decide) (fun c31 => ?_) (fun c31 => ?_)
        · skip
          refine xr_aload_n F dX3_poundTold_46 rfl 0 rfl ?_
          refine xr_get F hin3 0 rfl rfl 7 (by decide) (List.mem_of_getElem? (i := 1) rfl) (v := .ref (u 0)) rfl dX3_poundTold_47 ?_
          refine xr_getN F hin2 3 rfl rfl 6 (by decide) (List.mem_of_getElem? (i := 6) rfl) (v := .ref (u 3)) rfl dX3_poundTold_50 ?_
          refine xr_iload_n F dX3_poundTold_53 rfl 1 rfl ?_
          refine xr_iald F 6 0 rfl rfl (k) rfl (by omega) (by decide) dX3_poundTold_54 ?_
          refine ret _ _ _ _ dX3_poundTold_55 ⟨?_, rfl⟩
          first | with_reducible rfl | (simp only [↓reduceIte]; done) | (simp only [↓reduceIte]; rfl) | rfl
        · exact absurd c31 (by decide)
      · exact absurd c18 (by decide)
    · exact absurd c1 (by decide)

def rm_X3_lockTold : Room := { frames := 4, cells := 0, slots := 0, locals := 92 }
set_option maxHeartbeats 4000000 in
set_option maxRecDepth 100000 in
/-- lockTold -/
theorem k_X3_lockTold (l : Launch) (D : va_G) (yI yZ yL : ClassId) (g u t : Nat → Nat) (th : Int32) (K : CK) (aw : Int32) (wh : Nat → Int32) (V : CD) (k : Nat) (w : Nat) (h0 : k < 5) (h1 : w < 5) (h2 : kNb K ≤ 10) : xMi l yX3_lockTold wsX3_lockTold rm_X3_lockTold D (tysG yI yZ yL) ((mw yI g u t th K) ++ (sw yI u (kMark K) aw wh V)) [.ref (g 0), .int (nI k), .int (nI w)] 0 0 (fun (r : Int32) (W1 : va_W) => r = m_tellL K V wh k w ∧ W1 = (mw yI g u t th K) ++ (sw yI u (kMark K) aw wh V)) := by
  refine xE_i (cc := cX3_lockTold) (nL := 3) (by decide) rfl (Nat.le_of_ble_eq_true rfl) ?_
  intro p e s m args below meth c A Q F hnm ret
  have hin2 : ∀ w ∈ u_ws RX2 TX2 14, w ∈ wsX3_lockTold := by decide +kernel
  have hin3 : ∀ w ∈ u_ws RX3 TX3 9, w ∈ wsX3_lockTold := by decide +kernel
  show AW p l e rm_X3_lockTold s m args below meth c 3 D A 0 0 Q ((mw yI g u t th K) ++ (sw yI u (kMark K) aw wh V)) [(0, .ref (g 0)), (1, .int (nI k)), (2, .int (nI w))] 0 []
  refine xr_iload_n F dX3_lockTold_0 rfl 2 rfl ?_
  rcases (by omega : w = 0 ∨ w = 1 ∨ w = 2 ∨ w = 3 ∨ w = 4) with rfl | rfl | rfl | rfl | rfl
  · skip
    refine xr_tableIn F (off := 31) 32 dX3_lockTold_1 (by decide) (by decide) (by decide) (by decide) ?_
    refine xr_aload_n F dX3_lockTold_32 rfl 0 rfl ?_
    refine xr_get F hin3 0 rfl rfl 7 (by decide) (List.mem_of_getElem? (i := 1) rfl) (v := .ref (u 0)) rfl dX3_lockTold_33 ?_
    refine xr_getN F hin2 3 rfl rfl 7 (by decide) (List.mem_of_getElem? (i := 7) rfl) (v := .ref (u 4)) rfl dX3_lockTold_36 ?_
    refine xr_iload_n F dX3_lockTold_39 rfl 1 rfl ?_
    refine xr_iald F 7 0 rfl rfl (k) rfl (by omega) (by decide) dX3_lockTold_40 ?_
    refine ret _ _ _ _ dX3_lockTold_41 ⟨?_, rfl⟩
    first | with_reducible rfl | (simp only [↓reduceIte]; done) | (simp only [↓reduceIte]; rfl) | rfl
  · skip
    refine xr_tableIn F (off := 41) 42 dX3_lockTold_1 (by decide) (by decide) (by decide) (by decide) ?_
    refine xr_aload_n F dX3_lockTold_42 rfl 0 rfl ?_
    refine xr_iload_n F dX3_lockTold_43 rfl 1 rfl ?_
    refine xr_callVi F (wr := ([] : va_W)) (rest := []) (As := [.int (nI k)]) (k_X3_waitingAt l D yI yZ yL g u t th K aw wh V (nI k) (by assumption)) (cwV 1 F.hts gX3_lockTold_X3_waitingAt rfl rfl rfl (by decide +kernel) ⟨Nat.le_of_ble_eq_true rfl, Nat.le_of_ble_eq_true rfl⟩) (q0 := 0) rfl rfl [0, 1, 2, 3, 4, 5, 6, 7, 8, 9, 10, 11, 12, 13] [] rfl rfl (by decide) (by decide) (by decide) rfl rfl (Nat.le_of_ble_eq_true rfl) dX3_lockTold_44 ⟨Nat.le_of_ble_eq_true rfl, Nat.le_of_ble_eq_true rfl⟩ (fun r1 W1 z1 => ?_)
    obtain ⟨z0, z1⟩ := z1
    subst z0
    subst z1
    refine xr_ws (ws' := (mw yI g u t th K) ++ (sw yI u (kMark K) aw wh V)) rfl ?_
    refine ret _ _ _ _ dX3_lockTold_47 ⟨?_, rfl⟩
    first | with_reducible rfl | (simp only [↓reduceIte]; done) | (simp only [↓reduceIte]; rfl) | rfl
  · skip
    refine xr_tableIn F (off := 47) 48 dX3_lockTold_1 (by decide) (by decide) (by decide) (by decide) ?_
    refine xr_aload_n F dX3_lockTold_48 rfl 0 rfl ?_
    refine xr_get F hin3 0 rfl rfl 7 (by decide) (List.mem_of_getElem? (i := 1) rfl) (v := .ref (u 0)) rfl dX3_lockTold_49 ?_
    refine xr_getN F hin2 3 rfl rfl 8 (by decide) (List.mem_of_getElem? (i := 8) rfl) (v := .ref (u 5)) rfl dX3_lockTold_52 ?_
    refine xr_iload_n F dX3_lockTold_55 rfl 1 rfl ?_
    refine xr_iald F 8 0 rfl rfl (k) rfl (by omega) (by decide) dX3_lockTold_56 ?_
    refine ret _ _ _ _ dX3_lockTold_57 ⟨?_, rfl⟩
    first | with_reducible rfl | (simp only [↓reduceIte]; done) | (simp only [↓reduceIte]; rfl) | rfl
  · skip
    refine xr_tableIn F (off := 57) 58 dX3_lockTold_1 (by decide) (by decide) (by decide) (by decide) ?_
    refine xr_aload_n F dX3_lockTold_58 rfl 0 rfl ?_
    refine xr_get F hin3 0 rfl rfl 7 (by decide) (List.mem_of_getElem? (i := 1) rfl) (v := .ref (u 0)) rfl dX3_lockTold_59 ?_
    refine xr_getN F hin2 3 rfl rfl 9 (by decide) (List.mem_of_getElem? (i := 9) rfl) (v := .ref (u 6)) rfl dX3_lockTold_62 ?_
    refine xr_iload_n F dX3_lockTold_65 rfl 1 rfl ?_
    refine xr_iald F 9 0 rfl rfl (k) rfl (by omega) (by decide) dX3_lockTold_66 ?_
    refine ret _ _ _ _ dX3_lockTold_67 ⟨?_, rfl⟩
    first | with_reducible rfl | (simp only [↓reduceIte]; done) | (simp only [↓reduceIte]; rfl) | rfl
  · skip
    refine xr_tableOut F 68 dX3_lockTold_1 (by decide) (by decide) ?_
    refine xr_aload_n F dX3_lockTold_68 rfl 0 rfl ?_
    refine xr_aload_n F dX3_lockTold_69 rfl 0 rfl ?_
    refine xr_get F hin3 0 rfl rfl 7 (by decide) (List.mem_of_getElem? (i := 1) rfl) (v := .ref (u 0)) rfl dX3_lockTold_70 ?_
    refine xr_iload_n F dX3_lockTold_73 rfl 1 rfl ?_
    refine xr_callVi F (wr := ([] : va_W)) (rest := []) (As := [.ref (u 0), .int (nI k)]) (k_X3_nextAt l D yI yZ yL g u t u th K aw wh V k (by omega) (by assumption)) (cwV 2 F.hts gX3_lockTold_X3_nextAt rfl rfl rfl (by decide +kernel) ⟨Nat.le_of_ble_eq_true rfl, Nat.le_of_ble_eq_true rfl⟩) (q0 := 0) rfl rfl [0, 1, 2, 3, 4, 5, 6, 7, 8, 9, 10, 11, 12, 13] [] rfl rfl (by decide) (by decide) (by decide) rfl rfl (Nat.le_of_ble_eq_true rfl) dX3_lockTold_74 ⟨Nat.le_of_ble_eq_true rfl, Nat.le_of_ble_eq_true rfl⟩ (fun r1 W1 z1 => ?_)
    obtain ⟨z0, z1⟩ := z1
    subst z0
    subst z1
    refine xr_ws (ws' := (mw yI g u t th K) ++ (sw yI u (kMark K) aw wh V)) rfl ?_
    refine ret _ _ _ _ dX3_lockTold_77 ⟨?_, rfl⟩
    first | with_reducible rfl | (simp only [↓reduceIte]; done) | (simp only [↓reduceIte]; rfl) | rfl

def rm_X3_counted : Room := { frames := 1, cells := 0, slots := 0, locals := 25 }
set_option maxHeartbeats 4000000 in
set_option maxRecDepth 100000 in
/-- counted -/
theorem k_X3_counted (l : Launch) (D : va_G) (yI yZ yL : ClassId) (g u t o : Nat → Nat) (th : Int32) (K : CK) (aw : Int32) (wh : Nat → Int32) (V : CD) (w : Nat) (h0 : w < 10) (h1 : kNb K ≤ 10) : xMi l yX3_counted wsX3_counted rm_X3_counted D (tysG yI yZ yL) ((mw yI g u t th K) ++ (sw yI o (kMark K) aw wh V)) [.ref (g 0), .ref (o 0), .int (nI w)] 0 0 (fun (r : Int32) (W1 : va_W) => r = m_tellW K V aw w ∧ W1 = (mw yI g u t th K) ++ (sw yI o (kMark K) aw wh V)) := by
  refine xE_i (cc := cX3_counted) (nL := 3) (by decide) rfl (Nat.le_of_ble_eq_true rfl) ?_
  intro p e s m args below meth c A Q F hnm ret
  have hin2 : ∀ w ∈ u_ws RX2 TX2 14, w ∈ wsX3_counted := by decide +kernel
  have hin3 : ∀ w ∈ u_ws RX3 TX3 9, w ∈ wsX3_counted := by decide +kernel
  show AW p l e rm_X3_counted s m args below meth c 3 D A 0 0 Q ((mw yI g u t th K) ++ (sw yI o (kMark K) aw wh V)) [(0, .ref (g 0)), (1, .ref (o 0)), (2, .int (nI w))] 0 []
  refine xr_iload_n F dX3_counted_0 rfl 2 rfl ?_
  rcases (by omega : w = 0 ∨ w = 1 ∨ w = 2 ∨ w = 3 ∨ w = 4 ∨ w = 5 ∨ w = 6 ∨ w = 7 ∨ w = 8 ∨ w = 9) with rfl | rfl | rfl | rfl | rfl | rfl | rfl | rfl | rfl | rfl
  · skip
    refine xr_tableIn F (off := 51) 52 dX3_counted_1 (by decide) (by decide) (by decide) (by decide) ?_
    refine xr_aload_n F dX3_counted_52 rfl 1 rfl ?_
    refine xr_getN F hin2 3 rfl rfl 0 (by decide) (List.mem_of_getElem? (i := 0) rfl) (v := .int (nI (dHour V))) rfl dX3_counted_53 ?_
    refine ret _ _ _ _ dX3_counted_56 ⟨?_, rfl⟩
    first | with_reducible rfl | (simp only [↓reduceIte]; done) | (simp only [↓reduceIte]; rfl) | rfl
  · skip
    refine xr_tableIn F (off := 56) 57 dX3_counted_1 (by decide) (by decide) (by decide) (by decide) ?_
    refine xr_aload_n F dX3_counted_57 rfl 0 rfl ?_
    refine xr_get F hin3 0 rfl rfl 1 (by decide) (List.mem_of_getElem? (i := 1) rfl) (v := .int (nI (kNb K))) rfl dX3_counted_58 ?_
    refine ret _ _ _ _ dX3_counted_61 ⟨?_, rfl⟩
    first | with_reducible rfl | (simp only [↓reduceIte]; done) | (simp only [↓reduceIte]; rfl) | rfl
  · skip
    refine xr_tableIn F (off := 61) 62 dX3_counted_1 (by decide) (by decide) (by decide) (by decide) ?_
    refine xr_aload_n F dX3_counted_62 rfl 0 rfl ?_
    refine xr_aload_n F dX3_counted_63 rfl 1 rfl ?_
    refine xr_callVi F (wr := ([] : va_W)) (rest := []) (As := [.ref (o 0)]) (k_X3_come l D yI yZ yL g u t o th K aw wh V (by assumption)) (cwV 1 F.hts gX3_counted_X3_come rfl rfl rfl (by decide +kernel) ⟨Nat.le_of_ble_eq_true rfl, Nat.le_of_ble_eq_true rfl⟩) (q0 := 0) rfl rfl [0, 1, 2, 3, 4, 5, 6, 7, 8, 9, 10, 11, 12, 13] [] rfl rfl (by decide) (by decide) (by decide) rfl rfl (Nat.le_of_ble_eq_true rfl) dX3_counted_64 ⟨Nat.le_of_ble_eq_true rfl, Nat.le_of_ble_eq_true rfl⟩ (fun r1 W1 z1 => ?_)
    obtain ⟨z0, z1⟩ := z1
    subst z0
    subst z1
    refine xr_ws (ws' := (mw yI g u t th K) ++ (sw yI o (kMark K) aw wh V)) rfl ?_
    refine ret _ _ _ _ dX3_counted_67 ⟨?_, rfl⟩
    first | with_reducible rfl | (simp only [↓reduceIte]; done) | (simp only [↓reduceIte]; rfl) | rfl
  · skip
    refine xr_tableIn F (off := 67) 68 dX3_counted_1 (by decide) (by decide) (by decide) (by decide) ?_
    refine xr_aload_n F dX3_counted_68 rfl 1 rfl ?_
    refine xr_getN F hin2 3 rfl rfl 2 (by decide) (List.mem_of_getElem? (i := 2) rfl) (v := .int (dBank V)) rfl dX3_counted_69 ?_
    refine ret _ _ _ _ dX3_counted_72 ⟨?_, rfl⟩
    first | with_reducible rfl | (simp only [↓reduceIte]; done) | (simp only [↓reduceIte]; rfl) | rfl
  · skip
    refine xr_tableIn F (off := 72) 73 dX3_counted_1 (by decide) (by decide) (by decide) (by decide) ?_
    refine xr_aload_n F dX3_counted_73 rfl 1 rfl ?_
    refine xr_callVi F (wr := mw yI g u t th K) (rest := []) (As := []) (k_X2_allWater l D yI yZ yL o (kMark K) aw wh V ) (cwV 0 F.hts gX3_counted_X2_allWater rfl rfl rfl (by decide +kernel) ⟨Nat.le_of_ble_eq_true rfl, Nat.le_of_ble_eq_true rfl⟩) (q0 := 0) rfl rfl [3, 4, 5, 6, 7, 8, 9, 10, 11, 12, 13] [0, 1, 2] rfl rfl (by decide) (by decide) (by decide) rfl rfl (Nat.le_of_ble_eq_true rfl) dX3_counted_74 ⟨Nat.le_of_ble_eq_true rfl, Nat.le_of_ble_eq_true rfl⟩ (fun r1 W1 z1 => ?_)
    obtain ⟨z0, z1⟩ := z1
    subst z0
    subst z1
    refine xr_ws (ws' := (mw yI g u t th K) ++ (sw yI o (kMark K) aw wh V)) rfl ?_
    refine ret _ _ _ _ dX3_counted_77 ⟨?_, rfl⟩
    first | with_reducible rfl | (simp only [↓reduceIte]; done) | (simp only [↓reduceIte]; rfl) | rfl
  · skip
    refine xr_tableIn F (off := 77) 78 dX3_counted_1 (by decide) (by decide) (by decide) (by decide) ?_
    refine xr_aload_n F dX3_counted_78 rfl 1 rfl ?_
    refine xr_callVi F (wr := mw yI g u t th K) (rest := []) (As := []) (k_X2_fullOnes l D yI yZ yL o (kMark K) aw wh V ) (cwV 0 F.hts gX3_counted_X2_fullOnes rfl rfl rfl (by decide +kernel) ⟨Nat.le_of_ble_eq_true rfl, Nat.le_of_ble_eq_true rfl⟩) (q0 := 0) rfl rfl [3, 4, 5, 6, 7, 8, 9, 10, 11, 12, 13] [0, 1, 2] rfl rfl (by decide) (by decide) (by decide) rfl rfl (Nat.le_of_ble_eq_true rfl) dX3_counted_79 ⟨Nat.le_of_ble_eq_true rfl, Nat.le_of_ble_eq_true rfl⟩ (fun r1 W1 z1 => ?_)
    obtain ⟨z0, z1⟩ := z1
    subst z0
    subst z1
    refine xr_ws (ws' := (mw yI g u t th K) ++ (sw yI o (kMark K) aw wh V)) rfl ?_
    refine ret _ _ _ _ dX3_counted_82 ⟨?_, rfl⟩
    first | with_reducible rfl | (simp only [↓reduceIte]; done) | (simp only [↓reduceIte]; rfl) | rfl
  · skip
    refine xr_tableIn F (off := 82) 83 dX3_counted_1 (by decide) (by decide) (by decide) (by decide) ?_
    refine xr_aload_n F dX3_counted_83 rfl 1 rfl ?_
    refine xr_getN F hin2 3 rfl rfl 3 (by decide) (List.mem_of_getElem? (i := 3) rfl) (v := .int aw) rfl dX3_counted_84 ?_
    refine ret _ _ _ _ dX3_counted_87 ⟨?_, rfl⟩
    first | with_reducible rfl | (simp only [↓reduceIte]; done) | (simp only [↓reduceIte]; rfl) | rfl
  · skip
    refine xr_tableIn F (off := 87) 88 dX3_counted_1 (by decide) (by decide) (by decide) (by decide) ?_
    refine xr_aload_n F dX3_counted_88 rfl 0 rfl ?_
    refine xr_get F hin3 0 rfl rfl 6 (by decide) (List.mem_of_getElem? (i := 2) rfl) (v := .int (kFee K)) rfl dX3_counted_89 ?_
    refine ret _ _ _ _ dX3_counted_92 ⟨?_, rfl⟩
    first | with_reducible rfl | (simp only [↓reduceIte]; done) | (simp only [↓reduceIte]; rfl) | rfl
  · skip
    refine xr_tableIn F (off := 92) 93 dX3_counted_1 (by decide) (by decide) (by decide) (by decide) ?_
    refine xr_aload_n F dX3_counted_93 rfl 1 rfl ?_
    refine xr_getN F hin2 3 rfl rfl 1 (by decide) (List.mem_of_getElem? (i := 1) rfl) (v := .int (kMark K)) rfl dX3_counted_94 ?_
    refine ret _ _ _ _ dX3_counted_97 ⟨?_, rfl⟩
    first | with_reducible rfl | (simp only [↓reduceIte]; done) | (simp only [↓reduceIte]; rfl) | rfl
  · skip
    refine xr_tableOut F 98 dX3_counted_1 (by decide) (by decide) ?_
    refine xr_aload_n F dX3_counted_98 rfl 0 rfl ?_
    refine xr_get F hin3 0 rfl rfl 4 (by decide) (List.mem_of_getElem? (i := 3) rfl) (v := .int (nI (kMill K) - 1)) rfl dX3_counted_99 ?_
    refine ret _ _ _ _ dX3_counted_102 ⟨?_, rfl⟩
    first | with_reducible rfl | (simp only [↓reduceIte]; done) | (simp only [↓reduceIte]; rfl) | rfl
