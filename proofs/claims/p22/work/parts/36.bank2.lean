def rm_X1_arrives : Room := { frames := 7, cells := 1, slots := 6, locals := 115 }
set_option maxHeartbeats 4000000 in
set_option maxRecDepth 100000 in
/-- arrives -/
theorem k_X1_arrives (l : Launch) (D : va_G) (yI yZ yL : ClassId) (hst : l.stackTraces = false) (h : Nat) (a t : Nat → Nat) (K : CK) (V : CD) (Kt : CK) (Vt : CD) (x : Int32) (h0 : kDry K = 0 ∨ kDry K = 1) (h1 : ∀ k, k < 5 → dFull V k = 0 ∨ dFull V k = 1) (h2 : kNb K ≤ 10) (h3 : kMill K ≤ 6) (h4 : dHour V + 120 < 2147483648) : xXi l yX1_arrives wsX1_arrives rm_X1_arrives D (tysG yI yZ yL) (bw h a t ++ (cw yI yZ a K V ++ (cw yI yZ t Kt Vt))) [.ref h, .int x] 1 6 (fun (r : Int32) (W1 : va_W) => q_arrives K x = 0 ∧ r = c_arrL K (ix x) 120 0 V ∧ ∃ (K9 : CK) (V9 : CD), W1 = bw h a t ++ (cw yI yZ a K V ++ (cw yI yZ t K9 V9))) (fun E W1 => ((q_arrives K x = 1 ∧ E = xE1)) ∧ W1 = bw h a t ++ (cw yI yZ a K V ++ (cw yI yZ t Kt Vt))) := by
  refine xEX_i (cc := cX1_arrives) (nL := 3) hst (by decide) rfl (Nat.le_of_ble_eq_true rfl) ?_
  intro p e s m args below meth c A Q F G ret out thr
  have hin0 : ∀ w ∈ u_ws RX0 TX0 18, w ∈ wsX1_arrives := by decide +kernel
  have hin1 : ∀ w ∈ u_ws RX1 TX1 2, w ∈ wsX1_arrives := by decide +kernel
  show AW p l e rm_X1_arrives s m args below meth c 3 D A 0 0 Q (bw h a t ++ (cw yI yZ a K V ++ (cw yI yZ t Kt Vt))) [(0, .ref h), (1, .int x)] 0 []
  refine xr_iload_n F dX1_arrives_0 rfl 1 rfl ?_
  refine xr_iconst F dX1_arrives_1 (v := 0) (by decide) ?_
  refine xr_aload_n F dX1_arrives_2 rfl 0 rfl ?_
  refine xr_get F hin1 0 rfl rfl 0 (by decide) (List.mem_of_getElem? (i := 1) rfl) (v := .ref (a 0)) rfl dX1_arrives_3 ?_
  refine xr_get F hin0 1 rfl rfl 13 (by decide) (List.mem_of_getElem? (i := 2) rfl) (v := .int (nI (kNb K))) rfl dX1_arrives_6 ?_
  refine xr_iconst F dX1_arrives_9 (v := 1) (by decide) ?_
  refine xr_isub F ((nI (kNb K)) - 1) dX1_arrives_10 rfl ?_
  by_cases c11 : c_isIn x 0 ((nI (kNb K)) - 1) = 0
  · skip
    refine xr_callXSv F G (wr := bw h a t ++ (cw yI yZ a K V ++ (cw yI yZ t Kt Vt))) (rest := []) (As := [.int x, .int 0, .int ((nI (kNb K)) - 1)]) (k_X1_requireIndex_bad l D yI yZ yL hst x 0 ((nI (kNb K)) - 1) c11) (va_cwS 3 F.hts gX1_arrives_X1_requireIndex rfl rfl rfl (by decide +kernel) ⟨Nat.le_of_ble_eq_true rfl, Nat.le_of_ble_eq_true rfl⟩) [] [0, 1, 2, 3, 4, 5, 6, 7, 8, 9, 10, 11, 12, 13, 14, 15, 16, 17, 18, 19, 20, 21, 22, 23, 24] rfl rfl (by decide) (by decide) (by decide) rfl rfl (Nat.le_of_ble_eq_true rfl) dX1_arrives_11 ⟨Nat.le_of_ble_eq_true rfl, Nat.le_of_ble_eq_true rfl⟩ (fun E1 W1 z1 => ?_) (fun W1 z1 => z1.elim)
    obtain ⟨z0, z1⟩ := z1
    subst z0
    subst z1
    exact out _ _ _ _ _ ⟨⟨by simp only [q_arrives, xk_01, xk_10, xk_20, xk_30, eq_self, c11, ↓reduceIte], rfl⟩, rfl⟩
  · skip
    refine xr_callSv F (wr := bw h a t ++ (cw yI yZ a K V ++ (cw yI yZ t Kt Vt))) (rest := []) (As := [.int x, .int 0, .int ((nI (kNb K)) - 1)]) (k_X1_requireIndex_ok l D yI yZ yL x 0 ((nI (kNb K)) - 1) c11) (va_cwS 3 F.hts gX1_arrives_X1_requireIndex rfl rfl rfl (by decide +kernel) ⟨Nat.le_of_ble_eq_true rfl, Nat.le_of_ble_eq_true rfl⟩) [] [0, 1, 2, 3, 4, 5, 6, 7, 8, 9, 10, 11, 12, 13, 14, 15, 16, 17, 18, 19, 20, 21, 22, 23, 24] rfl rfl (by decide) (by decide) (by decide) rfl rfl (Nat.le_of_ble_eq_true rfl) dX1_arrives_11 ⟨Nat.le_of_ble_eq_true rfl, Nat.le_of_ble_eq_true rfl⟩ (fun W1 z1 => ?_)
    subst z1
    refine xr_ws (ws' := bw h a t ++ (cw yI yZ a K V ++ (cw yI yZ t Kt Vt))) rfl ?_
    obtain ⟨hx1, hx2⟩ := isIn_nb (by omega) c11
    refine xr_aload_n F dX1_arrives_14 rfl 0 rfl ?_
    refine xr_get F hin1 0 rfl rfl 1 (by decide) (List.mem_of_getElem? (i := 3) rfl) (v := .ref (t 0)) rfl dX1_arrives_15 ?_
    refine xr_aload_n F dX1_arrives_18 rfl 0 rfl ?_
    refine xr_get F hin1 0 rfl rfl 0 (by decide) (List.mem_of_getElem? (i := 1) rfl) (v := .ref (a 0)) rfl dX1_arrives_19 ?_
    refine xr_callVv F (wr := bw h a t) (rest := []) (As := [.ref (a 0)]) (k_X0_copyFrom l D yI yZ yL t a Kt Vt K V h0 h1) (cwV 1 F.hts gX1_arrives_X0_copyFrom rfl rfl rfl (by decide +kernel) ⟨Nat.le_of_ble_eq_true rfl, Nat.le_of_ble_eq_true rfl⟩) (q0 := 0) rfl rfl [13, 14, 15, 16, 17, 18, 19, 20, 21, 22, 23, 24, 1, 2, 3, 4, 5, 6, 7, 8, 9, 10, 11, 12] [0] rfl rfl (by decide) (by decide) (by decide) rfl rfl (Nat.le_of_ble_eq_true rfl) dX1_arrives_22 ⟨Nat.le_of_ble_eq_true rfl, Nat.le_of_ble_eq_true rfl⟩ (fun W1 z1 => ?_)
    subst z1
    refine xr_sub (ws' := bw h a t ++ (cw yI yZ a K V ++ (cw yI yZ t K V))) [0, 13, 14, 15, 16, 17, 18, 19, 20, 21, 22, 23, 24, 1, 2, 3, 4, 5, 6, 7, 8, 9, 10, 11, 12] (by decide) rfl ?_
    refine xr_iconst F dX1_arrives_25 (v := 0) (by decide) ?_
    refine xr_istore_n F [(2, .int 0), (0, .ref h), (1, .int x)] dX1_arrives_26 rfl (by decide) rfl ?_
    have lp : ∀ (i : Nat) (b : Nat) (U : CD), i + b = 120 → dHour U + i < 2147483648 → c_arrL K (ix x) i b U = c_arrL K (ix x) 120 0 V → AW p l e rm_X1_arrives s m args below meth c 3 D A 0 0 Q (bw h a t ++ (cw yI yZ a K V ++ (cw yI yZ t K U))) [(2, .int (nI b)), (0, .ref h), (1, .int x)] 27 [] := by
      intro i
      induction i with
      | zero =>
        intro b U hb hh hi
        refine xr_iload_n F dX1_arrives_27 rfl 0 rfl ?_
        refine xr_bipush F dX1_arrives_28 (v := 120) (by decide) ?_
        refine xr_icmp_ge F 60 dX1_arrives_30 (by decide) (fun c30 => ?_) (fun c30 => ?_)
        · skip
          refine xr_aload_n F dX1_arrives_60 rfl 1 rfl ?_
          refine xr_get F hin1 0 rfl rfl 1 (by decide) (List.mem_of_getElem? (i := 3) rfl) (v := .ref (t 0)) rfl dX1_arrives_61 ?_
          refine xr_iload_n F dX1_arrives_64 rfl 2 rfl ?_
          refine xr_stk (st' := [.int (nI (ix x)), .ref (t 0)]) (by rw [← hx1]) ?_
          refine xr_callVz F (wr := bw h a t ++ (cw yI yZ a K V)) (rest := []) (As := [.int (nI (ix x))]) (k_X0_hasCome l D yI yZ yL t K U (ix x) (by omega)) (cwV 1 F.hts gX1_arrives_X0_hasCome rfl rfl rfl (by decide +kernel) ⟨Nat.le_of_ble_eq_true rfl, Nat.le_of_ble_eq_true rfl⟩) (q0 := 0) rfl rfl [13, 14, 15, 16, 17, 18, 19, 20, 21, 22, 23, 24] [0, 1, 2, 3, 4, 5, 6, 7, 8, 9, 10, 11, 12] rfl rfl (by decide) (by decide) (by decide) rfl rfl (Nat.le_of_ble_eq_true rfl) dX1_arrives_65 ⟨Nat.le_of_ble_eq_true rfl, Nat.le_of_ble_eq_true rfl⟩ (fun r1 W1 z1 => ?_)
          obtain ⟨z0, z1⟩ := z1
          subst z0
          subst z1
          refine xr_ws (ws' := bw h a t ++ (cw yI yZ a K V ++ (cw yI yZ t K U))) rfl ?_
          refine xr_if_eq F 76 dX1_arrives_68 (by decide) (fun c68 => ?_) (fun c68 => ?_)
          · skip
            refine xr_iconst F dX1_arrives_76 (v := (-1)) (by decide) ?_
            refine xr_widen (k := 1) (n := 6) (Nat.le_of_ble_eq_true rfl) (Nat.le_of_ble_eq_true rfl) ?_
            refine ret _ _ _ _ dX1_arrives_77 ⟨?_, ?_, ⟨_, _, rfl⟩⟩
            · skip
              simp only [q_arrives, xk_01, xk_10, xk_20, xk_30, eq_self, c11, ↓reduceIte]
            · skip
              rw [← hi, c_arrL, if_pos c68]
          · skip
            refine xr_bipush F dX1_arrives_71 (v := 120) (by decide) ?_
            refine xr_goto F 77 dX1_arrives_73 (by decide) ?_
            refine xr_widen (k := 1) (n := 6) (Nat.le_of_ble_eq_true rfl) (Nat.le_of_ble_eq_true rfl) ?_
            refine ret _ _ _ _ dX1_arrives_77 ⟨?_, ?_, ⟨_, _, rfl⟩⟩
            · skip
              simp only [q_arrives, xk_01, xk_10, xk_20, xk_30, eq_self, c11, ↓reduceIte]
            · skip
              rw [← hi, c_arrL, if_neg c68]
        · exact (xk_ge (a := 120) (b := b) (by omega) (by omega) c30).elim
      | succ i ih =>
        intro b U hb hh hi
        refine xr_iload_n F dX1_arrives_27 rfl 0 rfl ?_
        refine xr_bipush F dX1_arrives_28 (v := 120) (by decide) ?_
        refine xr_icmp_ge F 60 dX1_arrives_30 (by decide) (fun c30 => ?_) (fun c30 => ?_)
        · exact (xk_nlt (a := b) (b := 120) (by omega) (by omega) (by omega) c30).elim
        · skip
          refine xr_aload_n F dX1_arrives_33 rfl 1 rfl ?_
          refine xr_get F hin1 0 rfl rfl 1 (by decide) (List.mem_of_getElem? (i := 3) rfl) (v := .ref (t 0)) rfl dX1_arrives_34 ?_
          refine xr_iload_n F dX1_arrives_37 rfl 2 rfl ?_
          refine xr_stk (st' := [.int (nI (ix x)), .ref (t 0)]) (by rw [← hx1]) ?_
          refine xr_callVz F (wr := bw h a t ++ (cw yI yZ a K V)) (rest := []) (As := [.int (nI (ix x))]) (k_X0_hasCome l D yI yZ yL t K U (ix x) (by omega)) (cwV 1 F.hts gX1_arrives_X0_hasCome rfl rfl rfl (by decide +kernel) ⟨Nat.le_of_ble_eq_true rfl, Nat.le_of_ble_eq_true rfl⟩) (q0 := 0) rfl rfl [13, 14, 15, 16, 17, 18, 19, 20, 21, 22, 23, 24] [0, 1, 2, 3, 4, 5, 6, 7, 8, 9, 10, 11, 12] rfl rfl (by decide) (by decide) (by decide) rfl rfl (Nat.le_of_ble_eq_true rfl) dX1_arrives_38 ⟨Nat.le_of_ble_eq_true rfl, Nat.le_of_ble_eq_true rfl⟩ (fun r1 W1 z1 => ?_)
          obtain ⟨z0, z1⟩ := z1
          subst z0
          subst z1
          refine xr_ws (ws' := bw h a t ++ (cw yI yZ a K V ++ (cw yI yZ t K U))) rfl ?_
          refine xr_if_eq F 46 dX1_arrives_41 (by decide) (fun c41 => ?_) (fun c41 => ?_)
          · skip
            refine xr_aload_n F dX1_arrives_46 rfl 1 rfl ?_
            refine xr_get F hin1 0 rfl rfl 1 (by decide) (List.mem_of_getElem? (i := 3) rfl) (v := .ref (t 0)) rfl dX1_arrives_47 ?_
            refine xr_callVi F (wr := bw h a t ++ (cw yI yZ a K V)) (rest := []) (As := []) (k_X0_goHour l D yI yZ yL t K U (by assumption) (by assumption) (by omega)) (cwV 0 F.hts gX1_arrives_X0_goHour rfl rfl rfl (by decide +kernel) ⟨Nat.le_of_ble_eq_true rfl, Nat.le_of_ble_eq_true rfl⟩) (q0 := 0) rfl rfl [13, 14, 15, 16, 17, 18, 19, 20, 21, 22, 23, 24] [0, 1, 2, 3, 4, 5, 6, 7, 8, 9, 10, 11, 12] rfl rfl (by decide) (by decide) (by decide) rfl rfl (Nat.le_of_ble_eq_true rfl) dX1_arrives_50 ⟨Nat.le_of_ble_eq_true rfl, Nat.le_of_ble_eq_true rfl⟩ (fun r1 W1 z1 => ?_)
            obtain ⟨z0, z1⟩ := z1
            subst z0
            obtain ⟨V1, eV1⟩ : ∃ x9 : CD, x9 = (c_hour K U).1 := ⟨_, rfl⟩
            rw [← eV1] at z1
            subst z1
            refine xr_ws (ws' := bw h a t ++ (cw yI yZ a K V ++ (cw yI yZ t K V1))) rfl ?_
            refine xr_pop F dX1_arrives_53 rfl ?_
            refine xr_iinc F (nI (b + 1)) [(2, .int (nI (b + 1))), (0, .ref h), (1, .int x)] dX1_arrives_54 0 rfl (nI_add b 1) (by decide) rfl ?_
            refine xr_goto F 27 dX1_arrives_57 (by decide) ?_
            refine xr_lv (lv' := [(2, .int (nI (b + 1))), (0, .ref h), (1, .int x)]) [0, 1, 2] rfl ?_
            subst eV1
            exact ih (b + 1) (c_hour K U).1 (by omega) (by rw [dHour_hour]; omega) (by rw [← hi, c_arrL, if_pos c41])
          · skip
            refine xr_iload_n F dX1_arrives_44 rfl 0 rfl ?_
            refine xr_widen (k := 1) (n := 6) (Nat.le_of_ble_eq_true rfl) (Nat.le_of_ble_eq_true rfl) ?_
            refine ret _ _ _ _ dX1_arrives_45 ⟨?_, ?_, ⟨_, _, rfl⟩⟩
            · skip
              simp only [q_arrives, xk_01, xk_10, xk_20, xk_30, eq_self, c11, ↓reduceIte]
            · skip
              rw [← hi, c_arrL, if_neg c41]
    refine xr_lv (lv' := [(2, .int 0), (0, .ref h), (1, .int x)]) [0, 1, 2] rfl ?_
    exact lp 120 0 V rfl h4 rfl

def rm_X1_stops : Room := { frames := 5, cells := 0, slots := 0, locals := 115 }
set_option maxHeartbeats 4000000 in
set_option maxRecDepth 100000 in
/-- stops -/
theorem k_X1_stops (l : Launch) (D : va_G) (yI yZ yL : ClassId) (h : Nat) (a t : Nat → Nat) (K : CK) (V : CD) (Kt : CK) (Vt : CD)  (h0 : kDry K = 0 ∨ kDry K = 1) (h1 : ∀ k, k < 5 → dFull V k = 0 ∨ dFull V k = 1) (h2 : kNb K ≤ 10) (h3 : kMill K ≤ 6) (h4 : dHour V + 60 < 2147483648) : xMi l yX1_stops wsX1_stops rm_X1_stops D (tysG yI yZ yL) (bw h a t ++ (cw yI yZ a K V ++ (cw yI yZ t Kt Vt))) [.ref h] 0 0 (fun (r : Int32) (W1 : va_W) => r = c_stopL K 60 0 V ∧ ∃ (K9 : CK) (V9 : CD), W1 = bw h a t ++ (cw yI yZ a K V ++ (cw yI yZ t K9 V9))) := by
  refine xE_i (cc := cX1_stops) (nL := 2) (by decide) rfl (Nat.le_of_ble_eq_true rfl) ?_
  intro p e s m args below meth c A Q F hnm ret
  have hin1 : ∀ w ∈ u_ws RX1 TX1 2, w ∈ wsX1_stops := by decide +kernel
  show AW p l e rm_X1_stops s m args below meth c 2 D A 0 0 Q (bw h a t ++ (cw yI yZ a K V ++ (cw yI yZ t Kt Vt))) [(0, .ref h)] 0 []
  refine xr_aload_n F dX1_stops_0 rfl 0 rfl ?_
  refine xr_get F hin1 0 rfl rfl 1 (by decide) (List.mem_of_getElem? (i := 1) rfl) (v := .ref (t 0)) rfl dX1_stops_1 ?_
  refine xr_aload_n F dX1_stops_4 rfl 0 rfl ?_
  refine xr_get F hin1 0 rfl rfl 0 (by decide) (List.mem_of_getElem? (i := 2) rfl) (v := .ref (a 0)) rfl dX1_stops_5 ?_
  refine xr_callVv F (wr := bw h a t) (rest := []) (As := [.ref (a 0)]) (k_X0_copyFrom l D yI yZ yL t a Kt Vt K V h0 h1) (cwV 1 F.hts gX1_stops_X0_copyFrom rfl rfl rfl (by decide +kernel) ⟨Nat.le_of_ble_eq_true rfl, Nat.le_of_ble_eq_true rfl⟩) (q0 := 0) rfl rfl [13, 14, 15, 16, 17, 18, 19, 20, 21, 22, 23, 24, 1, 2, 3, 4, 5, 6, 7, 8, 9, 10, 11, 12] [0] rfl rfl (by decide) (by decide) (by decide) rfl rfl (Nat.le_of_ble_eq_true rfl) dX1_stops_8 ⟨Nat.le_of_ble_eq_true rfl, Nat.le_of_ble_eq_true rfl⟩ (fun W1 z1 => ?_)
  subst z1
  refine xr_sub (ws' := bw h a t ++ (cw yI yZ a K V ++ (cw yI yZ t K V))) [0, 13, 14, 15, 16, 17, 18, 19, 20, 21, 22, 23, 24, 1, 2, 3, 4, 5, 6, 7, 8, 9, 10, 11, 12] (by decide) rfl ?_
  refine xr_iconst F dX1_stops_11 (v := 0) (by decide) ?_
  refine xr_istore_n F [(1, .int 0), (0, .ref h)] dX1_stops_12 rfl (by decide) rfl ?_
  have lp : ∀ (i : Nat) (b : Nat) (U : CD), i + b = 60 → dHour U + i < 2147483648 → c_stopL K i b U = c_stopL K 60 0 V → AW p l e rm_X1_stops s m args below meth c 2 D A 0 0 Q (bw h a t ++ (cw yI yZ a K V ++ (cw yI yZ t K U))) [(1, .int (nI b)), (0, .ref h)] 13 [] := by
    intro i
    induction i with
    | zero =>
      intro b U hb hh hi
      refine xr_iload_n F dX1_stops_13 rfl 0 rfl ?_
      refine xr_bipush F dX1_stops_14 (v := 60) (by decide) ?_
      refine xr_icmp_ge F 37 dX1_stops_16 (by decide) (fun c16 => ?_) (fun c16 => ?_)
      · skip
        refine xr_iconst F dX1_stops_37 (v := (-1)) (by decide) ?_
        exact ret _ _ _ _ dX1_stops_38 ⟨hi, ⟨_, _, rfl⟩⟩
      · exact (xk_ge (a := 60) (b := b) (by omega) (by omega) c16).elim
    | succ i ih =>
      intro b U hb hh hi
      refine xr_iload_n F dX1_stops_13 rfl 0 rfl ?_
      refine xr_bipush F dX1_stops_14 (v := 60) (by decide) ?_
      refine xr_icmp_ge F 37 dX1_stops_16 (by decide) (fun c16 => ?_) (fun c16 => ?_)
      · exact (xk_nlt (a := b) (b := 60) (by omega) (by omega) (by omega) c16).elim
      · skip
        refine xr_aload_n F dX1_stops_19 rfl 1 rfl ?_
        refine xr_get F hin1 0 rfl rfl 1 (by decide) (List.mem_of_getElem? (i := 1) rfl) (v := .ref (t 0)) rfl dX1_stops_20 ?_
        refine xr_callVi F (wr := bw h a t ++ (cw yI yZ a K V)) (rest := []) (As := []) (k_X0_goHour l D yI yZ yL t K U (by assumption) (by assumption) (by omega)) (cwV 0 F.hts gX1_stops_X0_goHour rfl rfl rfl (by decide +kernel) ⟨Nat.le_of_ble_eq_true rfl, Nat.le_of_ble_eq_true rfl⟩) (q0 := 0) rfl rfl [13, 14, 15, 16, 17, 18, 19, 20, 21, 22, 23, 24] [0, 1, 2, 3, 4, 5, 6, 7, 8, 9, 10, 11, 12] rfl rfl (by decide) (by decide) (by decide) rfl rfl (Nat.le_of_ble_eq_true rfl) dX1_stops_23 ⟨Nat.le_of_ble_eq_true rfl, Nat.le_of_ble_eq_true rfl⟩ (fun r1 W1 z1 => ?_)
        obtain ⟨z0, z1⟩ := z1
        subst z0
        obtain ⟨V1, eV1⟩ : ∃ x9 : CD, x9 = (c_hour K U).1 := ⟨_, rfl⟩
        rw [← eV1] at z1
        subst z1
        refine xr_ws (ws' := bw h a t ++ (cw yI yZ a K V ++ (cw yI yZ t K V1))) rfl ?_
        refine xr_if_ne F 31 dX1_stops_26 (by decide) (fun c26 => ?_) (fun c26 => ?_)
        · skip
          refine xr_iinc F (nI (b + 1)) [(1, .int (nI (b + 1))), (0, .ref h)] dX1_stops_31 0 rfl (nI_add b 1) (by decide) rfl ?_
          refine xr_goto F 13 dX1_stops_34 (by decide) ?_
          refine xr_lv (lv' := [(1, .int (nI (b + 1))), (0, .ref h)]) [0, 1] rfl ?_
          subst eV1
          exact ih (b + 1) (c_hour K U).1 (by omega) (by rw [dHour_hour]; omega) (by rw [← hi, c_stopL, if_neg c26])
        · skip
          refine xr_iload_n F dX1_stops_29 rfl 0 rfl ?_
          refine ret _ _ _ _ dX1_stops_30 ⟨?_, ⟨_, _, rfl⟩⟩
          rw [← hi, c_stopL, if_pos c26]
  refine xr_lv (lv' := [(1, .int 0), (0, .ref h)]) [0, 1] rfl ?_
  exact lp 60 0 V rfl h4 rfl

def rm_X1_foresee : Room := { frames := 7, cells := 1, slots := 6, locals := 138 }
set_option maxHeartbeats 4000000 in
set_option maxRecDepth 100000 in
/-- foresee -/
theorem k_X1_foresee (l : Launch) (D : va_G) (yI yZ yL : ClassId) (hst : l.stackTraces = false) (h : Nat) (a t : Nat → Nat) (K : CK) (V : CD) (Kt : CK) (Vt : CD) (x : Int32) (y : Int32) (h0 : kDry K = 0 ∨ kDry K = 1) (h1 : ∀ k, k < 5 → dFull V k = 0 ∨ dFull V k = 1) (h2 : kNb K ≤ 10) (h3 : kMill K ≤ 6) (h4 : dHour V + 60 < 2147483648) : xXi l yX1_foresee wsX1_foresee rm_X1_foresee D (tysG yI yZ yL) (bw h a t ++ (cw yI yZ a K V ++ (cw yI yZ t Kt Vt))) [.ref h, .int x, .int y] 1 6 (fun (r : Int32) (W1 : va_W) => q_foresee x y = 0 ∧ r = c_tellW K (c_hours K (ix x) V 0).1 (ix y) ∧ ∃ (K9 : CK) (V9 : CD), W1 = bw h a t ++ (cw yI yZ a K V ++ (cw yI yZ t K9 V9))) (fun E W1 => ((q_foresee x y = 1 ∧ E = xE2) ∨ (q_foresee x y = 2 ∧ E = xE1)) ∧ W1 = bw h a t ++ (cw yI yZ a K V ++ (cw yI yZ t Kt Vt))) := by
  refine xEX_i (cc := cX1_foresee) (nL := 3) hst (by decide) rfl (Nat.le_of_ble_eq_true rfl) ?_
  intro p e s m args below meth c A Q F G ret out thr
  have hin1 : ∀ w ∈ u_ws RX1 TX1 2, w ∈ wsX1_foresee := by decide +kernel
  show AW p l e rm_X1_foresee s m args below meth c 3 D A 0 0 Q (bw h a t ++ (cw yI yZ a K V ++ (cw yI yZ t Kt Vt))) [(0, .ref h), (1, .int x), (2, .int y)] 0 []
  refine xr_iload_n F dX1_foresee_0 rfl 1 rfl ?_
  refine xr_iconst F dX1_foresee_1 (v := 1) (by decide) ?_
  refine xr_bipush F dX1_foresee_2 (v := 60) (by decide) ?_
  by_cases c4 : c_isIn x 1 60 = 0
  · skip
    refine xr_callXSv F G (wr := bw h a t ++ (cw yI yZ a K V ++ (cw yI yZ t Kt Vt))) (rest := []) (As := [.int x, .int 1, .int 60]) (k_X1_requireArgument_bad l D yI yZ yL hst x 1 60 c4) (va_cwS 3 F.hts gX1_foresee_X1_requireArgument rfl rfl rfl (by decide +kernel) ⟨Nat.le_of_ble_eq_true rfl, Nat.le_of_ble_eq_true rfl⟩) [] [0, 1, 2, 3, 4, 5, 6, 7, 8, 9, 10, 11, 12, 13, 14, 15, 16, 17, 18, 19, 20, 21, 22, 23, 24] rfl rfl (by decide) (by decide) (by decide) rfl rfl (Nat.le_of_ble_eq_true rfl) dX1_foresee_4 ⟨Nat.le_of_ble_eq_true rfl, Nat.le_of_ble_eq_true rfl⟩ (fun E1 W1 z1 => ?_) (fun W1 z1 => z1.elim)
    obtain ⟨z0, z1⟩ := z1
    subst z0
    subst z1
    exact out _ _ _ _ _ ⟨(Or.inl ⟨by simp only [q_foresee, xk_01, xk_10, xk_20, xk_30, eq_self, c4, ↓reduceIte], rfl⟩), rfl⟩
  · skip
    refine xr_callSv F (wr := bw h a t ++ (cw yI yZ a K V ++ (cw yI yZ t Kt Vt))) (rest := []) (As := [.int x, .int 1, .int 60]) (k_X1_requireArgument_ok l D yI yZ yL x 1 60 c4) (va_cwS 3 F.hts gX1_foresee_X1_requireArgument rfl rfl rfl (by decide +kernel) ⟨Nat.le_of_ble_eq_true rfl, Nat.le_of_ble_eq_true rfl⟩) [] [0, 1, 2, 3, 4, 5, 6, 7, 8, 9, 10, 11, 12, 13, 14, 15, 16, 17, 18, 19, 20, 21, 22, 23, 24] rfl rfl (by decide) (by decide) (by decide) rfl rfl (Nat.le_of_ble_eq_true rfl) dX1_foresee_4 ⟨Nat.le_of_ble_eq_true rfl, Nat.le_of_ble_eq_true rfl⟩ (fun W1 z1 => ?_)
    subst z1
    refine xr_ws (ws' := bw h a t ++ (cw yI yZ a K V ++ (cw yI yZ t Kt Vt))) rfl ?_
    obtain ⟨hx1, hx3, hx2⟩ := isIn_ixl 1 60 (by decide) (by decide) rfl rfl c4
    refine xr_iload_n F dX1_foresee_7 rfl 2 rfl ?_
    refine xr_iconst F dX1_foresee_8 (v := 2) (by decide) ?_
    refine xr_bipush F dX1_foresee_9 (v := 6) (by decide) ?_
    by_cases c11 : c_isIn y 2 6 = 0
    · skip
      refine xr_callXSv F G (wr := bw h a t ++ (cw yI yZ a K V ++ (cw yI yZ t Kt Vt))) (rest := []) (As := [.int y, .int 2, .int 6]) (k_X1_requireIndex_bad l D yI yZ yL hst y 2 6 c11) (va_cwS 3 F.hts gX1_foresee_X1_requireIndex rfl rfl rfl (by decide +kernel) ⟨Nat.le_of_ble_eq_true rfl, Nat.le_of_ble_eq_true rfl⟩) [] [0, 1, 2, 3, 4, 5, 6, 7, 8, 9, 10, 11, 12, 13, 14, 15, 16, 17, 18, 19, 20, 21, 22, 23, 24] rfl rfl (by decide) (by decide) (by decide) rfl rfl (Nat.le_of_ble_eq_true rfl) dX1_foresee_11 ⟨Nat.le_of_ble_eq_true rfl, Nat.le_of_ble_eq_true rfl⟩ (fun E1 W1 z1 => ?_) (fun W1 z1 => z1.elim)
      obtain ⟨z0, z1⟩ := z1
      subst z0
      subst z1
      exact out _ _ _ _ _ ⟨(Or.inr ⟨by simp only [q_foresee, xk_01, xk_10, xk_20, xk_30, eq_self, c4, c11, ↓reduceIte], rfl⟩), rfl⟩
    · skip
      refine xr_callSv F (wr := bw h a t ++ (cw yI yZ a K V ++ (cw yI yZ t Kt Vt))) (rest := []) (As := [.int y, .int 2, .int 6]) (k_X1_requireIndex_ok l D yI yZ yL y 2 6 c11) (va_cwS 3 F.hts gX1_foresee_X1_requireIndex rfl rfl rfl (by decide +kernel) ⟨Nat.le_of_ble_eq_true rfl, Nat.le_of_ble_eq_true rfl⟩) [] [0, 1, 2, 3, 4, 5, 6, 7, 8, 9, 10, 11, 12, 13, 14, 15, 16, 17, 18, 19, 20, 21, 22, 23, 24] rfl rfl (by decide) (by decide) (by decide) rfl rfl (Nat.le_of_ble_eq_true rfl) dX1_foresee_11 ⟨Nat.le_of_ble_eq_true rfl, Nat.le_of_ble_eq_true rfl⟩ (fun W1 z1 => ?_)
      subst z1
      refine xr_ws (ws' := bw h a t ++ (cw yI yZ a K V ++ (cw yI yZ t Kt Vt))) rfl ?_
      obtain ⟨hy1, hy3, hy2⟩ := isIn_ixl 2 6 (by decide) (by decide) rfl rfl c11
      refine xr_aload_n F dX1_foresee_14 rfl 0 rfl ?_
      refine xr_get F hin1 0 rfl rfl 1 (by decide) (List.mem_of_getElem? (i := 1) rfl) (v := .ref (t 0)) rfl dX1_foresee_15 ?_
      refine xr_aload_n F dX1_foresee_18 rfl 0 rfl ?_
      refine xr_get F hin1 0 rfl rfl 0 (by decide) (List.mem_of_getElem? (i := 2) rfl) (v := .ref (a 0)) rfl dX1_foresee_19 ?_
      refine xr_callVv F (wr := bw h a t) (rest := []) (As := [.ref (a 0)]) (k_X0_copyFrom l D yI yZ yL t a Kt Vt K V h0 h1) (cwV 1 F.hts gX1_foresee_X0_copyFrom rfl rfl rfl (by decide +kernel) ⟨Nat.le_of_ble_eq_true rfl, Nat.le_of_ble_eq_true rfl⟩) (q0 := 0) rfl rfl [13, 14, 15, 16, 17, 18, 19, 20, 21, 22, 23, 24, 1, 2, 3, 4, 5, 6, 7, 8, 9, 10, 11, 12] [0] rfl rfl (by decide) (by decide) (by decide) rfl rfl (Nat.le_of_ble_eq_true rfl) dX1_foresee_22 ⟨Nat.le_of_ble_eq_true rfl, Nat.le_of_ble_eq_true rfl⟩ (fun W1 z1 => ?_)
      subst z1
      refine xr_sub (ws' := bw h a t ++ (cw yI yZ a K V ++ (cw yI yZ t K V))) [0, 13, 14, 15, 16, 17, 18, 19, 20, 21, 22, 23, 24, 1, 2, 3, 4, 5, 6, 7, 8, 9, 10, 11, 12] (by decide) rfl ?_
      refine xr_aload_n F dX1_foresee_25 rfl 0 rfl ?_
      refine xr_get F hin1 0 rfl rfl 1 (by decide) (List.mem_of_getElem? (i := 1) rfl) (v := .ref (t 0)) rfl dX1_foresee_26 ?_
      refine xr_iload_n F dX1_foresee_29 rfl 1 rfl ?_
      refine xr_stk (st' := [.int (nI (ix x)), .ref (t 0)]) (by rw [← hx1]) ?_
      refine xr_callVi F (wr := bw h a t ++ (cw yI yZ a K V)) (rest := []) (As := [.int (nI (ix x))]) (k_X0_goHours l D yI yZ yL t K V (ix x) (by assumption) (by assumption) (by omega) (by omega)) (cwV 1 F.hts gX1_foresee_X0_goHours rfl rfl rfl (by decide +kernel) ⟨Nat.le_of_ble_eq_true rfl, Nat.le_of_ble_eq_true rfl⟩) (q0 := 0) rfl rfl [13, 14, 15, 16, 17, 18, 19, 20, 21, 22, 23, 24] [0, 1, 2, 3, 4, 5, 6, 7, 8, 9, 10, 11, 12] rfl rfl (by decide) (by decide) (by decide) rfl rfl (Nat.le_of_ble_eq_true rfl) dX1_foresee_30 ⟨Nat.le_of_ble_eq_true rfl, Nat.le_of_ble_eq_true rfl⟩ (fun r1 W1 z1 => ?_)
      obtain ⟨z0, z1⟩ := z1
      subst z0
      obtain ⟨V1, eV1⟩ : ∃ x9 : CD, x9 = (c_hours K (ix x) V 0).1 := ⟨_, rfl⟩
      rw [← eV1] at z1
      subst z1
      refine xr_ws (ws' := bw h a t ++ (cw yI yZ a K V ++ (cw yI yZ t K V1))) rfl ?_
      refine xr_pop F dX1_foresee_33 rfl ?_
      refine xr_aload_n F dX1_foresee_34 rfl 0 rfl ?_
      refine xr_get F hin1 0 rfl rfl 1 (by decide) (List.mem_of_getElem? (i := 1) rfl) (v := .ref (t 0)) rfl dX1_foresee_35 ?_
      refine xr_iload_n F dX1_foresee_38 rfl 2 rfl ?_
      refine xr_stk (st' := [.int (nI (ix y)), .ref (t 0)]) (by rw [← hy1]) ?_
      refine xr_callVi F (wr := bw h a t ++ (cw yI yZ a K V)) (rest := []) (As := [.int (nI (ix y))]) (k_X0_tellWhole l D yI yZ yL t K V1 (ix y) (by omega) (by assumption)) (cwV 1 F.hts gX1_foresee_X0_tellWhole rfl rfl rfl (by decide +kernel) ⟨Nat.le_of_ble_eq_true rfl, Nat.le_of_ble_eq_true rfl⟩) (q0 := 0) rfl rfl [13, 14, 15, 16, 17, 18, 19, 20, 21, 22, 23, 24] [0, 1, 2, 3, 4, 5, 6, 7, 8, 9, 10, 11, 12] rfl rfl (by decide) (by decide) (by decide) rfl rfl (Nat.le_of_ble_eq_true rfl) dX1_foresee_39 ⟨Nat.le_of_ble_eq_true rfl, Nat.le_of_ble_eq_true rfl⟩ (fun r1 W1 z1 => ?_)
      obtain ⟨z0, z1⟩ := z1
      subst z0
      subst z1
      refine xr_ws (ws' := bw h a t ++ (cw yI yZ a K V ++ (cw yI yZ t K V1))) rfl ?_
      refine xr_widen (k := 1) (n := 6) (Nat.le_of_ble_eq_true rfl) (Nat.le_of_ble_eq_true rfl) ?_
      refine ret _ _ _ _ dX1_foresee_42 ⟨?_, ?_, ⟨_, _, rfl⟩⟩
      · skip
        simp only [q_foresee, xk_01, xk_10, xk_20, xk_30, eq_self, c4, c11, ↓reduceIte]
      · skip
        rw [eV1]

def rm_X1_advise : Room := { frames := 7, cells := 1, slots := 6, locals := 138 }
set_option maxHeartbeats 4000000 in
set_option maxRecDepth 100000 in
/-- advise -/
theorem k_X1_advise (l : Launch) (D : va_G) (yI yZ yL : ClassId) (hst : l.stackTraces = false) (h : Nat) (a t : Nat → Nat) (K : CK) (V : CD) (Kt : CK) (Vt : CD) (x : Int32) (h0 : kDry K = 0 ∨ kDry K = 1) (h1 : ∀ k, k < 5 → dFull V k = 0 ∨ dFull V k = 1) (h2 : kNb K ≤ 10) (h3 : kMill K ≤ 6) (h4 : dHour V + 40 < 2147483648) : xXi l yX1_advise wsX1_advise rm_X1_advise D (tysG yI yZ yL) (bw h a t ++ (cw yI yZ a K V ++ (cw yI yZ t Kt Vt))) [.ref h, .int x] 1 6 (fun (r : Int32) (W1 : va_W) => q_hours x 40 = 0 ∧ r = c_advL K V (ix x) 11 0 0 0 ∧ ∃ (K9 : CK) (V9 : CD), W1 = bw h a t ++ (cw yI yZ a K V ++ (cw yI yZ t K9 V9))) (fun E W1 => ((q_hours x 40 = 1 ∧ E = xE2)) ∧ W1 = bw h a t ++ (cw yI yZ a K V ++ (cw yI yZ t Kt Vt))) := by
  refine xEX_i (cc := cX1_advise) (nL := 5) hst (by decide) rfl (Nat.le_of_ble_eq_true rfl) ?_
  intro p e s m args below meth c A Q F G ret out thr
  have hin0 : ∀ w ∈ u_ws RX0 TX0 18, w ∈ wsX1_advise := by decide +kernel
  have hin1 : ∀ w ∈ u_ws RX1 TX1 2, w ∈ wsX1_advise := by decide +kernel
  show AW p l e rm_X1_advise s m args below meth c 5 D A 0 0 Q (bw h a t ++ (cw yI yZ a K V ++ (cw yI yZ t Kt Vt))) [(0, .ref h), (1, .int x)] 0 []
  refine xr_iload_n F dX1_advise_0 rfl 1 rfl ?_
  refine xr_iconst F dX1_advise_1 (v := 1) (by decide) ?_
  refine xr_bipush F dX1_advise_2 (v := 40) (by decide) ?_
  by_cases c4 : c_isIn x 1 40 = 0
  · skip
    refine xr_callXSv F G (wr := bw h a t ++ (cw yI yZ a K V ++ (cw yI yZ t Kt Vt))) (rest := []) (As := [.int x, .int 1, .int 40]) (k_X1_requireArgument_bad l D yI yZ yL hst x 1 40 c4) (va_cwS 3 F.hts gX1_advise_X1_requireArgument rfl rfl rfl (by decide +kernel) ⟨Nat.le_of_ble_eq_true rfl, Nat.le_of_ble_eq_true rfl⟩) [] [0, 1, 2, 3, 4, 5, 6, 7, 8, 9, 10, 11, 12, 13, 14, 15, 16, 17, 18, 19, 20, 21, 22, 23, 24] rfl rfl (by decide) (by decide) (by decide) rfl rfl (Nat.le_of_ble_eq_true rfl) dX1_advise_4 ⟨Nat.le_of_ble_eq_true rfl, Nat.le_of_ble_eq_true rfl⟩ (fun E1 W1 z1 => ?_) (fun W1 z1 => z1.elim)
    obtain ⟨z0, z1⟩ := z1
    subst z0
    subst z1
    exact out _ _ _ _ _ ⟨⟨by simp only [q_hours, xk_01, xk_10, xk_20, xk_30, eq_self, c4, ↓reduceIte], rfl⟩, rfl⟩
  · skip
    refine xr_callSv F (wr := bw h a t ++ (cw yI yZ a K V ++ (cw yI yZ t Kt Vt))) (rest := []) (As := [.int x, .int 1, .int 40]) (k_X1_requireArgument_ok l D yI yZ yL x 1 40 c4) (va_cwS 3 F.hts gX1_advise_X1_requireArgument rfl rfl rfl (by decide +kernel) ⟨Nat.le_of_ble_eq_true rfl, Nat.le_of_ble_eq_true rfl⟩) [] [0, 1, 2, 3, 4, 5, 6, 7, 8, 9, 10, 11, 12, 13, 14, 15, 16, 17, 18, 19, 20, 21, 22, 23, 24] rfl rfl (by decide) (by decide) (by decide) rfl rfl (Nat.le_of_ble_eq_true rfl) dX1_advise_4 ⟨Nat.le_of_ble_eq_true rfl, Nat.le_of_ble_eq_true rfl⟩ (fun W1 z1 => ?_)
    subst z1
    refine xr_ws (ws' := bw h a t ++ (cw yI yZ a K V ++ (cw yI yZ t Kt Vt))) rfl ?_
    obtain ⟨hx1, hx3, hx2⟩ := isIn_ixl 1 40 (by decide) (by decide) rfl rfl c4
    refine xr_iconst F dX1_advise_7 (v := 0) (by decide) ?_
    refine xr_istore_n F [(2, .int 0), (0, .ref h), (1, .int x)] dX1_advise_8 rfl (by decide) rfl ?_
    refine xr_iconst F dX1_advise_9 (v := 0) (by decide) ?_
    refine xr_istore_n F [(3, .int 0), (2, .int 0), (0, .ref h), (1, .int x)] dX1_advise_10 rfl (by decide) rfl ?_
    refine xr_iconst F dX1_advise_11 (v := nI (0 * 10)) (by decide) ?_
    refine xr_istore F [(4, .int (nI (0 * 10))), (3, .int 0), (2, .int 0), (0, .ref h), (1, .int x)] dX1_advise_12 (by decide) rfl ?_
    have lp : ∀ (i : Nat) (b : Nat) (bs : Int32) (mo : Int32) (K8 : CK) (U : CD), i + b = 11 → c_advL K V (ix x) i b bs mo = c_advL K V (ix x) 11 0 0 0 → AW p l e rm_X1_advise s m args below meth c 5 D A 0 0 Q (bw h a t ++ (cw yI yZ a K V ++ (cw yI yZ t K8 U))) [(4, .int (nI (b * 10))), (3, .int mo), (2, .int bs), (0, .ref h), (1, .int x)] 14 [] := by
      intro i
      induction i with
      | zero =>
        intro b bs mo K8 U hb hi
        refine xr_iload F dX1_advise_14 0 rfl ?_
        refine xr_bipush F dX1_advise_16 (v := 100) (by decide) ?_
        refine xr_icmp_gt F 78 dX1_advise_18 (by decide) (fun c18 => ?_) (fun c18 => ?_)
        · skip
          refine xr_iload_n F dX1_advise_78 rfl 2 rfl ?_
          refine xr_widen (k := 1) (n := 6) (Nat.le_of_ble_eq_true rfl) (Nat.le_of_ble_eq_true rfl) ?_
          refine ret _ _ _ _ dX1_advise_79 ⟨?_, ?_, ⟨_, _, rfl⟩⟩
          · skip
            simp only [q_hours, xk_01, xk_10, xk_20, xk_30, eq_self, c4, ↓reduceIte]
          · skip
            exact hi
        · exact absurd (nI_lt (a := 100) (by omega) (by omega)) c18
      | succ i ih =>
        intro b bs mo K8 U hb hi
        refine xr_iload F dX1_advise_14 0 rfl ?_
        refine xr_bipush F dX1_advise_16 (v := 100) (by decide) ?_
        refine xr_icmp_gt F 78 dX1_advise_18 (by decide) (fun c18 => ?_) (fun c18 => ?_)
        · exact absurd c18 (nI_nlt (a := 100) (by omega) (by omega))
        · skip
          refine xr_aload_n F dX1_advise_21 rfl 3 rfl ?_
          refine xr_get F hin1 0 rfl rfl 1 (by decide) (List.mem_of_getElem? (i := 1) rfl) (v := .ref (t 0)) rfl dX1_advise_22 ?_
          refine xr_aload_n F dX1_advise_25 rfl 3 rfl ?_
          refine xr_get F hin1 0 rfl rfl 0 (by decide) (List.mem_of_getElem? (i := 2) rfl) (v := .ref (a 0)) rfl dX1_advise_26 ?_
          refine xr_callVv F (wr := bw h a t) (rest := []) (As := [.ref (a 0)]) (k_X0_copyFrom l D yI yZ yL t a K8 U K V h0 h1) (cwV 1 F.hts gX1_advise_X0_copyFrom rfl rfl rfl (by decide +kernel) ⟨Nat.le_of_ble_eq_true rfl, Nat.le_of_ble_eq_true rfl⟩) (q0 := 0) rfl rfl [13, 14, 15, 16, 17, 18, 19, 20, 21, 22, 23, 24, 1, 2, 3, 4, 5, 6, 7, 8, 9, 10, 11, 12] [0] rfl rfl (by decide) (by decide) (by decide) rfl rfl (Nat.le_of_ble_eq_true rfl) dX1_advise_29 ⟨Nat.le_of_ble_eq_true rfl, Nat.le_of_ble_eq_true rfl⟩ (fun W1 z1 => ?_)
          subst z1
          refine xr_sub (ws' := bw h a t ++ (cw yI yZ a K V ++ (cw yI yZ t K V))) [0, 13, 14, 15, 16, 17, 18, 19, 20, 21, 22, 23, 24, 1, 2, 3, 4, 5, 6, 7, 8, 9, 10, 11, 12] (by decide) rfl ?_
          refine xr_aload_n F dX1_advise_32 rfl 3 rfl ?_
          refine xr_get F hin1 0 rfl rfl 1 (by decide) (List.mem_of_getElem? (i := 1) rfl) (v := .ref (t 0)) rfl dX1_advise_33 ?_
          refine xr_iload F dX1_advise_36 0 rfl ?_
          refine xr_put (ty := .int) F hin0 13 rfl rfl 5 (by decide) tyX0 tyX0_ok nmX0 (List.mem_of_getElem? (i := 3) rfl) rfl (by decide) rfl rfl (Nat.le_of_ble_eq_true rfl) (bw h a t ++ (cw yI yZ a K V ++ (cwx yI yZ t (kFee K) (kDry K) (kMill K) (nI (b * 10)) (kNb K) (kSpr K) (kGoal K) (dHour V) (dBank V) (dLev V) (dOver V) (dDrawn V) (dFull V) (dLock V) (dFill V) (dAt V) (dPur V) (dSer V)))) rfl dX1_advise_38 ?_
          refine xr_ws (ws' := bw h a t ++ (cw yI yZ a K V ++ (cw yI yZ t (uMark K (nI (b * 10))) V))) rfl ?_
          refine xr_aload_n F dX1_advise_41 rfl 3 rfl ?_
          refine xr_get F hin1 0 rfl rfl 1 (by decide) (List.mem_of_getElem? (i := 1) rfl) (v := .ref (t 0)) rfl dX1_advise_42 ?_
          refine xr_iload_n F dX1_advise_45 rfl 4 rfl ?_
          refine xr_stk (st' := [.int (nI (ix x)), .ref (t 0)]) (by rw [← hx1]) ?_
          refine xr_callVi F (wr := bw h a t ++ (cw yI yZ a K V)) (rest := []) (As := [.int (nI (ix x))]) (k_X0_goHours l D yI yZ yL t (uMark K (nI (b * 10))) V (ix x) h2 h3 (by omega) (by omega)) (cwV 1 F.hts gX1_advise_X0_goHours rfl rfl rfl (by decide +kernel) ⟨Nat.le_of_ble_eq_true rfl, Nat.le_of_ble_eq_true rfl⟩) (q0 := 0) rfl rfl [13, 14, 15, 16, 17, 18, 19, 20, 21, 22, 23, 24] [0, 1, 2, 3, 4, 5, 6, 7, 8, 9, 10, 11, 12] rfl rfl (by decide) (by decide) (by decide) rfl rfl (Nat.le_of_ble_eq_true rfl) dX1_advise_46 ⟨Nat.le_of_ble_eq_true rfl, Nat.le_of_ble_eq_true rfl⟩ (fun r1 W1 z1 => ?_)
          obtain ⟨z0, z1⟩ := z1
          subst z0
          obtain ⟨V1, eV1⟩ : ∃ x9 : CD, x9 = (c_hours (uMark K (nI (b * 10))) (ix x) V 0).1 := ⟨_, rfl⟩
          rw [← eV1] at z1
          subst z1
          refine xr_ws (ws' := bw h a t ++ (cw yI yZ a K V ++ (cw yI yZ t (uMark K (nI (b * 10))) V1))) rfl ?_
          refine xr_pop F dX1_advise_49 rfl ?_
          refine xr_aload_n F dX1_advise_50 rfl 3 rfl ?_
          refine xr_get F hin1 0 rfl rfl 1 (by decide) (List.mem_of_getElem? (i := 1) rfl) (v := .ref (t 0)) rfl dX1_advise_51 ?_
          refine xr_get F hin0 13 rfl rfl 1 (by decide) (List.mem_of_getElem? (i := 4) rfl) (v := .int (dBank V1)) rfl dX1_advise_54 ?_
          refine xr_iload_n F dX1_advise_57 rfl 1 rfl ?_
          refine xr_icmp_lt F 72 dX1_advise_58 (by decide) (fun c58 => ?_) (fun c58 => ?_)
          · skip
            refine xr_iinc F (nI ((b + 1) * 10)) [(4, .int (nI ((b + 1) * 10))), (3, .int mo), (2, .int bs), (0, .ref h), (1, .int x)] dX1_advise_72 0 rfl (xk_10k b) (by decide) rfl ?_
            refine xr_goto F 14 dX1_advise_75 (by decide) ?_
            refine xr_lv (lv' := [(4, .int (nI ((b + 1) * 10))), (3, .int mo), (2, .int bs), (0, .ref h), (1, .int x)]) [0, 1, 2, 3, 4] rfl ?_
            subst eV1
            exact ih (b + 1) bs mo (uMark K (nI (b * 10))) (c_hours (uMark K (nI (b * 10))) (ix x) V 0).1 (by omega) (by rw [← hi, c_advL, if_pos (show c_advB K V (ix x) (nI (b * 10)) < mo from c58)])
          · skip
            refine xr_aload_n F dX1_advise_61 rfl 3 rfl ?_
            refine xr_get F hin1 0 rfl rfl 1 (by decide) (List.mem_of_getElem? (i := 1) rfl) (v := .ref (t 0)) rfl dX1_advise_62 ?_
            refine xr_get F hin0 13 rfl rfl 1 (by decide) (List.mem_of_getElem? (i := 4) rfl) (v := .int (dBank V1)) rfl dX1_advise_65 ?_
            refine xr_istore_n F [(3, .int (dBank V1)), (4, .int (nI (b * 10))), (2, .int bs), (0, .ref h), (1, .int x)] dX1_advise_68 rfl (by decide) rfl ?_
            refine xr_iload F dX1_advise_69 1 rfl ?_
            refine xr_istore_n F [(2, .int (nI (b * 10))), (3, .int (dBank V1)), (4, .int (nI (b * 10))), (0, .ref h), (1, .int x)] dX1_advise_71 rfl (by decide) rfl ?_
            refine xr_iinc F (nI ((b + 1) * 10)) [(4, .int (nI ((b + 1) * 10))), (2, .int (nI (b * 10))), (3, .int (dBank V1)), (0, .ref h), (1, .int x)] dX1_advise_72 2 rfl (xk_10k b) (by decide) rfl ?_
            refine xr_goto F 14 dX1_advise_75 (by decide) ?_
            refine xr_lv (lv' := [(4, .int (nI ((b + 1) * 10))), (3, .int (dBank V1)), (2, .int (nI (b * 10))), (0, .ref h), (1, .int x)]) [0, 2, 1, 3, 4] rfl ?_
            subst eV1
            exact ih (b + 1) (nI (b * 10)) (c_advB K V (ix x) (nI (b * 10))) (uMark K (nI (b * 10))) (c_hours (uMark K (nI (b * 10))) (ix x) V 0).1 (by omega) (by rw [← hi, c_advL, if_neg (show ¬ c_advB K V (ix x) (nI (b * 10)) < mo from c58)])
    refine xr_lv (lv' := [(4, .int (nI (0 * 10))), (3, .int 0), (2, .int 0), (0, .ref h), (1, .int x)]) [0, 1, 2, 3, 4] rfl ?_
    exact lp 11 0 0 0 Kt Vt rfl rfl

def rm_X1_mean : Room := { frames := 1, cells := 0, slots := 0, locals := 22 }
set_option maxHeartbeats 4000000 in
set_option maxRecDepth 100000 in
/-- mean -/
theorem k_X1_mean (l : Launch) (D : va_G) (yI yZ yL : ClassId) (h : Nat) (a t : Nat → Nat) (K : CK) (V : CD)  (h0 : vf_n64 (FP.ddiv (FP.i2d (c_water V)) (4618441417868443648))) : xMd l yX1_mean wsX1_mean rm_X1_mean D (tysG yI yZ yL) (bw h a t ++ (cw yI yZ a K V)) [.ref h] 0 0 (fun (r : UInt64) (W1 : va_W) => r = FP.ddiv (FP.i2d (c_water V)) (4618441417868443648) ∧ W1 = bw h a t ++ (cw yI yZ a K V)) := by
  refine xE_d (cc := cX1_mean) (nL := 1) (by decide) rfl (Nat.le_of_ble_eq_true rfl) ?_
  intro p e s m args below meth c A Q F hnm ret
  have hin1 : ∀ w ∈ u_ws RX1 TX1 2, w ∈ wsX1_mean := by decide +kernel
  show AW p l e rm_X1_mean s m args below meth c 1 D A 0 0 Q (bw h a t ++ (cw yI yZ a K V)) [(0, .ref h)] 0 []
  refine xr_aload_n F dX1_mean_0 rfl 0 rfl ?_
  refine xr_get F hin1 0 rfl rfl 0 (by decide) (List.mem_of_getElem? (i := 1) rfl) (v := .ref (a 0)) rfl dX1_mean_1 ?_
  refine xr_callVi F (wr := bw h a t) (rest := []) (As := []) (k_X0_waterOfAll l D yI yZ yL a K V ) (cwV 0 F.hts gX1_mean_X0_waterOfAll rfl rfl rfl (by decide +kernel) ⟨Nat.le_of_ble_eq_true rfl, Nat.le_of_ble_eq_true rfl⟩) (q0 := 0) rfl rfl [1, 2, 3, 4, 5, 6, 7, 8, 9, 10, 11, 12] [0] rfl rfl (by decide) (by decide) (by decide) rfl rfl (Nat.le_of_ble_eq_true rfl) dX1_mean_4 ⟨Nat.le_of_ble_eq_true rfl, Nat.le_of_ble_eq_true rfl⟩ (fun r1 W1 z1 => ?_)
  obtain ⟨z0, z1⟩ := z1
  subst z0
  subst z1
  refine xr_ws (ws' := bw h a t ++ (cw yI yZ a K V)) rfl ?_
  refine xr_i2d F dX1_mean_7 ?_
  refine xr_ldc2d F dX1_mean_8 (v := (4618441417868443648)) (List.mem_of_getElem? (i := 2) rfl) ?_
  refine xr_ddiv F dX1_mean_11 h0 ?_
  exact ret _ _ _ _ dX1_mean_12 ⟨rfl, rfl⟩

def rm_X1_mix : Room := { frames := 0, cells := 0, slots := 0, locals := 0 }
set_option maxHeartbeats 4000000 in
set_option maxRecDepth 100000 in
/-- mix -/
theorem k_X1_mix (l : Launch) (D : va_G) (yI yZ yL : ClassId) (d : Int64) (x : Int32)  : xMl l yX1_mix wsX1_mix rm_X1_mix D (tysG yI yZ yL) [] [.long d, .int x] 0 0 (fun (r : Int64) (W1 : va_W) => r = d * 31 + Int32.toInt64 x ∧ W1 = []) := by
  refine xE_l (cc := cX1_mix) (nL := 3) (by decide) rfl (Nat.le_of_ble_eq_true rfl) ?_
  intro p e s m args below meth c A Q F hnm ret
  show AW p l e rm_X1_mix s m args below meth c 3 D A 0 0 Q [] [(0, .long d), (2, .int x)] 0 []
  refine xr_lload_n F dX1_mix_0 rfl 0 rfl ?_
  refine xr_ldc2 F dX1_mix_1 (v := (31)) (List.mem_of_getElem? (i := 1) rfl) ?_
  refine xr_lmul F dX1_mix_4 ?_
  refine xr_iload_n F dX1_mix_5 rfl 1 rfl ?_
  refine xr_i2l F dX1_mix_6 (v := x.toInt64) rfl ?_
  refine xr_ladd F dX1_mix_7 ?_
  refine ret _ _ _ _ dX1_mix_8 ⟨?_, rfl⟩
  first | rfl | (simp only [↓reduceIte]; done) | (simp only [↓reduceIte]; rfl)

def rm_X1_digest : Room := { frames := 5, cells := 0, slots := 0, locals := 113 }
set_option maxHeartbeats 4000000 in
set_option maxRecDepth 100000 in
/-- digest -/
theorem k_X1_digest (l : Launch) (D : va_G) (yI yZ yL : ClassId) (h : Nat) (a t : Nat → Nat) (K : CK) (V : CD)  (h0 : kNb K ≤ 10) : xMl l yX1_digest wsX1_digest rm_X1_digest D (tysG yI yZ yL) (bw h a t ++ (cw yI yZ a K V)) [.ref h] 0 0 (fun (r : Int64) (W1 : va_W) => r = dgA (c_tellW K V) K (c_tellP K V) (c_tellL K V) (c_tellB K V) ∧ W1 = bw h a t ++ (cw yI yZ a K V)) := by
  refine xE_l (cc := cX1_digest) (nL := 5) (by decide) rfl (Nat.le_of_ble_eq_true rfl) ?_
  intro p e s m args below meth c A Q F hnm ret
  have hin0 : ∀ w ∈ u_ws RX0 TX0 18, w ∈ wsX1_digest := by decide +kernel
  have hin1 : ∀ w ∈ u_ws RX1 TX1 2, w ∈ wsX1_digest := by decide +kernel
  show AW p l e rm_X1_digest s m args below meth c 5 D A 0 0 Q (bw h a t ++ (cw yI yZ a K V)) [(0, .ref h)] 0 []
  refine xr_ldc2 F dX1_digest_0 (v := (1453)) (List.mem_of_getElem? (i := 1) rfl) ?_
  refine xr_lstore_n F [(1, .long ((1453))), (0, .ref h)] dX1_digest_3 rfl (by decide) rfl ?_
  refine xr_iconst F dX1_digest_4 (v := 0) (by decide) ?_
  refine xr_istore_n F [(3, .int 0), (1, .long ((1453))), (0, .ref h)] dX1_digest_5 rfl (by decide) rfl ?_
  have lp1 : ∀ (i : Nat) (b : Nat) (d : Int64), i + b = 10 → dgL (c_tellW K V) i b d = dgL (c_tellW K V) 10 0 1453 → AW p l e rm_X1_digest s m args below meth c 5 D A 0 0 Q (bw h a t ++ (cw yI yZ a K V)) [(3, .int (nI b)), (1, .long d), (0, .ref h)] 6 [] := by
    intro i
    induction i with
    | zero =>
      intro b d hb hi1
      refine xr_iload_n F dX1_digest_6 rfl 0 rfl ?_
      refine xr_bipush F dX1_digest_7 (v := 10) (by decide) ?_
      refine xr_icmp_ge F 31 dX1_digest_9 (by decide) (fun c9 => ?_) (fun c9 => ?_)
      · skip
        refine xr_lload_n F dX1_digest_31 rfl 1 rfl ?_
        refine xr_aload_n F dX1_digest_32 rfl 2 rfl ?_
        refine xr_get F hin1 0 rfl rfl 0 (by decide) (List.mem_of_getElem? (i := 2) rfl) (v := .ref (a 0)) rfl dX1_digest_33 ?_
        refine xr_get F hin0 1 rfl rfl 3 (by decide) (List.mem_of_getElem? (i := 3) rfl) (v := .int (kDry K)) rfl dX1_digest_36 ?_
        refine xr_if_eq F 46 dX1_digest_39 (by decide) (fun c39 => ?_) (fun c39 => ?_)
        · skip
          refine xr_iconst F dX1_digest_46 (v := 0) (by decide) ?_
          refine xr_callSl F (wr := bw h a t ++ (cw yI yZ a K V)) (rest := []) (As := [.long d, .int 0]) (k_X1_mix l D yI yZ yL d 0 ) (va_cwS 2 F.hts gX1_digest_X1_mix rfl rfl rfl (by decide +kernel) ⟨Nat.le_of_ble_eq_true rfl, Nat.le_of_ble_eq_true rfl⟩) [] [0, 1, 2, 3, 4, 5, 6, 7, 8, 9, 10, 11, 12] rfl rfl (by decide) (by decide) (by decide) rfl rfl (Nat.le_of_ble_eq_true rfl) dX1_digest_47 ⟨Nat.le_of_ble_eq_true rfl, Nat.le_of_ble_eq_true rfl⟩ (fun r1 W1 z1 => ?_)
          obtain ⟨z0, z1⟩ := z1
          subst z0
          subst z1
          refine xr_ws (ws' := bw h a t ++ (cw yI yZ a K V)) rfl ?_
          refine xr_lstore_n F [(1, .long (d * 31 + Int32.toInt64 0)), (3, .int (nI b)), (0, .ref h)] dX1_digest_50 rfl (by decide) rfl ?_
          refine xr_iconst F dX1_digest_51 (v := 0) (by decide) ?_
          refine xr_istore_n F [(3, .int 0), (1, .long (d * 31 + Int32.toInt64 0)), (0, .ref h)] dX1_digest_52 rfl (by decide) rfl ?_
          have lp3 : ∀ (i : Nat) (b : Nat) (d : Int64), i + b = 8 → dgL (kSpr K) i b d = dgL (kSpr K) 8 0 (dgL (c_tellW K V) 10 0 1453 * 31 + (if kDry K = 0 then (0 : Int32) else 1).toInt64) → AW p l e rm_X1_digest s m args below meth c 5 D A 0 0 Q (bw h a t ++ (cw yI yZ a K V)) [(3, .int (nI b)), (1, .long d), (0, .ref h)] 53 [] := by
            intro i
            induction i with
            | zero =>
              intro b d hb hi3
              refine xr_iload_n F dX1_digest_53 rfl 0 rfl ?_
              refine xr_bipush F dX1_digest_54 (v := 8) (by decide) ?_
              refine xr_icmp_ge F 79 dX1_digest_56 (by decide) (fun c56 => ?_) (fun c56 => ?_)
              · skip
                refine xr_iconst F dX1_digest_79 (v := 0) (by decide) ?_
                refine xr_istore_n F [(3, .int 0), (1, .long d), (0, .ref h)] dX1_digest_80 rfl (by decide) rfl ?_
                have lp4 : ∀ (i : Nat) (b : Nat) (d : Int64), i + b = 6 → dgN (c_tellP K V) 4 i b d = dgN (c_tellP K V) 4 6 0 (dgL (kSpr K) 8 0 (dgL (c_tellW K V) 10 0 1453 * 31 + (if kDry K = 0 then (0 : Int32) else 1).toInt64)) → AW p l e rm_X1_digest s m args below meth c 5 D A 0 0 Q (bw h a t ++ (cw yI yZ a K V)) [(3, .int (nI b)), (1, .long d), (0, .ref h)] 81 [] := by
                  intro i
                  induction i with
                  | zero =>
                    intro b d hb hi4
                    refine xr_iload_n F dX1_digest_81 rfl 0 rfl ?_
                    refine xr_bipush F dX1_digest_82 (v := 6) (by decide) ?_
                    refine xr_icmp_ge F 123 dX1_digest_84 (by decide) (fun c84 => ?_) (fun c84 => ?_)
                    · skip
                      refine xr_iconst F dX1_digest_123 (v := 0) (by decide) ?_
                      refine xr_istore_n F [(3, .int 0), (1, .long d), (0, .ref h)] dX1_digest_124 rfl (by decide) rfl ?_
                      have lp5 : ∀ (i : Nat) (b : Nat) (d : Int64), i + b = 5 → dgN (c_tellL K V) 5 i b d = dgN (c_tellL K V) 5 5 0 (dgN (c_tellP K V) 4 6 0 (dgL (kSpr K) 8 0 (dgL (c_tellW K V) 10 0 1453 * 31 + (if kDry K = 0 then (0 : Int32) else 1).toInt64))) → AW p l e rm_X1_digest s m args below meth c 5 D A 0 0 Q (bw h a t ++ (cw yI yZ a K V)) [(3, .int (nI b)), (1, .long d), (0, .ref h)] 125 [] := by
                        intro i
                        induction i with
                        | zero =>
                          intro b d hb hi5
                          refine xr_iload_n F dX1_digest_125 rfl 0 rfl ?_
                          refine xr_iconst F dX1_digest_126 (v := 5) (by decide) ?_
                          refine xr_icmp_ge F 166 dX1_digest_127 (by decide) (fun c127 => ?_) (fun c127 => ?_)
                          · skip
                            refine xr_iconst F dX1_digest_166 (v := 0) (by decide) ?_
                            refine xr_istore_n F [(3, .int 0), (1, .long d), (0, .ref h)] dX1_digest_167 rfl (by decide) rfl ?_
                            have lp6 : ∀ (i : Nat) (b : Nat) (d : Int64), i + b = kNb K → dgN (c_tellB K V) 5 i b d = dgN (c_tellB K V) 5 (kNb K) 0 (dgN (c_tellL K V) 5 5 0 (dgN (c_tellP K V) 4 6 0 (dgL (kSpr K) 8 0 (dgL (c_tellW K V) 10 0 1453 * 31 + (if kDry K = 0 then (0 : Int32) else 1).toInt64)))) → AW p l e rm_X1_digest s m args below meth c 5 D A 0 0 Q (bw h a t ++ (cw yI yZ a K V)) [(3, .int (nI b)), (1, .long d), (0, .ref h)] 168 [] := by
                              intro i
                              induction i with
                              | zero =>
                                intro b d hb hi6
                                refine xr_iload_n F dX1_digest_168 rfl 0 rfl ?_
                                refine xr_aload_n F dX1_digest_169 rfl 2 rfl ?_
                                refine xr_get F hin1 0 rfl rfl 0 (by decide) (List.mem_of_getElem? (i := 2) rfl) (v := .ref (a 0)) rfl dX1_digest_170 ?_
                                refine xr_get F hin0 1 rfl rfl 13 (by decide) (List.mem_of_getElem? (i := 5) rfl) (v := .int (nI (kNb K))) rfl dX1_digest_173 ?_
                                refine xr_icmp_ge F 215 dX1_digest_176 (by decide) (fun c176 => ?_) (fun c176 => ?_)
                                · skip
                                  refine xr_lload_n F dX1_digest_215 rfl 1 rfl ?_
                                  exact ret _ _ _ _ dX1_digest_216 ⟨hi6, rfl⟩
                                · exact (xk_ge (a := kNb K) (b := b) (by omega) (by omega) c176).elim
                              | succ i ih =>
                                intro b d hb hi6
                                refine xr_iload_n F dX1_digest_168 rfl 0 rfl ?_
                                refine xr_aload_n F dX1_digest_169 rfl 2 rfl ?_
                                refine xr_get F hin1 0 rfl rfl 0 (by decide) (List.mem_of_getElem? (i := 2) rfl) (v := .ref (a 0)) rfl dX1_digest_170 ?_
                                refine xr_get F hin0 1 rfl rfl 13 (by decide) (List.mem_of_getElem? (i := 5) rfl) (v := .int (nI (kNb K))) rfl dX1_digest_173 ?_
                                refine xr_icmp_ge F 215 dX1_digest_176 (by decide) (fun c176 => ?_) (fun c176 => ?_)
                                · exact (xk_nlt (a := b) (b := kNb K) (by omega) (by omega) (by omega) c176).elim
                                · skip
                                  refine xr_iconst F dX1_digest_179 (v := 0) (by decide) ?_
                                  refine xr_istore F [(4, .int 0), (3, .int (nI b)), (1, .long d), (0, .ref h)] dX1_digest_180 (by decide) rfl ?_
                                  have lp6j : ∀ (j : Nat) (w : Nat) (d : Int64), j + w = 5 → dgN (c_tellB K V) 5 i (b + 1) (dgL (c_tellB K V b) j w d) = dgN (c_tellB K V) 5 (kNb K) 0 (dgN (c_tellL K V) 5 5 0 (dgN (c_tellP K V) 4 6 0 (dgL (kSpr K) 8 0 (dgL (c_tellW K V) 10 0 1453 * 31 + (if kDry K = 0 then (0 : Int32) else 1).toInt64)))) → AW p l e rm_X1_digest s m args below meth c 5 D A 0 0 Q (bw h a t ++ (cw yI yZ a K V)) [(4, .int (nI w)), (3, .int (nI b)), (1, .long d), (0, .ref h)] 182 [] := by
                                    intro j
                                    induction j with
                                    | zero =>
                                      intro w d hbj hi6j
                                      refine xr_iload F dX1_digest_182 0 rfl ?_
                                      refine xr_iconst F dX1_digest_184 (v := 5) (by decide) ?_
                                      refine xr_icmp_ge F 209 dX1_digest_185 (by decide) (fun c185 => ?_) (fun c185 => ?_)
                                      · skip
                                        refine xr_iinc F (nI (b + 1)) [(3, .int (nI (b + 1))), (4, .int (nI w)), (1, .long d), (0, .ref h)] dX1_digest_209 1 rfl (nI_add b 1) (by decide) rfl ?_
                                        refine xr_goto F 168 dX1_digest_212 (by decide) ?_
                                        refine xr_lv (lv' := [(3, .int (nI (b + 1))), (1, .long d), (0, .ref h)]) [0, 2, 3] rfl ?_
                                        exact ih (b + 1) d (by omega) hi6j
                                      · exact (xk_ge (a := 5) (b := w) (by omega) (by omega) c185).elim
                                    | succ j ih =>
                                      intro w d hbj hi6j
                                      refine xr_iload F dX1_digest_182 0 rfl ?_
                                      refine xr_iconst F dX1_digest_184 (v := 5) (by decide) ?_
                                      refine xr_icmp_ge F 209 dX1_digest_185 (by decide) (fun c185 => ?_) (fun c185 => ?_)
                                      · exact (xk_nlt (a := w) (b := 5) (by omega) (by omega) (by omega) c185).elim
                                      · skip
                                        refine xr_lload_n F dX1_digest_188 rfl 2 rfl ?_
                                        refine xr_aload_n F dX1_digest_189 rfl 3 rfl ?_
                                        refine xr_get F hin1 0 rfl rfl 0 (by decide) (List.mem_of_getElem? (i := 2) rfl) (v := .ref (a 0)) rfl dX1_digest_190 ?_
                                        refine xr_iload_n F dX1_digest_193 rfl 1 rfl ?_
                                        refine xr_iload F dX1_digest_194 0 rfl ?_
                                        refine xr_callVi F (wr := bw h a t) (rest := [.long d]) (As := [.int (nI b), .int (nI w)]) (k_X0_tellBarge l D yI yZ yL a K V b w (by omega) (by omega)) (cwV 2 F.hts gX1_digest_X0_tellBarge rfl rfl rfl (by decide +kernel) ⟨Nat.le_of_ble_eq_true rfl, Nat.le_of_ble_eq_true rfl⟩) (q0 := 0) rfl rfl [1, 2, 3, 4, 5, 6, 7, 8, 9, 10, 11, 12] [0] rfl rfl (by decide) (by decide) (by decide) rfl rfl (Nat.le_of_ble_eq_true rfl) dX1_digest_196 ⟨Nat.le_of_ble_eq_true rfl, Nat.le_of_ble_eq_true rfl⟩ (fun r1 W1 z1 => ?_)
                                        obtain ⟨z0, z1⟩ := z1
                                        subst z0
                                        subst z1
                                        refine xr_ws (ws' := bw h a t ++ (cw yI yZ a K V)) rfl ?_
                                        refine xr_callSl F (wr := bw h a t ++ (cw yI yZ a K V)) (rest := []) (As := [.long d, .int (c_tellB K V b w)]) (k_X1_mix l D yI yZ yL d (c_tellB K V b w) ) (va_cwS 2 F.hts gX1_digest_X1_mix rfl rfl rfl (by decide +kernel) ⟨Nat.le_of_ble_eq_true rfl, Nat.le_of_ble_eq_true rfl⟩) [] [0, 1, 2, 3, 4, 5, 6, 7, 8, 9, 10, 11, 12] rfl rfl (by decide) (by decide) (by decide) rfl rfl (Nat.le_of_ble_eq_true rfl) dX1_digest_199 ⟨Nat.le_of_ble_eq_true rfl, Nat.le_of_ble_eq_true rfl⟩ (fun r1 W1 z1 => ?_)
                                        obtain ⟨z0, z1⟩ := z1
                                        subst z0
                                        subst z1
                                        refine xr_ws (ws' := bw h a t ++ (cw yI yZ a K V)) rfl ?_
                                        refine xr_lstore_n F [(1, .long (d * 31 + Int32.toInt64 (c_tellB K V b w))), (4, .int (nI w)), (3, .int (nI b)), (0, .ref h)] dX1_digest_202 rfl (by decide) rfl ?_
                                        refine xr_iinc F (nI (w + 1)) [(4, .int (nI (w + 1))), (1, .long (d * 31 + Int32.toInt64 (c_tellB K V b w))), (3, .int (nI b)), (0, .ref h)] dX1_digest_203 1 rfl (nI_add w 1) (by decide) rfl ?_
                                        refine xr_goto F 182 dX1_digest_206 (by decide) ?_
                                        refine xr_lv (lv' := [(4, .int (nI (w + 1))), (3, .int (nI b)), (1, .long (d * 31 + Int32.toInt64 (c_tellB K V b w))), (0, .ref h)]) [0, 2, 1, 3] rfl ?_
                                        exact ih (w + 1) (d * 31 + Int32.toInt64 (c_tellB K V b w)) (by omega) (by rw [← hi6j]; simp only [dgL])
                                  refine xr_lv (lv' := [(4, .int 0), (3, .int (nI b)), (1, .long d), (0, .ref h)]) [0, 1, 2, 3] rfl ?_
                                  exact lp6j 5 0 d rfl hi6
                            refine xr_lv (lv' := [(3, .int 0), (1, .long d), (0, .ref h)]) [0, 1, 2] rfl ?_
                            exact lp6 (kNb K) 0 d rfl (by rw [show d = dgN (c_tellL K V) 5 5 0 (dgN (c_tellP K V) 4 6 0 (dgL (kSpr K) 8 0 (dgL (c_tellW K V) 10 0 1453 * 31 + (if kDry K = 0 then (0 : Int32) else 1).toInt64))) from hi5])
                          · exact (xk_ge (a := 5) (b := b) (by omega) (by omega) c127).elim
                        | succ i ih =>
                          intro b d hb hi5
                          refine xr_iload_n F dX1_digest_125 rfl 0 rfl ?_
                          refine xr_iconst F dX1_digest_126 (v := 5) (by decide) ?_
                          refine xr_icmp_ge F 166 dX1_digest_127 (by decide) (fun c127 => ?_) (fun c127 => ?_)
                          · exact (xk_nlt (a := b) (b := 5) (by omega) (by omega) (by omega) c127).elim
                          · skip
                            refine xr_iconst F dX1_digest_130 (v := 0) (by decide) ?_
                            refine xr_istore F [(4, .int 0), (3, .int (nI b)), (1, .long d), (0, .ref h)] dX1_digest_131 (by decide) rfl ?_
                            have lp5j : ∀ (j : Nat) (w : Nat) (d : Int64), j + w = 5 → dgN (c_tellL K V) 5 i (b + 1) (dgL (c_tellL K V b) j w d) = dgN (c_tellL K V) 5 5 0 (dgN (c_tellP K V) 4 6 0 (dgL (kSpr K) 8 0 (dgL (c_tellW K V) 10 0 1453 * 31 + (if kDry K = 0 then (0 : Int32) else 1).toInt64))) → AW p l e rm_X1_digest s m args below meth c 5 D A 0 0 Q (bw h a t ++ (cw yI yZ a K V)) [(4, .int (nI w)), (3, .int (nI b)), (1, .long d), (0, .ref h)] 133 [] := by
                              intro j
                              induction j with
                              | zero =>
                                intro w d hbj hi5j
                                refine xr_iload F dX1_digest_133 0 rfl ?_
                                refine xr_iconst F dX1_digest_135 (v := 5) (by decide) ?_
                                refine xr_icmp_ge F 160 dX1_digest_136 (by decide) (fun c136 => ?_) (fun c136 => ?_)
                                · skip
                                  refine xr_iinc F (nI (b + 1)) [(3, .int (nI (b + 1))), (4, .int (nI w)), (1, .long d), (0, .ref h)] dX1_digest_160 1 rfl (nI_add b 1) (by decide) rfl ?_
                                  refine xr_goto F 125 dX1_digest_163 (by decide) ?_
                                  refine xr_lv (lv' := [(3, .int (nI (b + 1))), (1, .long d), (0, .ref h)]) [0, 2, 3] rfl ?_
                                  exact ih (b + 1) d (by omega) hi5j
                                · exact (xk_ge (a := 5) (b := w) (by omega) (by omega) c136).elim
                              | succ j ih =>
                                intro w d hbj hi5j
                                refine xr_iload F dX1_digest_133 0 rfl ?_
                                refine xr_iconst F dX1_digest_135 (v := 5) (by decide) ?_
                                refine xr_icmp_ge F 160 dX1_digest_136 (by decide) (fun c136 => ?_) (fun c136 => ?_)
                                · exact (xk_nlt (a := w) (b := 5) (by omega) (by omega) (by omega) c136).elim
                                · skip
                                  refine xr_lload_n F dX1_digest_139 rfl 2 rfl ?_
                                  refine xr_aload_n F dX1_digest_140 rfl 3 rfl ?_
                                  refine xr_get F hin1 0 rfl rfl 0 (by decide) (List.mem_of_getElem? (i := 2) rfl) (v := .ref (a 0)) rfl dX1_digest_141 ?_
                                  refine xr_iload_n F dX1_digest_144 rfl 1 rfl ?_
                                  refine xr_iload F dX1_digest_145 0 rfl ?_
                                  refine xr_callVi F (wr := bw h a t) (rest := [.long d]) (As := [.int (nI b), .int (nI w)]) (k_X0_tellLock l D yI yZ yL a K V b w (by omega) (by omega) (by assumption)) (cwV 2 F.hts gX1_digest_X0_tellLock rfl rfl rfl (by decide +kernel) ⟨Nat.le_of_ble_eq_true rfl, Nat.le_of_ble_eq_true rfl⟩) (q0 := 0) rfl rfl [1, 2, 3, 4, 5, 6, 7, 8, 9, 10, 11, 12] [0] rfl rfl (by decide) (by decide) (by decide) rfl rfl (Nat.le_of_ble_eq_true rfl) dX1_digest_147 ⟨Nat.le_of_ble_eq_true rfl, Nat.le_of_ble_eq_true rfl⟩ (fun r1 W1 z1 => ?_)
                                  obtain ⟨z0, z1⟩ := z1
                                  subst z0
                                  subst z1
                                  refine xr_ws (ws' := bw h a t ++ (cw yI yZ a K V)) rfl ?_
                                  refine xr_callSl F (wr := bw h a t ++ (cw yI yZ a K V)) (rest := []) (As := [.long d, .int (c_tellL K V b w)]) (k_X1_mix l D yI yZ yL d (c_tellL K V b w) ) (va_cwS 2 F.hts gX1_digest_X1_mix rfl rfl rfl (by decide +kernel) ⟨Nat.le_of_ble_eq_true rfl, Nat.le_of_ble_eq_true rfl⟩) [] [0, 1, 2, 3, 4, 5, 6, 7, 8, 9, 10, 11, 12] rfl rfl (by decide) (by decide) (by decide) rfl rfl (Nat.le_of_ble_eq_true rfl) dX1_digest_150 ⟨Nat.le_of_ble_eq_true rfl, Nat.le_of_ble_eq_true rfl⟩ (fun r1 W1 z1 => ?_)
                                  obtain ⟨z0, z1⟩ := z1
                                  subst z0
                                  subst z1
                                  refine xr_ws (ws' := bw h a t ++ (cw yI yZ a K V)) rfl ?_
                                  refine xr_lstore_n F [(1, .long (d * 31 + Int32.toInt64 (c_tellL K V b w))), (4, .int (nI w)), (3, .int (nI b)), (0, .ref h)] dX1_digest_153 rfl (by decide) rfl ?_
                                  refine xr_iinc F (nI (w + 1)) [(4, .int (nI (w + 1))), (1, .long (d * 31 + Int32.toInt64 (c_tellL K V b w))), (3, .int (nI b)), (0, .ref h)] dX1_digest_154 1 rfl (nI_add w 1) (by decide) rfl ?_
                                  refine xr_goto F 133 dX1_digest_157 (by decide) ?_
                                  refine xr_lv (lv' := [(4, .int (nI (w + 1))), (3, .int (nI b)), (1, .long (d * 31 + Int32.toInt64 (c_tellL K V b w))), (0, .ref h)]) [0, 2, 1, 3] rfl ?_
                                  exact ih (w + 1) (d * 31 + Int32.toInt64 (c_tellL K V b w)) (by omega) (by rw [← hi5j]; simp only [dgL])
                            refine xr_lv (lv' := [(4, .int 0), (3, .int (nI b)), (1, .long d), (0, .ref h)]) [0, 1, 2, 3] rfl ?_
                            exact lp5j 5 0 d rfl hi5
                      refine xr_lv (lv' := [(3, .int 0), (1, .long d), (0, .ref h)]) [0, 1, 2] rfl ?_
                      exact lp5 5 0 d rfl (by rw [show d = dgN (c_tellP K V) 4 6 0 (dgL (kSpr K) 8 0 (dgL (c_tellW K V) 10 0 1453 * 31 + (if kDry K = 0 then (0 : Int32) else 1).toInt64)) from hi4])
                    · exact (xk_ge (a := 6) (b := b) (by omega) (by omega) c84).elim
                  | succ i ih =>
                    intro b d hb hi4
                    refine xr_iload_n F dX1_digest_81 rfl 0 rfl ?_
                    refine xr_bipush F dX1_digest_82 (v := 6) (by decide) ?_
                    refine xr_icmp_ge F 123 dX1_digest_84 (by decide) (fun c84 => ?_) (fun c84 => ?_)
                    · exact (xk_nlt (a := b) (b := 6) (by omega) (by omega) (by omega) c84).elim
                    · skip
                      refine xr_iconst F dX1_digest_87 (v := 0) (by decide) ?_
                      refine xr_istore F [(4, .int 0), (3, .int (nI b)), (1, .long d), (0, .ref h)] dX1_digest_88 (by decide) rfl ?_
                      have lp4j : ∀ (j : Nat) (w : Nat) (d : Int64), j + w = 4 → dgN (c_tellP K V) 4 i (b + 1) (dgL (c_tellP K V b) j w d) = dgN (c_tellP K V) 4 6 0 (dgL (kSpr K) 8 0 (dgL (c_tellW K V) 10 0 1453 * 31 + (if kDry K = 0 then (0 : Int32) else 1).toInt64)) → AW p l e rm_X1_digest s m args below meth c 5 D A 0 0 Q (bw h a t ++ (cw yI yZ a K V)) [(4, .int (nI w)), (3, .int (nI b)), (1, .long d), (0, .ref h)] 90 [] := by
                        intro j
                        induction j with
                        | zero =>
                          intro w d hbj hi4j
                          refine xr_iload F dX1_digest_90 0 rfl ?_
                          refine xr_iconst F dX1_digest_92 (v := 4) (by decide) ?_
                          refine xr_icmp_ge F 117 dX1_digest_93 (by decide) (fun c93 => ?_) (fun c93 => ?_)
                          · skip
                            refine xr_iinc F (nI (b + 1)) [(3, .int (nI (b + 1))), (4, .int (nI w)), (1, .long d), (0, .ref h)] dX1_digest_117 1 rfl (nI_add b 1) (by decide) rfl ?_
                            refine xr_goto F 81 dX1_digest_120 (by decide) ?_
                            refine xr_lv (lv' := [(3, .int (nI (b + 1))), (1, .long d), (0, .ref h)]) [0, 2, 3] rfl ?_
                            exact ih (b + 1) d (by omega) hi4j
                          · exact (xk_ge (a := 4) (b := w) (by omega) (by omega) c93).elim
                        | succ j ih =>
                          intro w d hbj hi4j
                          refine xr_iload F dX1_digest_90 0 rfl ?_
                          refine xr_iconst F dX1_digest_92 (v := 4) (by decide) ?_
                          refine xr_icmp_ge F 117 dX1_digest_93 (by decide) (fun c93 => ?_) (fun c93 => ?_)
                          · exact (xk_nlt (a := w) (b := 4) (by omega) (by omega) (by omega) c93).elim
                          · skip
                            refine xr_lload_n F dX1_digest_96 rfl 2 rfl ?_
                            refine xr_aload_n F dX1_digest_97 rfl 3 rfl ?_
                            refine xr_get F hin1 0 rfl rfl 0 (by decide) (List.mem_of_getElem? (i := 2) rfl) (v := .ref (a 0)) rfl dX1_digest_98 ?_
                            refine xr_iload_n F dX1_digest_101 rfl 1 rfl ?_
                            refine xr_iload F dX1_digest_102 0 rfl ?_
                            refine xr_callVi F (wr := bw h a t) (rest := [.long d]) (As := [.int (nI b), .int (nI w)]) (k_X0_tellPound l D yI yZ yL a K V b w (by omega) (by omega) (by assumption)) (cwV 2 F.hts gX1_digest_X0_tellPound rfl rfl rfl (by decide +kernel) ⟨Nat.le_of_ble_eq_true rfl, Nat.le_of_ble_eq_true rfl⟩) (q0 := 0) rfl rfl [1, 2, 3, 4, 5, 6, 7, 8, 9, 10, 11, 12] [0] rfl rfl (by decide) (by decide) (by decide) rfl rfl (Nat.le_of_ble_eq_true rfl) dX1_digest_104 ⟨Nat.le_of_ble_eq_true rfl, Nat.le_of_ble_eq_true rfl⟩ (fun r1 W1 z1 => ?_)
                            obtain ⟨z0, z1⟩ := z1
                            subst z0
                            subst z1
                            refine xr_ws (ws' := bw h a t ++ (cw yI yZ a K V)) rfl ?_
                            refine xr_callSl F (wr := bw h a t ++ (cw yI yZ a K V)) (rest := []) (As := [.long d, .int (c_tellP K V b w)]) (k_X1_mix l D yI yZ yL d (c_tellP K V b w) ) (va_cwS 2 F.hts gX1_digest_X1_mix rfl rfl rfl (by decide +kernel) ⟨Nat.le_of_ble_eq_true rfl, Nat.le_of_ble_eq_true rfl⟩) [] [0, 1, 2, 3, 4, 5, 6, 7, 8, 9, 10, 11, 12] rfl rfl (by decide) (by decide) (by decide) rfl rfl (Nat.le_of_ble_eq_true rfl) dX1_digest_107 ⟨Nat.le_of_ble_eq_true rfl, Nat.le_of_ble_eq_true rfl⟩ (fun r1 W1 z1 => ?_)
                            obtain ⟨z0, z1⟩ := z1
                            subst z0
                            subst z1
                            refine xr_ws (ws' := bw h a t ++ (cw yI yZ a K V)) rfl ?_
                            refine xr_lstore_n F [(1, .long (d * 31 + Int32.toInt64 (c_tellP K V b w))), (4, .int (nI w)), (3, .int (nI b)), (0, .ref h)] dX1_digest_110 rfl (by decide) rfl ?_
                            refine xr_iinc F (nI (w + 1)) [(4, .int (nI (w + 1))), (1, .long (d * 31 + Int32.toInt64 (c_tellP K V b w))), (3, .int (nI b)), (0, .ref h)] dX1_digest_111 1 rfl (nI_add w 1) (by decide) rfl ?_
                            refine xr_goto F 90 dX1_digest_114 (by decide) ?_
                            refine xr_lv (lv' := [(4, .int (nI (w + 1))), (3, .int (nI b)), (1, .long (d * 31 + Int32.toInt64 (c_tellP K V b w))), (0, .ref h)]) [0, 2, 1, 3] rfl ?_
                            exact ih (w + 1) (d * 31 + Int32.toInt64 (c_tellP K V b w)) (by omega) (by rw [← hi4j]; simp only [dgL])
                      refine xr_lv (lv' := [(4, .int 0), (3, .int (nI b)), (1, .long d), (0, .ref h)]) [0, 1, 2, 3] rfl ?_
                      exact lp4j 4 0 d rfl hi4
                refine xr_lv (lv' := [(3, .int 0), (1, .long d), (0, .ref h)]) [0, 1, 2] rfl ?_
                exact lp4 6 0 d rfl (by rw [show d = dgL (kSpr K) 8 0 (dgL (c_tellW K V) 10 0 1453 * 31 + (if kDry K = 0 then (0 : Int32) else 1).toInt64) from hi3])
              · exact (xk_ge (a := 8) (b := b) (by omega) (by omega) c56).elim
            | succ i ih =>
              intro b d hb hi3
              refine xr_iload_n F dX1_digest_53 rfl 0 rfl ?_
              refine xr_bipush F dX1_digest_54 (v := 8) (by decide) ?_
              refine xr_icmp_ge F 79 dX1_digest_56 (by decide) (fun c56 => ?_) (fun c56 => ?_)
              · exact (xk_nlt (a := b) (b := 8) (by omega) (by omega) (by omega) c56).elim
              · skip
                refine xr_lload_n F dX1_digest_59 rfl 1 rfl ?_
                refine xr_aload_n F dX1_digest_60 rfl 2 rfl ?_
                refine xr_get F hin1 0 rfl rfl 0 (by decide) (List.mem_of_getElem? (i := 2) rfl) (v := .ref (a 0)) rfl dX1_digest_61 ?_
                refine xr_get F hin0 1 rfl rfl 6 (by decide) (List.mem_of_getElem? (i := 4) rfl) (v := .ref (a 1)) rfl dX1_digest_64 ?_
                refine xr_iload_n F dX1_digest_67 rfl 0 rfl ?_
                refine xr_iald F 2 0 rfl rfl (b) rfl (by omega) (by decide) dX1_digest_68 ?_
                refine xr_callSl F (wr := bw h a t ++ (cw yI yZ a K V)) (rest := []) (As := [.long d, .int ((kSpr K) b)]) (k_X1_mix l D yI yZ yL d ((kSpr K) b) ) (va_cwS 2 F.hts gX1_digest_X1_mix rfl rfl rfl (by decide +kernel) ⟨Nat.le_of_ble_eq_true rfl, Nat.le_of_ble_eq_true rfl⟩) [] [0, 1, 2, 3, 4, 5, 6, 7, 8, 9, 10, 11, 12] rfl rfl (by decide) (by decide) (by decide) rfl rfl (Nat.le_of_ble_eq_true rfl) dX1_digest_69 ⟨Nat.le_of_ble_eq_true rfl, Nat.le_of_ble_eq_true rfl⟩ (fun r1 W1 z1 => ?_)
                obtain ⟨z0, z1⟩ := z1
                subst z0
                subst z1
                refine xr_ws (ws' := bw h a t ++ (cw yI yZ a K V)) rfl ?_
                refine xr_lstore_n F [(1, .long (d * 31 + Int32.toInt64 ((kSpr K) b))), (3, .int (nI b)), (0, .ref h)] dX1_digest_72 rfl (by decide) rfl ?_
                refine xr_iinc F (nI (b + 1)) [(3, .int (nI (b + 1))), (1, .long (d * 31 + Int32.toInt64 ((kSpr K) b))), (0, .ref h)] dX1_digest_73 1 rfl (nI_add b 1) (by decide) rfl ?_
                refine xr_goto F 53 dX1_digest_76 (by decide) ?_
                refine xr_lv (lv' := [(3, .int (nI (b + 1))), (1, .long (d * 31 + Int32.toInt64 ((kSpr K) b))), (0, .ref h)]) [0, 1, 2] rfl ?_
                exact ih (b + 1) (d * 31 + Int32.toInt64 ((kSpr K) b)) (by omega) (by rw [← hi3]; simp only [dgL])
          refine xr_lv (lv' := [(3, .int 0), (1, .long (d * 31 + Int32.toInt64 0)), (0, .ref h)]) [0, 1, 2] rfl ?_
          exact lp3 8 0 (d * 31 + Int32.toInt64 0) rfl (by rw [show d = dgL (c_tellW K V) 10 0 1453 from hi1, if_pos c39])
        · skip
          refine xr_iconst F dX1_digest_42 (v := 1) (by decide) ?_
          refine xr_goto F 47 dX1_digest_43 (by decide) ?_
          refine xr_callSl F (wr := bw h a t ++ (cw yI yZ a K V)) (rest := []) (As := [.long d, .int 1]) (k_X1_mix l D yI yZ yL d 1 ) (va_cwS 2 F.hts gX1_digest_X1_mix rfl rfl rfl (by decide +kernel) ⟨Nat.le_of_ble_eq_true rfl, Nat.le_of_ble_eq_true rfl⟩) [] [0, 1, 2, 3, 4, 5, 6, 7, 8, 9, 10, 11, 12] rfl rfl (by decide) (by decide) (by decide) rfl rfl (Nat.le_of_ble_eq_true rfl) dX1_digest_47 ⟨Nat.le_of_ble_eq_true rfl, Nat.le_of_ble_eq_true rfl⟩ (fun r1 W1 z1 => ?_)
          obtain ⟨z0, z1⟩ := z1
          subst z0
          subst z1
          refine xr_ws (ws' := bw h a t ++ (cw yI yZ a K V)) rfl ?_
          refine xr_lstore_n F [(1, .long (d * 31 + Int32.toInt64 1)), (3, .int (nI b)), (0, .ref h)] dX1_digest_50 rfl (by decide) rfl ?_
          refine xr_iconst F dX1_digest_51 (v := 0) (by decide) ?_
          refine xr_istore_n F [(3, .int 0), (1, .long (d * 31 + Int32.toInt64 1)), (0, .ref h)] dX1_digest_52 rfl (by decide) rfl ?_
          have lp3 : ∀ (i : Nat) (b : Nat) (d : Int64), i + b = 8 → dgL (kSpr K) i b d = dgL (kSpr K) 8 0 (dgL (c_tellW K V) 10 0 1453 * 31 + (if kDry K = 0 then (0 : Int32) else 1).toInt64) → AW p l e rm_X1_digest s m args below meth c 5 D A 0 0 Q (bw h a t ++ (cw yI yZ a K V)) [(3, .int (nI b)), (1, .long d), (0, .ref h)] 53 [] := by
            intro i
            induction i with
            | zero =>
              intro b d hb hi3
              refine xr_iload_n F dX1_digest_53 rfl 0 rfl ?_
              refine xr_bipush F dX1_digest_54 (v := 8) (by decide) ?_
              refine xr_icmp_ge F 79 dX1_digest_56 (by decide) (fun c56 => ?_) (fun c56 => ?_)
              · skip
                refine xr_iconst F dX1_digest_79 (v := 0) (by decide) ?_
                refine xr_istore_n F [(3, .int 0), (1, .long d), (0, .ref h)] dX1_digest_80 rfl (by decide) rfl ?_
                have lp4 : ∀ (i : Nat) (b : Nat) (d : Int64), i + b = 6 → dgN (c_tellP K V) 4 i b d = dgN (c_tellP K V) 4 6 0 (dgL (kSpr K) 8 0 (dgL (c_tellW K V) 10 0 1453 * 31 + (if kDry K = 0 then (0 : Int32) else 1).toInt64)) → AW p l e rm_X1_digest s m args below meth c 5 D A 0 0 Q (bw h a t ++ (cw yI yZ a K V)) [(3, .int (nI b)), (1, .long d), (0, .ref h)] 81 [] := by
                  intro i
                  induction i with
                  | zero =>
                    intro b d hb hi4
                    refine xr_iload_n F dX1_digest_81 rfl 0 rfl ?_
                    refine xr_bipush F dX1_digest_82 (v := 6) (by decide) ?_
                    refine xr_icmp_ge F 123 dX1_digest_84 (by decide) (fun c84 => ?_) (fun c84 => ?_)
                    · skip
                      refine xr_iconst F dX1_digest_123 (v := 0) (by decide) ?_
                      refine xr_istore_n F [(3, .int 0), (1, .long d), (0, .ref h)] dX1_digest_124 rfl (by decide) rfl ?_
                      have lp5 : ∀ (i : Nat) (b : Nat) (d : Int64), i + b = 5 → dgN (c_tellL K V) 5 i b d = dgN (c_tellL K V) 5 5 0 (dgN (c_tellP K V) 4 6 0 (dgL (kSpr K) 8 0 (dgL (c_tellW K V) 10 0 1453 * 31 + (if kDry K = 0 then (0 : Int32) else 1).toInt64))) → AW p l e rm_X1_digest s m args below meth c 5 D A 0 0 Q (bw h a t ++ (cw yI yZ a K V)) [(3, .int (nI b)), (1, .long d), (0, .ref h)] 125 [] := by
                        intro i
                        induction i with
                        | zero =>
                          intro b d hb hi5
                          refine xr_iload_n F dX1_digest_125 rfl 0 rfl ?_
                          refine xr_iconst F dX1_digest_126 (v := 5) (by decide) ?_
                          refine xr_icmp_ge F 166 dX1_digest_127 (by decide) (fun c127 => ?_) (fun c127 => ?_)
                          · skip
                            refine xr_iconst F dX1_digest_166 (v := 0) (by decide) ?_
                            refine xr_istore_n F [(3, .int 0), (1, .long d), (0, .ref h)] dX1_digest_167 rfl (by decide) rfl ?_
                            have lp6 : ∀ (i : Nat) (b : Nat) (d : Int64), i + b = kNb K → dgN (c_tellB K V) 5 i b d = dgN (c_tellB K V) 5 (kNb K) 0 (dgN (c_tellL K V) 5 5 0 (dgN (c_tellP K V) 4 6 0 (dgL (kSpr K) 8 0 (dgL (c_tellW K V) 10 0 1453 * 31 + (if kDry K = 0 then (0 : Int32) else 1).toInt64)))) → AW p l e rm_X1_digest s m args below meth c 5 D A 0 0 Q (bw h a t ++ (cw yI yZ a K V)) [(3, .int (nI b)), (1, .long d), (0, .ref h)] 168 [] := by
                              intro i
                              induction i with
                              | zero =>
                                intro b d hb hi6
                                refine xr_iload_n F dX1_digest_168 rfl 0 rfl ?_
                                refine xr_aload_n F dX1_digest_169 rfl 2 rfl ?_
                                refine xr_get F hin1 0 rfl rfl 0 (by decide) (List.mem_of_getElem? (i := 2) rfl) (v := .ref (a 0)) rfl dX1_digest_170 ?_
                                refine xr_get F hin0 1 rfl rfl 13 (by decide) (List.mem_of_getElem? (i := 5) rfl) (v := .int (nI (kNb K))) rfl dX1_digest_173 ?_
                                refine xr_icmp_ge F 215 dX1_digest_176 (by decide) (fun c176 => ?_) (fun c176 => ?_)
                                · skip
                                  refine xr_lload_n F dX1_digest_215 rfl 1 rfl ?_
                                  exact ret _ _ _ _ dX1_digest_216 ⟨hi6, rfl⟩
                                · exact (xk_ge (a := kNb K) (b := b) (by omega) (by omega) c176).elim
                              | succ i ih =>
                                intro b d hb hi6
                                refine xr_iload_n F dX1_digest_168 rfl 0 rfl ?_
                                refine xr_aload_n F dX1_digest_169 rfl 2 rfl ?_
                                refine xr_get F hin1 0 rfl rfl 0 (by decide) (List.mem_of_getElem? (i := 2) rfl) (v := .ref (a 0)) rfl dX1_digest_170 ?_
                                refine xr_get F hin0 1 rfl rfl 13 (by decide) (List.mem_of_getElem? (i := 5) rfl) (v := .int (nI (kNb K))) rfl dX1_digest_173 ?_
                                refine xr_icmp_ge F 215 dX1_digest_176 (by decide) (fun c176 => ?_) (fun c176 => ?_)
                                · exact (xk_nlt (a := b) (b := kNb K) (by omega) (by omega) (by omega) c176).elim
                                · skip
                                  refine xr_iconst F dX1_digest_179 (v := 0) (by decide) ?_
                                  refine xr_istore F [(4, .int 0), (3, .int (nI b)), (1, .long d), (0, .ref h)] dX1_digest_180 (by decide) rfl ?_
                                  have lp6j : ∀ (j : Nat) (w : Nat) (d : Int64), j + w = 5 → dgN (c_tellB K V) 5 i (b + 1) (dgL (c_tellB K V b) j w d) = dgN (c_tellB K V) 5 (kNb K) 0 (dgN (c_tellL K V) 5 5 0 (dgN (c_tellP K V) 4 6 0 (dgL (kSpr K) 8 0 (dgL (c_tellW K V) 10 0 1453 * 31 + (if kDry K = 0 then (0 : Int32) else 1).toInt64)))) → AW p l e rm_X1_digest s m args below meth c 5 D A 0 0 Q (bw h a t ++ (cw yI yZ a K V)) [(4, .int (nI w)), (3, .int (nI b)), (1, .long d), (0, .ref h)] 182 [] := by
                                    intro j
                                    induction j with
                                    | zero =>
                                      intro w d hbj hi6j
                                      refine xr_iload F dX1_digest_182 0 rfl ?_
                                      refine xr_iconst F dX1_digest_184 (v := 5) (by decide) ?_
                                      refine xr_icmp_ge F 209 dX1_digest_185 (by decide) (fun c185 => ?_) (fun c185 => ?_)
                                      · skip
                                        refine xr_iinc F (nI (b + 1)) [(3, .int (nI (b + 1))), (4, .int (nI w)), (1, .long d), (0, .ref h)] dX1_digest_209 1 rfl (nI_add b 1) (by decide) rfl ?_
                                        refine xr_goto F 168 dX1_digest_212 (by decide) ?_
                                        refine xr_lv (lv' := [(3, .int (nI (b + 1))), (1, .long d), (0, .ref h)]) [0, 2, 3] rfl ?_
                                        exact ih (b + 1) d (by omega) hi6j
                                      · exact (xk_ge (a := 5) (b := w) (by omega) (by omega) c185).elim
                                    | succ j ih =>
                                      intro w d hbj hi6j
                                      refine xr_iload F dX1_digest_182 0 rfl ?_
                                      refine xr_iconst F dX1_digest_184 (v := 5) (by decide) ?_
                                      refine xr_icmp_ge F 209 dX1_digest_185 (by decide) (fun c185 => ?_) (fun c185 => ?_)
                                      · exact (xk_nlt (a := w) (b := 5) (by omega) (by omega) (by omega) c185).elim
                                      · skip
                                        refine xr_lload_n F dX1_digest_188 rfl 2 rfl ?_
                                        refine xr_aload_n F dX1_digest_189 rfl 3 rfl ?_
                                        refine xr_get F hin1 0 rfl rfl 0 (by decide) (List.mem_of_getElem? (i := 2) rfl) (v := .ref (a 0)) rfl dX1_digest_190 ?_
                                        refine xr_iload_n F dX1_digest_193 rfl 1 rfl ?_
                                        refine xr_iload F dX1_digest_194 0 rfl ?_
                                        refine xr_callVi F (wr := bw h a t) (rest := [.long d]) (As := [.int (nI b), .int (nI w)]) (k_X0_tellBarge l D yI yZ yL a K V b w (by omega) (by omega)) (cwV 2 F.hts gX1_digest_X0_tellBarge rfl rfl rfl (by decide +kernel) ⟨Nat.le_of_ble_eq_true rfl, Nat.le_of_ble_eq_true rfl⟩) (q0 := 0) rfl rfl [1, 2, 3, 4, 5, 6, 7, 8, 9, 10, 11, 12] [0] rfl rfl (by decide) (by decide) (by decide) rfl rfl (Nat.le_of_ble_eq_true rfl) dX1_digest_196 ⟨Nat.le_of_ble_eq_true rfl, Nat.le_of_ble_eq_true rfl⟩ (fun r1 W1 z1 => ?_)
                                        obtain ⟨z0, z1⟩ := z1
                                        subst z0
                                        subst z1
                                        refine xr_ws (ws' := bw h a t ++ (cw yI yZ a K V)) rfl ?_
                                        refine xr_callSl F (wr := bw h a t ++ (cw yI yZ a K V)) (rest := []) (As := [.long d, .int (c_tellB K V b w)]) (k_X1_mix l D yI yZ yL d (c_tellB K V b w) ) (va_cwS 2 F.hts gX1_digest_X1_mix rfl rfl rfl (by decide +kernel) ⟨Nat.le_of_ble_eq_true rfl, Nat.le_of_ble_eq_true rfl⟩) [] [0, 1, 2, 3, 4, 5, 6, 7, 8, 9, 10, 11, 12] rfl rfl (by decide) (by decide) (by decide) rfl rfl (Nat.le_of_ble_eq_true rfl) dX1_digest_199 ⟨Nat.le_of_ble_eq_true rfl, Nat.le_of_ble_eq_true rfl⟩ (fun r1 W1 z1 => ?_)
                                        obtain ⟨z0, z1⟩ := z1
                                        subst z0
                                        subst z1
                                        refine xr_ws (ws' := bw h a t ++ (cw yI yZ a K V)) rfl ?_
                                        refine xr_lstore_n F [(1, .long (d * 31 + Int32.toInt64 (c_tellB K V b w))), (4, .int (nI w)), (3, .int (nI b)), (0, .ref h)] dX1_digest_202 rfl (by decide) rfl ?_
                                        refine xr_iinc F (nI (w + 1)) [(4, .int (nI (w + 1))), (1, .long (d * 31 + Int32.toInt64 (c_tellB K V b w))), (3, .int (nI b)), (0, .ref h)] dX1_digest_203 1 rfl (nI_add w 1) (by decide) rfl ?_
                                        refine xr_goto F 182 dX1_digest_206 (by decide) ?_
                                        refine xr_lv (lv' := [(4, .int (nI (w + 1))), (3, .int (nI b)), (1, .long (d * 31 + Int32.toInt64 (c_tellB K V b w))), (0, .ref h)]) [0, 2, 1, 3] rfl ?_
                                        exact ih (w + 1) (d * 31 + Int32.toInt64 (c_tellB K V b w)) (by omega) (by rw [← hi6j]; simp only [dgL])
                                  refine xr_lv (lv' := [(4, .int 0), (3, .int (nI b)), (1, .long d), (0, .ref h)]) [0, 1, 2, 3] rfl ?_
                                  exact lp6j 5 0 d rfl hi6
                            refine xr_lv (lv' := [(3, .int 0), (1, .long d), (0, .ref h)]) [0, 1, 2] rfl ?_
                            exact lp6 (kNb K) 0 d rfl (by rw [show d = dgN (c_tellL K V) 5 5 0 (dgN (c_tellP K V) 4 6 0 (dgL (kSpr K) 8 0 (dgL (c_tellW K V) 10 0 1453 * 31 + (if kDry K = 0 then (0 : Int32) else 1).toInt64))) from hi5])
                          · exact (xk_ge (a := 5) (b := b) (by omega) (by omega) c127).elim
                        | succ i ih =>
                          intro b d hb hi5
                          refine xr_iload_n F dX1_digest_125 rfl 0 rfl ?_
                          refine xr_iconst F dX1_digest_126 (v := 5) (by decide) ?_
                          refine xr_icmp_ge F 166 dX1_digest_127 (by decide) (fun c127 => ?_) (fun c127 => ?_)
                          · exact (xk_nlt (a := b) (b := 5) (by omega) (by omega) (by omega) c127).elim
                          · skip
                            refine xr_iconst F dX1_digest_130 (v := 0) (by decide) ?_
                            refine xr_istore F [(4, .int 0), (3, .int (nI b)), (1, .long d), (0, .ref h)] dX1_digest_131 (by decide) rfl ?_
                            have lp5j : ∀ (j : Nat) (w : Nat) (d : Int64), j + w = 5 → dgN (c_tellL K V) 5 i (b + 1) (dgL (c_tellL K V b) j w d) = dgN (c_tellL K V) 5 5 0 (dgN (c_tellP K V) 4 6 0 (dgL (kSpr K) 8 0 (dgL (c_tellW K V) 10 0 1453 * 31 + (if kDry K = 0 then (0 : Int32) else 1).toInt64))) → AW p l e rm_X1_digest s m args below meth c 5 D A 0 0 Q (bw h a t ++ (cw yI yZ a K V)) [(4, .int (nI w)), (3, .int (nI b)), (1, .long d), (0, .ref h)] 133 [] := by
                              intro j
                              induction j with
                              | zero =>
                                intro w d hbj hi5j
                                refine xr_iload F dX1_digest_133 0 rfl ?_
                                refine xr_iconst F dX1_digest_135 (v := 5) (by decide) ?_
                                refine xr_icmp_ge F 160 dX1_digest_136 (by decide) (fun c136 => ?_) (fun c136 => ?_)
                                · skip
                                  refine xr_iinc F (nI (b + 1)) [(3, .int (nI (b + 1))), (4, .int (nI w)), (1, .long d), (0, .ref h)] dX1_digest_160 1 rfl (nI_add b 1) (by decide) rfl ?_
                                  refine xr_goto F 125 dX1_digest_163 (by decide) ?_
                                  refine xr_lv (lv' := [(3, .int (nI (b + 1))), (1, .long d), (0, .ref h)]) [0, 2, 3] rfl ?_
                                  exact ih (b + 1) d (by omega) hi5j
                                · exact (xk_ge (a := 5) (b := w) (by omega) (by omega) c136).elim
                              | succ j ih =>
                                intro w d hbj hi5j
                                refine xr_iload F dX1_digest_133 0 rfl ?_
                                refine xr_iconst F dX1_digest_135 (v := 5) (by decide) ?_
                                refine xr_icmp_ge F 160 dX1_digest_136 (by decide) (fun c136 => ?_) (fun c136 => ?_)
                                · exact (xk_nlt (a := w) (b := 5) (by omega) (by omega) (by omega) c136).elim
                                · skip
                                  refine xr_lload_n F dX1_digest_139 rfl 2 rfl ?_
                                  refine xr_aload_n F dX1_digest_140 rfl 3 rfl ?_
                                  refine xr_get F hin1 0 rfl rfl 0 (by decide) (List.mem_of_getElem? (i := 2) rfl) (v := .ref (a 0)) rfl dX1_digest_141 ?_
                                  refine xr_iload_n F dX1_digest_144 rfl 1 rfl ?_
                                  refine xr_iload F dX1_digest_145 0 rfl ?_
                                  refine xr_callVi F (wr := bw h a t) (rest := [.long d]) (As := [.int (nI b), .int (nI w)]) (k_X0_tellLock l D yI yZ yL a K V b w (by omega) (by omega) (by assumption)) (cwV 2 F.hts gX1_digest_X0_tellLock rfl rfl rfl (by decide +kernel) ⟨Nat.le_of_ble_eq_true rfl, Nat.le_of_ble_eq_true rfl⟩) (q0 := 0) rfl rfl [1, 2, 3, 4, 5, 6, 7, 8, 9, 10, 11, 12] [0] rfl rfl (by decide) (by decide) (by decide) rfl rfl (Nat.le_of_ble_eq_true rfl) dX1_digest_147 ⟨Nat.le_of_ble_eq_true rfl, Nat.le_of_ble_eq_true rfl⟩ (fun r1 W1 z1 => ?_)
                                  obtain ⟨z0, z1⟩ := z1
                                  subst z0
                                  subst z1
                                  refine xr_ws (ws' := bw h a t ++ (cw yI yZ a K V)) rfl ?_
                                  refine xr_callSl F (wr := bw h a t ++ (cw yI yZ a K V)) (rest := []) (As := [.long d, .int (c_tellL K V b w)]) (k_X1_mix l D yI yZ yL d (c_tellL K V b w) ) (va_cwS 2 F.hts gX1_digest_X1_mix rfl rfl rfl (by decide +kernel) ⟨Nat.le_of_ble_eq_true rfl, Nat.le_of_ble_eq_true rfl⟩) [] [0, 1, 2, 3, 4, 5, 6, 7, 8, 9, 10, 11, 12] rfl rfl (by decide) (by decide) (by decide) rfl rfl (Nat.le_of_ble_eq_true rfl) dX1_digest_150 ⟨Nat.le_of_ble_eq_true rfl, Nat.le_of_ble_eq_true rfl⟩ (fun r1 W1 z1 => ?_)
                                  obtain ⟨z0, z1⟩ := z1
                                  subst z0
                                  subst z1
                                  refine xr_ws (ws' := bw h a t ++ (cw yI yZ a K V)) rfl ?_
                                  refine xr_lstore_n F [(1, .long (d * 31 + Int32.toInt64 (c_tellL K V b w))), (4, .int (nI w)), (3, .int (nI b)), (0, .ref h)] dX1_digest_153 rfl (by decide) rfl ?_
                                  refine xr_iinc F (nI (w + 1)) [(4, .int (nI (w + 1))), (1, .long (d * 31 + Int32.toInt64 (c_tellL K V b w))), (3, .int (nI b)), (0, .ref h)] dX1_digest_154 1 rfl (nI_add w 1) (by decide) rfl ?_
                                  refine xr_goto F 133 dX1_digest_157 (by decide) ?_
                                  refine xr_lv (lv' := [(4, .int (nI (w + 1))), (3, .int (nI b)), (1, .long (d * 31 + Int32.toInt64 (c_tellL K V b w))), (0, .ref h)]) [0, 2, 1, 3] rfl ?_
                                  exact ih (w + 1) (d * 31 + Int32.toInt64 (c_tellL K V b w)) (by omega) (by rw [← hi5j]; simp only [dgL])
                            refine xr_lv (lv' := [(4, .int 0), (3, .int (nI b)), (1, .long d), (0, .ref h)]) [0, 1, 2, 3] rfl ?_
                            exact lp5j 5 0 d rfl hi5
                      refine xr_lv (lv' := [(3, .int 0), (1, .long d), (0, .ref h)]) [0, 1, 2] rfl ?_
                      exact lp5 5 0 d rfl (by rw [show d = dgN (c_tellP K V) 4 6 0 (dgL (kSpr K) 8 0 (dgL (c_tellW K V) 10 0 1453 * 31 + (if kDry K = 0 then (0 : Int32) else 1).toInt64)) from hi4])
                    · exact (xk_ge (a := 6) (b := b) (by omega) (by omega) c84).elim
                  | succ i ih =>
                    intro b d hb hi4
                    refine xr_iload_n F dX1_digest_81 rfl 0 rfl ?_
                    refine xr_bipush F dX1_digest_82 (v := 6) (by decide) ?_
                    refine xr_icmp_ge F 123 dX1_digest_84 (by decide) (fun c84 => ?_) (fun c84 => ?_)
                    · exact (xk_nlt (a := b) (b := 6) (by omega) (by omega) (by omega) c84).elim
                    · skip
                      refine xr_iconst F dX1_digest_87 (v := 0) (by decide) ?_
                      refine xr_istore F [(4, .int 0), (3, .int (nI b)), (1, .long d), (0, .ref h)] dX1_digest_88 (by decide) rfl ?_
                      have lp4j : ∀ (j : Nat) (w : Nat) (d : Int64), j + w = 4 → dgN (c_tellP K V) 4 i (b + 1) (dgL (c_tellP K V b) j w d) = dgN (c_tellP K V) 4 6 0 (dgL (kSpr K) 8 0 (dgL (c_tellW K V) 10 0 1453 * 31 + (if kDry K = 0 then (0 : Int32) else 1).toInt64)) → AW p l e rm_X1_digest s m args below meth c 5 D A 0 0 Q (bw h a t ++ (cw yI yZ a K V)) [(4, .int (nI w)), (3, .int (nI b)), (1, .long d), (0, .ref h)] 90 [] := by
                        intro j
                        induction j with
                        | zero =>
                          intro w d hbj hi4j
                          refine xr_iload F dX1_digest_90 0 rfl ?_
                          refine xr_iconst F dX1_digest_92 (v := 4) (by decide) ?_
                          refine xr_icmp_ge F 117 dX1_digest_93 (by decide) (fun c93 => ?_) (fun c93 => ?_)
                          · skip
                            refine xr_iinc F (nI (b + 1)) [(3, .int (nI (b + 1))), (4, .int (nI w)), (1, .long d), (0, .ref h)] dX1_digest_117 1 rfl (nI_add b 1) (by decide) rfl ?_
                            refine xr_goto F 81 dX1_digest_120 (by decide) ?_
                            refine xr_lv (lv' := [(3, .int (nI (b + 1))), (1, .long d), (0, .ref h)]) [0, 2, 3] rfl ?_
                            exact ih (b + 1) d (by omega) hi4j
                          · exact (xk_ge (a := 4) (b := w) (by omega) (by omega) c93).elim
                        | succ j ih =>
                          intro w d hbj hi4j
                          refine xr_iload F dX1_digest_90 0 rfl ?_
                          refine xr_iconst F dX1_digest_92 (v := 4) (by decide) ?_
                          refine xr_icmp_ge F 117 dX1_digest_93 (by decide) (fun c93 => ?_) (fun c93 => ?_)
                          · exact (xk_nlt (a := w) (b := 4) (by omega) (by omega) (by omega) c93).elim
                          · skip
                            refine xr_lload_n F dX1_digest_96 rfl 2 rfl ?_
                            refine xr_aload_n F dX1_digest_97 rfl 3 rfl ?_
                            refine xr_get F hin1 0 rfl rfl 0 (by decide) (List.mem_of_getElem? (i := 2) rfl) (v := .ref (a 0)) rfl dX1_digest_98 ?_
                            refine xr_iload_n F dX1_digest_101 rfl 1 rfl ?_
                            refine xr_iload F dX1_digest_102 0 rfl ?_
                            refine xr_callVi F (wr := bw h a t) (rest := [.long d]) (As := [.int (nI b), .int (nI w)]) (k_X0_tellPound l D yI yZ yL a K V b w (by omega) (by omega) (by assumption)) (cwV 2 F.hts gX1_digest_X0_tellPound rfl rfl rfl (by decide +kernel) ⟨Nat.le_of_ble_eq_true rfl, Nat.le_of_ble_eq_true rfl⟩) (q0 := 0) rfl rfl [1, 2, 3, 4, 5, 6, 7, 8, 9, 10, 11, 12] [0] rfl rfl (by decide) (by decide) (by decide) rfl rfl (Nat.le_of_ble_eq_true rfl) dX1_digest_104 ⟨Nat.le_of_ble_eq_true rfl, Nat.le_of_ble_eq_true rfl⟩ (fun r1 W1 z1 => ?_)
                            obtain ⟨z0, z1⟩ := z1
                            subst z0
                            subst z1
                            refine xr_ws (ws' := bw h a t ++ (cw yI yZ a K V)) rfl ?_
                            refine xr_callSl F (wr := bw h a t ++ (cw yI yZ a K V)) (rest := []) (As := [.long d, .int (c_tellP K V b w)]) (k_X1_mix l D yI yZ yL d (c_tellP K V b w) ) (va_cwS 2 F.hts gX1_digest_X1_mix rfl rfl rfl (by decide +kernel) ⟨Nat.le_of_ble_eq_true rfl, Nat.le_of_ble_eq_true rfl⟩) [] [0, 1, 2, 3, 4, 5, 6, 7, 8, 9, 10, 11, 12] rfl rfl (by decide) (by decide) (by decide) rfl rfl (Nat.le_of_ble_eq_true rfl) dX1_digest_107 ⟨Nat.le_of_ble_eq_true rfl, Nat.le_of_ble_eq_true rfl⟩ (fun r1 W1 z1 => ?_)
                            obtain ⟨z0, z1⟩ := z1
                            subst z0
                            subst z1
                            refine xr_ws (ws' := bw h a t ++ (cw yI yZ a K V)) rfl ?_
                            refine xr_lstore_n F [(1, .long (d * 31 + Int32.toInt64 (c_tellP K V b w))), (4, .int (nI w)), (3, .int (nI b)), (0, .ref h)] dX1_digest_110 rfl (by decide) rfl ?_
                            refine xr_iinc F (nI (w + 1)) [(4, .int (nI (w + 1))), (1, .long (d * 31 + Int32.toInt64 (c_tellP K V b w))), (3, .int (nI b)), (0, .ref h)] dX1_digest_111 1 rfl (nI_add w 1) (by decide) rfl ?_
                            refine xr_goto F 90 dX1_digest_114 (by decide) ?_
                            refine xr_lv (lv' := [(4, .int (nI (w + 1))), (3, .int (nI b)), (1, .long (d * 31 + Int32.toInt64 (c_tellP K V b w))), (0, .ref h)]) [0, 2, 1, 3] rfl ?_
                            exact ih (w + 1) (d * 31 + Int32.toInt64 (c_tellP K V b w)) (by omega) (by rw [← hi4j]; simp only [dgL])
                      refine xr_lv (lv' := [(4, .int 0), (3, .int (nI b)), (1, .long d), (0, .ref h)]) [0, 1, 2, 3] rfl ?_
                      exact lp4j 4 0 d rfl hi4
                refine xr_lv (lv' := [(3, .int 0), (1, .long d), (0, .ref h)]) [0, 1, 2] rfl ?_
                exact lp4 6 0 d rfl (by rw [show d = dgL (kSpr K) 8 0 (dgL (c_tellW K V) 10 0 1453 * 31 + (if kDry K = 0 then (0 : Int32) else 1).toInt64) from hi3])
              · exact (xk_ge (a := 8) (b := b) (by omega) (by omega) c56).elim
            | succ i ih =>
              intro b d hb hi3
              refine xr_iload_n F dX1_digest_53 rfl 0 rfl ?_
              refine xr_bipush F dX1_digest_54 (v := 8) (by decide) ?_
              refine xr_icmp_ge F 79 dX1_digest_56 (by decide) (fun c56 => ?_) (fun c56 => ?_)
              · exact (xk_nlt (a := b) (b := 8) (by omega) (by omega) (by omega) c56).elim
              · skip
                refine xr_lload_n F dX1_digest_59 rfl 1 rfl ?_
                refine xr_aload_n F dX1_digest_60 rfl 2 rfl ?_
                refine xr_get F hin1 0 rfl rfl 0 (by decide) (List.mem_of_getElem? (i := 2) rfl) (v := .ref (a 0)) rfl dX1_digest_61 ?_
                refine xr_get F hin0 1 rfl rfl 6 (by decide) (List.mem_of_getElem? (i := 4) rfl) (v := .ref (a 1)) rfl dX1_digest_64 ?_
                refine xr_iload_n F dX1_digest_67 rfl 0 rfl ?_
                refine xr_iald F 2 0 rfl rfl (b) rfl (by omega) (by decide) dX1_digest_68 ?_
                refine xr_callSl F (wr := bw h a t ++ (cw yI yZ a K V)) (rest := []) (As := [.long d, .int ((kSpr K) b)]) (k_X1_mix l D yI yZ yL d ((kSpr K) b) ) (va_cwS 2 F.hts gX1_digest_X1_mix rfl rfl rfl (by decide +kernel) ⟨Nat.le_of_ble_eq_true rfl, Nat.le_of_ble_eq_true rfl⟩) [] [0, 1, 2, 3, 4, 5, 6, 7, 8, 9, 10, 11, 12] rfl rfl (by decide) (by decide) (by decide) rfl rfl (Nat.le_of_ble_eq_true rfl) dX1_digest_69 ⟨Nat.le_of_ble_eq_true rfl, Nat.le_of_ble_eq_true rfl⟩ (fun r1 W1 z1 => ?_)
                obtain ⟨z0, z1⟩ := z1
                subst z0
                subst z1
                refine xr_ws (ws' := bw h a t ++ (cw yI yZ a K V)) rfl ?_
                refine xr_lstore_n F [(1, .long (d * 31 + Int32.toInt64 ((kSpr K) b))), (3, .int (nI b)), (0, .ref h)] dX1_digest_72 rfl (by decide) rfl ?_
                refine xr_iinc F (nI (b + 1)) [(3, .int (nI (b + 1))), (1, .long (d * 31 + Int32.toInt64 ((kSpr K) b))), (0, .ref h)] dX1_digest_73 1 rfl (nI_add b 1) (by decide) rfl ?_
                refine xr_goto F 53 dX1_digest_76 (by decide) ?_
                refine xr_lv (lv' := [(3, .int (nI (b + 1))), (1, .long (d * 31 + Int32.toInt64 ((kSpr K) b))), (0, .ref h)]) [0, 1, 2] rfl ?_
                exact ih (b + 1) (d * 31 + Int32.toInt64 ((kSpr K) b)) (by omega) (by rw [← hi3]; simp only [dgL])
          refine xr_lv (lv' := [(3, .int 0), (1, .long (d * 31 + Int32.toInt64 1)), (0, .ref h)]) [0, 1, 2] rfl ?_
          exact lp3 8 0 (d * 31 + Int32.toInt64 1) rfl (by rw [show d = dgL (c_tellW K V) 10 0 1453 from hi1, if_neg c39])
      · exact (xk_ge (a := 10) (b := b) (by omega) (by omega) c9).elim
    | succ i ih =>
      intro b d hb hi1
      refine xr_iload_n F dX1_digest_6 rfl 0 rfl ?_
      refine xr_bipush F dX1_digest_7 (v := 10) (by decide) ?_
      refine xr_icmp_ge F 31 dX1_digest_9 (by decide) (fun c9 => ?_) (fun c9 => ?_)
      · exact (xk_nlt (a := b) (b := 10) (by omega) (by omega) (by omega) c9).elim
      · skip
        refine xr_lload_n F dX1_digest_12 rfl 1 rfl ?_
        refine xr_aload_n F dX1_digest_13 rfl 2 rfl ?_
        refine xr_get F hin1 0 rfl rfl 0 (by decide) (List.mem_of_getElem? (i := 2) rfl) (v := .ref (a 0)) rfl dX1_digest_14 ?_
        refine xr_iload_n F dX1_digest_17 rfl 0 rfl ?_
        refine xr_callVi F (wr := bw h a t) (rest := [.long d]) (As := [.int (nI b)]) (k_X0_tellWhole l D yI yZ yL a K V b (by omega) (by assumption)) (cwV 1 F.hts gX1_digest_X0_tellWhole rfl rfl rfl (by decide +kernel) ⟨Nat.le_of_ble_eq_true rfl, Nat.le_of_ble_eq_true rfl⟩) (q0 := 0) rfl rfl [1, 2, 3, 4, 5, 6, 7, 8, 9, 10, 11, 12] [0] rfl rfl (by decide) (by decide) (by decide) rfl rfl (Nat.le_of_ble_eq_true rfl) dX1_digest_18 ⟨Nat.le_of_ble_eq_true rfl, Nat.le_of_ble_eq_true rfl⟩ (fun r1 W1 z1 => ?_)
        obtain ⟨z0, z1⟩ := z1
        subst z0
        subst z1
        refine xr_ws (ws' := bw h a t ++ (cw yI yZ a K V)) rfl ?_
        refine xr_callSl F (wr := bw h a t ++ (cw yI yZ a K V)) (rest := []) (As := [.long d, .int (c_tellW K V b)]) (k_X1_mix l D yI yZ yL d (c_tellW K V b) ) (va_cwS 2 F.hts gX1_digest_X1_mix rfl rfl rfl (by decide +kernel) ⟨Nat.le_of_ble_eq_true rfl, Nat.le_of_ble_eq_true rfl⟩) [] [0, 1, 2, 3, 4, 5, 6, 7, 8, 9, 10, 11, 12] rfl rfl (by decide) (by decide) (by decide) rfl rfl (Nat.le_of_ble_eq_true rfl) dX1_digest_21 ⟨Nat.le_of_ble_eq_true rfl, Nat.le_of_ble_eq_true rfl⟩ (fun r1 W1 z1 => ?_)
        obtain ⟨z0, z1⟩ := z1
        subst z0
        subst z1
        refine xr_ws (ws' := bw h a t ++ (cw yI yZ a K V)) rfl ?_
        refine xr_lstore_n F [(1, .long (d * 31 + Int32.toInt64 (c_tellW K V b))), (3, .int (nI b)), (0, .ref h)] dX1_digest_24 rfl (by decide) rfl ?_
        refine xr_iinc F (nI (b + 1)) [(3, .int (nI (b + 1))), (1, .long (d * 31 + Int32.toInt64 (c_tellW K V b))), (0, .ref h)] dX1_digest_25 1 rfl (nI_add b 1) (by decide) rfl ?_
        refine xr_goto F 6 dX1_digest_28 (by decide) ?_
        refine xr_lv (lv' := [(3, .int (nI (b + 1))), (1, .long (d * 31 + Int32.toInt64 (c_tellW K V b))), (0, .ref h)]) [0, 1, 2] rfl ?_
        exact ih (b + 1) (d * 31 + Int32.toInt64 (c_tellW K V b)) (by omega) (by rw [← hi1]; simp only [dgL])
  refine xr_lv (lv' := [(3, .int 0), (1, .long ((1453))), (0, .ref h)]) [0, 1, 2] rfl ?_
  exact lp1 10 0 1453 rfl rfl
