def rm_X3_arrives : Room := { frames := 5, cells := 0, slots := 0, locals := 116 }
set_option maxHeartbeats 4000000 in
set_option maxRecDepth 100000 in
/-- arrives -/
theorem k_X3_arrives (l : Launch) (D : va_G) (yI yZ yL : ClassId) (g u t : Nat → Nat) (th : Int32) (K : CK) (aw : Int32) (wh : Nat → Int32) (V : CD) (mk2 aw2 : Int32) (wh2 : Nat → Int32) (V2 : CD) (x : Int32) (h0 : kNb K ≤ 10) (h1 : kMill K ≤ 6) (h2 : dHour V + 121 < 2147483648) : xMi l yX3_arrives wsX3_arrives rm_X3_arrives D (tysG yI yZ yL) (mw yI g u t th K ++ (sw yI u (kMark K) aw wh V ++ (sw yI t mk2 aw2 wh2 V2))) [.ref (g 0), .int x] 0 0 (fun (r : Int32) (W1 : va_W) => r = r_or0 (q_arrives K x) (m_arrL K (ix x) 121 0 V aw wh) ∧ ∃ (z1 z2 : Int32) (z3 : Nat → Int32) (z4 : CD), W1 = mw yI g u t (q_arrives K x) K ++ (sw yI u (kMark K) aw wh V ++ sw yI t z1 z2 z3 z4)) := by
  refine xE_i (cc := cX3_arrives) (nL := 3) (by decide) rfl (Nat.le_of_ble_eq_true rfl) ?_
  intro p e s m args below meth c A Q F hnm ret
  have hin2 : ∀ w ∈ u_ws RX2 TX2 14, w ∈ wsX3_arrives := by decide +kernel
  have hin3 : ∀ w ∈ u_ws RX3 TX3 9, w ∈ wsX3_arrives := by decide +kernel
  show AW p l e rm_X3_arrives s m args below meth c 3 D A 0 0 Q (mw yI g u t th K ++ (sw yI u (kMark K) aw wh V ++ (sw yI t mk2 aw2 wh2 V2))) [(0, .ref (g 0)), (1, .int x)] 0 []
  refine xr_aload_n F dX3_arrives_0 rfl 0 rfl ?_
  refine xr_iconst F dX3_arrives_1 (v := 0) (by decide) ?_
  refine xr_put (ty := .int) F hin3 0 rfl rfl 0 (by decide) tyX3 tyX3_ok nmX3 (List.mem_of_getElem? (i := 1) rfl) rfl (by decide) rfl rfl (Nat.le_of_ble_eq_true rfl) (mw yI g u t 0 K ++ (sw yI u (kMark K) aw wh V ++ (sw yI t mk2 aw2 wh2 V2))) rfl dX3_arrives_2 ?_
  refine xr_aload_n F dX3_arrives_5 rfl 0 rfl ?_
  refine xr_iload_n F dX3_arrives_6 rfl 1 rfl ?_
  refine xr_callVz F (wr := sw yI u (kMark K) aw wh V ++ (sw yI t mk2 aw2 wh2 V2)) (rest := []) (As := [.int x]) (k_X3_isBarge l D yI yZ yL g u t 0 K x ) (cwV 1 F.hts gX3_arrives_X3_isBarge rfl rfl rfl (by decide +kernel) ⟨Nat.le_of_ble_eq_true rfl, Nat.le_of_ble_eq_true rfl⟩) (q0 := 0) rfl rfl [0, 1, 2] [3, 4, 5, 6, 7, 8, 9, 10, 11, 12, 13, 14, 15, 16, 17, 18, 19, 20, 21, 22, 23, 24] rfl rfl (by decide) (by decide) (by decide) rfl rfl (Nat.le_of_ble_eq_true rfl) dX3_arrives_7 ⟨Nat.le_of_ble_eq_true rfl, Nat.le_of_ble_eq_true rfl⟩ (fun r1 W1 z1 => ?_)
  obtain ⟨z0, z1⟩ := z1
  subst z0
  subst z1
  refine xr_sub (ws' := mw yI g u t 0 K ++ (sw yI u (kMark K) aw wh V ++ (sw yI t mk2 aw2 wh2 V2))) [22, 23, 24, 0, 1, 2, 3, 4, 5, 6, 7, 8, 9, 10, 11, 12, 13, 14, 15, 16, 17, 18, 19, 20, 21] (by decide) rfl ?_
  refine xr_if_ne F 19 dX3_arrives_10 (by decide) (fun c10 => ?_) (fun c10 => ?_)
  · skip
    obtain ⟨hx1, hx2⟩ := isIn_nb (by omega) c10
    refine xr_aload_n F dX3_arrives_19 rfl 0 rfl ?_
    refine xr_get F hin3 0 rfl rfl 8 (by decide) (List.mem_of_getElem? (i := 2) rfl) (v := .ref (t 0)) rfl dX3_arrives_20 ?_
    refine xr_aload_n F dX3_arrives_23 rfl 0 rfl ?_
    refine xr_get F hin3 0 rfl rfl 7 (by decide) (List.mem_of_getElem? (i := 3) rfl) (v := .ref (u 0)) rfl dX3_arrives_24 ?_
    refine xr_callVr F (wr := mw yI g u t 0 K) (rest := []) (As := [.ref (u 0)]) (k_X2_become l D yI yZ yL t u mk2 aw2 wh2 V2 (kMark K) aw wh V) (cwV 1 F.hts gX3_arrives_X2_become rfl rfl rfl (by decide +kernel) ⟨Nat.le_of_ble_eq_true rfl, Nat.le_of_ble_eq_true rfl⟩) (q0 := 0) rfl rfl [14, 15, 16, 17, 18, 19, 20, 21, 22, 23, 24, 3, 4, 5, 6, 7, 8, 9, 10, 11, 12, 13] [0, 1, 2] rfl rfl (by decide) (by decide) (by decide) rfl rfl (Nat.le_of_ble_eq_true rfl) dX3_arrives_27 ⟨Nat.le_of_ble_eq_true rfl, Nat.le_of_ble_eq_true rfl⟩ (fun r1 W1 z1 => ?_)
    obtain ⟨z0, z1⟩ := z1
    subst z0
    subst z1
    refine xr_sub (ws' := mw yI g u t 0 K ++ (sw yI u (kMark K) aw wh V ++ (sw yI t (kMark K) aw wh V))) [0, 1, 2, 14, 15, 16, 17, 18, 19, 20, 21, 22, 23, 24, 3, 4, 5, 6, 7, 8, 9, 10, 11, 12, 13] (by decide) rfl ?_
    refine xr_pop F dX3_arrives_30 rfl ?_
    refine xr_iconst F dX3_arrives_31 (v := 0) (by decide) ?_
    refine xr_istore_n F [(2, .int 0), (0, .ref (g 0)), (1, .int x)] dX3_arrives_32 rfl (by decide) rfl ?_
    have lp : ∀ (i : Nat) (b : Nat) (U : CD) (a9 : Int32) (y9 : Nat → Int32), i + b = 121 → dHour U + i < 2147483648 → m_arrL K (ix x) i b U a9 y9 = m_arrL K (ix x) 121 0 V aw wh → AW p l e rm_X3_arrives s m args below meth c 3 D A 0 0 Q (mw yI g u t 0 K ++ (sw yI u (kMark K) aw wh V ++ (sw yI t (kMark K) a9 y9 U))) [(2, .int (nI b)), (0, .ref (g 0)), (1, .int x)] 33 [] := by
      intro i
      induction i with
      | zero =>
        intro b U a9 y9 hb hh hi
        refine xr_iload_n F dX3_arrives_33 rfl 0 rfl ?_
        refine xr_bipush F dX3_arrives_34 (v := 120) (by decide) ?_
        refine xr_icmp_gt F 74 dX3_arrives_36 (by decide) (fun c36 => ?_) (fun c36 => ?_)
        · skip
          refine xr_iconst F dX3_arrives_74 (v := (-1)) (by decide) ?_
          have f0 : q_arrives K x = 0 := by simp only [q_arrives, r_or0, xk_01, xk_10, xk_20, xk_30, eq_self, c10, ↓reduceIte]
          refine ret _ _ _ _ dX3_arrives_75 ⟨?_, ⟨_, _, _, _, by rw [f0]⟩⟩
          rw [r_or0, f0, if_pos rfl]
          exact hi
        · exact absurd (nI_lt (a := 120) (by omega) (by omega)) c36
      | succ i ih =>
        intro b U a9 y9 hb hh hi
        refine xr_iload_n F dX3_arrives_33 rfl 0 rfl ?_
        refine xr_bipush F dX3_arrives_34 (v := 120) (by decide) ?_
        refine xr_icmp_gt F 74 dX3_arrives_36 (by decide) (fun c36 => ?_) (fun c36 => ?_)
        · exact absurd c36 (nI_nlt (a := 120) (by omega) (by omega))
        · skip
          refine xr_aload_n F dX3_arrives_39 rfl 1 rfl ?_
          refine xr_get F hin3 0 rfl rfl 8 (by decide) (List.mem_of_getElem? (i := 2) rfl) (v := .ref (t 0)) rfl dX3_arrives_40 ?_
          refine xr_getN F hin2 14 rfl rfl 10 (by decide) (List.mem_of_getElem? (i := 10) rfl) (v := .ref (t 7)) rfl dX3_arrives_43 ?_
          refine xr_iload_n F dX3_arrives_46 rfl 2 rfl ?_
          refine xr_iald F 21 0 rfl rfl (ix x) hx1 (by omega) (by decide) dX3_arrives_47 ?_
          refine xr_aload_n F dX3_arrives_48 rfl 1 rfl ?_
          refine xr_get F hin3 0 rfl rfl 2 (by decide) (List.mem_of_getElem? (i := 4) rfl) (v := .ref (g 1)) rfl dX3_arrives_49 ?_
          refine xr_iload_n F dX3_arrives_52 rfl 2 rfl ?_
          refine xr_iald F 1 0 rfl rfl (ix x) hx1 (by omega) (by decide) dX3_arrives_53 ?_
          refine xr_icmp_ne F 59 dX3_arrives_54 (by decide) (fun c54 => ?_) (fun c54 => ?_)
          · skip
            refine xr_aload_n F dX3_arrives_59 rfl 1 rfl ?_
            refine xr_aload_n F dX3_arrives_60 rfl 1 rfl ?_
            refine xr_get F hin3 0 rfl rfl 8 (by decide) (List.mem_of_getElem? (i := 2) rfl) (v := .ref (t 0)) rfl dX3_arrives_61 ?_
            refine xr_callVi F (wr := sw yI u (kMark K) aw wh V) (rest := []) (As := [.ref (t 0)]) (k_X3_pass l D yI yZ yL g u t t 0 K a9 y9 U (by assumption) (by assumption) (by omega)) (cwV 1 F.hts gX3_arrives_X3_pass rfl rfl rfl (by decide +kernel) ⟨Nat.le_of_ble_eq_true rfl, Nat.le_of_ble_eq_true rfl⟩) (q0 := 0) rfl rfl [0, 1, 2, 14, 15, 16, 17, 18, 19, 20, 21, 22, 23, 24] [3, 4, 5, 6, 7, 8, 9, 10, 11, 12, 13] rfl rfl (by decide) (by decide) (by decide) rfl rfl (Nat.le_of_ble_eq_true rfl) dX3_arrives_64 ⟨Nat.le_of_ble_eq_true rfl, Nat.le_of_ble_eq_true rfl⟩ (fun r1 W1 z1 => ?_)
            obtain ⟨z0, z1⟩ := z1
            subst z0
            obtain ⟨V1, eV1⟩ : ∃ x9 : CD, x9 = (m_hour K U a9 y9).1 := ⟨_, rfl⟩
            rw [← eV1] at z1
            obtain ⟨x2, ex2⟩ : ∃ x9 : Int32, x9 = (m_hour K U a9 y9).2.1 := ⟨_, rfl⟩
            rw [← ex2] at z1
            obtain ⟨y3, ey3⟩ : ∃ x9 : Nat → Int32, x9 = (m_hour K U a9 y9).2.2.1 := ⟨_, rfl⟩
            rw [← ey3] at z1
            subst z1
            refine xr_sub (ws' := mw yI g u t 0 K ++ (sw yI u (kMark K) aw wh V ++ (sw yI t (kMark K) x2 y3 V1))) [11, 12, 13, 0, 1, 2, 3, 4, 5, 6, 7, 8, 9, 10, 14, 15, 16, 17, 18, 19, 20, 21, 22, 23, 24] (by decide) rfl ?_
            refine xr_pop F dX3_arrives_67 rfl ?_
            refine xr_iinc F (nI (b + 1)) [(2, .int (nI (b + 1))), (0, .ref (g 0)), (1, .int x)] dX3_arrives_68 0 rfl (nI_add b 1) (by decide) rfl ?_
            refine xr_goto F 33 dX3_arrives_71 (by decide) ?_
            refine xr_lv (lv' := [(2, .int (nI (b + 1))), (0, .ref (g 0)), (1, .int x)]) [0, 1, 2] rfl ?_
            subst ey3
            subst ex2
            subst eV1
            exact ih (b + 1) (m_hour K U a9 y9).1 (m_hour K U a9 y9).2.1 (m_hour K U a9 y9).2.2.1 (by omega) (by rw [dHour_mhour]; omega) (by rw [← hi, m_arrL, if_neg c54])
          · skip
            refine xr_iload_n F dX3_arrives_57 rfl 0 rfl ?_
            have f0 : q_arrives K x = 0 := by simp only [q_arrives, r_or0, xk_01, xk_10, xk_20, xk_30, eq_self, c10, ↓reduceIte]
            refine ret _ _ _ _ dX3_arrives_58 ⟨?_, ⟨_, _, _, _, by rw [f0]⟩⟩
            rw [r_or0, f0, if_pos rfl, ← hi, m_arrL, if_pos c54]
    refine xr_lv (lv' := [(2, .int 0), (0, .ref (g 0)), (1, .int x)]) [0, 1, 2] rfl ?_
    exact lp 121 0 V aw wh rfl h2 rfl
  · skip
    refine xr_aload_n F dX3_arrives_13 rfl 0 rfl ?_
    refine xr_iconst F dX3_arrives_14 (v := 1) (by decide) ?_
    refine xr_callVi F (wr := sw yI u (kMark K) aw wh V ++ (sw yI t mk2 aw2 wh2 V2)) (rest := []) (As := [.int 1]) (k_X3_no l D yI yZ yL g u t 0 K 1 ) (cwV 1 F.hts gX3_arrives_X3_no rfl rfl rfl (by decide +kernel) ⟨Nat.le_of_ble_eq_true rfl, Nat.le_of_ble_eq_true rfl⟩) (q0 := 0) rfl rfl [0, 1, 2] [3, 4, 5, 6, 7, 8, 9, 10, 11, 12, 13, 14, 15, 16, 17, 18, 19, 20, 21, 22, 23, 24] rfl rfl (by decide) (by decide) (by decide) rfl rfl (Nat.le_of_ble_eq_true rfl) dX3_arrives_15 ⟨Nat.le_of_ble_eq_true rfl, Nat.le_of_ble_eq_true rfl⟩ (fun r1 W1 z1 => ?_)
    obtain ⟨z0, z1⟩ := z1
    subst z0
    subst z1
    refine xr_sub (ws' := mw yI g u t 1 K ++ (sw yI u (kMark K) aw wh V ++ (sw yI t mk2 aw2 wh2 V2))) [22, 23, 24, 0, 1, 2, 3, 4, 5, 6, 7, 8, 9, 10, 11, 12, 13, 14, 15, 16, 17, 18, 19, 20, 21] (by decide) rfl ?_
    have f0 : q_arrives K x = 1 := by simp only [q_arrives, r_or0, xk_01, xk_10, xk_20, xk_30, eq_self, c10, ↓reduceIte]
    refine ret _ _ _ _ dX3_arrives_18 ⟨?_, ⟨_, _, _, _, by rw [f0]⟩⟩
    rw [r_or0, f0, if_neg xk_10]

def rm_X3_stops : Room := { frames := 5, cells := 0, slots := 0, locals := 116 }
set_option maxHeartbeats 4000000 in
set_option maxRecDepth 100000 in
/-- stops -/
theorem k_X3_stops (l : Launch) (D : va_G) (yI yZ yL : ClassId) (g u t : Nat → Nat) (th : Int32) (K : CK) (aw : Int32) (wh : Nat → Int32) (V : CD) (mk2 aw2 : Int32) (wh2 : Nat → Int32) (V2 : CD) (h0 : kNb K ≤ 10) (h1 : kMill K ≤ 6) (h2 : dHour V + 121 < 2147483648) : xMi l yX3_stops wsX3_stops rm_X3_stops D (tysG yI yZ yL) (mw yI g u t th K ++ (sw yI u (kMark K) aw wh V ++ (sw yI t mk2 aw2 wh2 V2))) [.ref (g 0)] 0 0 (fun (r : Int32) (W1 : va_W) => r = m_stopL K 60 0 V aw wh ∧ ∃ (z1 z2 : Int32) (z3 : Nat → Int32) (z4 : CD), W1 = mw yI g u t (0) K ++ (sw yI u (kMark K) aw wh V ++ sw yI t z1 z2 z3 z4)) := by
  refine xE_i (cc := cX3_stops) (nL := 2) (by decide) rfl (Nat.le_of_ble_eq_true rfl) ?_
  intro p e s m args below meth c A Q F hnm ret
  have hin3 : ∀ w ∈ u_ws RX3 TX3 9, w ∈ wsX3_stops := by decide +kernel
  show AW p l e rm_X3_stops s m args below meth c 2 D A 0 0 Q (mw yI g u t th K ++ (sw yI u (kMark K) aw wh V ++ (sw yI t mk2 aw2 wh2 V2))) [(0, .ref (g 0))] 0 []
  refine xr_aload_n F dX3_stops_0 rfl 0 rfl ?_
  refine xr_iconst F dX3_stops_1 (v := 0) (by decide) ?_
  refine xr_put (ty := .int) F hin3 0 rfl rfl 0 (by decide) tyX3 tyX3_ok nmX3 (List.mem_of_getElem? (i := 1) rfl) rfl (by decide) rfl rfl (Nat.le_of_ble_eq_true rfl) (mw yI g u t 0 K ++ (sw yI u (kMark K) aw wh V ++ (sw yI t mk2 aw2 wh2 V2))) rfl dX3_stops_2 ?_
  refine xr_aload_n F dX3_stops_5 rfl 0 rfl ?_
  refine xr_get F hin3 0 rfl rfl 8 (by decide) (List.mem_of_getElem? (i := 2) rfl) (v := .ref (t 0)) rfl dX3_stops_6 ?_
  refine xr_aload_n F dX3_stops_9 rfl 0 rfl ?_
  refine xr_get F hin3 0 rfl rfl 7 (by decide) (List.mem_of_getElem? (i := 3) rfl) (v := .ref (u 0)) rfl dX3_stops_10 ?_
  refine xr_callVr F (wr := mw yI g u t 0 K) (rest := []) (As := [.ref (u 0)]) (k_X2_become l D yI yZ yL t u mk2 aw2 wh2 V2 (kMark K) aw wh V) (cwV 1 F.hts gX3_stops_X2_become rfl rfl rfl (by decide +kernel) ⟨Nat.le_of_ble_eq_true rfl, Nat.le_of_ble_eq_true rfl⟩) (q0 := 0) rfl rfl [14, 15, 16, 17, 18, 19, 20, 21, 22, 23, 24, 3, 4, 5, 6, 7, 8, 9, 10, 11, 12, 13] [0, 1, 2] rfl rfl (by decide) (by decide) (by decide) rfl rfl (Nat.le_of_ble_eq_true rfl) dX3_stops_13 ⟨Nat.le_of_ble_eq_true rfl, Nat.le_of_ble_eq_true rfl⟩ (fun r1 W1 z1 => ?_)
  obtain ⟨z0, z1⟩ := z1
  subst z0
  subst z1
  refine xr_sub (ws' := mw yI g u t 0 K ++ (sw yI u (kMark K) aw wh V ++ (sw yI t (kMark K) aw wh V))) [0, 1, 2, 14, 15, 16, 17, 18, 19, 20, 21, 22, 23, 24, 3, 4, 5, 6, 7, 8, 9, 10, 11, 12, 13] (by decide) rfl ?_
  refine xr_pop F dX3_stops_16 rfl ?_
  refine xr_iconst F dX3_stops_17 (v := 0) (by decide) ?_
  refine xr_istore_n F [(1, .int 0), (0, .ref (g 0))] dX3_stops_18 rfl (by decide) rfl ?_
  have lp : ∀ (i : Nat) (b : Nat) (U : CD) (a9 : Int32) (y9 : Nat → Int32), i + b = 60 → dHour U + i < 2147483648 → m_stopL K i b U a9 y9 = m_stopL K 60 0 V aw wh → AW p l e rm_X3_stops s m args below meth c 2 D A 0 0 Q (mw yI g u t 0 K ++ (sw yI u (kMark K) aw wh V ++ (sw yI t (kMark K) a9 y9 U))) [(1, .int (nI b)), (0, .ref (g 0))] 19 [] := by
    intro i
    induction i with
    | zero =>
      intro b U a9 y9 hb hh hi
      refine xr_iload_n F dX3_stops_19 rfl 0 rfl ?_
      refine xr_bipush F dX3_stops_20 (v := 60) (by decide) ?_
      refine xr_icmp_ge F 44 dX3_stops_22 (by decide) (fun c22 => ?_) (fun c22 => ?_)
      · skip
        refine xr_iconst F dX3_stops_44 (v := (-1)) (by decide) ?_
        exact ret _ _ _ _ dX3_stops_45 ⟨hi, ⟨_, _, _, _, rfl⟩⟩
      · exact (xk_ge (a := 60) (b := b) (by omega) (by omega) c22).elim
    | succ i ih =>
      intro b U a9 y9 hb hh hi
      refine xr_iload_n F dX3_stops_19 rfl 0 rfl ?_
      refine xr_bipush F dX3_stops_20 (v := 60) (by decide) ?_
      refine xr_icmp_ge F 44 dX3_stops_22 (by decide) (fun c22 => ?_) (fun c22 => ?_)
      · exact (xk_nlt (a := b) (b := 60) (by omega) (by omega) (by omega) c22).elim
      · skip
        refine xr_aload_n F dX3_stops_25 rfl 1 rfl ?_
        refine xr_aload_n F dX3_stops_26 rfl 1 rfl ?_
        refine xr_get F hin3 0 rfl rfl 8 (by decide) (List.mem_of_getElem? (i := 2) rfl) (v := .ref (t 0)) rfl dX3_stops_27 ?_
        refine xr_callVi F (wr := sw yI u (kMark K) aw wh V) (rest := []) (As := [.ref (t 0)]) (k_X3_pass l D yI yZ yL g u t t 0 K a9 y9 U (by assumption) (by assumption) (by omega)) (cwV 1 F.hts gX3_stops_X3_pass rfl rfl rfl (by decide +kernel) ⟨Nat.le_of_ble_eq_true rfl, Nat.le_of_ble_eq_true rfl⟩) (q0 := 0) rfl rfl [0, 1, 2, 14, 15, 16, 17, 18, 19, 20, 21, 22, 23, 24] [3, 4, 5, 6, 7, 8, 9, 10, 11, 12, 13] rfl rfl (by decide) (by decide) (by decide) rfl rfl (Nat.le_of_ble_eq_true rfl) dX3_stops_30 ⟨Nat.le_of_ble_eq_true rfl, Nat.le_of_ble_eq_true rfl⟩ (fun r1 W1 z1 => ?_)
        obtain ⟨z0, z1⟩ := z1
        subst z0
        obtain ⟨V1, eV1⟩ : ∃ x9 : CD, x9 = (m_hour K U a9 y9).1 := ⟨_, rfl⟩
        rw [← eV1] at z1
        obtain ⟨x2, ex2⟩ : ∃ x9 : Int32, x9 = (m_hour K U a9 y9).2.1 := ⟨_, rfl⟩
        rw [← ex2] at z1
        obtain ⟨y3, ey3⟩ : ∃ x9 : Nat → Int32, x9 = (m_hour K U a9 y9).2.2.1 := ⟨_, rfl⟩
        rw [← ey3] at z1
        subst z1
        refine xr_sub (ws' := mw yI g u t 0 K ++ (sw yI u (kMark K) aw wh V ++ (sw yI t (kMark K) x2 y3 V1))) [11, 12, 13, 0, 1, 2, 3, 4, 5, 6, 7, 8, 9, 10, 14, 15, 16, 17, 18, 19, 20, 21, 22, 23, 24] (by decide) rfl ?_
        refine xr_if_ne F 38 dX3_stops_33 (by decide) (fun c33 => ?_) (fun c33 => ?_)
        · skip
          refine xr_iinc F (nI (b + 1)) [(1, .int (nI (b + 1))), (0, .ref (g 0))] dX3_stops_38 0 rfl (nI_add b 1) (by decide) rfl ?_
          refine xr_goto F 19 dX3_stops_41 (by decide) ?_
          refine xr_lv (lv' := [(1, .int (nI (b + 1))), (0, .ref (g 0))]) [0, 1] rfl ?_
          subst ey3
          subst ex2
          subst eV1
          exact ih (b + 1) (m_hour K U a9 y9).1 (m_hour K U a9 y9).2.1 (m_hour K U a9 y9).2.2.1 (by omega) (by rw [dHour_mhour]; omega) (by rw [← hi, m_stopL, if_neg c33])
        · skip
          refine xr_iload_n F dX3_stops_36 rfl 0 rfl ?_
          refine ret _ _ _ _ dX3_stops_37 ⟨?_, ⟨_, _, _, _, rfl⟩⟩
          rw [← hi, m_stopL, if_pos c33]
  refine xr_lv (lv' := [(1, .int 0), (0, .ref (g 0))]) [0, 1] rfl ?_
  exact lp 60 0 V aw wh rfl (by omega) rfl

def rm_X3_foresee : Room := { frames := 6, cells := 0, slots := 0, locals := 140 }
set_option maxHeartbeats 4000000 in
set_option maxRecDepth 100000 in
/-- foresee -/
theorem k_X3_foresee (l : Launch) (D : va_G) (yI yZ yL : ClassId) (g u t : Nat → Nat) (th : Int32) (K : CK) (aw : Int32) (wh : Nat → Int32) (V : CD) (mk2 aw2 : Int32) (wh2 : Nat → Int32) (V2 : CD) (x y : Int32) (h0 : kNb K ≤ 10) (h1 : kMill K ≤ 6) (h2 : dHour V + 121 < 2147483648) : xMi l yX3_foresee wsX3_foresee rm_X3_foresee D (tysG yI yZ yL) (mw yI g u t th K ++ (sw yI u (kMark K) aw wh V ++ (sw yI t mk2 aw2 wh2 V2))) [.ref (g 0), .int x, .int y] 0 0 (fun (r : Int32) (W1 : va_W) => r = r_or0 (q_foresee x y) (m_tellW K (m_hours K (ix x) V aw wh 0).1 (m_hours K (ix x) V aw wh 0).2.1 (ix y)) ∧ ∃ (z1 z2 : Int32) (z3 : Nat → Int32) (z4 : CD), W1 = mw yI g u t (q_foresee x y) K ++ (sw yI u (kMark K) aw wh V ++ sw yI t z1 z2 z3 z4)) := by
  refine xE_i (cc := cX3_foresee) (nL := 3) (by decide) rfl (Nat.le_of_ble_eq_true rfl) ?_
  intro p e s m args below meth c A Q F hnm ret
  have hin3 : ∀ w ∈ u_ws RX3 TX3 9, w ∈ wsX3_foresee := by decide +kernel
  show AW p l e rm_X3_foresee s m args below meth c 3 D A 0 0 Q (mw yI g u t th K ++ (sw yI u (kMark K) aw wh V ++ (sw yI t mk2 aw2 wh2 V2))) [(0, .ref (g 0)), (1, .int x), (2, .int y)] 0 []
  refine xr_aload_n F dX3_foresee_0 rfl 0 rfl ?_
  refine xr_iconst F dX3_foresee_1 (v := 0) (by decide) ?_
  refine xr_put (ty := .int) F hin3 0 rfl rfl 0 (by decide) tyX3 tyX3_ok nmX3 (List.mem_of_getElem? (i := 1) rfl) rfl (by decide) rfl rfl (Nat.le_of_ble_eq_true rfl) (mw yI g u t 0 K ++ (sw yI u (kMark K) aw wh V ++ (sw yI t mk2 aw2 wh2 V2))) rfl dX3_foresee_2 ?_
  refine xr_iload_n F dX3_foresee_5 rfl 1 rfl ?_
  refine xr_iconst F dX3_foresee_6 (v := 1) (by decide) ?_
  refine xr_bipush F dX3_foresee_7 (v := 60) (by decide) ?_
  refine xr_callSz F (wr := mw yI g u t 0 K ++ (sw yI u (kMark K) aw wh V ++ (sw yI t mk2 aw2 wh2 V2))) (rest := []) (As := [.int x, .int 1, .int 60]) (k_X3_isIn l D yI yZ yL x 1 60 ) (va_cwS 3 F.hts gX3_foresee_X3_isIn rfl rfl rfl (by decide +kernel) ⟨Nat.le_of_ble_eq_true rfl, Nat.le_of_ble_eq_true rfl⟩) [] [0, 1, 2, 3, 4, 5, 6, 7, 8, 9, 10, 11, 12, 13, 14, 15, 16, 17, 18, 19, 20, 21, 22, 23, 24] rfl rfl (by decide) (by decide) (by decide) rfl rfl (Nat.le_of_ble_eq_true rfl) dX3_foresee_9 ⟨Nat.le_of_ble_eq_true rfl, Nat.le_of_ble_eq_true rfl⟩ (fun r1 W1 z1 => ?_)
  obtain ⟨z0, z1⟩ := z1
  subst z0
  subst z1
  refine xr_ws (ws' := mw yI g u t 0 K ++ (sw yI u (kMark K) aw wh V ++ (sw yI t mk2 aw2 wh2 V2))) rfl ?_
  refine xr_if_ne F 21 dX3_foresee_12 (by decide) (fun c12 => ?_) (fun c12 => ?_)
  · skip
    obtain ⟨hx1, hx2, hx3⟩ := isIn_ixl 1 60 (by decide) (by decide) rfl rfl c12
    refine xr_iload_n F dX3_foresee_21 rfl 2 rfl ?_
    refine xr_iconst F dX3_foresee_22 (v := 2) (by decide) ?_
    refine xr_bipush F dX3_foresee_23 (v := 6) (by decide) ?_
    refine xr_callSz F (wr := mw yI g u t 0 K ++ (sw yI u (kMark K) aw wh V ++ (sw yI t mk2 aw2 wh2 V2))) (rest := []) (As := [.int y, .int 2, .int 6]) (k_X3_isIn l D yI yZ yL y 2 6 ) (va_cwS 3 F.hts gX3_foresee_X3_isIn rfl rfl rfl (by decide +kernel) ⟨Nat.le_of_ble_eq_true rfl, Nat.le_of_ble_eq_true rfl⟩) [] [0, 1, 2, 3, 4, 5, 6, 7, 8, 9, 10, 11, 12, 13, 14, 15, 16, 17, 18, 19, 20, 21, 22, 23, 24] rfl rfl (by decide) (by decide) (by decide) rfl rfl (Nat.le_of_ble_eq_true rfl) dX3_foresee_25 ⟨Nat.le_of_ble_eq_true rfl, Nat.le_of_ble_eq_true rfl⟩ (fun r1 W1 z1 => ?_)
    obtain ⟨z0, z1⟩ := z1
    subst z0
    subst z1
    refine xr_ws (ws' := mw yI g u t 0 K ++ (sw yI u (kMark K) aw wh V ++ (sw yI t mk2 aw2 wh2 V2))) rfl ?_
    refine xr_if_ne F 37 dX3_foresee_28 (by decide) (fun c28 => ?_) (fun c28 => ?_)
    · skip
      obtain ⟨hy1, hy2, hy3⟩ := isIn_ixl 2 6 (by decide) (by decide) rfl rfl c28
      refine xr_aload_n F dX3_foresee_37 rfl 0 rfl ?_
      refine xr_aload_n F dX3_foresee_38 rfl 0 rfl ?_
      refine xr_get F hin3 0 rfl rfl 8 (by decide) (List.mem_of_getElem? (i := 2) rfl) (v := .ref (t 0)) rfl dX3_foresee_39 ?_
      refine xr_aload_n F dX3_foresee_42 rfl 0 rfl ?_
      refine xr_get F hin3 0 rfl rfl 7 (by decide) (List.mem_of_getElem? (i := 3) rfl) (v := .ref (u 0)) rfl dX3_foresee_43 ?_
      refine xr_callVr F (wr := mw yI g u t 0 K) (rest := [.ref (g 0)]) (As := [.ref (u 0)]) (k_X2_become l D yI yZ yL t u mk2 aw2 wh2 V2 (kMark K) aw wh V) (cwV 1 F.hts gX3_foresee_X2_become rfl rfl rfl (by decide +kernel) ⟨Nat.le_of_ble_eq_true rfl, Nat.le_of_ble_eq_true rfl⟩) (q0 := 0) rfl rfl [14, 15, 16, 17, 18, 19, 20, 21, 22, 23, 24, 3, 4, 5, 6, 7, 8, 9, 10, 11, 12, 13] [0, 1, 2] rfl rfl (by decide) (by decide) (by decide) rfl rfl (Nat.le_of_ble_eq_true rfl) dX3_foresee_46 ⟨Nat.le_of_ble_eq_true rfl, Nat.le_of_ble_eq_true rfl⟩ (fun r1 W1 z1 => ?_)
      obtain ⟨z0, z1⟩ := z1
      subst z0
      subst z1
      refine xr_sub (ws' := mw yI g u t 0 K ++ (sw yI u (kMark K) aw wh V ++ (sw yI t (kMark K) aw wh V))) [0, 1, 2, 14, 15, 16, 17, 18, 19, 20, 21, 22, 23, 24, 3, 4, 5, 6, 7, 8, 9, 10, 11, 12, 13] (by decide) rfl ?_
      refine xr_iload_n F dX3_foresee_49 rfl 1 rfl ?_
      refine xr_stk (st' := [.int (nI (ix x)), .ref (t 0), .ref (g 0)]) (by rw [← hx1]) ?_
      refine xr_callVi F (wr := sw yI u (kMark K) aw wh V) (rest := []) (As := [.ref (t 0), .int (nI (ix x))]) (k_X3_passAll l D yI yZ yL g u t t 0 K aw wh V (ix x) (by assumption) (by assumption) (by omega) (by omega)) (cwV 2 F.hts gX3_foresee_X3_passAll rfl rfl rfl (by decide +kernel) ⟨Nat.le_of_ble_eq_true rfl, Nat.le_of_ble_eq_true rfl⟩) (q0 := 0) rfl rfl [0, 1, 2, 14, 15, 16, 17, 18, 19, 20, 21, 22, 23, 24] [3, 4, 5, 6, 7, 8, 9, 10, 11, 12, 13] rfl rfl (by decide) (by decide) (by decide) rfl rfl (Nat.le_of_ble_eq_true rfl) dX3_foresee_50 ⟨Nat.le_of_ble_eq_true rfl, Nat.le_of_ble_eq_true rfl⟩ (fun r1 W1 z1 => ?_)
      obtain ⟨z0, z1⟩ := z1
      subst z0
      obtain ⟨V1, eV1⟩ : ∃ x9 : CD, x9 = (m_hours K (ix x) V aw wh 0).1 := ⟨_, rfl⟩
      rw [← eV1] at z1
      obtain ⟨x2, ex2⟩ : ∃ x9 : Int32, x9 = (m_hours K (ix x) V aw wh 0).2.1 := ⟨_, rfl⟩
      rw [← ex2] at z1
      obtain ⟨y3, ey3⟩ : ∃ x9 : Nat → Int32, x9 = (m_hours K (ix x) V aw wh 0).2.2.1 := ⟨_, rfl⟩
      rw [← ey3] at z1
      subst z1
      refine xr_sub (ws' := mw yI g u t 0 K ++ (sw yI u (kMark K) aw wh V ++ (sw yI t (kMark K) x2 y3 V1))) [11, 12, 13, 0, 1, 2, 3, 4, 5, 6, 7, 8, 9, 10, 14, 15, 16, 17, 18, 19, 20, 21, 22, 23, 24] (by decide) rfl ?_
      refine xr_pop F dX3_foresee_53 rfl ?_
      refine xr_aload_n F dX3_foresee_54 rfl 0 rfl ?_
      refine xr_aload_n F dX3_foresee_55 rfl 0 rfl ?_
      refine xr_get F hin3 0 rfl rfl 8 (by decide) (List.mem_of_getElem? (i := 2) rfl) (v := .ref (t 0)) rfl dX3_foresee_56 ?_
      refine xr_iload_n F dX3_foresee_59 rfl 2 rfl ?_
      refine xr_stk (st' := [.int (nI (ix y)), .ref (t 0), .ref (g 0)]) (by rw [← hy1]) ?_
      refine xr_callVi F (wr := sw yI u (kMark K) aw wh V) (rest := []) (As := [.ref (t 0), .int (nI (ix y))]) (k_X3_counted l D yI yZ yL g u t t 0 K x2 y3 V1 (ix y) (by omega) (by assumption)) (cwV 2 F.hts gX3_foresee_X3_counted rfl rfl rfl (by decide +kernel) ⟨Nat.le_of_ble_eq_true rfl, Nat.le_of_ble_eq_true rfl⟩) (q0 := 0) rfl rfl [0, 1, 2, 14, 15, 16, 17, 18, 19, 20, 21, 22, 23, 24] [3, 4, 5, 6, 7, 8, 9, 10, 11, 12, 13] rfl rfl (by decide) (by decide) (by decide) rfl rfl (Nat.le_of_ble_eq_true rfl) dX3_foresee_60 ⟨Nat.le_of_ble_eq_true rfl, Nat.le_of_ble_eq_true rfl⟩ (fun r1 W1 z1 => ?_)
      obtain ⟨z0, z1⟩ := z1
      subst z0
      subst z1
      refine xr_sub (ws' := mw yI g u t 0 K ++ (sw yI u (kMark K) aw wh V ++ (sw yI t (kMark K) x2 y3 V1))) [11, 12, 13, 0, 1, 2, 3, 4, 5, 6, 7, 8, 9, 10, 14, 15, 16, 17, 18, 19, 20, 21, 22, 23, 24] (by decide) rfl ?_
      have f0 : q_foresee x y = 0 := by simp only [q_foresee, r_or0, xk_01, xk_10, xk_20, xk_30, eq_self, c12, c28, ↓reduceIte]
      refine ret _ _ _ _ dX3_foresee_63 ⟨?_, ⟨_, _, _, _, by rw [f0]⟩⟩
      rw [r_or0, f0, if_pos rfl]
      rw [ex2, eV1]
    · skip
      refine xr_aload_n F dX3_foresee_31 rfl 0 rfl ?_
      refine xr_iconst F dX3_foresee_32 (v := 2) (by decide) ?_
      refine xr_callVi F (wr := sw yI u (kMark K) aw wh V ++ (sw yI t mk2 aw2 wh2 V2)) (rest := []) (As := [.int 2]) (k_X3_no l D yI yZ yL g u t 0 K 2 ) (cwV 1 F.hts gX3_foresee_X3_no rfl rfl rfl (by decide +kernel) ⟨Nat.le_of_ble_eq_true rfl, Nat.le_of_ble_eq_true rfl⟩) (q0 := 0) rfl rfl [0, 1, 2] [3, 4, 5, 6, 7, 8, 9, 10, 11, 12, 13, 14, 15, 16, 17, 18, 19, 20, 21, 22, 23, 24] rfl rfl (by decide) (by decide) (by decide) rfl rfl (Nat.le_of_ble_eq_true rfl) dX3_foresee_33 ⟨Nat.le_of_ble_eq_true rfl, Nat.le_of_ble_eq_true rfl⟩ (fun r1 W1 z1 => ?_)
      obtain ⟨z0, z1⟩ := z1
      subst z0
      subst z1
      refine xr_sub (ws' := mw yI g u t 2 K ++ (sw yI u (kMark K) aw wh V ++ (sw yI t mk2 aw2 wh2 V2))) [22, 23, 24, 0, 1, 2, 3, 4, 5, 6, 7, 8, 9, 10, 11, 12, 13, 14, 15, 16, 17, 18, 19, 20, 21] (by decide) rfl ?_
      have f0 : q_foresee x y = 2 := by simp only [q_foresee, r_or0, xk_01, xk_10, xk_20, xk_30, eq_self, c12, c28, ↓reduceIte]
      refine ret _ _ _ _ dX3_foresee_36 ⟨?_, ⟨_, _, _, _, by rw [f0]⟩⟩
      rw [r_or0, f0, if_neg xk_20]
  · skip
    refine xr_aload_n F dX3_foresee_15 rfl 0 rfl ?_
    refine xr_iconst F dX3_foresee_16 (v := 1) (by decide) ?_
    refine xr_callVi F (wr := sw yI u (kMark K) aw wh V ++ (sw yI t mk2 aw2 wh2 V2)) (rest := []) (As := [.int 1]) (k_X3_no l D yI yZ yL g u t 0 K 1 ) (cwV 1 F.hts gX3_foresee_X3_no rfl rfl rfl (by decide +kernel) ⟨Nat.le_of_ble_eq_true rfl, Nat.le_of_ble_eq_true rfl⟩) (q0 := 0) rfl rfl [0, 1, 2] [3, 4, 5, 6, 7, 8, 9, 10, 11, 12, 13, 14, 15, 16, 17, 18, 19, 20, 21, 22, 23, 24] rfl rfl (by decide) (by decide) (by decide) rfl rfl (Nat.le_of_ble_eq_true rfl) dX3_foresee_17 ⟨Nat.le_of_ble_eq_true rfl, Nat.le_of_ble_eq_true rfl⟩ (fun r1 W1 z1 => ?_)
    obtain ⟨z0, z1⟩ := z1
    subst z0
    subst z1
    refine xr_sub (ws' := mw yI g u t 1 K ++ (sw yI u (kMark K) aw wh V ++ (sw yI t mk2 aw2 wh2 V2))) [22, 23, 24, 0, 1, 2, 3, 4, 5, 6, 7, 8, 9, 10, 11, 12, 13, 14, 15, 16, 17, 18, 19, 20, 21] (by decide) rfl ?_
    have f0 : q_foresee x y = 1 := by simp only [q_foresee, r_or0, xk_01, xk_10, xk_20, xk_30, eq_self, c12, ↓reduceIte]
    refine ret _ _ _ _ dX3_foresee_20 ⟨?_, ⟨_, _, _, _, by rw [f0]⟩⟩
    rw [r_or0, f0, if_neg xk_10]

def rm_X3_advise : Room := { frames := 6, cells := 0, slots := 0, locals := 140 }
set_option maxHeartbeats 4000000 in
set_option maxRecDepth 100000 in
/-- advise -/
theorem k_X3_advise (l : Launch) (D : va_G) (yI yZ yL : ClassId) (g u t : Nat → Nat) (th : Int32) (K : CK) (aw : Int32) (wh : Nat → Int32) (V : CD) (mk2 aw2 : Int32) (wh2 : Nat → Int32) (V2 : CD) (x : Int32) (h0 : kNb K ≤ 10) (h1 : kMill K ≤ 6) (h2 : dHour V + 121 < 2147483648) : xMi l yX3_advise wsX3_advise rm_X3_advise D (tysG yI yZ yL) (mw yI g u t th K ++ (sw yI u (kMark K) aw wh V ++ (sw yI t mk2 aw2 wh2 V2))) [.ref (g 0), .int x] 0 0 (fun (r : Int32) (W1 : va_W) => r = r_or0 (q_hours x 40) (m_advL K V aw wh (ix x) 11 0 0 (-1)) ∧ ∃ (z1 z2 : Int32) (z3 : Nat → Int32) (z4 : CD), W1 = mw yI g u t (q_hours x 40) K ++ (sw yI u (kMark K) aw wh V ++ sw yI t z1 z2 z3 z4)) := by
  refine xE_i (cc := cX3_advise) (nL := 5) (by decide) rfl (Nat.le_of_ble_eq_true rfl) ?_
  intro p e s m args below meth c A Q F hnm ret
  have hin2 : ∀ w ∈ u_ws RX2 TX2 14, w ∈ wsX3_advise := by decide +kernel
  have hin3 : ∀ w ∈ u_ws RX3 TX3 9, w ∈ wsX3_advise := by decide +kernel
  show AW p l e rm_X3_advise s m args below meth c 5 D A 0 0 Q (mw yI g u t th K ++ (sw yI u (kMark K) aw wh V ++ (sw yI t mk2 aw2 wh2 V2))) [(0, .ref (g 0)), (1, .int x)] 0 []
  refine xr_aload_n F dX3_advise_0 rfl 0 rfl ?_
  refine xr_iconst F dX3_advise_1 (v := 0) (by decide) ?_
  refine xr_put (ty := .int) F hin3 0 rfl rfl 0 (by decide) tyX3 tyX3_ok nmX3 (List.mem_of_getElem? (i := 1) rfl) rfl (by decide) rfl rfl (Nat.le_of_ble_eq_true rfl) (mw yI g u t 0 K ++ (sw yI u (kMark K) aw wh V ++ (sw yI t mk2 aw2 wh2 V2))) rfl dX3_advise_2 ?_
  refine xr_iload_n F dX3_advise_5 rfl 1 rfl ?_
  refine xr_iconst F dX3_advise_6 (v := 1) (by decide) ?_
  refine xr_bipush F dX3_advise_7 (v := 40) (by decide) ?_
  refine xr_callSz F (wr := mw yI g u t 0 K ++ (sw yI u (kMark K) aw wh V ++ (sw yI t mk2 aw2 wh2 V2))) (rest := []) (As := [.int x, .int 1, .int 40]) (k_X3_isIn l D yI yZ yL x 1 40 ) (va_cwS 3 F.hts gX3_advise_X3_isIn rfl rfl rfl (by decide +kernel) ⟨Nat.le_of_ble_eq_true rfl, Nat.le_of_ble_eq_true rfl⟩) [] [0, 1, 2, 3, 4, 5, 6, 7, 8, 9, 10, 11, 12, 13, 14, 15, 16, 17, 18, 19, 20, 21, 22, 23, 24] rfl rfl (by decide) (by decide) (by decide) rfl rfl (Nat.le_of_ble_eq_true rfl) dX3_advise_9 ⟨Nat.le_of_ble_eq_true rfl, Nat.le_of_ble_eq_true rfl⟩ (fun r1 W1 z1 => ?_)
  obtain ⟨z0, z1⟩ := z1
  subst z0
  subst z1
  refine xr_ws (ws' := mw yI g u t 0 K ++ (sw yI u (kMark K) aw wh V ++ (sw yI t mk2 aw2 wh2 V2))) rfl ?_
  refine xr_if_ne F 21 dX3_advise_12 (by decide) (fun c12 => ?_) (fun c12 => ?_)
  · skip
    obtain ⟨hx1, hx2, hx3⟩ := isIn_ixl 1 40 (by decide) (by decide) rfl rfl c12
    refine xr_iconst F dX3_advise_21 (v := 0) (by decide) ?_
    refine xr_istore_n F [(2, .int 0), (0, .ref (g 0)), (1, .int x)] dX3_advise_22 rfl (by decide) rfl ?_
    refine xr_iconst F dX3_advise_23 (v := (-1)) (by decide) ?_
    refine xr_istore_n F [(3, .int ((-1))), (2, .int 0), (0, .ref (g 0)), (1, .int x)] dX3_advise_24 rfl (by decide) rfl ?_
    refine xr_iconst F dX3_advise_25 (v := nI (0 * 10)) (by decide) ?_
    refine xr_istore F [(4, .int (nI (0 * 10))), (3, .int ((-1))), (2, .int 0), (0, .ref (g 0)), (1, .int x)] dX3_advise_26 (by decide) rfl ?_
    have lp : ∀ (i : Nat) (b : Nat) (bs : Int32) (mo : Int32) (m8 : Int32) (a9 : Int32) (y9 : Nat → Int32) (U : CD), i + b = 11 → m_advL K V aw wh (ix x) i b bs mo = m_advL K V aw wh (ix x) 11 0 0 (-1) → AW p l e rm_X3_advise s m args below meth c 5 D A 0 0 Q (mw yI g u t 0 K ++ (sw yI u (kMark K) aw wh V ++ (sw yI t m8 a9 y9 U))) [(4, .int (nI (b * 10))), (3, .int mo), (2, .int bs), (0, .ref (g 0)), (1, .int x)] 28 [] := by
      intro i
      induction i with
      | zero =>
        intro b bs mo m8 a9 y9 U hb hi
        refine xr_iload F dX3_advise_28 0 rfl ?_
        refine xr_bipush F dX3_advise_30 (v := 100) (by decide) ?_
        refine xr_icmp_gt F 92 dX3_advise_32 (by decide) (fun c32 => ?_) (fun c32 => ?_)
        · skip
          refine xr_iload_n F dX3_advise_92 rfl 2 rfl ?_
          have f0 : q_hours x 40 = 0 := by simp only [q_hours, r_or0, xk_01, xk_10, xk_20, xk_30, eq_self, c12, ↓reduceIte]
          refine ret _ _ _ _ dX3_advise_93 ⟨?_, ⟨_, _, _, _, by rw [f0]⟩⟩
          rw [r_or0, f0, if_pos rfl]
          exact hi
        · exact absurd (nI_lt (a := 100) (by omega) (by omega)) c32
      | succ i ih =>
        intro b bs mo m8 a9 y9 U hb hi
        refine xr_iload F dX3_advise_28 0 rfl ?_
        refine xr_bipush F dX3_advise_30 (v := 100) (by decide) ?_
        refine xr_icmp_gt F 92 dX3_advise_32 (by decide) (fun c32 => ?_) (fun c32 => ?_)
        · exact absurd c32 (nI_nlt (a := 100) (by omega) (by omega))
        · skip
          refine xr_aload_n F dX3_advise_35 rfl 3 rfl ?_
          refine xr_get F hin3 0 rfl rfl 8 (by decide) (List.mem_of_getElem? (i := 2) rfl) (v := .ref (t 0)) rfl dX3_advise_36 ?_
          refine xr_aload_n F dX3_advise_39 rfl 3 rfl ?_
          refine xr_get F hin3 0 rfl rfl 7 (by decide) (List.mem_of_getElem? (i := 3) rfl) (v := .ref (u 0)) rfl dX3_advise_40 ?_
          refine xr_callVr F (wr := mw yI g u t 0 K) (rest := []) (As := [.ref (u 0)]) (k_X2_become l D yI yZ yL t u m8 a9 y9 U (kMark K) aw wh V) (cwV 1 F.hts gX3_advise_X2_become rfl rfl rfl (by decide +kernel) ⟨Nat.le_of_ble_eq_true rfl, Nat.le_of_ble_eq_true rfl⟩) (q0 := 0) rfl rfl [14, 15, 16, 17, 18, 19, 20, 21, 22, 23, 24, 3, 4, 5, 6, 7, 8, 9, 10, 11, 12, 13] [0, 1, 2] rfl rfl (by decide) (by decide) (by decide) rfl rfl (Nat.le_of_ble_eq_true rfl) dX3_advise_43 ⟨Nat.le_of_ble_eq_true rfl, Nat.le_of_ble_eq_true rfl⟩ (fun r1 W1 z1 => ?_)
          obtain ⟨z0, z1⟩ := z1
          subst z0
          subst z1
          refine xr_sub (ws' := mw yI g u t 0 K ++ (sw yI u (kMark K) aw wh V ++ (sw yI t (kMark K) aw wh V))) [0, 1, 2, 14, 15, 16, 17, 18, 19, 20, 21, 22, 23, 24, 3, 4, 5, 6, 7, 8, 9, 10, 11, 12, 13] (by decide) rfl ?_
          refine xr_iload F dX3_advise_46 0 rfl ?_
          refine xr_putN (ty := .int) F hin2 14 rfl rfl 1 (by decide) tyX2 tyX2_ok nmX2 (List.mem_of_getElem? (i := 1) rfl) rfl (by decide) rfl rfl (Nat.le_of_ble_eq_true rfl) (mw yI g u t 0 K ++ (sw yI u (kMark K) aw wh V ++ (sw yI t (nI (b * 10)) aw wh V))) rfl dX3_advise_48 ?_
          refine xr_aload_n F dX3_advise_51 rfl 3 rfl ?_
          refine xr_aload_n F dX3_advise_52 rfl 3 rfl ?_
          refine xr_get F hin3 0 rfl rfl 8 (by decide) (List.mem_of_getElem? (i := 2) rfl) (v := .ref (t 0)) rfl dX3_advise_53 ?_
          refine xr_iload_n F dX3_advise_56 rfl 4 rfl ?_
          refine xr_ws (ws' := mw yI g u t 0 (uMark K (nI (b * 10))) ++ (sw yI u (kMark K) aw wh V ++ (sw yI t (kMark (uMark K (nI (b * 10)))) aw wh V))) rfl ?_
          refine xr_stk (st' := [.int (nI (ix x)), .ref (t 0), .ref (g 0)]) (by rw [← hx1]) ?_
          refine xr_callVi F (wr := sw yI u (kMark K) aw wh V) (rest := []) (As := [.ref (t 0), .int (nI (ix x))]) (k_X3_passAll l D yI yZ yL g u t t 0 (uMark K (nI (b * 10))) aw wh V (ix x) h0 h1 (by omega) (by omega)) (cwV 2 F.hts gX3_advise_X3_passAll rfl rfl rfl (by decide +kernel) ⟨Nat.le_of_ble_eq_true rfl, Nat.le_of_ble_eq_true rfl⟩) (q0 := 0) rfl rfl [0, 1, 2, 14, 15, 16, 17, 18, 19, 20, 21, 22, 23, 24] [3, 4, 5, 6, 7, 8, 9, 10, 11, 12, 13] rfl rfl (by decide) (by decide) (by decide) rfl rfl (Nat.le_of_ble_eq_true rfl) dX3_advise_57 ⟨Nat.le_of_ble_eq_true rfl, Nat.le_of_ble_eq_true rfl⟩ (fun r1 W1 z1 => ?_)
          obtain ⟨z0, z1⟩ := z1
          subst z0
          obtain ⟨V1, eV1⟩ : ∃ x9 : CD, x9 = (m_hours (uMark K (nI (b * 10))) (ix x) V aw wh 0).1 := ⟨_, rfl⟩
          rw [← eV1] at z1
          obtain ⟨x2, ex2⟩ : ∃ x9 : Int32, x9 = (m_hours (uMark K (nI (b * 10))) (ix x) V aw wh 0).2.1 := ⟨_, rfl⟩
          rw [← ex2] at z1
          obtain ⟨y3, ey3⟩ : ∃ x9 : Nat → Int32, x9 = (m_hours (uMark K (nI (b * 10))) (ix x) V aw wh 0).2.2.1 := ⟨_, rfl⟩
          rw [← ey3] at z1
          subst z1
          refine xr_sub (ws' := mw yI g u t 0 (uMark K (nI (b * 10))) ++ (sw yI u (kMark K) aw wh V ++ (sw yI t (kMark (uMark K (nI (b * 10)))) x2 y3 V1))) [11, 12, 13, 0, 1, 2, 3, 4, 5, 6, 7, 8, 9, 10, 14, 15, 16, 17, 18, 19, 20, 21, 22, 23, 24] (by decide) rfl ?_
          refine xr_ws (ws' := mw yI g u t 0 K ++ (sw yI u (kMark K) aw wh V ++ (sw yI t (nI (b * 10)) x2 y3 V1))) rfl ?_
          refine xr_pop F dX3_advise_60 rfl ?_
          refine xr_aload_n F dX3_advise_61 rfl 3 rfl ?_
          refine xr_get F hin3 0 rfl rfl 8 (by decide) (List.mem_of_getElem? (i := 2) rfl) (v := .ref (t 0)) rfl dX3_advise_62 ?_
          refine xr_getN F hin2 14 rfl rfl 2 (by decide) (List.mem_of_getElem? (i := 2) rfl) (v := .int (dBank V1)) rfl dX3_advise_65 ?_
          refine xr_iload_n F dX3_advise_68 rfl 1 rfl ?_
          refine xr_icmp_ge F 75 dX3_advise_69 (by decide) (fun c69 => ?_) (fun c69 => ?_)
          · skip
            refine xr_aload_n F dX3_advise_75 rfl 3 rfl ?_
            refine xr_get F hin3 0 rfl rfl 8 (by decide) (List.mem_of_getElem? (i := 2) rfl) (v := .ref (t 0)) rfl dX3_advise_76 ?_
            refine xr_getN F hin2 14 rfl rfl 2 (by decide) (List.mem_of_getElem? (i := 2) rfl) (v := .int (dBank V1)) rfl dX3_advise_79 ?_
            refine xr_istore_n F [(3, .int (dBank V1)), (4, .int (nI (b * 10))), (2, .int bs), (0, .ref (g 0)), (1, .int x)] dX3_advise_82 rfl (by decide) rfl ?_
            refine xr_iload F dX3_advise_83 1 rfl ?_
            refine xr_istore_n F [(2, .int (nI (b * 10))), (3, .int (dBank V1)), (4, .int (nI (b * 10))), (0, .ref (g 0)), (1, .int x)] dX3_advise_85 rfl (by decide) rfl ?_
            refine xr_iinc F (nI ((b + 1) * 10)) [(4, .int (nI ((b + 1) * 10))), (2, .int (nI (b * 10))), (3, .int (dBank V1)), (0, .ref (g 0)), (1, .int x)] dX3_advise_86 2 rfl (xk_10k b) (by decide) rfl ?_
            refine xr_goto F 28 dX3_advise_89 (by decide) ?_
            refine xr_lv (lv' := [(4, .int (nI ((b + 1) * 10))), (3, .int (dBank V1)), (2, .int (nI (b * 10))), (0, .ref (g 0)), (1, .int x)]) [0, 2, 1, 3, 4] rfl ?_
            subst ey3
            subst ex2
            subst eV1
            exact ih (b + 1) (nI (b * 10)) (m_advB K V aw wh (ix x) (nI (b * 10))) (nI (b * 10)) (m_hours (uMark K (nI (b * 10))) (ix x) V aw wh 0).2.1 (m_hours (uMark K (nI (b * 10))) (ix x) V aw wh 0).2.2.1 (m_hours (uMark K (nI (b * 10))) (ix x) V aw wh 0).1 (by omega) (by rw [← hi, m_advL, if_neg (show ¬ m_advB K V aw wh (ix x) (nI (b * 10)) < mo from Int32.not_lt.mpr c69)])
          · skip
            refine xr_goto F 86 dX3_advise_72 (by decide) ?_
            refine xr_iinc F (nI ((b + 1) * 10)) [(4, .int (nI ((b + 1) * 10))), (3, .int mo), (2, .int bs), (0, .ref (g 0)), (1, .int x)] dX3_advise_86 0 rfl (xk_10k b) (by decide) rfl ?_
            refine xr_goto F 28 dX3_advise_89 (by decide) ?_
            refine xr_lv (lv' := [(4, .int (nI ((b + 1) * 10))), (3, .int mo), (2, .int bs), (0, .ref (g 0)), (1, .int x)]) [0, 1, 2, 3, 4] rfl ?_
            subst ey3
            subst ex2
            subst eV1
            exact ih (b + 1) bs mo (nI (b * 10)) (m_hours (uMark K (nI (b * 10))) (ix x) V aw wh 0).2.1 (m_hours (uMark K (nI (b * 10))) (ix x) V aw wh 0).2.2.1 (m_hours (uMark K (nI (b * 10))) (ix x) V aw wh 0).1 (by omega) (by rw [← hi, m_advL, if_pos (show m_advB K V aw wh (ix x) (nI (b * 10)) < mo from Int32.not_le.mp c69)])
    refine xr_lv (lv' := [(4, .int (nI (0 * 10))), (3, .int ((-1))), (2, .int 0), (0, .ref (g 0)), (1, .int x)]) [0, 1, 2, 3, 4] rfl ?_
    exact lp 11 0 0 (-1) mk2 aw2 wh2 V2 rfl rfl
  · skip
    refine xr_aload_n F dX3_advise_15 rfl 0 rfl ?_
    refine xr_iconst F dX3_advise_16 (v := 1) (by decide) ?_
    refine xr_callVi F (wr := sw yI u (kMark K) aw wh V ++ (sw yI t mk2 aw2 wh2 V2)) (rest := []) (As := [.int 1]) (k_X3_no l D yI yZ yL g u t 0 K 1 ) (cwV 1 F.hts gX3_advise_X3_no rfl rfl rfl (by decide +kernel) ⟨Nat.le_of_ble_eq_true rfl, Nat.le_of_ble_eq_true rfl⟩) (q0 := 0) rfl rfl [0, 1, 2] [3, 4, 5, 6, 7, 8, 9, 10, 11, 12, 13, 14, 15, 16, 17, 18, 19, 20, 21, 22, 23, 24] rfl rfl (by decide) (by decide) (by decide) rfl rfl (Nat.le_of_ble_eq_true rfl) dX3_advise_17 ⟨Nat.le_of_ble_eq_true rfl, Nat.le_of_ble_eq_true rfl⟩ (fun r1 W1 z1 => ?_)
    obtain ⟨z0, z1⟩ := z1
    subst z0
    subst z1
    refine xr_sub (ws' := mw yI g u t 1 K ++ (sw yI u (kMark K) aw wh V ++ (sw yI t mk2 aw2 wh2 V2))) [22, 23, 24, 0, 1, 2, 3, 4, 5, 6, 7, 8, 9, 10, 11, 12, 13, 14, 15, 16, 17, 18, 19, 20, 21] (by decide) rfl ?_
    have f0 : q_hours x 40 = 1 := by simp only [q_hours, r_or0, xk_01, xk_10, xk_20, xk_30, eq_self, c12, ↓reduceIte]
    refine ret _ _ _ _ dX3_advise_20 ⟨?_, ⟨_, _, _, _, by rw [f0]⟩⟩
    rw [r_or0, f0, if_neg xk_10]
