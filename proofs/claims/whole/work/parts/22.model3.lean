def rm_X3_pass : Room := { frames := 4, cells := 0, slots := 0, locals := 92 }
set_option maxHeartbeats 4000000 in
set_option maxRecDepth 100000 in
/-- pass (an hour) -/
theorem k_X3_pass (l : Launch) (D : va_G) (yI yZ yL : ClassId) (g u t o : Nat → Nat) (th : Int32) (K : CK) (aw : Int32) (wh : Nat → Int32) (V : CD)  (h0 : kNb K ≤ 10) (h1 : kMill K ≤ 6) (h2 : dHour V < 2147483648) : xMi l yX3_pass wsX3_pass rm_X3_pass D (tysG yI yZ yL) ((mw yI g u t th K) ++ (sw yI o (kMark K) aw wh V)) [.ref (g 0), .ref (o 0)] 0 0 (fun (r : Int32) (W1 : va_W) => r = (m_hour K V aw wh).2.2.2 ∧ W1 = (mw yI g u t th K) ++ (sw yI o (kMark K) ((m_hour K V aw wh).2.1) ((m_hour K V aw wh).2.2.1) ((m_hour K V aw wh).1))) := by
  refine xE_i (cc := cX3_pass) (nL := 5) (by decide) rfl (Nat.le_of_ble_eq_true rfl) ?_
  intro p e s m args below meth c A Q F hnm ret
  have hin2 : ∀ w ∈ u_ws RX2 TX2 14, w ∈ wsX3_pass := by decide +kernel
  have hin3 : ∀ w ∈ u_ws RX3 TX3 9, w ∈ wsX3_pass := by decide +kernel
  show AW p l e rm_X3_pass s m args below meth c 5 D A 0 0 Q ((mw yI g u t th K) ++ (sw yI o (kMark K) aw wh V)) [(0, .ref (g 0)), (1, .ref (o 0))] 0 []
  refine xr_aload_n F dX3_pass_0 rfl 1 rfl ?_
  refine xr_iconst F dX3_pass_1 (v := nI 6 - 1) (by decide) ?_
  refine xr_aload_n F dX3_pass_2 rfl 0 rfl ?_
  refine xr_get F hin3 0 rfl rfl 3 (by decide) (List.mem_of_getElem? (i := 1) rfl) (v := .ref (g 2)) rfl dX3_pass_3 ?_
  refine xr_aload_n F dX3_pass_6 rfl 1 rfl ?_
  refine xr_getN F hin2 3 rfl rfl 0 (by decide) (List.mem_of_getElem? (i := 0) rfl) (v := .int (nI (dHour V))) rfl dX3_pass_7 ?_
  refine xr_bipush F dX3_pass_10 (v := 8) (by decide) ?_
  refine xr_irem F (nI ((dHour V) % 8)) dX3_pass_12 (by decide) (pk_rem (a := dHour V) (d := 8) h2 (by decide) (by decide)) ?_
  refine xr_iald F 2 0 rfl rfl ((dHour V) % 8) rfl (Nat.mod_lt _ (by decide)) (by decide) dX3_pass_13 ?_
  refine xr_callVv F (wr := mw yI g u t th K) (rest := []) (As := [.int (nI 6 - 1), .int ((kSpr K) ((dHour V) % 8))]) (k_X2_pour l D yI yZ yL o (kMark K) aw wh V 6 ((kSpr K) ((dHour V) % 8)) (by decide)) (cwV 2 F.hts gX3_pass_X2_pour rfl rfl rfl (by decide +kernel) ⟨Nat.le_of_ble_eq_true rfl, Nat.le_of_ble_eq_true rfl⟩) (q0 := 0) rfl rfl [3, 4, 5, 6, 7, 8, 9, 10, 11, 12, 13] [0, 1, 2] rfl rfl (by decide) (by decide) (by decide) rfl rfl (Nat.le_of_ble_eq_true rfl) dX3_pass_14 ⟨Nat.le_of_ble_eq_true rfl, Nat.le_of_ble_eq_true rfl⟩ (fun W1 z1 => ?_)
  obtain ⟨V1, eV1⟩ : ∃ x9 : CD, x9 = (s_pour V aw 6 ((kSpr K) ((dHour V) % 8))).1 := ⟨_, rfl⟩
  rw [← eV1] at z1
  obtain ⟨x2, ex2⟩ : ∃ x9 : Int32, x9 = (s_pour V aw 6 ((kSpr K) ((dHour V) % 8))).2 := ⟨_, rfl⟩
  rw [← ex2] at z1
  subst z1
  refine xr_ws (ws' := (mw yI g u t th K) ++ (sw yI o (kMark K) x2 wh V1)) rfl ?_
  refine xr_aload_n F dX3_pass_17 rfl 0 rfl ?_
  refine xr_aload_n F dX3_pass_18 rfl 1 rfl ?_
  refine xr_callVv F (wr := ([] : va_W)) (rest := []) (As := [.ref (o 0)]) (k_X3_grind l D yI yZ yL g u t o th K x2 wh V1 (by assumption)) (cwV 1 F.hts gX3_pass_X3_grind rfl rfl rfl (by decide +kernel) ⟨Nat.le_of_ble_eq_true rfl, Nat.le_of_ble_eq_true rfl⟩) (q0 := 0) rfl rfl [0, 1, 2, 3, 4, 5, 6, 7, 8, 9, 10, 11, 12, 13] [] rfl rfl (by decide) (by decide) (by decide) rfl rfl (Nat.le_of_ble_eq_true rfl) dX3_pass_19 ⟨Nat.le_of_ble_eq_true rfl, Nat.le_of_ble_eq_true rfl⟩ (fun W1 z1 => ?_)
  obtain ⟨V3, eV3⟩ : ∃ x9 : CD, x9 = (m_grind K V1 x2).1 := ⟨_, rfl⟩
  rw [← eV3] at z1
  obtain ⟨x4, ex4⟩ : ∃ x9 : Int32, x9 = (m_grind K V1 x2).2 := ⟨_, rfl⟩
  rw [← ex4] at z1
  subst z1
  refine xr_ws (ws' := (mw yI g u t th K) ++ (sw yI o (kMark K) x4 wh V3)) rfl ?_
  refine xr_iconst F dX3_pass_22 (v := 0) (by decide) ?_
  refine xr_istore_n F [(2, .int 0), (0, .ref (g 0)), (1, .ref (o 0))] dX3_pass_23 rfl (by decide) rfl ?_
  refine xr_iconst F dX3_pass_24 (v := nI 5 - 1) (by decide) ?_
  refine xr_istore_n F [(3, .int (nI 5 - 1)), (2, .int 0), (0, .ref (g 0)), (1, .ref (o 0))] dX3_pass_25 rfl (by decide) rfl ?_
  have lp : ∀ (i : Nat) (U : CD) (x : Int32) (y : Nat → Int32) (sv : Int32), i ≤ 5 → m_hourL K i U x y sv = m_hourB K V aw wh → AW p l e rm_X3_pass s m args below meth c 5 D A 0 0 Q ((mw yI g u t th K) ++ (sw yI o (kMark K) x y U)) [(3, .int (nI i - 1)), (2, .int sv), (0, .ref (g 0)), (1, .ref (o 0))] 26 [] := by
    intro i
    induction i with
    | zero =>
      intro U x y sv hn hi
      refine xr_iload_n F dX3_pass_26 rfl 0 rfl ?_
      refine xr_if_lt F 64 dX3_pass_27 (by decide) (fun c27 => ?_) (fun c27 => ?_)
      · skip
        refine xr_aload_n F dX3_pass_64 rfl 3 rfl ?_
        refine xr_dup F dX3_pass_65 rfl ?_
        refine xr_getN F hin2 3 rfl rfl 0 (by decide) (List.mem_of_getElem? (i := 0) rfl) (v := .int (nI (dHour U))) rfl dX3_pass_66 ?_
        refine xr_iconst F dX3_pass_69 (v := 1) (by decide) ?_
        refine xr_iadd F (nI (dHour U + 1)) dX3_pass_70 (nI_add (dHour U) 1) ?_
        refine xr_putN (ty := .int) F hin2 3 rfl rfl 0 (by decide) tyX2 tyX2_ok nmX2 (List.mem_of_getElem? (i := 0) rfl) rfl (by decide) rfl rfl (Nat.le_of_ble_eq_true rfl) ((mw yI g u t th K) ++ (swx yI o (kMark K) x y (dHour U + 1) (dBank U) (dLev U) (dOver U) (dDrawn U) (dFull U) (dLock U) (dFill U) (dAt U) (dPur U) (dSer U))) rfl dX3_pass_71 ?_
        refine xr_iload_n F dX3_pass_74 rfl 1 rfl ?_
        have hB : m_hourB K V aw wh = (U, x, y, sv) := hi.symm
        have f0 : (m_hour K V aw wh).1 = (dHour U + 1, dBank U, dLev U, dOver U, dDrawn U, dFull U, dLock U, dFill U, dAt U, dPur U, dSer U) := by
          unfold m_hour
          rw [hB]
          try simp only [tHour, tBank, tLev, tOver, tDrawn, tFull, tLock, tFill, tAt, tPur, tSer, dHour, dBank, dLev, dOver, dDrawn, dFull, dLock, dFill, dAt, dPur, dSer]
        have f1 : (m_hour K V aw wh).2.1 = x := by unfold m_hour; rw [hB]
        have f2 : (m_hour K V aw wh).2.2.1 = y := by unfold m_hour; rw [hB]
        refine ret _ _ _ _ dX3_pass_75 ⟨?_, ?_⟩
        · unfold m_hour; rw [hB]
        · rw [f0, f1, f2, sw_mk]
      · exact absurd (by decide) c27
    | succ i ih =>
      intro U x y sv hn hi
      refine xr_lveq (lv' := [(3, .int (nI i)), (2, .int sv), (0, .ref (g 0)), (1, .ref (o 0))]) (by rw [nI_pred]) ?_
      refine xr_iload_n F dX3_pass_26 rfl 0 rfl ?_
      refine xr_if_lt F 64 dX3_pass_27 (by decide) (fun c27 => ?_) (fun c27 => ?_)
      · exact absurd c27 (nI_pos (by omega))
      · skip
        refine xr_aload_n F dX3_pass_30 rfl 2 rfl ?_
        refine xr_aload_n F dX3_pass_31 rfl 3 rfl ?_
        refine xr_iload_n F dX3_pass_32 rfl 0 rfl ?_
        refine xr_callVi F (wr := ([] : va_W)) (rest := []) (As := [.ref (o 0), .int (nI i)]) (k_X3_nextAt l D yI yZ yL g u t o th K x y U i (by omega) (by assumption)) (cwV 2 F.hts gX3_pass_X3_nextAt rfl rfl rfl (by decide +kernel) ⟨Nat.le_of_ble_eq_true rfl, Nat.le_of_ble_eq_true rfl⟩) (q0 := 0) rfl rfl [0, 1, 2, 3, 4, 5, 6, 7, 8, 9, 10, 11, 12, 13] [] rfl rfl (by decide) (by decide) (by decide) rfl rfl (Nat.le_of_ble_eq_true rfl) dX3_pass_33 ⟨Nat.le_of_ble_eq_true rfl, Nat.le_of_ble_eq_true rfl⟩ (fun r1 W1 z1 => ?_)
        obtain ⟨z0, z1⟩ := z1
        subst z0
        subst z1
        refine xr_ws (ws' := (mw yI g u t th K) ++ (sw yI o (kMark K) x y U)) rfl ?_
        refine xr_istore F [(4, .int (m_next K U y i)), (3, .int (nI i)), (2, .int sv), (0, .ref (g 0)), (1, .ref (o 0))] dX3_pass_36 (by decide) rfl ?_
        refine xr_iload F dX3_pass_38 0 rfl ?_
        refine xr_iconst F dX3_pass_40 (v := (-1)) (by decide) ?_
        refine xr_icmp_ne F 47 dX3_pass_41 (by decide) (fun c41 => ?_) (fun c41 => ?_)
        · skip
          obtain ⟨q, hq, eq⟩ := m_next_some c41
          refine xr_lveq (lv' := [(4, .int (nI q)), (3, .int (nI i)), (2, .int sv), (0, .ref (g 0)), (1, .ref (o 0))]) (by rw [eq]) ?_
          refine xr_aload_n F dX3_pass_47 rfl 3 rfl ?_
          refine xr_aload_n F dX3_pass_48 rfl 4 rfl ?_
          refine xr_iload_n F dX3_pass_49 rfl 1 rfl ?_
          refine xr_iload F dX3_pass_50 0 rfl ?_
          refine xr_callVv F (wr := ([] : va_W)) (rest := []) (As := [.ref (o 0), .int (nI i), .int (nI q)]) (k_X3_serve l D yI yZ yL g u t o th K x y U i q (by omega) (by omega)) (cwV 3 F.hts gX3_pass_X3_serve rfl rfl rfl (by decide +kernel) ⟨Nat.le_of_ble_eq_true rfl, Nat.le_of_ble_eq_true rfl⟩) (q0 := 0) rfl rfl [0, 1, 2, 3, 4, 5, 6, 7, 8, 9, 10, 11, 12, 13] [] rfl rfl (by decide) (by decide) (by decide) rfl rfl (Nat.le_of_ble_eq_true rfl) dX3_pass_52 ⟨Nat.le_of_ble_eq_true rfl, Nat.le_of_ble_eq_true rfl⟩ (fun W1 z1 => ?_)
          obtain ⟨V5, eV5⟩ : ∃ x9 : CD, x9 = (m_serve K U x y i q).1 := ⟨_, rfl⟩
          rw [← eV5] at z1
          obtain ⟨x6, ex6⟩ : ∃ x9 : Int32, x9 = (m_serve K U x y i q).2.1 := ⟨_, rfl⟩
          rw [← ex6] at z1
          obtain ⟨y7, ey7⟩ : ∃ x9 : Nat → Int32, x9 = (m_serve K U x y i q).2.2 := ⟨_, rfl⟩
          rw [← ey7] at z1
          subst z1
          refine xr_ws (ws' := (mw yI g u t th K) ++ (sw yI o (kMark K) x6 y7 V5)) rfl ?_
          refine xr_iinc F (sv + 1) [(2, .int (sv + 1)), (4, .int (nI q)), (3, .int (nI i)), (0, .ref (g 0)), (1, .ref (o 0))] dX3_pass_55 2 rfl rfl (by decide) rfl ?_
          refine xr_iinc F (nI i - 1) [(3, .int (nI i - 1)), (2, .int (sv + 1)), (4, .int (nI q)), (0, .ref (g 0)), (1, .ref (o 0))] dX3_pass_58 2 rfl (xk_m1 (nI i)) (by decide) rfl ?_
          refine xr_goto F 26 dX3_pass_61 (by decide) ?_
          refine xr_lv (lv' := [(3, .int (nI i - 1)), (2, .int (sv + 1)), (0, .ref (g 0)), (1, .ref (o 0))]) [0, 1, 3, 4] rfl ?_
          subst ey7
          subst ex6
          subst eV5
          exact ih (m_serve K U x y i q).1 (m_serve K U x y i q).2.1 (m_serve K U x y i q).2.2 (sv + 1) (by omega) (by rw [← hi, m_hourL, if_neg c41, eq, nI_clamp (by omega)])
        · skip
          refine xr_goto F 58 dX3_pass_44 (by decide) ?_
          refine xr_iinc F (nI i - 1) [(3, .int (nI i - 1)), (4, .int (m_next K U y i)), (2, .int sv), (0, .ref (g 0)), (1, .ref (o 0))] dX3_pass_58 1 rfl (xk_m1 (nI i)) (by decide) rfl ?_
          refine xr_goto F 26 dX3_pass_61 (by decide) ?_
          refine xr_lv (lv' := [(3, .int (nI i - 1)), (2, .int sv), (0, .ref (g 0)), (1, .ref (o 0))]) [0, 2, 3, 4] rfl ?_
          exact ih U x y sv (by omega) (by rw [← hi, m_hourL, if_pos c41])
  refine xr_lv (lv' := [(3, .int (nI 5 - 1)), (2, .int 0), (0, .ref (g 0)), (1, .ref (o 0))]) [0, 1, 2, 3] rfl ?_
  exact lp 5 V3 x4 wh 0 (by omega) (by subst ex4; subst eV3; subst ex2; subst eV1; rfl)

def rm_X3_passAll : Room := { frames := 5, cells := 0, slots := 0, locals := 116 }
set_option maxHeartbeats 4000000 in
set_option maxRecDepth 100000 in
/-- passAll -/
theorem k_X3_passAll (l : Launch) (D : va_G) (yI yZ yL : ClassId) (g u t o : Nat → Nat) (th : Int32) (K : CK) (aw : Int32) (wh : Nat → Int32) (V : CD) (n : Nat) (h0 : kNb K ≤ 10) (h1 : kMill K ≤ 6) (h2 : n < 2147483648) (h3 : dHour V + n < 2147483648) : xMi l yX3_passAll wsX3_passAll rm_X3_passAll D (tysG yI yZ yL) ((mw yI g u t th K) ++ (sw yI o (kMark K) aw wh V)) [.ref (g 0), .ref (o 0), .int (nI n)] 0 0 (fun (r : Int32) (W1 : va_W) => r = (m_hours K n V aw wh 0).2.2.2 ∧ W1 = (mw yI g u t th K) ++ (sw yI o (kMark K) ((m_hours K n V aw wh 0).2.1) ((m_hours K n V aw wh 0).2.2.1) ((m_hours K n V aw wh 0).1))) := by
  refine xE_i (cc := cX3_passAll) (nL := 5) (by decide) rfl (Nat.le_of_ble_eq_true rfl) ?_
  intro p e s m args below meth c A Q F hnm ret
  show AW p l e rm_X3_passAll s m args below meth c 5 D A 0 0 Q ((mw yI g u t th K) ++ (sw yI o (kMark K) aw wh V)) [(0, .ref (g 0)), (1, .ref (o 0)), (2, .int (nI n))] 0 []
  refine xr_iconst F dX3_passAll_0 (v := 0) (by decide) ?_
  refine xr_istore_n F [(3, .int 0), (0, .ref (g 0)), (1, .ref (o 0)), (2, .int (nI n))] dX3_passAll_1 rfl (by decide) rfl ?_
  refine xr_iconst F dX3_passAll_2 (v := 0) (by decide) ?_
  refine xr_istore F [(4, .int 0), (3, .int 0), (0, .ref (g 0)), (1, .ref (o 0)), (2, .int (nI n))] dX3_passAll_3 (by decide) rfl ?_
  have lp : ∀ (i : Nat) (U : CD) (x : Int32) (y : Nat → Int32) (b : Nat) (r : Int32), i + b = n → dHour U + i < 2147483648 → m_hours K i U x y r = m_hours K n V aw wh 0 → AW p l e rm_X3_passAll s m args below meth c 5 D A 0 0 Q ((mw yI g u t th K) ++ (sw yI o (kMark K) x y U)) [(4, .int (nI b)), (3, .int r), (0, .ref (g 0)), (1, .ref (o 0)), (2, .int (nI n))] 5 [] := by
    intro i
    induction i with
    | zero =>
      intro U x y b r hb hh hi
      refine xr_iload F dX3_passAll_5 0 rfl ?_
      refine xr_iload_n F dX3_passAll_7 rfl 4 rfl ?_
      refine xr_icmp_ge F 25 dX3_passAll_8 (by decide) (fun c8 => ?_) (fun c8 => ?_)
      · skip
        refine xr_iload_n F dX3_passAll_25 rfl 1 rfl ?_
        refine ret _ _ _ _ dX3_passAll_26 ⟨?_, ?_⟩
        · rw [← hi]; rfl
        · rw [← hi]; rfl
      · exact (xk_ge (a := n) (b := b) (by omega) (by omega) c8).elim
    | succ i ih =>
      intro U x y b r hb hh hi
      refine xr_iload F dX3_passAll_5 0 rfl ?_
      refine xr_iload_n F dX3_passAll_7 rfl 4 rfl ?_
      refine xr_icmp_ge F 25 dX3_passAll_8 (by decide) (fun c8 => ?_) (fun c8 => ?_)
      · exact (xk_nlt (a := b) (b := n) (by omega) (by omega) (by omega) c8).elim
      · skip
        refine xr_iload_n F dX3_passAll_11 rfl 1 rfl ?_
        refine xr_aload_n F dX3_passAll_12 rfl 2 rfl ?_
        refine xr_aload_n F dX3_passAll_13 rfl 3 rfl ?_
        refine xr_callVi F (wr := ([] : va_W)) (rest := [.int r]) (As := [.ref (o 0)]) (k_X3_pass l D yI yZ yL g u t o th K x y U (by assumption) (by assumption) (by omega)) (cwV 1 F.hts gX3_passAll_X3_pass rfl rfl rfl (by decide +kernel) ⟨Nat.le_of_ble_eq_true rfl, Nat.le_of_ble_eq_true rfl⟩) (q0 := 0) rfl rfl [0, 1, 2, 3, 4, 5, 6, 7, 8, 9, 10, 11, 12, 13] [] rfl rfl (by decide) (by decide) (by decide) rfl rfl (Nat.le_of_ble_eq_true rfl) dX3_passAll_14 ⟨Nat.le_of_ble_eq_true rfl, Nat.le_of_ble_eq_true rfl⟩ (fun r1 W1 z1 => ?_)
        obtain ⟨z0, z1⟩ := z1
        subst z0
        obtain ⟨V1, eV1⟩ : ∃ x9 : CD, x9 = (m_hour K U x y).1 := ⟨_, rfl⟩
        rw [← eV1] at z1
        obtain ⟨x2, ex2⟩ : ∃ x9 : Int32, x9 = (m_hour K U x y).2.1 := ⟨_, rfl⟩
        rw [← ex2] at z1
        obtain ⟨y3, ey3⟩ : ∃ x9 : Nat → Int32, x9 = (m_hour K U x y).2.2.1 := ⟨_, rfl⟩
        rw [← ey3] at z1
        subst z1
        refine xr_ws (ws' := (mw yI g u t th K) ++ (sw yI o (kMark K) x2 y3 V1)) rfl ?_
        refine xr_iadd F (r + ((m_hour K U x y).2.2.2)) dX3_passAll_17 rfl ?_
        refine xr_istore_n F [(3, .int (r + ((m_hour K U x y).2.2.2))), (4, .int (nI b)), (0, .ref (g 0)), (1, .ref (o 0)), (2, .int (nI n))] dX3_passAll_18 rfl (by decide) rfl ?_
        refine xr_iinc F (nI (b + 1)) [(4, .int (nI (b + 1))), (3, .int (r + ((m_hour K U x y).2.2.2))), (0, .ref (g 0)), (1, .ref (o 0)), (2, .int (nI n))] dX3_passAll_19 1 rfl (nI_add b 1) (by decide) rfl ?_
        refine xr_goto F 5 dX3_passAll_22 (by decide) ?_
        refine xr_lv (lv' := [(4, .int (nI (b + 1))), (3, .int (r + ((m_hour K U x y).2.2.2))), (0, .ref (g 0)), (1, .ref (o 0)), (2, .int (nI n))]) [0, 1, 2, 3, 4] rfl ?_
        subst ey3
        subst ex2
        subst eV1
        exact ih (m_hour K U x y).1 (m_hour K U x y).2.1 (m_hour K U x y).2.2.1 (b + 1) (r + ((m_hour K U x y).2.2.2)) (by omega) (by rw [dHour_mhour]; omega) (by rw [← hi, m_hours])
  refine xr_lv (lv' := [(4, .int 0), (3, .int 0), (0, .ref (g 0)), (1, .ref (o 0)), (2, .int (nI n))]) [0, 1, 2, 3, 4] rfl ?_
  exact lp n V aw wh 0 0 rfl h3 rfl
