def rm_X3_pass_ : Room := { frames := 6, cells := 0, slots := 0, locals := 140 }
set_option maxHeartbeats 4000000 in
set_option maxRecDepth 100000 in
/-- pass -/
theorem k_X3_pass_ (l : Launch) (D : va_G) (yI yZ yL : ClassId) (g u t : Nat → Nat) (th : Int32) (K : CK) (aw : Int32) (wh : Nat → Int32) (V : CD) (x : Int32) (h0 : kNb K ≤ 10) (h1 : kMill K ≤ 6) (h2 : dHour V + 60 < 2147483648) : xMi l yX3_pass_ wsX3_pass_ rm_X3_pass_ D (tysG yI yZ yL) (mw yI g u t th K ++ (sw yI u (kMark K) aw wh V)) [.ref (g 0), .int x] 0 0 (fun (r : Int32) (W1 : va_W) => r = (m_passX K V aw wh x).2.2.2 ∧ W1 = mw yI g u t (q_hours x 60) K ++ (sw yI u (kMark K) ((m_passX K V aw wh x).2.1) ((m_passX K V aw wh x).2.2.1) ((m_passX K V aw wh x).1))) := by
  refine xE_i (cc := cX3_pass_) (nL := 2) (by decide) rfl (Nat.le_of_ble_eq_true rfl) ?_
  intro p e s m args below meth c A Q F hnm ret
  have hin3 : ∀ w ∈ u_ws RX3 TX3 9, w ∈ wsX3_pass_ := by decide +kernel
  show AW p l e rm_X3_pass_ s m args below meth c 2 D A 0 0 Q (mw yI g u t th K ++ (sw yI u (kMark K) aw wh V)) [(0, .ref (g 0)), (1, .int x)] 0 []
  refine xr_aload_n F dX3_pass__0 rfl 0 rfl ?_
  refine xr_iconst F dX3_pass__1 (v := 0) (by decide) ?_
  refine xr_put (ty := .int) F hin3 0 rfl rfl 0 (by decide) tyX3 tyX3_ok nmX3 (List.mem_of_getElem? (i := 1) rfl) rfl (by decide) rfl rfl (Nat.le_of_ble_eq_true rfl) (mw yI g u t 0 K ++ (sw yI u (kMark K) aw wh V)) rfl dX3_pass__2 ?_
  refine xr_iload_n F dX3_pass__5 rfl 1 rfl ?_
  refine xr_iconst F dX3_pass__6 (v := 1) (by decide) ?_
  refine xr_bipush F dX3_pass__7 (v := 60) (by decide) ?_
  refine xr_callSz F (wr := mw yI g u t 0 K ++ (sw yI u (kMark K) aw wh V)) (rest := []) (As := [.int x, .int 1, .int 60]) (k_X3_isIn l D yI yZ yL x 1 60 ) (va_cwS 3 F.hts gX3_pass__X3_isIn rfl rfl rfl (by decide +kernel) ⟨Nat.le_of_ble_eq_true rfl, Nat.le_of_ble_eq_true rfl⟩) [] [0, 1, 2, 3, 4, 5, 6, 7, 8, 9, 10, 11, 12, 13] rfl rfl (by decide) (by decide) (by decide) rfl rfl (Nat.le_of_ble_eq_true rfl) dX3_pass__9 ⟨Nat.le_of_ble_eq_true rfl, Nat.le_of_ble_eq_true rfl⟩ (fun r1 W1 z1 => ?_)
  obtain ⟨z0, z1⟩ := z1
  subst z0
  subst z1
  refine xr_ws (ws' := mw yI g u t 0 K ++ (sw yI u (kMark K) aw wh V)) rfl ?_
  refine xr_if_eq F 27 dX3_pass__12 (by decide) (fun c12 => ?_) (fun c12 => ?_)
  · skip
    refine xr_aload_n F dX3_pass__27 rfl 0 rfl ?_
    refine xr_iconst F dX3_pass__28 (v := 1) (by decide) ?_
    refine xr_callVi F (wr := sw yI u (kMark K) aw wh V) (rest := []) (As := [.int 1]) (k_X3_no l D yI yZ yL g u t 0 K 1 ) (cwV 1 F.hts gX3_pass__X3_no rfl rfl rfl (by decide +kernel) ⟨Nat.le_of_ble_eq_true rfl, Nat.le_of_ble_eq_true rfl⟩) (q0 := 0) rfl rfl [0, 1, 2] [3, 4, 5, 6, 7, 8, 9, 10, 11, 12, 13] rfl rfl (by decide) (by decide) (by decide) rfl rfl (Nat.le_of_ble_eq_true rfl) dX3_pass__29 ⟨Nat.le_of_ble_eq_true rfl, Nat.le_of_ble_eq_true rfl⟩ (fun r1 W1 z1 => ?_)
    obtain ⟨z0, z1⟩ := z1
    subst z0
    subst z1
    refine xr_sub (ws' := mw yI g u t 1 K ++ (sw yI u (kMark K) aw wh V)) [11, 12, 13, 0, 1, 2, 3, 4, 5, 6, 7, 8, 9, 10] (by decide) rfl ?_
    refine ret _ _ _ _ dX3_pass__32 ⟨?_, ?_⟩
    · skip
      first | with_reducible rfl | (simp only [q_hours, m_passX, r_or0, xk_01, xk_10, xk_20, xk_30, eq_self, c12, ↓reduceIte]; done) | (simp only [q_hours, m_passX, r_or0, xk_01, xk_10, xk_20, xk_30, eq_self, c12, ↓reduceIte]; rfl) | rfl
    · skip
      have f0 : q_hours x 60 = 1 := by
        simp only [q_hours, m_passX, r_or0, xk_01, xk_10, xk_20, xk_30, eq_self, c12, ↓reduceIte]
        try simp only [tHour, tBank, tLev, tOver, tDrawn, tFull, tLock, tFill, tAt, tPur, tSer, dHour, dBank, dLev, dOver, dDrawn, dFull, dLock, dFill, dAt, dPur, dSer]
      have f1 : (m_passX K V aw wh x).1 = V := by
        simp only [q_hours, m_passX, r_or0, xk_01, xk_10, xk_20, xk_30, eq_self, c12, ↓reduceIte]
        try simp only [tHour, tBank, tLev, tOver, tDrawn, tFull, tLock, tFill, tAt, tPur, tSer, dHour, dBank, dLev, dOver, dDrawn, dFull, dLock, dFill, dAt, dPur, dSer]
      have f2 : (m_passX K V aw wh x).2.1 = aw := by
        simp only [q_hours, m_passX, r_or0, xk_01, xk_10, xk_20, xk_30, eq_self, c12, ↓reduceIte]
        try simp only [tHour, tBank, tLev, tOver, tDrawn, tFull, tLock, tFill, tAt, tPur, tSer, dHour, dBank, dLev, dOver, dDrawn, dFull, dLock, dFill, dAt, dPur, dSer]
      have f3 : (m_passX K V aw wh x).2.2.1 = wh := by
        simp only [q_hours, m_passX, r_or0, xk_01, xk_10, xk_20, xk_30, eq_self, c12, ↓reduceIte]
        try simp only [tHour, tBank, tLev, tOver, tDrawn, tFull, tLock, tFill, tAt, tPur, tSer, dHour, dBank, dLev, dOver, dDrawn, dFull, dLock, dFill, dAt, dPur, dSer]
      rw [f0, f1, f2, f3]
  · skip
    obtain ⟨hx1, hx2, hx3⟩ := isIn_ixl 1 60 (by decide) (by decide) rfl rfl c12
    refine xr_aload_n F dX3_pass__15 rfl 0 rfl ?_
    refine xr_aload_n F dX3_pass__16 rfl 0 rfl ?_
    refine xr_get F hin3 0 rfl rfl 7 (by decide) (List.mem_of_getElem? (i := 2) rfl) (v := .ref (u 0)) rfl dX3_pass__17 ?_
    refine xr_iload_n F dX3_pass__20 rfl 1 rfl ?_
    refine xr_stk (st' := [.int (nI (ix x)), .ref (u 0), .ref (g 0)]) (by rw [← hx1]) ?_
    refine xr_callVi F (wr := ([] : va_W)) (rest := []) (As := [.ref (u 0), .int (nI (ix x))]) (k_X3_passAll l D yI yZ yL g u t u 0 K aw wh V (ix x) (by assumption) (by assumption) (by omega) (by omega)) (cwV 2 F.hts gX3_pass__X3_passAll rfl rfl rfl (by decide +kernel) ⟨Nat.le_of_ble_eq_true rfl, Nat.le_of_ble_eq_true rfl⟩) (q0 := 0) rfl rfl [0, 1, 2, 3, 4, 5, 6, 7, 8, 9, 10, 11, 12, 13] [] rfl rfl (by decide) (by decide) (by decide) rfl rfl (Nat.le_of_ble_eq_true rfl) dX3_pass__21 ⟨Nat.le_of_ble_eq_true rfl, Nat.le_of_ble_eq_true rfl⟩ (fun r1 W1 z1 => ?_)
    obtain ⟨z0, z1⟩ := z1
    subst z0
    obtain ⟨V2, eV2⟩ : ∃ x9 : CD, x9 = (m_hours K (ix x) V aw wh 0).1 := ⟨_, rfl⟩
    rw [← eV2] at z1
    obtain ⟨x3, ex3⟩ : ∃ x9 : Int32, x9 = (m_hours K (ix x) V aw wh 0).2.1 := ⟨_, rfl⟩
    rw [← ex3] at z1
    obtain ⟨y4, ey4⟩ : ∃ x9 : Nat → Int32, x9 = (m_hours K (ix x) V aw wh 0).2.2.1 := ⟨_, rfl⟩
    rw [← ey4] at z1
    subst z1
    refine xr_ws (ws' := mw yI g u t 0 K ++ (sw yI u (kMark K) x3 y4 V2)) rfl ?_
    refine xr_goto F 32 dX3_pass__24 (by decide) ?_
    refine ret _ _ _ _ dX3_pass__32 ⟨?_, ?_⟩
    · skip
      subst ey4
      subst ex3
      subst eV2
      first | with_reducible rfl | (simp only [q_hours, m_passX, r_or0, xk_01, xk_10, xk_20, xk_30, eq_self, c12, ↓reduceIte]; done) | (simp only [q_hours, m_passX, r_or0, xk_01, xk_10, xk_20, xk_30, eq_self, c12, ↓reduceIte]; rfl) | rfl
    · skip
      have f0 : q_hours x 60 = 0 := by
        subst ey4
        subst ex3
        subst eV2
        simp only [q_hours, m_passX, r_or0, xk_01, xk_10, xk_20, xk_30, eq_self, c12, ↓reduceIte]
        try simp only [tHour, tBank, tLev, tOver, tDrawn, tFull, tLock, tFill, tAt, tPur, tSer, dHour, dBank, dLev, dOver, dDrawn, dFull, dLock, dFill, dAt, dPur, dSer]
      have f1 : (m_passX K V aw wh x).1 = V2 := by
        subst ey4
        subst ex3
        subst eV2
        simp only [q_hours, m_passX, r_or0, xk_01, xk_10, xk_20, xk_30, eq_self, c12, ↓reduceIte]
        try simp only [tHour, tBank, tLev, tOver, tDrawn, tFull, tLock, tFill, tAt, tPur, tSer, dHour, dBank, dLev, dOver, dDrawn, dFull, dLock, dFill, dAt, dPur, dSer]
      have f2 : (m_passX K V aw wh x).2.1 = x3 := by
        subst ey4
        subst ex3
        subst eV2
        simp only [q_hours, m_passX, r_or0, xk_01, xk_10, xk_20, xk_30, eq_self, c12, ↓reduceIte]
        try simp only [tHour, tBank, tLev, tOver, tDrawn, tFull, tLock, tFill, tAt, tPur, tSer, dHour, dBank, dLev, dOver, dDrawn, dFull, dLock, dFill, dAt, dPur, dSer]
      have f3 : (m_passX K V aw wh x).2.2.1 = y4 := by
        subst ey4
        subst ex3
        subst eV2
        simp only [q_hours, m_passX, r_or0, xk_01, xk_10, xk_20, xk_30, eq_self, c12, ↓reduceIte]
        try simp only [tHour, tBank, tLev, tOver, tDrawn, tFull, tLock, tFill, tAt, tPur, tSer, dHour, dBank, dLev, dOver, dDrawn, dFull, dLock, dFill, dAt, dPur, dSer]
      rw [f0, f1, f2, f3]
