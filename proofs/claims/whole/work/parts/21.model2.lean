def rm_X3_serve : Room := { frames := 3, cells := 0, slots := 0, locals := 66 }
set_option maxHeartbeats 4000000 in
set_option maxRecDepth 100000 in
/-- serve -/
theorem k_X3_serve (l : Launch) (D : va_G) (yI yZ yL : ClassId) (g u t o : Nat → Nat) (th : Int32) (K : CK) (aw : Int32) (wh : Nat → Int32) (V : CD) (k : Nat) (b : Nat) (h0 : k < 5) (h1 : b < 10) : xMv l yX3_serve wsX3_serve rm_X3_serve D (tysG yI yZ yL) ((mw yI g u t th K) ++ (sw yI o (kMark K) aw wh V)) [.ref (g 0), .ref (o 0), .int (nI k), .int (nI b)] 0 0 (fun W1 : va_W => W1 = (mw yI g u t th K) ++ (sw yI o (kMark K) ((m_serve K V aw wh k b).2.1) ((m_serve K V aw wh k b).2.2) ((m_serve K V aw wh k b).1))) := by
  refine xE_v (cc := cX3_serve) (nL := 4) (by decide) rfl (Nat.le_of_ble_eq_true rfl) ?_
  intro p e s m args below meth c A Q F hnm ret
  have hin2 : ∀ w ∈ u_ws RX2 TX2 14, w ∈ wsX3_serve := by decide +kernel
  have hin3 : ∀ w ∈ u_ws RX3 TX3 9, w ∈ wsX3_serve := by decide +kernel
  show AW p l e rm_X3_serve s m args below meth c 4 D A 0 0 Q ((mw yI g u t th K) ++ (sw yI o (kMark K) aw wh V)) [(0, .ref (g 0)), (1, .ref (o 0)), (2, .int (nI k)), (3, .int (nI b))] 0 []
  refine xr_aload_n F dX3_serve_0 rfl 0 rfl ?_
  refine xr_aload_n F dX3_serve_1 rfl 1 rfl ?_
  refine xr_iload_n F dX3_serve_2 rfl 3 rfl ?_
  refine xr_callVz F (wr := ([] : va_W)) (rest := []) (As := [.ref (o 0), .int (nI b)]) (k_X3_goesDown l D yI yZ yL g u t o th K aw wh V b (by omega)) (cwV 2 F.hts gX3_serve_X3_goesDown rfl rfl rfl (by decide +kernel) ⟨Nat.le_of_ble_eq_true rfl, Nat.le_of_ble_eq_true rfl⟩) (q0 := 0) rfl rfl [0, 1, 2, 3, 4, 5, 6, 7, 8, 9, 10, 11, 12, 13] [] rfl rfl (by decide) (by decide) (by decide) rfl rfl (Nat.le_of_ble_eq_true rfl) dX3_serve_3 ⟨Nat.le_of_ble_eq_true rfl, Nat.le_of_ble_eq_true rfl⟩ (fun r1 W1 z1 => ?_)
  obtain ⟨z0, z1⟩ := z1
  subst z0
  subst z1
  refine xr_ws (ws' := (mw yI g u t th K) ++ (sw yI o (kMark K) aw wh V)) rfl ?_
  refine xr_if_eq F 41 dX3_serve_6 (by decide) (fun c6 => ?_) (fun c6 => ?_)
  · skip
    refine xr_aload_n F dX3_serve_41 rfl 1 rfl ?_
    refine xr_getN F hin2 3 rfl rfl 7 (by decide) (List.mem_of_getElem? (i := 7) rfl) (v := .ref (o 4)) rfl dX3_serve_42 ?_
    refine xr_iload_n F dX3_serve_45 rfl 2 rfl ?_
    refine xr_iald F 7 0 rfl rfl (k) rfl (by omega) (by decide) dX3_serve_46 ?_
    refine xr_iconst F dX3_serve_47 (v := 1) (by decide) ?_
    refine xr_icmp_ne F 56 dX3_serve_48 (by decide) (fun c48 => ?_) (fun c48 => ?_)
    · skip
      refine xr_aload_n F dX3_serve_56 rfl 1 rfl ?_
      refine xr_iload_n F dX3_serve_57 rfl 2 rfl ?_
      refine xr_callVv F (wr := mw yI g u t th K) (rest := []) (As := [.int (nI k)]) (k_X2_fill l D yI yZ yL o (kMark K) aw wh V k (by omega)) (cwV 1 F.hts gX3_serve_X2_fill rfl rfl rfl (by decide +kernel) ⟨Nat.le_of_ble_eq_true rfl, Nat.le_of_ble_eq_true rfl⟩) (q0 := 0) rfl rfl [3, 4, 5, 6, 7, 8, 9, 10, 11, 12, 13] [0, 1, 2] rfl rfl (by decide) (by decide) (by decide) rfl rfl (Nat.le_of_ble_eq_true rfl) dX3_serve_58 ⟨Nat.le_of_ble_eq_true rfl, Nat.le_of_ble_eq_true rfl⟩ (fun W1 z1 => ?_)
      obtain ⟨V1, eV1⟩ : ∃ x9 : CD, x9 = s_fill V k := ⟨_, rfl⟩
      rw [← eV1] at z1
      subst z1
      refine xr_ws (ws' := (mw yI g u t th K) ++ (sw yI o (kMark K) aw wh V1)) rfl ?_
      refine xr_aload_n F dX3_serve_61 rfl 1 rfl ?_
      refine xr_getN F hin2 3 rfl rfl 10 (by decide) (List.mem_of_getElem? (i := 10) rfl) (v := .ref (o 7)) rfl dX3_serve_62 ?_
      refine xr_iload_n F dX3_serve_65 rfl 3 rfl ?_
      refine xr_dup2 F dX3_serve_66 rfl rfl ?_
      refine xr_iald F 10 0 rfl rfl (b) rfl (by omega) (by decide) dX3_serve_67 ?_
      refine xr_iconst F dX3_serve_68 (v := 1) (by decide) ?_
      refine xr_iadd F (((dAt V1) b) + 1) dX3_serve_69 rfl ?_
      refine xr_iast F 10 0 rfl rfl (b) rfl (by omega) (by decide) ((mw yI g u t th K) ++ (swx yI o (kMark K) aw wh (dHour V1) (dBank V1) (dLev V1) (dOver V1) (dDrawn V1) (dFull V1) (dLock V1) (dFill V1) (upd (dAt V1) b (((dAt V1) b) + 1)) (dPur V1) (dSer V1))) rfl dX3_serve_70 ?_
      refine xr_aload_n F dX3_serve_71 rfl 1 rfl ?_
      refine xr_getN F hin2 3 rfl rfl 11 (by decide) (List.mem_of_getElem? (i := 11) rfl) (v := .ref (o 8)) rfl dX3_serve_72 ?_
      refine xr_iload_n F dX3_serve_75 rfl 3 rfl ?_
      refine xr_dup2 F dX3_serve_76 rfl rfl ?_
      refine xr_iald F 11 0 rfl rfl (b) rfl (by omega) (by decide) dX3_serve_77 ?_
      refine xr_aload_n F dX3_serve_78 rfl 0 rfl ?_
      refine xr_get F hin3 0 rfl rfl 6 (by decide) (List.mem_of_getElem? (i := 1) rfl) (v := .int (kFee K)) rfl dX3_serve_79 ?_
      refine xr_isub F (((dPur V1) b) - (kFee K)) dX3_serve_82 rfl ?_
      refine xr_iast F 11 0 rfl rfl (b) rfl (by omega) (by decide) ((mw yI g u t th K) ++ (swx yI o (kMark K) aw wh (dHour V1) (dBank V1) (dLev V1) (dOver V1) (dDrawn V1) (dFull V1) (dLock V1) (dFill V1) (upd (dAt V1) b (((dAt V1) b) + 1)) (upd (dPur V1) b (((dPur V1) b) - (kFee K))) (dSer V1))) rfl dX3_serve_83 ?_
      refine xr_aload_n F dX3_serve_84 rfl 1 rfl ?_
      refine xr_dup F dX3_serve_85 rfl ?_
      refine xr_getN F hin2 3 rfl rfl 2 (by decide) (List.mem_of_getElem? (i := 2) rfl) (v := .int (dBank V1)) rfl dX3_serve_86 ?_
      refine xr_aload_n F dX3_serve_89 rfl 0 rfl ?_
      refine xr_get F hin3 0 rfl rfl 6 (by decide) (List.mem_of_getElem? (i := 1) rfl) (v := .int (kFee K)) rfl dX3_serve_90 ?_
      refine xr_iadd F ((dBank V1) + (kFee K)) dX3_serve_93 rfl ?_
      refine xr_putN (ty := .int) F hin2 3 rfl rfl 2 (by decide) tyX2 tyX2_ok nmX2 (List.mem_of_getElem? (i := 2) rfl) rfl (by decide) rfl rfl (Nat.le_of_ble_eq_true rfl) ((mw yI g u t th K) ++ (swx yI o (kMark K) aw wh (dHour V1) ((dBank V1) + (kFee K)) (dLev V1) (dOver V1) (dDrawn V1) (dFull V1) (dLock V1) (dFill V1) (upd (dAt V1) b (((dAt V1) b) + 1)) (upd (dPur V1) b (((dPur V1) b) - (kFee K))) (dSer V1))) rfl dX3_serve_94 ?_
      refine xr_aload_n F dX3_serve_97 rfl 1 rfl ?_
      refine xr_getN F hin2 3 rfl rfl 12 (by decide) (List.mem_of_getElem? (i := 12) rfl) (v := .ref (o 9)) rfl dX3_serve_98 ?_
      refine xr_iload_n F dX3_serve_101 rfl 3 rfl ?_
      refine xr_dup2 F dX3_serve_102 rfl rfl ?_
      refine xr_iald F 12 0 rfl rfl (b) rfl (by omega) (by decide) dX3_serve_103 ?_
      refine xr_iconst F dX3_serve_104 (v := 1) (by decide) ?_
      refine xr_iadd F (((dSer V1) b) + 1) dX3_serve_105 rfl ?_
      refine xr_iast F 12 0 rfl rfl (b) rfl (by omega) (by decide) ((mw yI g u t th K) ++ (swx yI o (kMark K) aw wh (dHour V1) ((dBank V1) + (kFee K)) (dLev V1) (dOver V1) (dDrawn V1) (dFull V1) (dLock V1) (dFill V1) (upd (dAt V1) b (((dAt V1) b) + 1)) (upd (dPur V1) b (((dPur V1) b) - (kFee K))) (upd (dSer V1) b (((dSer V1) b) + 1)))) rfl dX3_serve_106 ?_
      refine xr_aload_n F dX3_serve_107 rfl 1 rfl ?_
      refine xr_getN F hin2 3 rfl rfl 8 (by decide) (List.mem_of_getElem? (i := 8) rfl) (v := .ref (o 5)) rfl dX3_serve_108 ?_
      refine xr_iload_n F dX3_serve_111 rfl 2 rfl ?_
      refine xr_dup2 F dX3_serve_112 rfl rfl ?_
      refine xr_iald F 8 0 rfl rfl (k) rfl (by omega) (by decide) dX3_serve_113 ?_
      refine xr_iconst F dX3_serve_114 (v := 1) (by decide) ?_
      refine xr_iadd F (((dLock V1) k) + 1) dX3_serve_115 rfl ?_
      refine xr_iast F 8 0 rfl rfl (k) rfl (by omega) (by decide) ((mw yI g u t th K) ++ (swx yI o (kMark K) aw wh (dHour V1) ((dBank V1) + (kFee K)) (dLev V1) (dOver V1) (dDrawn V1) (dFull V1) (upd (dLock V1) k (((dLock V1) k) + 1)) (dFill V1) (upd (dAt V1) b (((dAt V1) b) + 1)) (upd (dPur V1) b (((dPur V1) b) - (kFee K))) (upd (dSer V1) b (((dSer V1) b) + 1)))) rfl dX3_serve_116 ?_
      refine xr_aload_n F dX3_serve_117 rfl 1 rfl ?_
      refine xr_getN F hin2 3 rfl rfl 13 (by decide) (List.mem_of_getElem? (i := 13) rfl) (v := .ref (o 10)) rfl dX3_serve_118 ?_
      refine xr_iload_n F dX3_serve_121 rfl 3 rfl ?_
      refine xr_aload_n F dX3_serve_122 rfl 1 rfl ?_
      refine xr_getN F hin2 3 rfl rfl 0 (by decide) (List.mem_of_getElem? (i := 0) rfl) (v := .int (nI (dHour V1))) rfl dX3_serve_123 ?_
      refine xr_iast F 13 0 rfl rfl (b) rfl (by omega) (by decide) ((mw yI g u t th K) ++ (swx yI o (kMark K) aw (upd wh b (nI (dHour V1))) (dHour V1) ((dBank V1) + (kFee K)) (dLev V1) (dOver V1) (dDrawn V1) (dFull V1) (upd (dLock V1) k (((dLock V1) k) + 1)) (dFill V1) (upd (dAt V1) b (((dAt V1) b) + 1)) (upd (dPur V1) b (((dPur V1) b) - (kFee K))) (upd (dSer V1) b (((dSer V1) b) + 1)))) rfl dX3_serve_126 ?_
      have e9 : m_serveA K V aw k b = (tAt V1 (upd (dAt V1) b (dAt V1 b + 1)), aw) := by rw [m_serveA, if_pos c6, m_up1, if_neg c48, m_upA, ← eV1]
      have e8 : m_serve K V aw wh k b = ((dHour V1, (dBank V1) + (kFee K), dLev V1, dOver V1, dDrawn V1, dFull V1, upd (dLock V1) k (((dLock V1) k) + 1), dFill V1, upd (dAt V1) b (((dAt V1) b) + 1), upd (dPur V1) b (((dPur V1) b) - (kFee K)), upd (dSer V1) b (((dSer V1) b) + 1)), aw, upd wh b (nI (dHour V1))) := by
        simp only [m_serve, e9, m_pay]
        try simp only [tHour, tBank, tLev, tOver, tDrawn, tFull, tLock, tFill, tAt, tPur, tSer, dHour, dBank, dLev, dOver, dDrawn, dFull, dLock, dFill, dAt, dPur, dSer]
      have f0 : (m_serve K V aw wh k b).1 = (dHour V1, (dBank V1) + (kFee K), dLev V1, dOver V1, dDrawn V1, dFull V1, upd (dLock V1) k (((dLock V1) k) + 1), dFill V1, upd (dAt V1) b (((dAt V1) b) + 1), upd (dPur V1) b (((dPur V1) b) - (kFee K)), upd (dSer V1) b (((dSer V1) b) + 1)) := by rw [e8]
      have f1 : (m_serve K V aw wh k b).2.1 = aw := by rw [e8]
      have f2 : (m_serve K V aw wh k b).2.2 = upd wh b (nI (dHour V1)) := by rw [e8]
      refine ret _ _ _ dX3_serve_127 ?_
      rw [f0, f1, f2, sw_mk]
    · skip
      refine xr_aload_n F dX3_serve_51 rfl 1 rfl ?_
      refine xr_iload_n F dX3_serve_52 rfl 2 rfl ?_
      refine xr_callVv F (wr := mw yI g u t th K) (rest := []) (As := [.int (nI k)]) (k_X2_empty l D yI yZ yL o (kMark K) aw wh V k (by omega)) (cwV 1 F.hts gX3_serve_X2_empty rfl rfl rfl (by decide +kernel) ⟨Nat.le_of_ble_eq_true rfl, Nat.le_of_ble_eq_true rfl⟩) (q0 := 0) rfl rfl [3, 4, 5, 6, 7, 8, 9, 10, 11, 12, 13] [0, 1, 2] rfl rfl (by decide) (by decide) (by decide) rfl rfl (Nat.le_of_ble_eq_true rfl) dX3_serve_53 ⟨Nat.le_of_ble_eq_true rfl, Nat.le_of_ble_eq_true rfl⟩ (fun W1 z1 => ?_)
      obtain ⟨V2, eV2⟩ : ∃ x9 : CD, x9 = (s_empty V aw k).1 := ⟨_, rfl⟩
      rw [← eV2] at z1
      obtain ⟨x3, ex3⟩ : ∃ x9 : Int32, x9 = (s_empty V aw k).2 := ⟨_, rfl⟩
      rw [← ex3] at z1
      subst z1
      refine xr_ws (ws' := (mw yI g u t th K) ++ (sw yI o (kMark K) x3 wh V2)) rfl ?_
      refine xr_aload_n F dX3_serve_56 rfl 1 rfl ?_
      refine xr_iload_n F dX3_serve_57 rfl 2 rfl ?_
      refine xr_callVv F (wr := mw yI g u t th K) (rest := []) (As := [.int (nI k)]) (k_X2_fill l D yI yZ yL o (kMark K) x3 wh V2 k (by omega)) (cwV 1 F.hts gX3_serve_X2_fill rfl rfl rfl (by decide +kernel) ⟨Nat.le_of_ble_eq_true rfl, Nat.le_of_ble_eq_true rfl⟩) (q0 := 0) rfl rfl [3, 4, 5, 6, 7, 8, 9, 10, 11, 12, 13] [0, 1, 2] rfl rfl (by decide) (by decide) (by decide) rfl rfl (Nat.le_of_ble_eq_true rfl) dX3_serve_58 ⟨Nat.le_of_ble_eq_true rfl, Nat.le_of_ble_eq_true rfl⟩ (fun W1 z1 => ?_)
      obtain ⟨V4, eV4⟩ : ∃ x9 : CD, x9 = s_fill V2 k := ⟨_, rfl⟩
      rw [← eV4] at z1
      subst z1
      refine xr_ws (ws' := (mw yI g u t th K) ++ (sw yI o (kMark K) x3 wh V4)) rfl ?_
      refine xr_aload_n F dX3_serve_61 rfl 1 rfl ?_
      refine xr_getN F hin2 3 rfl rfl 10 (by decide) (List.mem_of_getElem? (i := 10) rfl) (v := .ref (o 7)) rfl dX3_serve_62 ?_
      refine xr_iload_n F dX3_serve_65 rfl 3 rfl ?_
      refine xr_dup2 F dX3_serve_66 rfl rfl ?_
      refine xr_iald F 10 0 rfl rfl (b) rfl (by omega) (by decide) dX3_serve_67 ?_
      refine xr_iconst F dX3_serve_68 (v := 1) (by decide) ?_
      refine xr_iadd F (((dAt V4) b) + 1) dX3_serve_69 rfl ?_
      refine xr_iast F 10 0 rfl rfl (b) rfl (by omega) (by decide) ((mw yI g u t th K) ++ (swx yI o (kMark K) x3 wh (dHour V4) (dBank V4) (dLev V4) (dOver V4) (dDrawn V4) (dFull V4) (dLock V4) (dFill V4) (upd (dAt V4) b (((dAt V4) b) + 1)) (dPur V4) (dSer V4))) rfl dX3_serve_70 ?_
      refine xr_aload_n F dX3_serve_71 rfl 1 rfl ?_
      refine xr_getN F hin2 3 rfl rfl 11 (by decide) (List.mem_of_getElem? (i := 11) rfl) (v := .ref (o 8)) rfl dX3_serve_72 ?_
      refine xr_iload_n F dX3_serve_75 rfl 3 rfl ?_
      refine xr_dup2 F dX3_serve_76 rfl rfl ?_
      refine xr_iald F 11 0 rfl rfl (b) rfl (by omega) (by decide) dX3_serve_77 ?_
      refine xr_aload_n F dX3_serve_78 rfl 0 rfl ?_
      refine xr_get F hin3 0 rfl rfl 6 (by decide) (List.mem_of_getElem? (i := 1) rfl) (v := .int (kFee K)) rfl dX3_serve_79 ?_
      refine xr_isub F (((dPur V4) b) - (kFee K)) dX3_serve_82 rfl ?_
      refine xr_iast F 11 0 rfl rfl (b) rfl (by omega) (by decide) ((mw yI g u t th K) ++ (swx yI o (kMark K) x3 wh (dHour V4) (dBank V4) (dLev V4) (dOver V4) (dDrawn V4) (dFull V4) (dLock V4) (dFill V4) (upd (dAt V4) b (((dAt V4) b) + 1)) (upd (dPur V4) b (((dPur V4) b) - (kFee K))) (dSer V4))) rfl dX3_serve_83 ?_
      refine xr_aload_n F dX3_serve_84 rfl 1 rfl ?_
      refine xr_dup F dX3_serve_85 rfl ?_
      refine xr_getN F hin2 3 rfl rfl 2 (by decide) (List.mem_of_getElem? (i := 2) rfl) (v := .int (dBank V4)) rfl dX3_serve_86 ?_
      refine xr_aload_n F dX3_serve_89 rfl 0 rfl ?_
      refine xr_get F hin3 0 rfl rfl 6 (by decide) (List.mem_of_getElem? (i := 1) rfl) (v := .int (kFee K)) rfl dX3_serve_90 ?_
      refine xr_iadd F ((dBank V4) + (kFee K)) dX3_serve_93 rfl ?_
      refine xr_putN (ty := .int) F hin2 3 rfl rfl 2 (by decide) tyX2 tyX2_ok nmX2 (List.mem_of_getElem? (i := 2) rfl) rfl (by decide) rfl rfl (Nat.le_of_ble_eq_true rfl) ((mw yI g u t th K) ++ (swx yI o (kMark K) x3 wh (dHour V4) ((dBank V4) + (kFee K)) (dLev V4) (dOver V4) (dDrawn V4) (dFull V4) (dLock V4) (dFill V4) (upd (dAt V4) b (((dAt V4) b) + 1)) (upd (dPur V4) b (((dPur V4) b) - (kFee K))) (dSer V4))) rfl dX3_serve_94 ?_
      refine xr_aload_n F dX3_serve_97 rfl 1 rfl ?_
      refine xr_getN F hin2 3 rfl rfl 12 (by decide) (List.mem_of_getElem? (i := 12) rfl) (v := .ref (o 9)) rfl dX3_serve_98 ?_
      refine xr_iload_n F dX3_serve_101 rfl 3 rfl ?_
      refine xr_dup2 F dX3_serve_102 rfl rfl ?_
      refine xr_iald F 12 0 rfl rfl (b) rfl (by omega) (by decide) dX3_serve_103 ?_
      refine xr_iconst F dX3_serve_104 (v := 1) (by decide) ?_
      refine xr_iadd F (((dSer V4) b) + 1) dX3_serve_105 rfl ?_
      refine xr_iast F 12 0 rfl rfl (b) rfl (by omega) (by decide) ((mw yI g u t th K) ++ (swx yI o (kMark K) x3 wh (dHour V4) ((dBank V4) + (kFee K)) (dLev V4) (dOver V4) (dDrawn V4) (dFull V4) (dLock V4) (dFill V4) (upd (dAt V4) b (((dAt V4) b) + 1)) (upd (dPur V4) b (((dPur V4) b) - (kFee K))) (upd (dSer V4) b (((dSer V4) b) + 1)))) rfl dX3_serve_106 ?_
      refine xr_aload_n F dX3_serve_107 rfl 1 rfl ?_
      refine xr_getN F hin2 3 rfl rfl 8 (by decide) (List.mem_of_getElem? (i := 8) rfl) (v := .ref (o 5)) rfl dX3_serve_108 ?_
      refine xr_iload_n F dX3_serve_111 rfl 2 rfl ?_
      refine xr_dup2 F dX3_serve_112 rfl rfl ?_
      refine xr_iald F 8 0 rfl rfl (k) rfl (by omega) (by decide) dX3_serve_113 ?_
      refine xr_iconst F dX3_serve_114 (v := 1) (by decide) ?_
      refine xr_iadd F (((dLock V4) k) + 1) dX3_serve_115 rfl ?_
      refine xr_iast F 8 0 rfl rfl (k) rfl (by omega) (by decide) ((mw yI g u t th K) ++ (swx yI o (kMark K) x3 wh (dHour V4) ((dBank V4) + (kFee K)) (dLev V4) (dOver V4) (dDrawn V4) (dFull V4) (upd (dLock V4) k (((dLock V4) k) + 1)) (dFill V4) (upd (dAt V4) b (((dAt V4) b) + 1)) (upd (dPur V4) b (((dPur V4) b) - (kFee K))) (upd (dSer V4) b (((dSer V4) b) + 1)))) rfl dX3_serve_116 ?_
      refine xr_aload_n F dX3_serve_117 rfl 1 rfl ?_
      refine xr_getN F hin2 3 rfl rfl 13 (by decide) (List.mem_of_getElem? (i := 13) rfl) (v := .ref (o 10)) rfl dX3_serve_118 ?_
      refine xr_iload_n F dX3_serve_121 rfl 3 rfl ?_
      refine xr_aload_n F dX3_serve_122 rfl 1 rfl ?_
      refine xr_getN F hin2 3 rfl rfl 0 (by decide) (List.mem_of_getElem? (i := 0) rfl) (v := .int (nI (dHour V4))) rfl dX3_serve_123 ?_
      refine xr_iast F 13 0 rfl rfl (b) rfl (by omega) (by decide) ((mw yI g u t th K) ++ (swx yI o (kMark K) x3 (upd wh b (nI (dHour V4))) (dHour V4) ((dBank V4) + (kFee K)) (dLev V4) (dOver V4) (dDrawn V4) (dFull V4) (upd (dLock V4) k (((dLock V4) k) + 1)) (dFill V4) (upd (dAt V4) b (((dAt V4) b) + 1)) (upd (dPur V4) b (((dPur V4) b) - (kFee K))) (upd (dSer V4) b (((dSer V4) b) + 1)))) rfl dX3_serve_126 ?_
      have e9 : m_serveA K V aw k b = (tAt V4 (upd (dAt V4) b (dAt V4 b + 1)), x3) := by rw [m_serveA, if_pos c6, m_up1, if_pos c48, ← eV2, ← ex3, m_upA, ← eV4]
      have e8 : m_serve K V aw wh k b = ((dHour V4, (dBank V4) + (kFee K), dLev V4, dOver V4, dDrawn V4, dFull V4, upd (dLock V4) k (((dLock V4) k) + 1), dFill V4, upd (dAt V4) b (((dAt V4) b) + 1), upd (dPur V4) b (((dPur V4) b) - (kFee K)), upd (dSer V4) b (((dSer V4) b) + 1)), x3, upd wh b (nI (dHour V4))) := by
        simp only [m_serve, e9, m_pay]
        try simp only [tHour, tBank, tLev, tOver, tDrawn, tFull, tLock, tFill, tAt, tPur, tSer, dHour, dBank, dLev, dOver, dDrawn, dFull, dLock, dFill, dAt, dPur, dSer]
      have f0 : (m_serve K V aw wh k b).1 = (dHour V4, (dBank V4) + (kFee K), dLev V4, dOver V4, dDrawn V4, dFull V4, upd (dLock V4) k (((dLock V4) k) + 1), dFill V4, upd (dAt V4) b (((dAt V4) b) + 1), upd (dPur V4) b (((dPur V4) b) - (kFee K)), upd (dSer V4) b (((dSer V4) b) + 1)) := by rw [e8]
      have f1 : (m_serve K V aw wh k b).2.1 = x3 := by rw [e8]
      have f2 : (m_serve K V aw wh k b).2.2 = upd wh b (nI (dHour V4)) := by rw [e8]
      refine ret _ _ _ dX3_serve_127 ?_
      rw [f0, f1, f2, sw_mk]
  · skip
    refine xr_aload_n F dX3_serve_9 rfl 1 rfl ?_
    refine xr_getN F hin2 3 rfl rfl 7 (by decide) (List.mem_of_getElem? (i := 7) rfl) (v := .ref (o 4)) rfl dX3_serve_10 ?_
    refine xr_iload_n F dX3_serve_13 rfl 2 rfl ?_
    refine xr_iald F 7 0 rfl rfl (k) rfl (by omega) (by decide) dX3_serve_14 ?_
    refine xr_if_ne F 23 dX3_serve_15 (by decide) (fun c15 => ?_) (fun c15 => ?_)
    · skip
      refine xr_aload_n F dX3_serve_23 rfl 1 rfl ?_
      refine xr_iload_n F dX3_serve_24 rfl 2 rfl ?_
      refine xr_callVv F (wr := mw yI g u t th K) (rest := []) (As := [.int (nI k)]) (k_X2_empty l D yI yZ yL o (kMark K) aw wh V k (by omega)) (cwV 1 F.hts gX3_serve_X2_empty rfl rfl rfl (by decide +kernel) ⟨Nat.le_of_ble_eq_true rfl, Nat.le_of_ble_eq_true rfl⟩) (q0 := 0) rfl rfl [3, 4, 5, 6, 7, 8, 9, 10, 11, 12, 13] [0, 1, 2] rfl rfl (by decide) (by decide) (by decide) rfl rfl (Nat.le_of_ble_eq_true rfl) dX3_serve_25 ⟨Nat.le_of_ble_eq_true rfl, Nat.le_of_ble_eq_true rfl⟩ (fun W1 z1 => ?_)
      obtain ⟨V5, eV5⟩ : ∃ x9 : CD, x9 = (s_empty V aw k).1 := ⟨_, rfl⟩
      rw [← eV5] at z1
      obtain ⟨x6, ex6⟩ : ∃ x9 : Int32, x9 = (s_empty V aw k).2 := ⟨_, rfl⟩
      rw [← ex6] at z1
      subst z1
      refine xr_ws (ws' := (mw yI g u t th K) ++ (sw yI o (kMark K) x6 wh V5)) rfl ?_
      refine xr_aload_n F dX3_serve_28 rfl 1 rfl ?_
      refine xr_getN F hin2 3 rfl rfl 10 (by decide) (List.mem_of_getElem? (i := 10) rfl) (v := .ref (o 7)) rfl dX3_serve_29 ?_
      refine xr_iload_n F dX3_serve_32 rfl 3 rfl ?_
      refine xr_dup2 F dX3_serve_33 rfl rfl ?_
      refine xr_iald F 10 0 rfl rfl (b) rfl (by omega) (by decide) dX3_serve_34 ?_
      refine xr_iconst F dX3_serve_35 (v := 1) (by decide) ?_
      refine xr_isub F (((dAt V5) b) - 1) dX3_serve_36 rfl ?_
      refine xr_iast F 10 0 rfl rfl (b) rfl (by omega) (by decide) ((mw yI g u t th K) ++ (swx yI o (kMark K) x6 wh (dHour V5) (dBank V5) (dLev V5) (dOver V5) (dDrawn V5) (dFull V5) (dLock V5) (dFill V5) (upd (dAt V5) b (((dAt V5) b) - 1)) (dPur V5) (dSer V5))) rfl dX3_serve_37 ?_
      refine xr_goto F 71 dX3_serve_38 (by decide) ?_
      refine xr_aload_n F dX3_serve_71 rfl 1 rfl ?_
      refine xr_getN F hin2 3 rfl rfl 11 (by decide) (List.mem_of_getElem? (i := 11) rfl) (v := .ref (o 8)) rfl dX3_serve_72 ?_
      refine xr_iload_n F dX3_serve_75 rfl 3 rfl ?_
      refine xr_dup2 F dX3_serve_76 rfl rfl ?_
      refine xr_iald F 11 0 rfl rfl (b) rfl (by omega) (by decide) dX3_serve_77 ?_
      refine xr_aload_n F dX3_serve_78 rfl 0 rfl ?_
      refine xr_get F hin3 0 rfl rfl 6 (by decide) (List.mem_of_getElem? (i := 1) rfl) (v := .int (kFee K)) rfl dX3_serve_79 ?_
      refine xr_isub F (((dPur V5) b) - (kFee K)) dX3_serve_82 rfl ?_
      refine xr_iast F 11 0 rfl rfl (b) rfl (by omega) (by decide) ((mw yI g u t th K) ++ (swx yI o (kMark K) x6 wh (dHour V5) (dBank V5) (dLev V5) (dOver V5) (dDrawn V5) (dFull V5) (dLock V5) (dFill V5) (upd (dAt V5) b (((dAt V5) b) - 1)) (upd (dPur V5) b (((dPur V5) b) - (kFee K))) (dSer V5))) rfl dX3_serve_83 ?_
      refine xr_aload_n F dX3_serve_84 rfl 1 rfl ?_
      refine xr_dup F dX3_serve_85 rfl ?_
      refine xr_getN F hin2 3 rfl rfl 2 (by decide) (List.mem_of_getElem? (i := 2) rfl) (v := .int (dBank V5)) rfl dX3_serve_86 ?_
      refine xr_aload_n F dX3_serve_89 rfl 0 rfl ?_
      refine xr_get F hin3 0 rfl rfl 6 (by decide) (List.mem_of_getElem? (i := 1) rfl) (v := .int (kFee K)) rfl dX3_serve_90 ?_
      refine xr_iadd F ((dBank V5) + (kFee K)) dX3_serve_93 rfl ?_
      refine xr_putN (ty := .int) F hin2 3 rfl rfl 2 (by decide) tyX2 tyX2_ok nmX2 (List.mem_of_getElem? (i := 2) rfl) rfl (by decide) rfl rfl (Nat.le_of_ble_eq_true rfl) ((mw yI g u t th K) ++ (swx yI o (kMark K) x6 wh (dHour V5) ((dBank V5) + (kFee K)) (dLev V5) (dOver V5) (dDrawn V5) (dFull V5) (dLock V5) (dFill V5) (upd (dAt V5) b (((dAt V5) b) - 1)) (upd (dPur V5) b (((dPur V5) b) - (kFee K))) (dSer V5))) rfl dX3_serve_94 ?_
      refine xr_aload_n F dX3_serve_97 rfl 1 rfl ?_
      refine xr_getN F hin2 3 rfl rfl 12 (by decide) (List.mem_of_getElem? (i := 12) rfl) (v := .ref (o 9)) rfl dX3_serve_98 ?_
      refine xr_iload_n F dX3_serve_101 rfl 3 rfl ?_
      refine xr_dup2 F dX3_serve_102 rfl rfl ?_
      refine xr_iald F 12 0 rfl rfl (b) rfl (by omega) (by decide) dX3_serve_103 ?_
      refine xr_iconst F dX3_serve_104 (v := 1) (by decide) ?_
      refine xr_iadd F (((dSer V5) b) + 1) dX3_serve_105 rfl ?_
      refine xr_iast F 12 0 rfl rfl (b) rfl (by omega) (by decide) ((mw yI g u t th K) ++ (swx yI o (kMark K) x6 wh (dHour V5) ((dBank V5) + (kFee K)) (dLev V5) (dOver V5) (dDrawn V5) (dFull V5) (dLock V5) (dFill V5) (upd (dAt V5) b (((dAt V5) b) - 1)) (upd (dPur V5) b (((dPur V5) b) - (kFee K))) (upd (dSer V5) b (((dSer V5) b) + 1)))) rfl dX3_serve_106 ?_
      refine xr_aload_n F dX3_serve_107 rfl 1 rfl ?_
      refine xr_getN F hin2 3 rfl rfl 8 (by decide) (List.mem_of_getElem? (i := 8) rfl) (v := .ref (o 5)) rfl dX3_serve_108 ?_
      refine xr_iload_n F dX3_serve_111 rfl 2 rfl ?_
      refine xr_dup2 F dX3_serve_112 rfl rfl ?_
      refine xr_iald F 8 0 rfl rfl (k) rfl (by omega) (by decide) dX3_serve_113 ?_
      refine xr_iconst F dX3_serve_114 (v := 1) (by decide) ?_
      refine xr_iadd F (((dLock V5) k) + 1) dX3_serve_115 rfl ?_
      refine xr_iast F 8 0 rfl rfl (k) rfl (by omega) (by decide) ((mw yI g u t th K) ++ (swx yI o (kMark K) x6 wh (dHour V5) ((dBank V5) + (kFee K)) (dLev V5) (dOver V5) (dDrawn V5) (dFull V5) (upd (dLock V5) k (((dLock V5) k) + 1)) (dFill V5) (upd (dAt V5) b (((dAt V5) b) - 1)) (upd (dPur V5) b (((dPur V5) b) - (kFee K))) (upd (dSer V5) b (((dSer V5) b) + 1)))) rfl dX3_serve_116 ?_
      refine xr_aload_n F dX3_serve_117 rfl 1 rfl ?_
      refine xr_getN F hin2 3 rfl rfl 13 (by decide) (List.mem_of_getElem? (i := 13) rfl) (v := .ref (o 10)) rfl dX3_serve_118 ?_
      refine xr_iload_n F dX3_serve_121 rfl 3 rfl ?_
      refine xr_aload_n F dX3_serve_122 rfl 1 rfl ?_
      refine xr_getN F hin2 3 rfl rfl 0 (by decide) (List.mem_of_getElem? (i := 0) rfl) (v := .int (nI (dHour V5))) rfl dX3_serve_123 ?_
      refine xr_iast F 13 0 rfl rfl (b) rfl (by omega) (by decide) ((mw yI g u t th K) ++ (swx yI o (kMark K) x6 (upd wh b (nI (dHour V5))) (dHour V5) ((dBank V5) + (kFee K)) (dLev V5) (dOver V5) (dDrawn V5) (dFull V5) (upd (dLock V5) k (((dLock V5) k) + 1)) (dFill V5) (upd (dAt V5) b (((dAt V5) b) - 1)) (upd (dPur V5) b (((dPur V5) b) - (kFee K))) (upd (dSer V5) b (((dSer V5) b) + 1)))) rfl dX3_serve_126 ?_
      have e9 : m_serveA K V aw k b = (tAt V5 (upd (dAt V5) b (dAt V5 b - 1)), x6) := by rw [m_serveA, if_neg c6, if_neg c15, m_downA, ← eV5, ← ex6]
      have e8 : m_serve K V aw wh k b = ((dHour V5, (dBank V5) + (kFee K), dLev V5, dOver V5, dDrawn V5, dFull V5, upd (dLock V5) k (((dLock V5) k) + 1), dFill V5, upd (dAt V5) b (((dAt V5) b) - 1), upd (dPur V5) b (((dPur V5) b) - (kFee K)), upd (dSer V5) b (((dSer V5) b) + 1)), x6, upd wh b (nI (dHour V5))) := by
        simp only [m_serve, e9, m_pay]
        try simp only [tHour, tBank, tLev, tOver, tDrawn, tFull, tLock, tFill, tAt, tPur, tSer, dHour, dBank, dLev, dOver, dDrawn, dFull, dLock, dFill, dAt, dPur, dSer]
      have f0 : (m_serve K V aw wh k b).1 = (dHour V5, (dBank V5) + (kFee K), dLev V5, dOver V5, dDrawn V5, dFull V5, upd (dLock V5) k (((dLock V5) k) + 1), dFill V5, upd (dAt V5) b (((dAt V5) b) - 1), upd (dPur V5) b (((dPur V5) b) - (kFee K)), upd (dSer V5) b (((dSer V5) b) + 1)) := by rw [e8]
      have f1 : (m_serve K V aw wh k b).2.1 = x6 := by rw [e8]
      have f2 : (m_serve K V aw wh k b).2.2 = upd wh b (nI (dHour V5)) := by rw [e8]
      refine ret _ _ _ dX3_serve_127 ?_
      rw [f0, f1, f2, sw_mk]
    · skip
      refine xr_aload_n F dX3_serve_18 rfl 1 rfl ?_
      refine xr_iload_n F dX3_serve_19 rfl 2 rfl ?_
      refine xr_callVv F (wr := mw yI g u t th K) (rest := []) (As := [.int (nI k)]) (k_X2_fill l D yI yZ yL o (kMark K) aw wh V k (by omega)) (cwV 1 F.hts gX3_serve_X2_fill rfl rfl rfl (by decide +kernel) ⟨Nat.le_of_ble_eq_true rfl, Nat.le_of_ble_eq_true rfl⟩) (q0 := 0) rfl rfl [3, 4, 5, 6, 7, 8, 9, 10, 11, 12, 13] [0, 1, 2] rfl rfl (by decide) (by decide) (by decide) rfl rfl (Nat.le_of_ble_eq_true rfl) dX3_serve_20 ⟨Nat.le_of_ble_eq_true rfl, Nat.le_of_ble_eq_true rfl⟩ (fun W1 z1 => ?_)
      obtain ⟨V7, eV7⟩ : ∃ x9 : CD, x9 = s_fill V k := ⟨_, rfl⟩
      rw [← eV7] at z1
      subst z1
      refine xr_ws (ws' := (mw yI g u t th K) ++ (sw yI o (kMark K) aw wh V7)) rfl ?_
      refine xr_aload_n F dX3_serve_23 rfl 1 rfl ?_
      refine xr_iload_n F dX3_serve_24 rfl 2 rfl ?_
      refine xr_callVv F (wr := mw yI g u t th K) (rest := []) (As := [.int (nI k)]) (k_X2_empty l D yI yZ yL o (kMark K) aw wh V7 k (by omega)) (cwV 1 F.hts gX3_serve_X2_empty rfl rfl rfl (by decide +kernel) ⟨Nat.le_of_ble_eq_true rfl, Nat.le_of_ble_eq_true rfl⟩) (q0 := 0) rfl rfl [3, 4, 5, 6, 7, 8, 9, 10, 11, 12, 13] [0, 1, 2] rfl rfl (by decide) (by decide) (by decide) rfl rfl (Nat.le_of_ble_eq_true rfl) dX3_serve_25 ⟨Nat.le_of_ble_eq_true rfl, Nat.le_of_ble_eq_true rfl⟩ (fun W1 z1 => ?_)
      obtain ⟨V8, eV8⟩ : ∃ x9 : CD, x9 = (s_empty V7 aw k).1 := ⟨_, rfl⟩
      rw [← eV8] at z1
      obtain ⟨x9, ex9⟩ : ∃ x9 : Int32, x9 = (s_empty V7 aw k).2 := ⟨_, rfl⟩
      rw [← ex9] at z1
      subst z1
      refine xr_ws (ws' := (mw yI g u t th K) ++ (sw yI o (kMark K) x9 wh V8)) rfl ?_
      refine xr_aload_n F dX3_serve_28 rfl 1 rfl ?_
      refine xr_getN F hin2 3 rfl rfl 10 (by decide) (List.mem_of_getElem? (i := 10) rfl) (v := .ref (o 7)) rfl dX3_serve_29 ?_
      refine xr_iload_n F dX3_serve_32 rfl 3 rfl ?_
      refine xr_dup2 F dX3_serve_33 rfl rfl ?_
      refine xr_iald F 10 0 rfl rfl (b) rfl (by omega) (by decide) dX3_serve_34 ?_
      refine xr_iconst F dX3_serve_35 (v := 1) (by decide) ?_
      refine xr_isub F (((dAt V8) b) - 1) dX3_serve_36 rfl ?_
      refine xr_iast F 10 0 rfl rfl (b) rfl (by omega) (by decide) ((mw yI g u t th K) ++ (swx yI o (kMark K) x9 wh (dHour V8) (dBank V8) (dLev V8) (dOver V8) (dDrawn V8) (dFull V8) (dLock V8) (dFill V8) (upd (dAt V8) b (((dAt V8) b) - 1)) (dPur V8) (dSer V8))) rfl dX3_serve_37 ?_
      refine xr_goto F 71 dX3_serve_38 (by decide) ?_
      refine xr_aload_n F dX3_serve_71 rfl 1 rfl ?_
      refine xr_getN F hin2 3 rfl rfl 11 (by decide) (List.mem_of_getElem? (i := 11) rfl) (v := .ref (o 8)) rfl dX3_serve_72 ?_
      refine xr_iload_n F dX3_serve_75 rfl 3 rfl ?_
      refine xr_dup2 F dX3_serve_76 rfl rfl ?_
      refine xr_iald F 11 0 rfl rfl (b) rfl (by omega) (by decide) dX3_serve_77 ?_
      refine xr_aload_n F dX3_serve_78 rfl 0 rfl ?_
      refine xr_get F hin3 0 rfl rfl 6 (by decide) (List.mem_of_getElem? (i := 1) rfl) (v := .int (kFee K)) rfl dX3_serve_79 ?_
      refine xr_isub F (((dPur V8) b) - (kFee K)) dX3_serve_82 rfl ?_
      refine xr_iast F 11 0 rfl rfl (b) rfl (by omega) (by decide) ((mw yI g u t th K) ++ (swx yI o (kMark K) x9 wh (dHour V8) (dBank V8) (dLev V8) (dOver V8) (dDrawn V8) (dFull V8) (dLock V8) (dFill V8) (upd (dAt V8) b (((dAt V8) b) - 1)) (upd (dPur V8) b (((dPur V8) b) - (kFee K))) (dSer V8))) rfl dX3_serve_83 ?_
      refine xr_aload_n F dX3_serve_84 rfl 1 rfl ?_
      refine xr_dup F dX3_serve_85 rfl ?_
      refine xr_getN F hin2 3 rfl rfl 2 (by decide) (List.mem_of_getElem? (i := 2) rfl) (v := .int (dBank V8)) rfl dX3_serve_86 ?_
      refine xr_aload_n F dX3_serve_89 rfl 0 rfl ?_
      refine xr_get F hin3 0 rfl rfl 6 (by decide) (List.mem_of_getElem? (i := 1) rfl) (v := .int (kFee K)) rfl dX3_serve_90 ?_
      refine xr_iadd F ((dBank V8) + (kFee K)) dX3_serve_93 rfl ?_
      refine xr_putN (ty := .int) F hin2 3 rfl rfl 2 (by decide) tyX2 tyX2_ok nmX2 (List.mem_of_getElem? (i := 2) rfl) rfl (by decide) rfl rfl (Nat.le_of_ble_eq_true rfl) ((mw yI g u t th K) ++ (swx yI o (kMark K) x9 wh (dHour V8) ((dBank V8) + (kFee K)) (dLev V8) (dOver V8) (dDrawn V8) (dFull V8) (dLock V8) (dFill V8) (upd (dAt V8) b (((dAt V8) b) - 1)) (upd (dPur V8) b (((dPur V8) b) - (kFee K))) (dSer V8))) rfl dX3_serve_94 ?_
      refine xr_aload_n F dX3_serve_97 rfl 1 rfl ?_
      refine xr_getN F hin2 3 rfl rfl 12 (by decide) (List.mem_of_getElem? (i := 12) rfl) (v := .ref (o 9)) rfl dX3_serve_98 ?_
      refine xr_iload_n F dX3_serve_101 rfl 3 rfl ?_
      refine xr_dup2 F dX3_serve_102 rfl rfl ?_
      refine xr_iald F 12 0 rfl rfl (b) rfl (by omega) (by decide) dX3_serve_103 ?_
      refine xr_iconst F dX3_serve_104 (v := 1) (by decide) ?_
      refine xr_iadd F (((dSer V8) b) + 1) dX3_serve_105 rfl ?_
      refine xr_iast F 12 0 rfl rfl (b) rfl (by omega) (by decide) ((mw yI g u t th K) ++ (swx yI o (kMark K) x9 wh (dHour V8) ((dBank V8) + (kFee K)) (dLev V8) (dOver V8) (dDrawn V8) (dFull V8) (dLock V8) (dFill V8) (upd (dAt V8) b (((dAt V8) b) - 1)) (upd (dPur V8) b (((dPur V8) b) - (kFee K))) (upd (dSer V8) b (((dSer V8) b) + 1)))) rfl dX3_serve_106 ?_
      refine xr_aload_n F dX3_serve_107 rfl 1 rfl ?_
      refine xr_getN F hin2 3 rfl rfl 8 (by decide) (List.mem_of_getElem? (i := 8) rfl) (v := .ref (o 5)) rfl dX3_serve_108 ?_
      refine xr_iload_n F dX3_serve_111 rfl 2 rfl ?_
      refine xr_dup2 F dX3_serve_112 rfl rfl ?_
      refine xr_iald F 8 0 rfl rfl (k) rfl (by omega) (by decide) dX3_serve_113 ?_
      refine xr_iconst F dX3_serve_114 (v := 1) (by decide) ?_
      refine xr_iadd F (((dLock V8) k) + 1) dX3_serve_115 rfl ?_
      refine xr_iast F 8 0 rfl rfl (k) rfl (by omega) (by decide) ((mw yI g u t th K) ++ (swx yI o (kMark K) x9 wh (dHour V8) ((dBank V8) + (kFee K)) (dLev V8) (dOver V8) (dDrawn V8) (dFull V8) (upd (dLock V8) k (((dLock V8) k) + 1)) (dFill V8) (upd (dAt V8) b (((dAt V8) b) - 1)) (upd (dPur V8) b (((dPur V8) b) - (kFee K))) (upd (dSer V8) b (((dSer V8) b) + 1)))) rfl dX3_serve_116 ?_
      refine xr_aload_n F dX3_serve_117 rfl 1 rfl ?_
      refine xr_getN F hin2 3 rfl rfl 13 (by decide) (List.mem_of_getElem? (i := 13) rfl) (v := .ref (o 10)) rfl dX3_serve_118 ?_
      refine xr_iload_n F dX3_serve_121 rfl 3 rfl ?_
      refine xr_aload_n F dX3_serve_122 rfl 1 rfl ?_
      refine xr_getN F hin2 3 rfl rfl 0 (by decide) (List.mem_of_getElem? (i := 0) rfl) (v := .int (nI (dHour V8))) rfl dX3_serve_123 ?_
      refine xr_iast F 13 0 rfl rfl (b) rfl (by omega) (by decide) ((mw yI g u t th K) ++ (swx yI o (kMark K) x9 (upd wh b (nI (dHour V8))) (dHour V8) ((dBank V8) + (kFee K)) (dLev V8) (dOver V8) (dDrawn V8) (dFull V8) (upd (dLock V8) k (((dLock V8) k) + 1)) (dFill V8) (upd (dAt V8) b (((dAt V8) b) - 1)) (upd (dPur V8) b (((dPur V8) b) - (kFee K))) (upd (dSer V8) b (((dSer V8) b) + 1)))) rfl dX3_serve_126 ?_
      have e9 : m_serveA K V aw k b = (tAt V8 (upd (dAt V8) b (dAt V8 b - 1)), x9) := by rw [m_serveA, if_neg c6, if_pos c15, ← eV7, m_downA, ← eV8, ← ex9]
      have e8 : m_serve K V aw wh k b = ((dHour V8, (dBank V8) + (kFee K), dLev V8, dOver V8, dDrawn V8, dFull V8, upd (dLock V8) k (((dLock V8) k) + 1), dFill V8, upd (dAt V8) b (((dAt V8) b) - 1), upd (dPur V8) b (((dPur V8) b) - (kFee K)), upd (dSer V8) b (((dSer V8) b) + 1)), x9, upd wh b (nI (dHour V8))) := by
        simp only [m_serve, e9, m_pay]
        try simp only [tHour, tBank, tLev, tOver, tDrawn, tFull, tLock, tFill, tAt, tPur, tSer, dHour, dBank, dLev, dOver, dDrawn, dFull, dLock, dFill, dAt, dPur, dSer]
      have f0 : (m_serve K V aw wh k b).1 = (dHour V8, (dBank V8) + (kFee K), dLev V8, dOver V8, dDrawn V8, dFull V8, upd (dLock V8) k (((dLock V8) k) + 1), dFill V8, upd (dAt V8) b (((dAt V8) b) - 1), upd (dPur V8) b (((dPur V8) b) - (kFee K)), upd (dSer V8) b (((dSer V8) b) + 1)) := by rw [e8]
      have f1 : (m_serve K V aw wh k b).2.1 = x9 := by rw [e8]
      have f2 : (m_serve K V aw wh k b).2.2 = upd wh b (nI (dHour V8)) := by rw [e8]
      refine ret _ _ _ dX3_serve_127 ?_
      rw [f0, f1, f2, sw_mk]

def rm_X3_grind : Room := { frames := 2, cells := 0, slots := 0, locals := 45 }
set_option maxHeartbeats 4000000 in
set_option maxRecDepth 100000 in
/-- grind -/
theorem k_X3_grind (l : Launch) (D : va_G) (yI yZ yL : ClassId) (g u t o : Nat → Nat) (th : Int32) (K : CK) (aw : Int32) (wh : Nat → Int32) (V : CD)  (h0 : kMill K ≤ 6) : xMv l yX3_grind wsX3_grind rm_X3_grind D (tysG yI yZ yL) ((mw yI g u t th K) ++ (sw yI o (kMark K) aw wh V)) [.ref (g 0), .ref (o 0)] 0 0 (fun W1 : va_W => W1 = (mw yI g u t th K) ++ (sw yI o (kMark K) ((m_grind K V aw).2) wh ((m_grind K V aw).1))) := by
  refine xE_v (cc := cX3_grind) (nL := 3) (by decide) rfl (Nat.le_of_ble_eq_true rfl) ?_
  intro p e s m args below meth c A Q F hnm ret
  have hin2 : ∀ w ∈ u_ws RX2 TX2 14, w ∈ wsX3_grind := by decide +kernel
  have hin3 : ∀ w ∈ u_ws RX3 TX3 9, w ∈ wsX3_grind := by decide +kernel
  show AW p l e rm_X3_grind s m args below meth c 3 D A 0 0 Q ((mw yI g u t th K) ++ (sw yI o (kMark K) aw wh V)) [(0, .ref (g 0)), (1, .ref (o 0))] 0 []
  refine xr_aload_n F dX3_grind_0 rfl 0 rfl ?_
  refine xr_get F hin3 0 rfl rfl 4 (by decide) (List.mem_of_getElem? (i := 1) rfl) (v := .int (nI (kMill K) - 1)) rfl dX3_grind_1 ?_
  rcases hm : kMill K with _ | q
  · skip
    refine xr_top (y := (-1)) (by decide) ?_
    refine xr_iconst F dX3_grind_4 (v := (-1)) (by decide) ?_
    refine xr_icmp_eq F 24 dX3_grind_5 (by decide) (fun c5 => ?_) (fun c5 => ?_)
    · skip
      refine ret _ _ _ dX3_grind_24 ?_
      have f0 : (m_grind K V aw).1 = V := by
        simp only [m_grind, hm, m_grind1, ↓reduceIte]
        try simp only [tHour, tBank, tLev, tOver, tDrawn, tFull, tLock, tFill, tAt, tPur, tSer, dHour, dBank, dLev, dOver, dDrawn, dFull, dLock, dFill, dAt, dPur, dSer]
      have f1 : (m_grind K V aw).2 = aw := by
        simp only [m_grind, hm, m_grind1, ↓reduceIte]
        try simp only [tHour, tBank, tLev, tOver, tDrawn, tFull, tLock, tFill, tAt, tPur, tSer, dHour, dBank, dLev, dOver, dDrawn, dFull, dLock, dFill, dAt, dPur, dSer]
      rw [f0, f1]
    · exact absurd (by decide) c5
  · skip
    have hq : q < 6 := by omega
    refine xr_top (y := nI q) (nI_pred q) ?_
    refine xr_iconst F dX3_grind_4 (v := (-1)) (by decide) ?_
    refine xr_icmp_eq F 24 dX3_grind_5 (by decide) (fun c5 => ?_) (fun c5 => ?_)
    · exact absurd c5 (xk_nm1 (by omega))
    · skip
      refine xr_aload_n F dX3_grind_8 rfl 1 rfl ?_
      refine xr_getN F hin2 3 rfl rfl 4 (by decide) (List.mem_of_getElem? (i := 4) rfl) (v := .ref (o 1)) rfl dX3_grind_9 ?_
      refine xr_aload_n F dX3_grind_12 rfl 0 rfl ?_
      refine xr_get F hin3 0 rfl rfl 4 (by decide) (List.mem_of_getElem? (i := 1) rfl) (v := .int (nI (kMill K) - 1)) rfl dX3_grind_13 ?_
      refine xr_top (y := nI q) (by rw [hm]; exact nI_pred q) ?_
      refine xr_iald F 4 0 rfl rfl (q) rfl (by omega) (by decide) dX3_grind_16 ?_
      refine xr_aload_n F dX3_grind_17 rfl 1 rfl ?_
      refine xr_getN F hin2 3 rfl rfl 1 (by decide) (List.mem_of_getElem? (i := 1) rfl) (v := .int (kMark K)) rfl dX3_grind_18 ?_
      refine xr_icmp_gt F 25 dX3_grind_21 (by decide) (fun c21 => ?_) (fun c21 => ?_)
      · skip
        refine xr_bipush F dX3_grind_25 (v := 10) (by decide) ?_
        refine xr_aload_n F dX3_grind_27 rfl 1 rfl ?_
        refine xr_getN F hin2 3 rfl rfl 4 (by decide) (List.mem_of_getElem? (i := 4) rfl) (v := .ref (o 1)) rfl dX3_grind_28 ?_
        refine xr_aload_n F dX3_grind_31 rfl 0 rfl ?_
        refine xr_get F hin3 0 rfl rfl 4 (by decide) (List.mem_of_getElem? (i := 1) rfl) (v := .int (nI (kMill K) - 1)) rfl dX3_grind_32 ?_
        refine xr_top (y := nI q) (by rw [hm]; exact nI_pred q) ?_
        refine xr_iald F 4 0 rfl rfl (q) rfl (by omega) (by decide) dX3_grind_35 ?_
        refine xr_aload_n F dX3_grind_36 rfl 1 rfl ?_
        refine xr_getN F hin2 3 rfl rfl 1 (by decide) (List.mem_of_getElem? (i := 1) rfl) (v := .int (kMark K)) rfl dX3_grind_37 ?_
        refine xr_isub F (((dLev V) q) - (kMark K)) dX3_grind_40 rfl ?_
        refine xr_mmin F (List.mem_of_getElem? (i := 2) rfl) (List.mem_of_getElem? (i := 3) rfl) (List.mem_of_getElem? (i := 4) rfl) (List.mem_of_getElem? (i := 5) rfl) (Nat.le_of_ble_eq_true rfl) (Nat.le_of_ble_eq_true rfl) (Nat.le_of_ble_eq_true rfl) (Nat.le_of_ble_eq_true rfl) dX3_grind_41 ?_
        refine xr_istore_n F [(2, .int (if (((dLev V) q) - (kMark K)) < 10 then ((dLev V) q) - (kMark K) else 10)), (0, .ref (g 0)), (1, .ref (o 0))] dX3_grind_44 rfl (by decide) rfl ?_
        refine xr_aload_n F dX3_grind_45 rfl 2 rfl ?_
        refine xr_getN F hin2 3 rfl rfl 4 (by decide) (List.mem_of_getElem? (i := 4) rfl) (v := .ref (o 1)) rfl dX3_grind_46 ?_
        refine xr_aload_n F dX3_grind_49 rfl 1 rfl ?_
        refine xr_get F hin3 0 rfl rfl 4 (by decide) (List.mem_of_getElem? (i := 1) rfl) (v := .int (nI (kMill K) - 1)) rfl dX3_grind_50 ?_
        refine xr_top (y := nI q) (by rw [hm]; exact nI_pred q) ?_
        refine xr_dup2 F dX3_grind_53 rfl rfl ?_
        refine xr_iald F 4 0 rfl rfl (q) rfl (by omega) (by decide) dX3_grind_54 ?_
        refine xr_iload_n F dX3_grind_55 rfl 0 rfl ?_
        refine xr_isub F (((dLev V) q) - (if (((dLev V) q) - (kMark K)) < 10 then ((dLev V) q) - (kMark K) else 10)) dX3_grind_56 rfl ?_
        refine xr_iast F 4 0 rfl rfl (q) rfl (by omega) (by decide) ((mw yI g u t th K) ++ (swx yI o (kMark K) aw wh (dHour V) (dBank V) (upd (dLev V) q (((dLev V) q) - (if (((dLev V) q) - (kMark K)) < 10 then ((dLev V) q) - (kMark K) else 10))) (dOver V) (dDrawn V) (dFull V) (dLock V) (dFill V) (dAt V) (dPur V) (dSer V))) rfl dX3_grind_57 ?_
        refine xr_aload_n F dX3_grind_58 rfl 2 rfl ?_
        refine xr_getN F hin2 3 rfl rfl 6 (by decide) (List.mem_of_getElem? (i := 6) rfl) (v := .ref (o 3)) rfl dX3_grind_59 ?_
        refine xr_aload_n F dX3_grind_62 rfl 1 rfl ?_
        refine xr_get F hin3 0 rfl rfl 4 (by decide) (List.mem_of_getElem? (i := 1) rfl) (v := .int (nI (kMill K) - 1)) rfl dX3_grind_63 ?_
        refine xr_top (y := nI q) (by rw [hm]; exact nI_pred q) ?_
        refine xr_dup2 F dX3_grind_66 rfl rfl ?_
        refine xr_iald F 6 0 rfl rfl (q) rfl (by omega) (by decide) dX3_grind_67 ?_
        refine xr_iload_n F dX3_grind_68 rfl 0 rfl ?_
        refine xr_iadd F (((dDrawn V) q) + (if (((dLev V) q) - (kMark K)) < 10 then ((dLev V) q) - (kMark K) else 10)) dX3_grind_69 rfl ?_
        refine xr_iast F 6 0 rfl rfl (q) rfl (by omega) (by decide) ((mw yI g u t th K) ++ (swx yI o (kMark K) aw wh (dHour V) (dBank V) (upd (dLev V) q (((dLev V) q) - (if (((dLev V) q) - (kMark K)) < 10 then ((dLev V) q) - (kMark K) else 10))) (dOver V) (upd (dDrawn V) q (((dDrawn V) q) + (if (((dLev V) q) - (kMark K)) < 10 then ((dLev V) q) - (kMark K) else 10))) (dFull V) (dLock V) (dFill V) (dAt V) (dPur V) (dSer V))) rfl dX3_grind_70 ?_
        refine xr_aload_n F dX3_grind_71 rfl 2 rfl ?_
        refine xr_dup F dX3_grind_72 rfl ?_
        refine xr_getN F hin2 3 rfl rfl 2 (by decide) (List.mem_of_getElem? (i := 2) rfl) (v := .int (dBank V)) rfl dX3_grind_73 ?_
        refine xr_iload_n F dX3_grind_76 rfl 0 rfl ?_
        refine xr_iconst F dX3_grind_77 (v := 5) (by decide) ?_
        refine xr_idiv F ((if (((dLev V) q) - (kMark K)) < 10 then ((dLev V) q) - (kMark K) else 10) / 5) dX3_grind_78 (by decide) rfl ?_
        refine xr_iadd F ((dBank V) + ((if (((dLev V) q) - (kMark K)) < 10 then ((dLev V) q) - (kMark K) else 10) / 5)) dX3_grind_79 rfl ?_
        refine xr_putN (ty := .int) F hin2 3 rfl rfl 2 (by decide) tyX2 tyX2_ok nmX2 (List.mem_of_getElem? (i := 2) rfl) rfl (by decide) rfl rfl (Nat.le_of_ble_eq_true rfl) ((mw yI g u t th K) ++ (swx yI o (kMark K) aw wh (dHour V) ((dBank V) + ((if (((dLev V) q) - (kMark K)) < 10 then ((dLev V) q) - (kMark K) else 10) / 5)) (upd (dLev V) q (((dLev V) q) - (if (((dLev V) q) - (kMark K)) < 10 then ((dLev V) q) - (kMark K) else 10))) (dOver V) (upd (dDrawn V) q (((dDrawn V) q) + (if (((dLev V) q) - (kMark K)) < 10 then ((dLev V) q) - (kMark K) else 10))) (dFull V) (dLock V) (dFill V) (dAt V) (dPur V) (dSer V))) rfl dX3_grind_80 ?_
        refine xr_aload_n F dX3_grind_83 rfl 2 rfl ?_
        refine xr_aload_n F dX3_grind_84 rfl 1 rfl ?_
        refine xr_get F hin3 0 rfl rfl 4 (by decide) (List.mem_of_getElem? (i := 1) rfl) (v := .int (nI (kMill K) - 1)) rfl dX3_grind_85 ?_
        refine xr_top (y := nI q) (by rw [hm]; exact nI_pred q) ?_
        refine xr_iconst F dX3_grind_88 (v := 1) (by decide) ?_
        refine xr_isub F ((nI q) - 1) dX3_grind_89 rfl ?_
        refine xr_iload_n F dX3_grind_90 rfl 0 rfl ?_
        obtain ⟨V1, eV1⟩ : ∃ x9 : CD, x9 = (dHour V, (dBank V) + ((if (((dLev V) q) - (kMark K)) < 10 then ((dLev V) q) - (kMark K) else 10) / 5), upd (dLev V) q (((dLev V) q) - (if (((dLev V) q) - (kMark K)) < 10 then ((dLev V) q) - (kMark K) else 10)), dOver V, upd (dDrawn V) q (((dDrawn V) q) + (if (((dLev V) q) - (kMark K)) < 10 then ((dLev V) q) - (kMark K) else 10)), dFull V, dLock V, dFill V, dAt V, dPur V, dSer V) := ⟨_, rfl⟩
        refine xr_ws (ws' := (mw yI g u t th K) ++ (sw yI o (kMark K) aw wh V1)) (by rw [eV1, sw_mk]) ?_
        refine xr_callVv F (wr := mw yI g u t th K) (rest := []) (As := [.int ((nI q) - 1), .int (if (((dLev V) q) - (kMark K)) < 10 then ((dLev V) q) - (kMark K) else 10)]) (k_X2_pour l D yI yZ yL o (kMark K) aw wh V1 q (if (((dLev V) q) - (kMark K)) < 10 then ((dLev V) q) - (kMark K) else 10) (by omega)) (cwV 2 F.hts gX3_grind_X2_pour rfl rfl rfl (by decide +kernel) ⟨Nat.le_of_ble_eq_true rfl, Nat.le_of_ble_eq_true rfl⟩) (q0 := 0) rfl rfl [3, 4, 5, 6, 7, 8, 9, 10, 11, 12, 13] [0, 1, 2] rfl rfl (by decide) (by decide) (by decide) rfl rfl (Nat.le_of_ble_eq_true rfl) dX3_grind_91 ⟨Nat.le_of_ble_eq_true rfl, Nat.le_of_ble_eq_true rfl⟩ (fun W1 z1 => ?_)
        obtain ⟨V2, eV2⟩ : ∃ x9 : CD, x9 = (s_pour V1 aw q (if (((dLev V) q) - (kMark K)) < 10 then ((dLev V) q) - (kMark K) else 10)).1 := ⟨_, rfl⟩
        rw [← eV2] at z1
        obtain ⟨x3, ex3⟩ : ∃ x9 : Int32, x9 = (s_pour V1 aw q (if (((dLev V) q) - (kMark K)) < 10 then ((dLev V) q) - (kMark K) else 10)).2 := ⟨_, rfl⟩
        rw [← ex3] at z1
        subst z1
        refine xr_ws (ws' := (mw yI g u t th K) ++ (sw yI o (kMark K) x3 wh V2)) rfl ?_
        refine ret _ _ _ dX3_grind_94 ?_
        have f0 : (m_grind K V aw).1 = V2 := by
          subst ex3
          subst eV2
          subst eV1
          simp only [m_grind, hm, m_grind1, c5, c21, ↓reduceIte]
          try simp only [tHour, tBank, tLev, tOver, tDrawn, tFull, tLock, tFill, tAt, tPur, tSer, dHour, dBank, dLev, dOver, dDrawn, dFull, dLock, dFill, dAt, dPur, dSer]
        have f1 : (m_grind K V aw).2 = x3 := by
          subst ex3
          subst eV2
          subst eV1
          simp only [m_grind, hm, m_grind1, c5, c21, ↓reduceIte]
          try simp only [tHour, tBank, tLev, tOver, tDrawn, tFull, tLock, tFill, tAt, tPur, tSer, dHour, dBank, dLev, dOver, dDrawn, dFull, dLock, dFill, dAt, dPur, dSer]
        rw [f0, f1]
      · skip
        refine ret _ _ _ dX3_grind_24 ?_
        have f0 : (m_grind K V aw).1 = V := by
          simp only [m_grind, hm, m_grind1, c5, c21, ↓reduceIte]
          try simp only [tHour, tBank, tLev, tOver, tDrawn, tFull, tLock, tFill, tAt, tPur, tSer, dHour, dBank, dLev, dOver, dDrawn, dFull, dLock, dFill, dAt, dPur, dSer]
        have f1 : (m_grind K V aw).2 = aw := by
          simp only [m_grind, hm, m_grind1, c5, c21, ↓reduceIte]
          try simp only [tHour, tBank, tLev, tOver, tDrawn, tFull, tLock, tFill, tAt, tPur, tSer, dHour, dBank, dLev, dOver, dDrawn, dFull, dLock, dFill, dAt, dPur, dSer]
        rw [f0, f1]
