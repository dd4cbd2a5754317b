def rm_L_act : Room := { frames := 8, cells := 3, slots := 21, locals := 190 }
set_option maxHeartbeats 4000000 in
set_option maxRecDepth 100000 in
/-- act -/
theorem k_L_act (l : Launch) (D : va_G) (yI yZ yL : ClassId) (hst : l.stackTraces = false) (h : Nat) (a t : Nat → Nat) (o : Nat → Nat) (ba : Nat) (pa la ra : Nat → Nat) (K : CK) (V : CD) (Kt : CK) (Vt : CD) (x : Int32) (N : Nat) (hN : N < 100000) (hK : okK K) (hV : okV K V N) : xXi l yL_act wsL_act rm_L_act D (tysG yI yZ yL) (bw h a t ++ (cw yI yZ a K V ++ (cw yI yZ t Kt Vt ++ (zw yI yL o ba pa la ra K V (zA V))))) [.ref h, .ref (o 0), .int x] 3 21 (fun (r : Int32) (W1 : va_W) => r = 1 ∧ ∃ (K' : CK) (V' : CD) (Kt' : CK) (Vt' : CD) (ba' : Nat) (ra' : Nat → Nat), okK K' ∧ okV K' V' (N + 1) ∧ dHour V' = dHour V ∧ W1 = bw h a t ++ (cw yI yZ a K' V' ++ (cw yI yZ t Kt' Vt' ++ (zw yI yL o ba' pa la ra' K' V' (zA V'))))) (fun _ _ => False) := by
  have k1 : kNb K ≤ 10 := hK.1
  refine xEXH_z (cc := cL_act) (nL := 10) (hh := [(349, 359, 362, 65), (440, 448, 451, 65), (630, 642, 645, 65)]) hst (by decide) rfl (Nat.le_of_ble_eq_true rfl) ?_
  intro p e s m args below meth c A Q F G htab ret
  have hin2 : ∀ w ∈ u_ws RX2 TX2 11, w ∈ wsL_act := by decide +kernel
  show AW p l e rm_L_act s m args below meth c 10 D A 0 0 Q (bw h a t ++ (cw yI yZ a K V ++ (cw yI yZ t Kt Vt ++ (zw yI yL o ba pa la ra K V (zA V))))) [(0, .ref h), (1, .ref (o 0)), (2, .int x)] 0 []
  refine xr_aload_n F dL_act_0 rfl 1 rfl ?_
  refine xr_get F hin2 (25) rfl rfl 10 (by decide) (List.mem_of_getElem? (i := 2) rfl) (v := .ref ba) rfl dL_act_1 ?_
  refine xr_alen F (29) 2 rfl rfl (v := nI (kNb K)) rfl dL_act_4 ?_
  refine xr_istore_n F [(3, .int (nI (kNb K))), (0, .ref h), (1, .ref (o 0)), (2, .int x)] dL_act_5 rfl (by decide) rfl ?_
  refine xr_iload_n F dL_act_6 rfl 3 rfl ?_
  refine xr_bipush F dL_act_7 (v := 14) (by decide) ?_
  refine xr_ws (ws' := (bw h a t ++ (cw yI yZ a K V ++ (cw yI yZ t Kt Vt ++ (zw yI yL o ba pa la ra K V (zA V))))) ++ (([] : va_W) ++ ([] : va_W))) (by first | (simp only [List.append_assoc, List.append_nil, List.nil_append]; done) | rfl | (simp only [List.append_assoc, List.append_nil, List.nil_append]; rfl)) ?_
  refine xr_mcSi F (rest := []) (As := [.int x, .int 14]) (k_L_below l D yI yZ yL x 14 (by decide) (by decide)) (va_cwS 2 F.hts gL_act_L_below rfl rfl rfl (by decide +kernel) ⟨Nat.le_of_ble_eq_true rfl, Nat.le_of_ble_eq_true rfl⟩) (bw h a t ++ (cw yI yZ a K V ++ (cw yI yZ t Kt Vt ++ (zw yI yL o ba pa la ra K V (zA V))))) ([] : va_W) rfl rfl rfl (Nat.le_of_ble_eq_true rfl) dL_act_9 ⟨Nat.le_of_ble_eq_true rfl, Nat.le_of_ble_eq_true rfl⟩ (fun r1 W1 z1 => ?_)
  obtain ⟨⟨j1, hj1, z0⟩, z1⟩ := z1
  subst z0
  subst z1
  refine xr_ws (ws' := bw h a t ++ (cw yI yZ a K V ++ (cw yI yZ t Kt Vt ++ (zw yI yL o ba pa la ra K V (zA V))))) (by first | (simp only [List.append_assoc, List.append_nil, List.nil_append]; done) | rfl | (simp only [List.append_assoc, List.append_nil, List.nil_append]; rfl)) ?_
  rcases (by omega : j1 = 0 ∨ j1 = 1 ∨ j1 = 2 ∨ j1 = 3 ∨ j1 = 4 ∨ j1 = 5 ∨ j1 = 6 ∨ j1 = 7 ∨ j1 = 8 ∨ 9 ≤ j1) with rfl | rfl | rfl | rfl | rfl | rfl | rfl | rfl | rfl | h9j
  · skip
    refine xr_tableIn F (off := 52) 64 dL_act_12 (by decide) (by decide) (by decide) (by decide) ?_
    refine xr_iload_n F dL_act_64 rfl 3 rfl ?_
    refine xr_iconst F dL_act_65 (v := 4) (by decide) ?_
    refine xr_ishr F (x >>> (4 &&& 31)) dL_act_66 rfl ?_
    refine xr_bipush F dL_act_67 (v := 8) (by decide) ?_
    refine xr_ws (ws' := (bw h a t ++ (cw yI yZ a K V ++ (cw yI yZ t Kt Vt ++ (zw yI yL o ba pa la ra K V (zA V))))) ++ (([] : va_W) ++ ([] : va_W))) (by first | (simp only [List.append_assoc, List.append_nil, List.nil_append]; done) | rfl | (simp only [List.append_assoc, List.append_nil, List.nil_append]; rfl)) ?_
    refine xr_mcSi F (rest := []) (As := [.int (x >>> (4 &&& 31)), .int 8]) (k_L_below l D yI yZ yL (x >>> (4 &&& 31)) 8 (by decide) (by decide)) (va_cwS 2 F.hts gL_act_L_below rfl rfl rfl (by decide +kernel) ⟨Nat.le_of_ble_eq_true rfl, Nat.le_of_ble_eq_true rfl⟩) (bw h a t ++ (cw yI yZ a K V ++ (cw yI yZ t Kt Vt ++ (zw yI yL o ba pa la ra K V (zA V))))) ([] : va_W) rfl rfl rfl (Nat.le_of_ble_eq_true rfl) dL_act_69 ⟨Nat.le_of_ble_eq_true rfl, Nat.le_of_ble_eq_true rfl⟩ (fun r1 W1 z1 => ?_)
    obtain ⟨⟨j2, hj2, z0⟩, z1⟩ := z1
    subst z0
    subst z1
    refine xr_ws (ws' := bw h a t ++ (cw yI yZ a K V ++ (cw yI yZ t Kt Vt ++ (zw yI yL o ba pa la ra K V (zA V))))) (by first | (simp only [List.append_assoc, List.append_nil, List.nil_append]; done) | rfl | (simp only [List.append_assoc, List.append_nil, List.nil_append]; rfl)) ?_
    refine xr_istore F [(5, .int (nI j2)), (3, .int (nI (kNb K))), (0, .ref h), (1, .ref (o 0)), (2, .int x)] dL_act_72 (by decide) rfl ?_
    refine xr_aload_n F dL_act_74 rfl 3 rfl ?_
    refine xr_get F hin2 (25) rfl rfl 1 (by decide) (List.mem_of_getElem? (i := 3) rfl) (v := .ref (o 1)) rfl dL_act_75 ?_
    refine xr_iload F dL_act_78 0 rfl ?_
    refine xr_iald F (26) 0 rfl rfl (j2) rfl (by omega) (by decide) dL_act_80 ?_
    refine xr_istore F [(6, .int ((kSpr K) j2)), (5, .int (nI j2)), (3, .int (nI (kNb K))), (0, .ref h), (1, .ref (o 0)), (2, .int x)] dL_act_81 (by decide) rfl ?_
    refine xr_aload_n F dL_act_83 rfl 4 rfl ?_
    refine xr_get F hin2 (25) rfl rfl 1 (by decide) (List.mem_of_getElem? (i := 3) rfl) (v := .ref (o 1)) rfl dL_act_84 ?_
    refine xr_iload F dL_act_87 1 rfl ?_
    refine xr_iload_n F dL_act_89 rfl 5 rfl ?_
    refine xr_bipush F dL_act_90 (v := 6) (by decide) ?_
    refine xr_ishr F (x >>> (6 &&& 31)) dL_act_92 rfl ?_
    refine xr_bipush F dL_act_93 (v := 31) (by decide) ?_
    refine xr_ws (ws' := (bw h a t ++ (cw yI yZ a K V ++ (cw yI yZ t Kt Vt ++ (zw yI yL o ba pa la ra K V (zA V))))) ++ (([] : va_W) ++ ([] : va_W))) (by first | (simp only [List.append_assoc, List.append_nil, List.nil_append]; done) | rfl | (simp only [List.append_assoc, List.append_nil, List.nil_append]; rfl)) ?_
    refine xr_mcSi F (rest := [.int (nI j2), .ref (o 1)]) (As := [.int (x >>> (6 &&& 31)), .int 31]) (k_L_below l D yI yZ yL (x >>> (6 &&& 31)) 31 (by decide) (by decide)) (va_cwS 2 F.hts gL_act_L_below rfl rfl rfl (by decide +kernel) ⟨Nat.le_of_ble_eq_true rfl, Nat.le_of_ble_eq_true rfl⟩) (bw h a t ++ (cw yI yZ a K V ++ (cw yI yZ t Kt Vt ++ (zw yI yL o ba pa la ra K V (zA V))))) ([] : va_W) rfl rfl rfl (Nat.le_of_ble_eq_true rfl) dL_act_95 ⟨Nat.le_of_ble_eq_true rfl, Nat.le_of_ble_eq_true rfl⟩ (fun r1 W1 z1 => ?_)
    obtain ⟨⟨j3, hj3, z0⟩, z1⟩ := z1
    subst z0
    subst z1
    refine xr_ws (ws' := bw h a t ++ (cw yI yZ a K V ++ (cw yI yZ t Kt Vt ++ (zw yI yL o ba pa la ra K V (zA V))))) (by first | (simp only [List.append_assoc, List.append_nil, List.nil_append]; done) | rfl | (simp only [List.append_assoc, List.append_nil, List.nil_append]; rfl)) ?_
    refine xr_iast F (26) 0 rfl rfl (j2) rfl (by omega) (by decide) (bw h a t ++ (cw yI yZ a K V ++ (cw yI yZ t Kt Vt ++ (zwx yI yL o ba pa la ra (kFee K) (kDry K) (kMill K) (kMark K) (kNb K) (upd (kSpr K) j2 (nI j3)) (kGoal K) (dHour V) (dBank V) (dLev V) (dOver V) (dDrawn V) (dFull V) (dLock V) (dFill V) (dAt V) (dPur V) (dSer V) (zA V))))) rfl dL_act_98 ?_
    refine xr_aload_n F dL_act_99 rfl 3 rfl ?_
    refine xr_iload F dL_act_100 1 rfl ?_
    refine xr_aload_n F dL_act_102 rfl 4 rfl ?_
    refine xr_get F hin2 (25) rfl rfl 1 (by decide) (List.mem_of_getElem? (i := 3) rfl) (v := .ref (o 1)) rfl dL_act_103 ?_
    refine xr_iload F dL_act_106 1 rfl ?_
    refine xr_iald F (26) 0 rfl rfl (j2) rfl (by omega) (by decide) dL_act_108 ?_
    refine xr_top (y := nI j3) pk_us ?_
    refine xr_ws (ws' := ([] : va_W) ++ ((bw h a t ++ (cw yI yZ a K V)) ++ (cw yI yZ t Kt Vt ++ (zwx yI yL o ba pa la ra (kFee K) (kDry K) (kMill K) (kMark K) (kNb K) (upd (kSpr K) j2 (nI j3)) (kGoal K) (dHour V) (dBank V) (dLev V) (dOver V) (dDrawn V) (dFull V) (dLock V) (dFill V) (dAt V) (dPur V) (dSer V) (zA V))))) (by first | (simp only [List.append_assoc, List.append_nil, List.nil_append]; done) | rfl | (simp only [List.append_assoc, List.append_nil, List.nil_append]; rfl)) ?_
    have q109 : q_setSpring (nI j2) (nI j3) = 0 := (act_spring hj2 hj3 hK hV).1
    refine xr_mcXVi F G (rest := []) (As := [.int (nI j2), .int (nI j3)]) (k_X1_setSpring l D yI yZ yL hst h a t K V (nI j2) (nI j3) ) (cwV 2 F.hts gL_act_X1_setSpring rfl rfl rfl (by decide +kernel) ⟨Nat.le_of_ble_eq_true rfl, Nat.le_of_ble_eq_true rfl⟩) (q0 := 0) rfl rfl (([] : va_W)) (cw yI yZ t Kt Vt ++ (zwx yI yL o ba pa la ra (kFee K) (kDry K) (kMill K) (kMark K) (kNb K) (upd (kSpr K) j2 (nI j3)) (kGoal K) (dHour V) (dBank V) (dLev V) (dOver V) (dDrawn V) (dFull V) (dLock V) (dFill V) (dAt V) (dPur V) (dSer V) (zA V))) rfl rfl rfl (Nat.le_of_ble_eq_true rfl) dL_act_109 ⟨Nat.le_of_ble_eq_true rfl, Nat.le_of_ble_eq_true rfl⟩ (fun E1 W1 z1 => ?_) (fun r1 W1 z1 => ?_)
    · skip
      rcases z1.1 with h9 | h9 <;> exact absurd (q109.symm.trans h9.1) (by decide)
    · skip
      obtain ⟨-, z0, z1⟩ := z1
      subst z0
      subst z1
      refine xr_ws (ws' := bw h a t ++ (cw yI yZ a (K_spring K (nI j2) (nI j3)) V ++ (cw yI yZ t Kt Vt ++ (zwx yI yL o ba pa la ra (kFee K) (kDry K) (kMill K) (kMark K) (kNb K) (upd (kSpr K) j2 (nI j3)) (kGoal K) (dHour V) (dBank V) (dLev V) (dOver V) (dDrawn V) (dFull V) (dLock V) (dFill V) (dAt V) (dPur V) (dSer V) (zA V))))) (by first | (simp only [List.append_assoc, List.append_nil, List.nil_append]; done) | rfl | (simp only [List.append_assoc, List.append_nil, List.nil_append]; rfl)) ?_
      refine xr_top (y := kSpr K j2) (by rw [ix_nI (by omega)]) ?_
      refine xr_iload F dL_act_112 0 rfl ?_
      refine xr_icmp_ne F 121 dL_act_114 (by decide) (fun c114 => ?_) (fun c114 => ?_)
      · exact absurd rfl c114
      · skip
        refine xr_iconst F dL_act_117 (v := 1) (by decide) ?_
        refine xr_goto F 122 dL_act_118 (by decide) ?_
        refine xr_widen (k := 3) (n := 21) (Nat.le_of_ble_eq_true rfl) (Nat.le_of_ble_eq_true rfl) ?_
        exact ret _ _ _ _ dL_act_122 rfl ⟨rfl, (uSpr K (upd (kSpr K) j2 (nI j3))), V, Kt, Vt, ba, ra, (act_spring hj2 hj3 hK hV).2.2.1, (okV_le (act_spring hj2 hj3 hK hV).2.2.2 (Nat.le_succ N)), rfl, (by rw [(act_spring hj2 hj3 hK hV).2.1]; rfl)⟩
  · skip
    refine xr_tableIn F (off := 111) 123 dL_act_12 (by decide) (by decide) (by decide) (by decide) ?_
    refine xr_aload_n F dL_act_123 rfl 2 rfl ?_
    refine xr_get F hin2 (25) rfl rfl 6 (by decide) (List.mem_of_getElem? (i := 4) rfl) (v := .int (kMark K)) rfl dL_act_124 ?_
    refine xr_istore F [(5, .int (kMark K)), (3, .int (nI (kNb K))), (0, .ref h), (1, .ref (o 0)), (2, .int x)] dL_act_127 (by decide) rfl ?_
    refine xr_aload_n F dL_act_129 rfl 3 rfl ?_
    refine xr_iload_n F dL_act_130 rfl 4 rfl ?_
    refine xr_iconst F dL_act_131 (v := 4) (by decide) ?_
    refine xr_ishr F (x >>> (4 &&& 31)) dL_act_132 rfl ?_
    refine xr_bipush F dL_act_133 (v := 7) (by decide) ?_
    refine xr_ws (ws' := (bw h a t ++ (cw yI yZ a K V ++ (cw yI yZ t Kt Vt ++ (zw yI yL o ba pa la ra K V (zA V))))) ++ (([] : va_W) ++ ([] : va_W))) (by first | (simp only [List.append_assoc, List.append_nil, List.nil_append]; done) | rfl | (simp only [List.append_assoc, List.append_nil, List.nil_append]; rfl)) ?_
    refine xr_mcSi F (rest := [.ref (o 0)]) (As := [.int (x >>> (4 &&& 31)), .int 7]) (k_L_below l D yI yZ yL (x >>> (4 &&& 31)) 7 (by decide) (by decide)) (va_cwS 2 F.hts gL_act_L_below rfl rfl rfl (by decide +kernel) ⟨Nat.le_of_ble_eq_true rfl, Nat.le_of_ble_eq_true rfl⟩) (bw h a t ++ (cw yI yZ a K V ++ (cw yI yZ t Kt Vt ++ (zw yI yL o ba pa la ra K V (zA V))))) ([] : va_W) rfl rfl rfl (Nat.le_of_ble_eq_true rfl) dL_act_135 ⟨Nat.le_of_ble_eq_true rfl, Nat.le_of_ble_eq_true rfl⟩ (fun r1 W1 z1 => ?_)
    obtain ⟨⟨j4, hj4, z0⟩, z1⟩ := z1
    subst z0
    subst z1
    refine xr_ws (ws' := bw h a t ++ (cw yI yZ a K V ++ (cw yI yZ t Kt Vt ++ (zw yI yL o ba pa la ra K V (zA V))))) (by first | (simp only [List.append_assoc, List.append_nil, List.nil_append]; done) | rfl | (simp only [List.append_assoc, List.append_nil, List.nil_append]; rfl)) ?_
    refine xr_iconst F dL_act_138 (v := 1) (by decide) ?_
    refine xr_isub F ((nI j4) - 1) dL_act_139 rfl ?_
    refine xr_put (ty := .int) F hin2 (25) rfl rfl 5 (by decide) tyX2 tyX2_ok nmX2 (List.mem_of_getElem? (i := 5) rfl) rfl (by decide) rfl rfl (Nat.le_of_ble_eq_true rfl) (bw h a t ++ (cw yI yZ a K V ++ (cw yI yZ t Kt Vt ++ (zwx yI yL o ba pa la ra (kFee K) (kDry K) j4 (kMark K) (kNb K) (kSpr K) (kGoal K) (dHour V) (dBank V) (dLev V) (dOver V) (dDrawn V) (dFull V) (dLock V) (dFill V) (dAt V) (dPur V) (dSer V) (zA V))))) rfl dL_act_140 ?_
    refine xr_aload_n F dL_act_143 rfl 3 rfl ?_
    refine xr_iload_n F dL_act_144 rfl 4 rfl ?_
    refine xr_bipush F dL_act_145 (v := 6) (by decide) ?_
    refine xr_ishr F (x >>> (6 &&& 31)) dL_act_147 rfl ?_
    refine xr_bipush F dL_act_148 (v := 101) (by decide) ?_
    refine xr_ws (ws' := (bw h a t ++ (cw yI yZ a K V ++ (cw yI yZ t Kt Vt ++ (zwx yI yL o ba pa la ra (kFee K) (kDry K) j4 (kMark K) (kNb K) (kSpr K) (kGoal K) (dHour V) (dBank V) (dLev V) (dOver V) (dDrawn V) (dFull V) (dLock V) (dFill V) (dAt V) (dPur V) (dSer V) (zA V))))) ++ (([] : va_W) ++ ([] : va_W))) (by first | (simp only [List.append_assoc, List.append_nil, List.nil_append]; done) | rfl | (simp only [List.append_assoc, List.append_nil, List.nil_append]; rfl)) ?_
    refine xr_mcSi F (rest := [.ref (o 0)]) (As := [.int (x >>> (6 &&& 31)), .int 101]) (k_L_below l D yI yZ yL (x >>> (6 &&& 31)) 101 (by decide) (by decide)) (va_cwS 2 F.hts gL_act_L_below rfl rfl rfl (by decide +kernel) ⟨Nat.le_of_ble_eq_true rfl, Nat.le_of_ble_eq_true rfl⟩) (bw h a t ++ (cw yI yZ a K V ++ (cw yI yZ t Kt Vt ++ (zwx yI yL o ba pa la ra (kFee K) (kDry K) j4 (kMark K) (kNb K) (kSpr K) (kGoal K) (dHour V) (dBank V) (dLev V) (dOver V) (dDrawn V) (dFull V) (dLock V) (dFill V) (dAt V) (dPur V) (dSer V) (zA V))))) ([] : va_W) rfl rfl rfl (Nat.le_of_ble_eq_true rfl) dL_act_150 ⟨Nat.le_of_ble_eq_true rfl, Nat.le_of_ble_eq_true rfl⟩ (fun r1 W1 z1 => ?_)
    obtain ⟨⟨j5, hj5, z0⟩, z1⟩ := z1
    subst z0
    subst z1
    refine xr_ws (ws' := bw h a t ++ (cw yI yZ a K V ++ (cw yI yZ t Kt Vt ++ (zwx yI yL o ba pa la ra (kFee K) (kDry K) j4 (kMark K) (kNb K) (kSpr K) (kGoal K) (dHour V) (dBank V) (dLev V) (dOver V) (dDrawn V) (dFull V) (dLock V) (dFill V) (dAt V) (dPur V) (dSer V) (zA V))))) (by first | (simp only [List.append_assoc, List.append_nil, List.nil_append]; done) | rfl | (simp only [List.append_assoc, List.append_nil, List.nil_append]; rfl)) ?_
    refine xr_put (ty := .int) F hin2 (25) rfl rfl 6 (by decide) tyX2 tyX2_ok nmX2 (List.mem_of_getElem? (i := 4) rfl) rfl (by decide) rfl rfl (Nat.le_of_ble_eq_true rfl) (bw h a t ++ (cw yI yZ a K V ++ (cw yI yZ t Kt Vt ++ (zwx yI yL o ba pa la ra (kFee K) (kDry K) j4 (nI j5) (kNb K) (kSpr K) (kGoal K) (dHour V) (dBank V) (dLev V) (dOver V) (dDrawn V) (dFull V) (dLock V) (dFill V) (dAt V) (dPur V) (dSer V) (zA V))))) rfl dL_act_153 ?_
    refine xr_aload_n F dL_act_156 rfl 2 rfl ?_
    refine xr_aload_n F dL_act_157 rfl 3 rfl ?_
    refine xr_get F hin2 (25) rfl rfl 5 (by decide) (List.mem_of_getElem? (i := 5) rfl) (v := .int (nI j4 - 1)) rfl dL_act_158 ?_
    refine xr_aload_n F dL_act_161 rfl 3 rfl ?_
    refine xr_get F hin2 (25) rfl rfl 6 (by decide) (List.mem_of_getElem? (i := 4) rfl) (v := .int (nI j5)) rfl dL_act_162 ?_
    refine xr_ws (ws' := ([] : va_W) ++ ((bw h a t ++ (cw yI yZ a K V)) ++ (cw yI yZ t Kt Vt ++ (zwx yI yL o ba pa la ra (kFee K) (kDry K) j4 (nI j5) (kNb K) (kSpr K) (kGoal K) (dHour V) (dBank V) (dLev V) (dOver V) (dDrawn V) (dFull V) (dLock V) (dFill V) (dAt V) (dPur V) (dSer V) (zA V))))) (by first | (simp only [List.append_assoc, List.append_nil, List.nil_append]; done) | rfl | (simp only [List.append_assoc, List.append_nil, List.nil_append]; rfl)) ?_
    have q165 : q_setMill (nI j4 - 1) (nI j5) = 0 := (act_mill hj4 hj5 hK hV).1
    refine xr_mcXVi F G (rest := []) (As := [.int (nI j4 - 1), .int (nI j5)]) (k_X1_setMill l D yI yZ yL hst h a t K V (nI j4 - 1) (nI j5) ) (cwV 2 F.hts gL_act_X1_setMill rfl rfl rfl (by decide +kernel) ⟨Nat.le_of_ble_eq_true rfl, Nat.le_of_ble_eq_true rfl⟩) (q0 := 0) rfl rfl (([] : va_W)) (cw yI yZ t Kt Vt ++ (zwx yI yL o ba pa la ra (kFee K) (kDry K) j4 (nI j5) (kNb K) (kSpr K) (kGoal K) (dHour V) (dBank V) (dLev V) (dOver V) (dDrawn V) (dFull V) (dLock V) (dFill V) (dAt V) (dPur V) (dSer V) (zA V))) rfl rfl rfl (Nat.le_of_ble_eq_true rfl) dL_act_165 ⟨Nat.le_of_ble_eq_true rfl, Nat.le_of_ble_eq_true rfl⟩ (fun E1 W1 z1 => ?_) (fun r1 W1 z1 => ?_)
    · skip
      rcases z1.1 with h9 | h9 <;> exact absurd (q165.symm.trans h9.1) (by decide)
    · skip
      obtain ⟨-, z0, z1⟩ := z1
      subst z0
      subst z1
      refine xr_ws (ws' := bw h a t ++ (cw yI yZ a (K_mill K (nI j4 - 1) (nI j5)) V ++ (cw yI yZ t Kt Vt ++ (zwx yI yL o ba pa la ra (kFee K) (kDry K) j4 (nI j5) (kNb K) (kSpr K) (kGoal K) (dHour V) (dBank V) (dLev V) (dOver V) (dDrawn V) (dFull V) (dLock V) (dFill V) (dAt V) (dPur V) (dSer V) (zA V))))) (by first | (simp only [List.append_assoc, List.append_nil, List.nil_append]; done) | rfl | (simp only [List.append_assoc, List.append_nil, List.nil_append]; rfl)) ?_
      refine xr_iload F dL_act_168 0 rfl ?_
      refine xr_icmp_ne F 177 dL_act_170 (by decide) (fun c170 => ?_) (fun c170 => ?_)
      · exact absurd rfl c170
      · skip
        refine xr_iconst F dL_act_173 (v := 1) (by decide) ?_
        refine xr_goto F 178 dL_act_174 (by decide) ?_
        refine xr_widen (k := 3) (n := 21) (Nat.le_of_ble_eq_true rfl) (Nat.le_of_ble_eq_true rfl) ?_
        exact ret _ _ _ _ dL_act_178 rfl ⟨rfl, (kFee K, kDry K, j4, nI j5, kNb K, kSpr K, kGoal K), V, Kt, Vt, ba, ra, (act_mill hj4 hj5 hK hV).2.2.1, (okV_le (act_mill hj4 hj5 hK hV).2.2.2 (Nat.le_succ N)), rfl, (by rw [(act_mill hj4 hj5 hK hV).2.1]; rfl)⟩
  · skip
    refine xr_tableIn F (off := 167) 179 dL_act_12 (by decide) (by decide) (by decide) (by decide) ?_
    refine xr_aload_n F dL_act_179 rfl 2 rfl ?_
    refine xr_get F hin2 (25) rfl rfl 7 (by decide) (List.mem_of_getElem? (i := 6) rfl) (v := .int (kDry K)) rfl dL_act_180 ?_
    refine xr_istore F [(5, .int (kDry K)), (3, .int (nI (kNb K))), (0, .ref h), (1, .ref (o 0)), (2, .int x)] dL_act_183 (by decide) rfl ?_
    refine xr_aload_n F dL_act_185 rfl 3 rfl ?_
    refine xr_iload_n F dL_act_186 rfl 4 rfl ?_
    refine xr_iconst F dL_act_187 (v := 4) (by decide) ?_
    refine xr_ishr F (x >>> (4 &&& 31)) dL_act_188 rfl ?_
    refine xr_iconst F dL_act_189 (v := 2) (by decide) ?_
    refine xr_ws (ws' := (bw h a t ++ (cw yI yZ a K V ++ (cw yI yZ t Kt Vt ++ (zw yI yL o ba pa la ra K V (zA V))))) ++ (([] : va_W) ++ ([] : va_W))) (by first | (simp only [List.append_assoc, List.append_nil, List.nil_append]; done) | rfl | (simp only [List.append_assoc, List.append_nil, List.nil_append]; rfl)) ?_
    refine xr_mcSi F (rest := [.ref (o 0)]) (As := [.int (x >>> (4 &&& 31)), .int 2]) (k_L_below l D yI yZ yL (x >>> (4 &&& 31)) 2 (by decide) (by decide)) (va_cwS 2 F.hts gL_act_L_below rfl rfl rfl (by decide +kernel) ⟨Nat.le_of_ble_eq_true rfl, Nat.le_of_ble_eq_true rfl⟩) (bw h a t ++ (cw yI yZ a K V ++ (cw yI yZ t Kt Vt ++ (zw yI yL o ba pa la ra K V (zA V))))) ([] : va_W) rfl rfl rfl (Nat.le_of_ble_eq_true rfl) dL_act_190 ⟨Nat.le_of_ble_eq_true rfl, Nat.le_of_ble_eq_true rfl⟩ (fun r1 W1 z1 => ?_)
    obtain ⟨⟨j6, hj6, z0⟩, z1⟩ := z1
    subst z0
    subst z1
    refine xr_ws (ws' := bw h a t ++ (cw yI yZ a K V ++ (cw yI yZ t Kt Vt ++ (zw yI yL o ba pa la ra K V (zA V))))) (by first | (simp only [List.append_assoc, List.append_nil, List.nil_append]; done) | rfl | (simp only [List.append_assoc, List.append_nil, List.nil_append]; rfl)) ?_
    refine xr_if_ne F 200 dL_act_193 (by decide) (fun c193 => ?_) (fun c193 => ?_)
    · skip
      refine xr_iconst F dL_act_200 (v := 0) (by decide) ?_
      refine xr_put (ty := .boolean) F hin2 (25) rfl rfl 7 (by decide) tyX2 tyX2_ok nmX2 (List.mem_of_getElem? (i := 6) rfl) rfl (by decide) rfl rfl (Nat.le_of_ble_eq_true rfl) (bw h a t ++ (cw yI yZ a K V ++ (cw yI yZ t Kt Vt ++ (zwx yI yL o ba pa la ra (kFee K) 0 (kMill K) (kMark K) (kNb K) (kSpr K) (kGoal K) (dHour V) (dBank V) (dLev V) (dOver V) (dDrawn V) (dFull V) (dLock V) (dFill V) (dAt V) (dPur V) (dSer V) (zA V))))) rfl dL_act_201 ?_
      refine xr_aload_n F dL_act_204 rfl 2 rfl ?_
      refine xr_aload_n F dL_act_205 rfl 3 rfl ?_
      refine xr_get F hin2 (25) rfl rfl 7 (by decide) (List.mem_of_getElem? (i := 6) rfl) (v := .int 0) rfl dL_act_206 ?_
      refine xr_ws (ws' := ([] : va_W) ++ ((bw h a t ++ (cw yI yZ a K V)) ++ (cw yI yZ t Kt Vt ++ (zwx yI yL o ba pa la ra (kFee K) 0 (kMill K) (kMark K) (kNb K) (kSpr K) (kGoal K) (dHour V) (dBank V) (dLev V) (dOver V) (dDrawn V) (dFull V) (dLock V) (dFill V) (dAt V) (dPur V) (dSer V) (zA V))))) (by first | (simp only [List.append_assoc, List.append_nil, List.nil_append]; done) | rfl | (simp only [List.append_assoc, List.append_nil, List.nil_append]; rfl)) ?_
      refine xr_mcVz F (rest := []) (As := [.int 0]) (k_X1_setDrought l D yI yZ yL h a t K V 0 hK.2.2.1 (by decide)) (cwV 1 F.hts gL_act_X1_setDrought rfl rfl rfl (by decide +kernel) ⟨Nat.le_of_ble_eq_true rfl, Nat.le_of_ble_eq_true rfl⟩) (q0 := 0) rfl rfl (([] : va_W)) (cw yI yZ t Kt Vt ++ (zwx yI yL o ba pa la ra (kFee K) 0 (kMill K) (kMark K) (kNb K) (kSpr K) (kGoal K) (dHour V) (dBank V) (dLev V) (dOver V) (dDrawn V) (dFull V) (dLock V) (dFill V) (dAt V) (dPur V) (dSer V) (zA V))) rfl rfl rfl (Nat.le_of_ble_eq_true rfl) dL_act_209 ⟨Nat.le_of_ble_eq_true rfl, Nat.le_of_ble_eq_true rfl⟩ (fun r1 W1 z1 => ?_)
      obtain ⟨z0, z1⟩ := z1
      subst z0
      subst z1
      refine xr_ws (ws' := bw h a t ++ (cw yI yZ a (uDry K 0) V ++ (cw yI yZ t Kt Vt ++ (zwx yI yL o ba pa la ra (kFee K) 0 (kMill K) (kMark K) (kNb K) (kSpr K) (kGoal K) (dHour V) (dBank V) (dLev V) (dOver V) (dDrawn V) (dFull V) (dLock V) (dFill V) (dAt V) (dPur V) (dSer V) (zA V))))) (by first | (simp only [List.append_assoc, List.append_nil, List.nil_append]; done) | rfl | (simp only [List.append_assoc, List.append_nil, List.nil_append]; rfl)) ?_
      refine xr_iload F dL_act_212 0 rfl ?_
      refine xr_icmp_ne F 221 dL_act_214 (by decide) (fun c214 => ?_) (fun c214 => ?_)
      · exact absurd rfl c214
      · skip
        refine xr_iconst F dL_act_217 (v := 1) (by decide) ?_
        refine xr_goto F 222 dL_act_218 (by decide) ?_
        refine xr_widen (k := 3) (n := 21) (Nat.le_of_ble_eq_true rfl) (Nat.le_of_ble_eq_true rfl) ?_
        exact ret _ _ _ _ dL_act_222 rfl ⟨rfl, (uDry K 0), V, Kt, Vt, ba, ra, (act_dry (x := 0) (by decide) hK hV).1, (okV_le (act_dry (x := 0) (by decide) hK hV).2 (Nat.le_succ N)), rfl, rfl⟩
    · skip
      refine xr_iconst F dL_act_196 (v := 1) (by decide) ?_
      refine xr_goto F 201 dL_act_197 (by decide) ?_
      refine xr_put (ty := .boolean) F hin2 (25) rfl rfl 7 (by decide) tyX2 tyX2_ok nmX2 (List.mem_of_getElem? (i := 6) rfl) rfl (by decide) rfl rfl (Nat.le_of_ble_eq_true rfl) (bw h a t ++ (cw yI yZ a K V ++ (cw yI yZ t Kt Vt ++ (zwx yI yL o ba pa la ra (kFee K) 1 (kMill K) (kMark K) (kNb K) (kSpr K) (kGoal K) (dHour V) (dBank V) (dLev V) (dOver V) (dDrawn V) (dFull V) (dLock V) (dFill V) (dAt V) (dPur V) (dSer V) (zA V))))) rfl dL_act_201 ?_
      refine xr_aload_n F dL_act_204 rfl 2 rfl ?_
      refine xr_aload_n F dL_act_205 rfl 3 rfl ?_
      refine xr_get F hin2 (25) rfl rfl 7 (by decide) (List.mem_of_getElem? (i := 6) rfl) (v := .int 1) rfl dL_act_206 ?_
      refine xr_ws (ws' := ([] : va_W) ++ ((bw h a t ++ (cw yI yZ a K V)) ++ (cw yI yZ t Kt Vt ++ (zwx yI yL o ba pa la ra (kFee K) 1 (kMill K) (kMark K) (kNb K) (kSpr K) (kGoal K) (dHour V) (dBank V) (dLev V) (dOver V) (dDrawn V) (dFull V) (dLock V) (dFill V) (dAt V) (dPur V) (dSer V) (zA V))))) (by first | (simp only [List.append_assoc, List.append_nil, List.nil_append]; done) | rfl | (simp only [List.append_assoc, List.append_nil, List.nil_append]; rfl)) ?_
      refine xr_mcVz F (rest := []) (As := [.int 1]) (k_X1_setDrought l D yI yZ yL h a t K V 1 hK.2.2.1 (by decide)) (cwV 1 F.hts gL_act_X1_setDrought rfl rfl rfl (by decide +kernel) ⟨Nat.le_of_ble_eq_true rfl, Nat.le_of_ble_eq_true rfl⟩) (q0 := 0) rfl rfl (([] : va_W)) (cw yI yZ t Kt Vt ++ (zwx yI yL o ba pa la ra (kFee K) 1 (kMill K) (kMark K) (kNb K) (kSpr K) (kGoal K) (dHour V) (dBank V) (dLev V) (dOver V) (dDrawn V) (dFull V) (dLock V) (dFill V) (dAt V) (dPur V) (dSer V) (zA V))) rfl rfl rfl (Nat.le_of_ble_eq_true rfl) dL_act_209 ⟨Nat.le_of_ble_eq_true rfl, Nat.le_of_ble_eq_true rfl⟩ (fun r1 W1 z1 => ?_)
      obtain ⟨z0, z1⟩ := z1
      subst z0
      subst z1
      refine xr_ws (ws' := bw h a t ++ (cw yI yZ a (uDry K 1) V ++ (cw yI yZ t Kt Vt ++ (zwx yI yL o ba pa la ra (kFee K) 1 (kMill K) (kMark K) (kNb K) (kSpr K) (kGoal K) (dHour V) (dBank V) (dLev V) (dOver V) (dDrawn V) (dFull V) (dLock V) (dFill V) (dAt V) (dPur V) (dSer V) (zA V))))) (by first | (simp only [List.append_assoc, List.append_nil, List.nil_append]; done) | rfl | (simp only [List.append_assoc, List.append_nil, List.nil_append]; rfl)) ?_
      refine xr_iload F dL_act_212 0 rfl ?_
      refine xr_icmp_ne F 221 dL_act_214 (by decide) (fun c214 => ?_) (fun c214 => ?_)
      · exact absurd rfl c214
      · skip
        refine xr_iconst F dL_act_217 (v := 1) (by decide) ?_
        refine xr_goto F 222 dL_act_218 (by decide) ?_
        refine xr_widen (k := 3) (n := 21) (Nat.le_of_ble_eq_true rfl) (Nat.le_of_ble_eq_true rfl) ?_
        exact ret _ _ _ _ dL_act_222 rfl ⟨rfl, (uDry K 1), V, Kt, Vt, ba, ra, (act_dry (x := 1) (by decide) hK hV).1, (okV_le (act_dry (x := 1) (by decide) hK hV).2 (Nat.le_succ N)), rfl, rfl⟩
  · skip
    refine xr_tableIn F (off := 211) 223 dL_act_12 (by decide) (by decide) (by decide) (by decide) ?_
    refine xr_aload_n F dL_act_223 rfl 2 rfl ?_
    refine xr_get F hin2 (25) rfl rfl 8 (by decide) (List.mem_of_getElem? (i := 7) rfl) (v := .int (kFee K)) rfl dL_act_224 ?_
    refine xr_istore F [(5, .int (kFee K)), (3, .int (nI (kNb K))), (0, .ref h), (1, .ref (o 0)), (2, .int x)] dL_act_227 (by decide) rfl ?_
    refine xr_aload_n F dL_act_229 rfl 3 rfl ?_
    refine xr_iload_n F dL_act_230 rfl 4 rfl ?_
    refine xr_iconst F dL_act_231 (v := 4) (by decide) ?_
    refine xr_ishr F (x >>> (4 &&& 31)) dL_act_232 rfl ?_
    refine xr_iload_n F dL_act_233 rfl 4 rfl ?_
    refine xr_bipush F dL_act_234 (v := 7) (by decide) ?_
    refine xr_ishr F (x >>> (7 &&& 31)) dL_act_236 rfl ?_
    refine xr_iconst F dL_act_237 (v := 2) (by decide) ?_
    refine xr_ws (ws' := (bw h a t ++ (cw yI yZ a K V ++ (cw yI yZ t Kt Vt ++ (zw yI yL o ba pa la ra K V (zA V))))) ++ (([] : va_W) ++ ([] : va_W))) (by first | (simp only [List.append_assoc, List.append_nil, List.nil_append]; done) | rfl | (simp only [List.append_assoc, List.append_nil, List.nil_append]; rfl)) ?_
    refine xr_mcSi F (rest := [.int (x >>> (4 &&& 31)), .ref (o 0)]) (As := [.int (x >>> (7 &&& 31)), .int 2]) (k_L_below l D yI yZ yL (x >>> (7 &&& 31)) 2 (by decide) (by decide)) (va_cwS 2 F.hts gL_act_L_below rfl rfl rfl (by decide +kernel) ⟨Nat.le_of_ble_eq_true rfl, Nat.le_of_ble_eq_true rfl⟩) (bw h a t ++ (cw yI yZ a K V ++ (cw yI yZ t Kt Vt ++ (zw yI yL o ba pa la ra K V (zA V))))) ([] : va_W) rfl rfl rfl (Nat.le_of_ble_eq_true rfl) dL_act_238 ⟨Nat.le_of_ble_eq_true rfl, Nat.le_of_ble_eq_true rfl⟩ (fun r1 W1 z1 => ?_)
    obtain ⟨⟨j7, hj7, z0⟩, z1⟩ := z1
    subst z0
    subst z1
    refine xr_ws (ws' := bw h a t ++ (cw yI yZ a K V ++ (cw yI yZ t Kt Vt ++ (zw yI yL o ba pa la ra K V (zA V))))) (by first | (simp only [List.append_assoc, List.append_nil, List.nil_append]; done) | rfl | (simp only [List.append_assoc, List.append_nil, List.nil_append]; rfl)) ?_
    refine xr_if_ne F 249 dL_act_241 (by decide) (fun c241 => ?_) (fun c241 => ?_)
    · skip
      refine xr_iconst F dL_act_249 (v := 3) (by decide) ?_
      refine xr_ws (ws' := (bw h a t ++ (cw yI yZ a K V ++ (cw yI yZ t Kt Vt ++ (zw yI yL o ba pa la ra K V (zA V))))) ++ (([] : va_W) ++ ([] : va_W))) (by first | (simp only [List.append_assoc, List.append_nil, List.nil_append]; done) | rfl | (simp only [List.append_assoc, List.append_nil, List.nil_append]; rfl)) ?_
      refine xr_mcSi F (rest := [.ref (o 0)]) (As := [.int (x >>> (4 &&& 31)), .int 3]) (k_L_below l D yI yZ yL (x >>> (4 &&& 31)) 3 (by decide) (by decide)) (va_cwS 2 F.hts gL_act_L_below rfl rfl rfl (by decide +kernel) ⟨Nat.le_of_ble_eq_true rfl, Nat.le_of_ble_eq_true rfl⟩) (bw h a t ++ (cw yI yZ a K V ++ (cw yI yZ t Kt Vt ++ (zw yI yL o ba pa la ra K V (zA V))))) ([] : va_W) rfl rfl rfl (Nat.le_of_ble_eq_true rfl) dL_act_250 ⟨Nat.le_of_ble_eq_true rfl, Nat.le_of_ble_eq_true rfl⟩ (fun r1 W1 z1 => ?_)
      obtain ⟨⟨j8, hj8, z0⟩, z1⟩ := z1
      subst z0
      subst z1
      refine xr_ws (ws' := bw h a t ++ (cw yI yZ a K V ++ (cw yI yZ t Kt Vt ++ (zw yI yL o ba pa la ra K V (zA V))))) (by first | (simp only [List.append_assoc, List.append_nil, List.nil_append]; done) | rfl | (simp only [List.append_assoc, List.append_nil, List.nil_append]; rfl)) ?_
      refine xr_put (ty := .int) F hin2 (25) rfl rfl 8 (by decide) tyX2 tyX2_ok nmX2 (List.mem_of_getElem? (i := 7) rfl) rfl (by decide) rfl rfl (Nat.le_of_ble_eq_true rfl) (bw h a t ++ (cw yI yZ a K V ++ (cw yI yZ t Kt Vt ++ (zwx yI yL o ba pa la ra (nI j8) (kDry K) (kMill K) (kMark K) (kNb K) (kSpr K) (kGoal K) (dHour V) (dBank V) (dLev V) (dOver V) (dDrawn V) (dFull V) (dLock V) (dFill V) (dAt V) (dPur V) (dSer V) (zA V))))) rfl dL_act_253 ?_
      refine xr_aload_n F dL_act_256 rfl 2 rfl ?_
      refine xr_aload_n F dL_act_257 rfl 3 rfl ?_
      refine xr_get F hin2 (25) rfl rfl 8 (by decide) (List.mem_of_getElem? (i := 7) rfl) (v := .int (nI j8)) rfl dL_act_258 ?_
      refine xr_ws (ws' := ([] : va_W) ++ ((bw h a t ++ (cw yI yZ a K V)) ++ (cw yI yZ t Kt Vt ++ (zwx yI yL o ba pa la ra (nI j8) (kDry K) (kMill K) (kMark K) (kNb K) (kSpr K) (kGoal K) (dHour V) (dBank V) (dLev V) (dOver V) (dDrawn V) (dFull V) (dLock V) (dFill V) (dAt V) (dPur V) (dSer V) (zA V))))) (by first | (simp only [List.append_assoc, List.append_nil, List.nil_append]; done) | rfl | (simp only [List.append_assoc, List.append_nil, List.nil_append]; rfl)) ?_
      have q261 : q_setFee (nI j8) = 0 := (act_fee (by omega) hK hV).1
      refine xr_mcXVi F G (rest := []) (As := [.int (nI j8)]) (k_X1_setFee l D yI yZ yL hst h a t K V (nI j8) ) (cwV 1 F.hts gL_act_X1_setFee rfl rfl rfl (by decide +kernel) ⟨Nat.le_of_ble_eq_true rfl, Nat.le_of_ble_eq_true rfl⟩) (q0 := 0) rfl rfl (([] : va_W)) (cw yI yZ t Kt Vt ++ (zwx yI yL o ba pa la ra (nI j8) (kDry K) (kMill K) (kMark K) (kNb K) (kSpr K) (kGoal K) (dHour V) (dBank V) (dLev V) (dOver V) (dDrawn V) (dFull V) (dLock V) (dFill V) (dAt V) (dPur V) (dSer V) (zA V))) rfl rfl rfl (Nat.le_of_ble_eq_true rfl) dL_act_261 ⟨Nat.le_of_ble_eq_true rfl, Nat.le_of_ble_eq_true rfl⟩ (fun E1 W1 z1 => ?_) (fun r1 W1 z1 => ?_)
      · skip
        exact absurd (q261.symm.trans z1.1.1) (by decide)
      · skip
        obtain ⟨-, z0, z1⟩ := z1
        subst z0
        subst z1
        refine xr_ws (ws' := bw h a t ++ (cw yI yZ a (K_fee K (nI j8)) V ++ (cw yI yZ t Kt Vt ++ (zwx yI yL o ba pa la ra (nI j8) (kDry K) (kMill K) (kMark K) (kNb K) (kSpr K) (kGoal K) (dHour V) (dBank V) (dLev V) (dOver V) (dDrawn V) (dFull V) (dLock V) (dFill V) (dAt V) (dPur V) (dSer V) (zA V))))) (by first | (simp only [List.append_assoc, List.append_nil, List.nil_append]; done) | rfl | (simp only [List.append_assoc, List.append_nil, List.nil_append]; rfl)) ?_
        refine xr_iload F dL_act_264 0 rfl ?_
        refine xr_icmp_ne F 273 dL_act_266 (by decide) (fun c266 => ?_) (fun c266 => ?_)
        · exact absurd rfl c266
        · skip
          refine xr_iconst F dL_act_269 (v := 1) (by decide) ?_
          refine xr_goto F 274 dL_act_270 (by decide) ?_
          refine xr_widen (k := 3) (n := 21) (Nat.le_of_ble_eq_true rfl) (Nat.le_of_ble_eq_true rfl) ?_
          exact ret _ _ _ _ dL_act_274 rfl ⟨rfl, (uFee K (nI j8)), V, Kt, Vt, ba, ra, (act_fee (f := j8) (by omega) hK hV).2.2.1, (okV_le (act_fee (f := j8) (by omega) hK hV).2.2.2 (Nat.le_succ N)), rfl, (by rw [(act_fee (f := j8) (by omega) hK hV).2.1]; rfl)⟩
    · skip
      refine xr_bipush F dL_act_244 (v := 21) (by decide) ?_
      refine xr_goto F 250 dL_act_246 (by decide) ?_
      refine xr_ws (ws' := (bw h a t ++ (cw yI yZ a K V ++ (cw yI yZ t Kt Vt ++ (zw yI yL o ba pa la ra K V (zA V))))) ++ (([] : va_W) ++ ([] : va_W))) (by first | (simp only [List.append_assoc, List.append_nil, List.nil_append]; done) | rfl | (simp only [List.append_assoc, List.append_nil, List.nil_append]; rfl)) ?_
      refine xr_mcSi F (rest := [.ref (o 0)]) (As := [.int (x >>> (4 &&& 31)), .int 21]) (k_L_below l D yI yZ yL (x >>> (4 &&& 31)) 21 (by decide) (by decide)) (va_cwS 2 F.hts gL_act_L_below rfl rfl rfl (by decide +kernel) ⟨Nat.le_of_ble_eq_true rfl, Nat.le_of_ble_eq_true rfl⟩) (bw h a t ++ (cw yI yZ a K V ++ (cw yI yZ t Kt Vt ++ (zw yI yL o ba pa la ra K V (zA V))))) ([] : va_W) rfl rfl rfl (Nat.le_of_ble_eq_true rfl) dL_act_250 ⟨Nat.le_of_ble_eq_true rfl, Nat.le_of_ble_eq_true rfl⟩ (fun r1 W1 z1 => ?_)
      obtain ⟨⟨j9, hj9, z0⟩, z1⟩ := z1
      subst z0
      subst z1
      refine xr_ws (ws' := bw h a t ++ (cw yI yZ a K V ++ (cw yI yZ t Kt Vt ++ (zw yI yL o ba pa la ra K V (zA V))))) (by first | (simp only [List.append_assoc, List.append_nil, List.nil_append]; done) | rfl | (simp only [List.append_assoc, List.append_nil, List.nil_append]; rfl)) ?_
      refine xr_put (ty := .int) F hin2 (25) rfl rfl 8 (by decide) tyX2 tyX2_ok nmX2 (List.mem_of_getElem? (i := 7) rfl) rfl (by decide) rfl rfl (Nat.le_of_ble_eq_true rfl) (bw h a t ++ (cw yI yZ a K V ++ (cw yI yZ t Kt Vt ++ (zwx yI yL o ba pa la ra (nI j9) (kDry K) (kMill K) (kMark K) (kNb K) (kSpr K) (kGoal K) (dHour V) (dBank V) (dLev V) (dOver V) (dDrawn V) (dFull V) (dLock V) (dFill V) (dAt V) (dPur V) (dSer V) (zA V))))) rfl dL_act_253 ?_
      refine xr_aload_n F dL_act_256 rfl 2 rfl ?_
      refine xr_aload_n F dL_act_257 rfl 3 rfl ?_
      refine xr_get F hin2 (25) rfl rfl 8 (by decide) (List.mem_of_getElem? (i := 7) rfl) (v := .int (nI j9)) rfl dL_act_258 ?_
      refine xr_ws (ws' := ([] : va_W) ++ ((bw h a t ++ (cw yI yZ a K V)) ++ (cw yI yZ t Kt Vt ++ (zwx yI yL o ba pa la ra (nI j9) (kDry K) (kMill K) (kMark K) (kNb K) (kSpr K) (kGoal K) (dHour V) (dBank V) (dLev V) (dOver V) (dDrawn V) (dFull V) (dLock V) (dFill V) (dAt V) (dPur V) (dSer V) (zA V))))) (by first | (simp only [List.append_assoc, List.append_nil, List.nil_append]; done) | rfl | (simp only [List.append_assoc, List.append_nil, List.nil_append]; rfl)) ?_
      have q261 : q_setFee (nI j9) = 0 := (act_fee (by omega) hK hV).1
      refine xr_mcXVi F G (rest := []) (As := [.int (nI j9)]) (k_X1_setFee l D yI yZ yL hst h a t K V (nI j9) ) (cwV 1 F.hts gL_act_X1_setFee rfl rfl rfl (by decide +kernel) ⟨Nat.le_of_ble_eq_true rfl, Nat.le_of_ble_eq_true rfl⟩) (q0 := 0) rfl rfl (([] : va_W)) (cw yI yZ t Kt Vt ++ (zwx yI yL o ba pa la ra (nI j9) (kDry K) (kMill K) (kMark K) (kNb K) (kSpr K) (kGoal K) (dHour V) (dBank V) (dLev V) (dOver V) (dDrawn V) (dFull V) (dLock V) (dFill V) (dAt V) (dPur V) (dSer V) (zA V))) rfl rfl rfl (Nat.le_of_ble_eq_true rfl) dL_act_261 ⟨Nat.le_of_ble_eq_true rfl, Nat.le_of_ble_eq_true rfl⟩ (fun E1 W1 z1 => ?_) (fun r1 W1 z1 => ?_)
      · skip
        exact absurd (q261.symm.trans z1.1.1) (by decide)
      · skip
        obtain ⟨-, z0, z1⟩ := z1
        subst z0
        subst z1
        refine xr_ws (ws' := bw h a t ++ (cw yI yZ a (K_fee K (nI j9)) V ++ (cw yI yZ t Kt Vt ++ (zwx yI yL o ba pa la ra (nI j9) (kDry K) (kMill K) (kMark K) (kNb K) (kSpr K) (kGoal K) (dHour V) (dBank V) (dLev V) (dOver V) (dDrawn V) (dFull V) (dLock V) (dFill V) (dAt V) (dPur V) (dSer V) (zA V))))) (by first | (simp only [List.append_assoc, List.append_nil, List.nil_append]; done) | rfl | (simp only [List.append_assoc, List.append_nil, List.nil_append]; rfl)) ?_
        refine xr_iload F dL_act_264 0 rfl ?_
        refine xr_icmp_ne F 273 dL_act_266 (by decide) (fun c266 => ?_) (fun c266 => ?_)
        · exact absurd rfl c266
        · skip
          refine xr_iconst F dL_act_269 (v := 1) (by decide) ?_
          refine xr_goto F 274 dL_act_270 (by decide) ?_
          refine xr_widen (k := 3) (n := 21) (Nat.le_of_ble_eq_true rfl) (Nat.le_of_ble_eq_true rfl) ?_
          exact ret _ _ _ _ dL_act_274 rfl ⟨rfl, (uFee K (nI j9)), V, Kt, Vt, ba, ra, (act_fee (f := j9) (by omega) hK hV).2.2.1, (okV_le (act_fee (f := j9) (by omega) hK hV).2.2.2 (Nat.le_succ N)), rfl, (by rw [(act_fee (f := j9) (by omega) hK hV).2.1]; rfl)⟩
  · skip
    refine xr_tableIn F (off := 263) 275 dL_act_12 (by decide) (by decide) (by decide) (by decide) ?_
    refine xr_iload_n F dL_act_275 rfl 3 rfl ?_
    refine xr_iconst F dL_act_276 (v := 4) (by decide) ?_
    refine xr_ishr F (x >>> (4 &&& 31)) dL_act_277 rfl ?_
    refine xr_bipush F dL_act_278 (v := 6) (by decide) ?_
    refine xr_ws (ws' := (bw h a t ++ (cw yI yZ a K V ++ (cw yI yZ t Kt Vt ++ (zw yI yL o ba pa la ra K V (zA V))))) ++ (([] : va_W) ++ ([] : va_W))) (by first | (simp only [List.append_assoc, List.append_nil, List.nil_append]; done) | rfl | (simp only [List.append_assoc, List.append_nil, List.nil_append]; rfl)) ?_
    refine xr_mcSi F (rest := []) (As := [.int (x >>> (4 &&& 31)), .int 6]) (k_L_below l D yI yZ yL (x >>> (4 &&& 31)) 6 (by decide) (by decide)) (va_cwS 2 F.hts gL_act_L_below rfl rfl rfl (by decide +kernel) ⟨Nat.le_of_ble_eq_true rfl, Nat.le_of_ble_eq_true rfl⟩) (bw h a t ++ (cw yI yZ a K V ++ (cw yI yZ t Kt Vt ++ (zw yI yL o ba pa la ra K V (zA V))))) ([] : va_W) rfl rfl rfl (Nat.le_of_ble_eq_true rfl) dL_act_280 ⟨Nat.le_of_ble_eq_true rfl, Nat.le_of_ble_eq_true rfl⟩ (fun r1 W1 z1 => ?_)
    obtain ⟨⟨j10, hj10, z0⟩, z1⟩ := z1
    subst z0
    subst z1
    refine xr_ws (ws' := bw h a t ++ (cw yI yZ a K V ++ (cw yI yZ t Kt Vt ++ (zw yI yL o ba pa la ra K V (zA V))))) (by first | (simp only [List.append_assoc, List.append_nil, List.nil_append]; done) | rfl | (simp only [List.append_assoc, List.append_nil, List.nil_append]; rfl)) ?_
    refine xr_istore F [(5, .int (nI j10)), (3, .int (nI (kNb K))), (0, .ref h), (1, .ref (o 0)), (2, .int x)] dL_act_283 (by decide) rfl ?_
    refine xr_iconst F dL_act_285 (v := 1) (by decide) ?_
    refine xr_iload_n F dL_act_286 rfl 4 rfl ?_
    refine xr_bipush F dL_act_287 (v := 6) (by decide) ?_
    refine xr_ishr F (x >>> (6 &&& 31)) dL_act_289 rfl ?_
    refine xr_bipush F dL_act_290 (v := 60) (by decide) ?_
    refine xr_ws (ws' := (bw h a t ++ (cw yI yZ a K V ++ (cw yI yZ t Kt Vt ++ (zw yI yL o ba pa la ra K V (zA V))))) ++ (([] : va_W) ++ ([] : va_W))) (by first | (simp only [List.append_assoc, List.append_nil, List.nil_append]; done) | rfl | (simp only [List.append_assoc, List.append_nil, List.nil_append]; rfl)) ?_
    refine xr_mcSi F (rest := [.int 1]) (As := [.int (x >>> (6 &&& 31)), .int 60]) (k_L_below l D yI yZ yL (x >>> (6 &&& 31)) 60 (by decide) (by decide)) (va_cwS 2 F.hts gL_act_L_below rfl rfl rfl (by decide +kernel) ⟨Nat.le_of_ble_eq_true rfl, Nat.le_of_ble_eq_true rfl⟩) (bw h a t ++ (cw yI yZ a K V ++ (cw yI yZ t Kt Vt ++ (zw yI yL o ba pa la ra K V (zA V))))) ([] : va_W) rfl rfl rfl (Nat.le_of_ble_eq_true rfl) dL_act_292 ⟨Nat.le_of_ble_eq_true rfl, Nat.le_of_ble_eq_true rfl⟩ (fun r1 W1 z1 => ?_)
    obtain ⟨⟨j11, hj11, z0⟩, z1⟩ := z1
    subst z0
    subst z1
    refine xr_ws (ws' := bw h a t ++ (cw yI yZ a K V ++ (cw yI yZ t Kt Vt ++ (zw yI yL o ba pa la ra K V (zA V))))) (by first | (simp only [List.append_assoc, List.append_nil, List.nil_append]; done) | rfl | (simp only [List.append_assoc, List.append_nil, List.nil_append]; rfl)) ?_
    refine xr_iadd F (nI (1 + j11)) dL_act_295 (nI_add 1 j11) ?_
    refine xr_istore F [(6, .int (nI (1 + j11))), (5, .int (nI j10)), (3, .int (nI (kNb K))), (0, .ref h), (1, .ref (o 0)), (2, .int x)] dL_act_296 (by decide) rfl ?_
    refine xr_iload F dL_act_298 0 rfl ?_
    refine xr_iconst F dL_act_300 (v := 2) (by decide) ?_
    refine xr_idiv F ((nI (1 + j11)) / 2) dL_act_301 (by decide) rfl ?_
    refine xr_iload F dL_act_302 0 rfl ?_
    refine xr_iconst F dL_act_304 (v := 2) (by decide) ?_
    refine xr_irem F ((nI (1 + j11)) - (nI (1 + j11)) / 2 * 2) dL_act_305 (by decide) rfl ?_
    refine xr_iadd F (((nI (1 + j11)) / 2) + ((nI (1 + j11)) - (nI (1 + j11)) / 2 * 2)) dL_act_306 rfl ?_
    refine xr_top (y := nI ((1 + j11 + 1) / 2)) (half (1 + j11) (by omega)).2 ?_
    obtain ⟨aq, aA, aB⟩ := act_water (K := K) (V := V) (j := j10) (w := 1 + j11) hj10 (by omega) (by omega) hN hV
    refine xr_istore F [(7, .int (nI ((1 + j11 + 1) / 2))), (6, .int (nI (1 + j11))), (5, .int (nI j10)), (3, .int (nI (kNb K))), (0, .ref h), (1, .ref (o 0)), (2, .int x)] dL_act_307 (by decide) rfl ?_
    refine xr_aload_n F dL_act_309 rfl 5 rfl ?_
    refine xr_get F hin2 (25) rfl rfl 9 (by decide) (List.mem_of_getElem? (i := 8) rfl) (v := .int (dBank V)) rfl dL_act_310 ?_
    refine xr_iload F dL_act_313 0 rfl ?_
    refine xr_icmp_lt F 322 dL_act_315 (by decide) (fun c315 => ?_) (fun c315 => ?_)
    · skip
      refine xr_iconst F dL_act_322 (v := 0) (by decide) ?_
      refine xr_istore F [(8, .int 0), (7, .int (nI ((1 + j11 + 1) / 2))), (6, .int (nI (1 + j11))), (5, .int (nI j10)), (3, .int (nI (kNb K))), (0, .ref h), (1, .ref (o 0)), (2, .int x)] dL_act_323 (by decide) rfl ?_
      refine xr_iload F dL_act_325 0 rfl ?_
      refine xr_if_eq F 349 dL_act_327 (by decide) (fun c327 => ?_) (fun c327 => ?_)
      · skip
        refine xr_aload_n F dL_act_349 rfl 5 rfl ?_
        refine xr_iload F dL_act_350 3 rfl ?_
        refine xr_iload F dL_act_352 2 rfl ?_
        refine xr_ws (ws' := ([] : va_W) ++ ((bw h a t ++ (cw yI yZ a K V)) ++ (cw yI yZ t Kt Vt ++ (zw yI yL o ba pa la ra K V (zA V))))) (by first | (simp only [List.append_assoc, List.append_nil, List.nil_append]; done) | rfl | (simp only [List.append_assoc, List.append_nil, List.nil_append]; rfl)) ?_
        have q354 : q_water V (nI j10) (nI (1 + j11)) = 3 := aq.trans (if_pos c315)
        refine xr_mcXVi F G (rest := []) (As := [.int (nI j10), .int (nI (1 + j11))]) (k_X1_water l D yI yZ yL hst h a t K V (nI j10) (nI (1 + j11)) ) (cwV 2 F.hts gL_act_X1_water rfl rfl rfl (by decide +kernel) ⟨Nat.le_of_ble_eq_true rfl, Nat.le_of_ble_eq_true rfl⟩) (q0 := 0) rfl rfl (([] : va_W)) (cw yI yZ t Kt Vt ++ (zw yI yL o ba pa la ra K V (zA V))) rfl rfl rfl (Nat.le_of_ble_eq_true rfl) dL_act_354 ⟨Nat.le_of_ble_eq_true rfl, Nat.le_of_ble_eq_true rfl⟩ (fun E1 W1 z1 => ?_) (fun r1 W1 z1 => ?_)
        · skip
          obtain ⟨z0, z1⟩ := z1
          subst z1
          rcases z0 with ⟨h9, z0⟩ | ⟨h9, z0⟩ | ⟨h9, z0⟩
          · skip
            exact absurd (q354.symm.trans h9) (by decide)
          · skip
            exact absurd (q354.symm.trans h9) (by decide)
          · skip
            subst z0
            refine xr_catch F G htab [] ⟨349, 359, 362, 65⟩ [⟨440, 448, 451, 65⟩, ⟨630, 642, 645, 65⟩] rfl (fun z hz => nomatch hz) (by decide) (by decide) (List.mem_of_getElem? (i := 1) rfl) (List.mem_of_getElem? (i := 2) rfl) (fun q9 => ?_)
            refine xr_ws (ws' := bw h a t ++ (cw yI yZ a K V ++ (cw yI yZ t Kt Vt ++ (zw yI yL o ba pa la ra K V (zA V))))) (by first | (simp only [List.append_assoc, List.append_nil, List.nil_append]; done) | rfl | (simp only [List.append_assoc, List.append_nil, List.nil_append]; rfl)) ?_
            refine xr_astore F [(9, .ref q9), (8, .int 0), (7, .int (nI ((1 + j11 + 1) / 2))), (6, .int (nI (1 + j11))), (5, .int (nI j10)), (3, .int (nI (kNb K))), (0, .ref h), (1, .ref (o 0)), (2, .int x)] dL_act_362 (by decide) rfl ?_
            refine xr_iconst F dL_act_364 (v := (-1)) (by decide) ?_
            refine xr_istore F [(4, .int ((-1))), (9, .ref q9), (8, .int 0), (7, .int (nI ((1 + j11 + 1) / 2))), (6, .int (nI (1 + j11))), (5, .int (nI j10)), (3, .int (nI (kNb K))), (0, .ref h), (1, .ref (o 0)), (2, .int x)] dL_act_365 (by decide) rfl ?_
            refine xr_iload F dL_act_367 0 rfl ?_
            refine xr_iload F dL_act_369 2 rfl ?_
            refine xr_if_eq F 381 dL_act_371 (by decide) (fun c371 => ?_) (fun c371 => ?_)
            · skip
              refine xr_iconst F dL_act_381 (v := (-1)) (by decide) ?_
              refine xr_icmp_ne F 389 dL_act_382 (by decide) (fun c382 => ?_) (fun c382 => ?_)
              · exact absurd rfl c382
              · skip
                refine xr_iconst F dL_act_385 (v := 1) (by decide) ?_
                refine xr_goto F 390 dL_act_386 (by decide) ?_
                refine xr_widen (k := 3) (n := 21) (Nat.le_of_ble_eq_true rfl) (Nat.le_of_ble_eq_true rfl) ?_
                exact ret _ _ _ _ dL_act_390 rfl ⟨rfl, K, V, Kt, Vt, ba, ra, hK, (okV_le hV (Nat.le_succ N)), rfl, rfl⟩
            · exact absurd (by decide) c371
        · skip
          exact absurd (z1.1.symm.trans q354) (by decide)
      · exact absurd (by decide) c327
    · skip
      refine xr_iconst F dL_act_318 (v := 1) (by decide) ?_
      refine xr_goto F 323 dL_act_319 (by decide) ?_
      refine xr_istore F [(8, .int 1), (7, .int (nI ((1 + j11 + 1) / 2))), (6, .int (nI (1 + j11))), (5, .int (nI j10)), (3, .int (nI (kNb K))), (0, .ref h), (1, .ref (o 0)), (2, .int x)] dL_act_323 (by decide) rfl ?_
      refine xr_iload F dL_act_325 0 rfl ?_
      refine xr_if_eq F 349 dL_act_327 (by decide) (fun c327 => ?_) (fun c327 => ?_)
      · exact absurd c327 (by decide)
      · skip
        refine xr_aload_n F dL_act_330 rfl 6 rfl ?_
        refine xr_dup F dL_act_331 rfl ?_
        refine xr_get F hin2 (25) rfl rfl 9 (by decide) (List.mem_of_getElem? (i := 8) rfl) (v := .int (dBank V)) rfl dL_act_332 ?_
        refine xr_iload F dL_act_335 1 rfl ?_
        refine xr_isub F ((dBank V) - (nI ((1 + j11 + 1) / 2))) dL_act_337 rfl ?_
        refine xr_put (ty := .int) F hin2 (25) rfl rfl 9 (by decide) tyX2 tyX2_ok nmX2 (List.mem_of_getElem? (i := 8) rfl) rfl (by decide) rfl rfl (Nat.le_of_ble_eq_true rfl) (bw h a t ++ (cw yI yZ a K V ++ (cw yI yZ t Kt Vt ++ (zwx yI yL o ba pa la ra (kFee K) (kDry K) (kMill K) (kMark K) (kNb K) (kSpr K) (kGoal K) (dHour V) ((dBank V) - (nI ((1 + j11 + 1) / 2))) (dLev V) (dOver V) (dDrawn V) (dFull V) (dLock V) (dFill V) (dAt V) (dPur V) (dSer V) (zA V))))) rfl dL_act_338 ?_
        refine xr_aload_n F dL_act_341 rfl 6 rfl ?_
        refine xr_iload F dL_act_342 3 rfl ?_
        refine xr_iload F dL_act_344 2 rfl ?_
        refine xr_stk (st' := [.int (nI (1 + j11)), .int (nI (j10 + 1) - 1), .ref (o 0)]) (by rw [nI_pred]) ?_
        obtain ⟨V12, eV12⟩ : ∃ x9 : CD, x9 = (dHour V, (dBank V) - (nI ((1 + j11 + 1) / 2)), dLev V, dOver V, dDrawn V, dFull V, dLock V, dFill V, dAt V, dPur V, dSer V) := ⟨_, rfl⟩
        refine xr_ws (ws' := bw h a t ++ (cw yI yZ a K V ++ (cw yI yZ t Kt Vt ++ (zw yI yL o ba pa la ra K V12 (zA V))))) (by rw [eV12, zw_mk]) ?_
        refine xr_ws (ws' := bw h a t ++ (cw yI yZ a K V ++ (cw yI yZ t Kt Vt)) ++ ((zw yI yL o ba pa la ra K V12 (zA V)) ++ (([] : va_W)))) (by first | (simp only [List.append_assoc, List.append_nil, List.nil_append]; done) | rfl | (simp only [List.append_assoc, List.append_nil, List.nil_append]; rfl)) ?_
        refine xr_mcVv F (rest := []) (As := [.int (nI (j10 + 1) - 1), .int (nI (1 + j11))]) (k_X2_into l D yI yZ yL o ba pa la ra K V12 (zA V) (j10 + 1) (nI (1 + j11)) (by omega)) (cwV 2 F.hts gL_act_X2_into rfl rfl rfl (by decide +kernel) ⟨Nat.le_trans (m := 7) (show (j10 + 1) + 1 ≤ 7 by omega) (Nat.le_of_ble_eq_true rfl), Nat.le_trans (m := 168) (show 8 + (5 + 11) + 24 * (j10 + 1) ≤ 168 by omega) (Nat.le_of_ble_eq_true rfl)⟩) (q0 := 0) rfl rfl (bw h a t ++ (cw yI yZ a K V ++ (cw yI yZ t Kt Vt))) (([] : va_W)) rfl rfl rfl (Nat.le_of_ble_eq_true rfl) dL_act_346 ⟨Nat.le_of_ble_eq_true rfl, Nat.le_of_ble_eq_true rfl⟩ (fun W1 z1 => ?_)
        obtain ⟨eC, eI, oV⟩ := aA c315
        rw [show V12 = tBank V (dBank V - nI (((1 + j11) + 1) / 2)) from eV12, eI] at z1
        obtain ⟨U, eU⟩ : ∃ x9 : CD, x9 = c_pour (tBank V (dBank V - nI (((1 + j11) + 1) / 2))) (j10 + 1) (nI (1 + j11)) := ⟨_, rfl⟩
        rw [← eU] at z1 eC oV
        subst z1
        refine xr_ws (ws' := bw h a t ++ (cw yI yZ a K V ++ (cw yI yZ t Kt Vt ++ (zw yI yL o ba pa la ra K U (zA U))))) (by first | (simp only [List.append_assoc, List.append_nil, List.nil_append]; done) | rfl | (simp only [List.append_assoc, List.append_nil, List.nil_append]; rfl)) ?_
        refine xr_aload_n F dL_act_349 rfl 5 rfl ?_
        refine xr_iload F dL_act_350 3 rfl ?_
        refine xr_iload F dL_act_352 2 rfl ?_
        refine xr_ws (ws' := ([] : va_W) ++ ((bw h a t ++ (cw yI yZ a K V)) ++ (cw yI yZ t Kt Vt ++ (zw yI yL o ba pa la ra K U (zA U))))) (by first | (simp only [List.append_assoc, List.append_nil, List.nil_append]; done) | rfl | (simp only [List.append_assoc, List.append_nil, List.nil_append]; rfl)) ?_
        have q354 : q_water V (nI j10) (nI (1 + j11)) = 0 := aq.trans (if_neg c315)
        refine xr_mcXVi F G (rest := []) (As := [.int (nI j10), .int (nI (1 + j11))]) (k_X1_water l D yI yZ yL hst h a t K V (nI j10) (nI (1 + j11)) ) (cwV 2 F.hts gL_act_X1_water rfl rfl rfl (by decide +kernel) ⟨Nat.le_of_ble_eq_true rfl, Nat.le_of_ble_eq_true rfl⟩) (q0 := 0) rfl rfl (([] : va_W)) (cw yI yZ t Kt Vt ++ (zw yI yL o ba pa la ra K U (zA U))) rfl rfl rfl (Nat.le_of_ble_eq_true rfl) dL_act_354 ⟨Nat.le_of_ble_eq_true rfl, Nat.le_of_ble_eq_true rfl⟩ (fun E1 W1 z1 => ?_) (fun r1 W1 z1 => ?_)
        · skip
          rcases z1.1 with h9 | h9 | h9 <;> exact absurd (q354.symm.trans h9.1) (by decide)
        · skip
          obtain ⟨-, z0, z1⟩ := z1
          subst z0
          subst z1
          refine xr_ws (ws' := bw h a t ++ (cw yI yZ a K (C_water V (nI j10) (nI (1 + j11))) ++ (cw yI yZ t Kt Vt ++ (zw yI yL o ba pa la ra K U (zA U))))) (by first | (simp only [List.append_assoc, List.append_nil, List.nil_append]; done) | rfl | (simp only [List.append_assoc, List.append_nil, List.nil_append]; rfl)) ?_
          refine xr_ws (ws' := bw h a t ++ (cw yI yZ a K U ++ (cw yI yZ t Kt Vt ++ (zw yI yL o ba pa la ra K U (zA U))))) (by rw [eC]) ?_
          refine xr_top (y := dBank U) (by rw [eC]) ?_
          refine xr_istore F [(4, .int (dBank U)), (8, .int 1), (7, .int (nI ((1 + j11 + 1) / 2))), (6, .int (nI (1 + j11))), (5, .int (nI j10)), (3, .int (nI (kNb K))), (0, .ref h), (1, .ref (o 0)), (2, .int x)] dL_act_357 (by decide) rfl ?_
          refine xr_goto F 367 dL_act_359 (by decide) ?_
          refine xr_iload F dL_act_367 0 rfl ?_
          refine xr_iload F dL_act_369 1 rfl ?_
          refine xr_if_eq F 381 dL_act_371 (by decide) (fun c371 => ?_) (fun c371 => ?_)
          · exact absurd c371 (by decide)
          · skip
            refine xr_aload_n F dL_act_374 rfl 7 rfl ?_
            refine xr_get F hin2 (25) rfl rfl 9 (by decide) (List.mem_of_getElem? (i := 8) rfl) (v := .int (dBank U)) rfl dL_act_375 ?_
            refine xr_goto F 382 dL_act_378 (by decide) ?_
            refine xr_icmp_ne F 389 dL_act_382 (by decide) (fun c382 => ?_) (fun c382 => ?_)
            · exact absurd rfl c382
            · skip
              refine xr_iconst F dL_act_385 (v := 1) (by decide) ?_
              refine xr_goto F 390 dL_act_386 (by decide) ?_
              refine xr_widen (k := 3) (n := 21) (Nat.le_of_ble_eq_true rfl) (Nat.le_of_ble_eq_true rfl) ?_
              exact ret _ _ _ _ dL_act_390 rfl ⟨rfl, K, U, Kt, Vt, ba, ra, hK, oV, (by rw [eU]; rfl), rfl⟩
  · skip
    refine xr_tableIn F (off := 263) 275 dL_act_12 (by decide) (by decide) (by decide) (by decide) ?_
    refine xr_iload_n F dL_act_275 rfl 3 rfl ?_
    refine xr_iconst F dL_act_276 (v := 4) (by decide) ?_
    refine xr_ishr F (x >>> (4 &&& 31)) dL_act_277 rfl ?_
    refine xr_bipush F dL_act_278 (v := 6) (by decide) ?_
    refine xr_ws (ws' := (bw h a t ++ (cw yI yZ a K V ++ (cw yI yZ t Kt Vt ++ (zw yI yL o ba pa la ra K V (zA V))))) ++ (([] : va_W) ++ ([] : va_W))) (by first | (simp only [List.append_assoc, List.append_nil, List.nil_append]; done) | rfl | (simp only [List.append_assoc, List.append_nil, List.nil_append]; rfl)) ?_
    refine xr_mcSi F (rest := []) (As := [.int (x >>> (4 &&& 31)), .int 6]) (k_L_below l D yI yZ yL (x >>> (4 &&& 31)) 6 (by decide) (by decide)) (va_cwS 2 F.hts gL_act_L_below rfl rfl rfl (by decide +kernel) ⟨Nat.le_of_ble_eq_true rfl, Nat.le_of_ble_eq_true rfl⟩) (bw h a t ++ (cw yI yZ a K V ++ (cw yI yZ t Kt Vt ++ (zw yI yL o ba pa la ra K V (zA V))))) ([] : va_W) rfl rfl rfl (Nat.le_of_ble_eq_true rfl) dL_act_280 ⟨Nat.le_of_ble_eq_true rfl, Nat.le_of_ble_eq_true rfl⟩ (fun r1 W1 z1 => ?_)
    obtain ⟨⟨j13, hj13, z0⟩, z1⟩ := z1
    subst z0
    subst z1
    refine xr_ws (ws' := bw h a t ++ (cw yI yZ a K V ++ (cw yI yZ t Kt Vt ++ (zw yI yL o ba pa la ra K V (zA V))))) (by first | (simp only [List.append_assoc, List.append_nil, List.nil_append]; done) | rfl | (simp only [List.append_assoc, List.append_nil, List.nil_append]; rfl)) ?_
    refine xr_istore F [(5, .int (nI j13)), (3, .int (nI (kNb K))), (0, .ref h), (1, .ref (o 0)), (2, .int x)] dL_act_283 (by decide) rfl ?_
    refine xr_iconst F dL_act_285 (v := 1) (by decide) ?_
    refine xr_iload_n F dL_act_286 rfl 4 rfl ?_
    refine xr_bipush F dL_act_287 (v := 6) (by decide) ?_
    refine xr_ishr F (x >>> (6 &&& 31)) dL_act_289 rfl ?_
    refine xr_bipush F dL_act_290 (v := 60) (by decide) ?_
    refine xr_ws (ws' := (bw h a t ++ (cw yI yZ a K V ++ (cw yI yZ t Kt Vt ++ (zw yI yL o ba pa la ra K V (zA V))))) ++ (([] : va_W) ++ ([] : va_W))) (by first | (simp only [List.append_assoc, List.append_nil, List.nil_append]; done) | rfl | (simp only [List.append_assoc, List.append_nil, List.nil_append]; rfl)) ?_
    refine xr_mcSi F (rest := [.int 1]) (As := [.int (x >>> (6 &&& 31)), .int 60]) (k_L_below l D yI yZ yL (x >>> (6 &&& 31)) 60 (by decide) (by decide)) (va_cwS 2 F.hts gL_act_L_below rfl rfl rfl (by decide +kernel) ⟨Nat.le_of_ble_eq_true rfl, Nat.le_of_ble_eq_true rfl⟩) (bw h a t ++ (cw yI yZ a K V ++ (cw yI yZ t Kt Vt ++ (zw yI yL o ba pa la ra K V (zA V))))) ([] : va_W) rfl rfl rfl (Nat.le_of_ble_eq_true rfl) dL_act_292 ⟨Nat.le_of_ble_eq_true rfl, Nat.le_of_ble_eq_true rfl⟩ (fun r1 W1 z1 => ?_)
    obtain ⟨⟨j14, hj14, z0⟩, z1⟩ := z1
    subst z0
    subst z1
    refine xr_ws (ws' := bw h a t ++ (cw yI yZ a K V ++ (cw yI yZ t Kt Vt ++ (zw yI yL o ba pa la ra K V (zA V))))) (by first | (simp only [List.append_assoc, List.append_nil, List.nil_append]; done) | rfl | (simp only [List.append_assoc, List.append_nil, List.nil_append]; rfl)) ?_
    refine xr_iadd F (nI (1 + j14)) dL_act_295 (nI_add 1 j14) ?_
    refine xr_istore F [(6, .int (nI (1 + j14))), (5, .int (nI j13)), (3, .int (nI (kNb K))), (0, .ref h), (1, .ref (o 0)), (2, .int x)] dL_act_296 (by decide) rfl ?_
    refine xr_iload F dL_act_298 0 rfl ?_
    refine xr_iconst F dL_act_300 (v := 2) (by decide) ?_
    refine xr_idiv F ((nI (1 + j14)) / 2) dL_act_301 (by decide) rfl ?_
    refine xr_iload F dL_act_302 0 rfl ?_
    refine xr_iconst F dL_act_304 (v := 2) (by decide) ?_
    refine xr_irem F ((nI (1 + j14)) - (nI (1 + j14)) / 2 * 2) dL_act_305 (by decide) rfl ?_
    refine xr_iadd F (((nI (1 + j14)) / 2) + ((nI (1 + j14)) - (nI (1 + j14)) / 2 * 2)) dL_act_306 rfl ?_
    refine xr_top (y := nI ((1 + j14 + 1) / 2)) (half (1 + j14) (by omega)).2 ?_
    obtain ⟨aq, aA, aB⟩ := act_water (K := K) (V := V) (j := j13) (w := 1 + j14) hj13 (by omega) (by omega) hN hV
    refine xr_istore F [(7, .int (nI ((1 + j14 + 1) / 2))), (6, .int (nI (1 + j14))), (5, .int (nI j13)), (3, .int (nI (kNb K))), (0, .ref h), (1, .ref (o 0)), (2, .int x)] dL_act_307 (by decide) rfl ?_
    refine xr_aload_n F dL_act_309 rfl 5 rfl ?_
    refine xr_get F hin2 (25) rfl rfl 9 (by decide) (List.mem_of_getElem? (i := 8) rfl) (v := .int (dBank V)) rfl dL_act_310 ?_
    refine xr_iload F dL_act_313 0 rfl ?_
    refine xr_icmp_lt F 322 dL_act_315 (by decide) (fun c315 => ?_) (fun c315 => ?_)
    · skip
      refine xr_iconst F dL_act_322 (v := 0) (by decide) ?_
      refine xr_istore F [(8, .int 0), (7, .int (nI ((1 + j14 + 1) / 2))), (6, .int (nI (1 + j14))), (5, .int (nI j13)), (3, .int (nI (kNb K))), (0, .ref h), (1, .ref (o 0)), (2, .int x)] dL_act_323 (by decide) rfl ?_
      refine xr_iload F dL_act_325 0 rfl ?_
      refine xr_if_eq F 349 dL_act_327 (by decide) (fun c327 => ?_) (fun c327 => ?_)
      · skip
        refine xr_aload_n F dL_act_349 rfl 5 rfl ?_
        refine xr_iload F dL_act_350 3 rfl ?_
        refine xr_iload F dL_act_352 2 rfl ?_
        refine xr_ws (ws' := ([] : va_W) ++ ((bw h a t ++ (cw yI yZ a K V)) ++ (cw yI yZ t Kt Vt ++ (zw yI yL o ba pa la ra K V (zA V))))) (by first | (simp only [List.append_assoc, List.append_nil, List.nil_append]; done) | rfl | (simp only [List.append_assoc, List.append_nil, List.nil_append]; rfl)) ?_
        have q354 : q_water V (nI j13) (nI (1 + j14)) = 3 := aq.trans (if_pos c315)
        refine xr_mcXVi F G (rest := []) (As := [.int (nI j13), .int (nI (1 + j14))]) (k_X1_water l D yI yZ yL hst h a t K V (nI j13) (nI (1 + j14)) ) (cwV 2 F.hts gL_act_X1_water rfl rfl rfl (by decide +kernel) ⟨Nat.le_of_ble_eq_true rfl, Nat.le_of_ble_eq_true rfl⟩) (q0 := 0) rfl rfl (([] : va_W)) (cw yI yZ t Kt Vt ++ (zw yI yL o ba pa la ra K V (zA V))) rfl rfl rfl (Nat.le_of_ble_eq_true rfl) dL_act_354 ⟨Nat.le_of_ble_eq_true rfl, Nat.le_of_ble_eq_true rfl⟩ (fun E1 W1 z1 => ?_) (fun r1 W1 z1 => ?_)
        · skip
          obtain ⟨z0, z1⟩ := z1
          subst z1
          rcases z0 with ⟨h9, z0⟩ | ⟨h9, z0⟩ | ⟨h9, z0⟩
          · skip
            exact absurd (q354.symm.trans h9) (by decide)
          · skip
            exact absurd (q354.symm.trans h9) (by decide)
          · skip
            subst z0
            refine xr_catch F G htab [] ⟨349, 359, 362, 65⟩ [⟨440, 448, 451, 65⟩, ⟨630, 642, 645, 65⟩] rfl (fun z hz => nomatch hz) (by decide) (by decide) (List.mem_of_getElem? (i := 1) rfl) (List.mem_of_getElem? (i := 2) rfl) (fun q9 => ?_)
            refine xr_ws (ws' := bw h a t ++ (cw yI yZ a K V ++ (cw yI yZ t Kt Vt ++ (zw yI yL o ba pa la ra K V (zA V))))) (by first | (simp only [List.append_assoc, List.append_nil, List.nil_append]; done) | rfl | (simp only [List.append_assoc, List.append_nil, List.nil_append]; rfl)) ?_
            refine xr_astore F [(9, .ref q9), (8, .int 0), (7, .int (nI ((1 + j14 + 1) / 2))), (6, .int (nI (1 + j14))), (5, .int (nI j13)), (3, .int (nI (kNb K))), (0, .ref h), (1, .ref (o 0)), (2, .int x)] dL_act_362 (by decide) rfl ?_
            refine xr_iconst F dL_act_364 (v := (-1)) (by decide) ?_
            refine xr_istore F [(4, .int ((-1))), (9, .ref q9), (8, .int 0), (7, .int (nI ((1 + j14 + 1) / 2))), (6, .int (nI (1 + j14))), (5, .int (nI j13)), (3, .int (nI (kNb K))), (0, .ref h), (1, .ref (o 0)), (2, .int x)] dL_act_365 (by decide) rfl ?_
            refine xr_iload F dL_act_367 0 rfl ?_
            refine xr_iload F dL_act_369 2 rfl ?_
            refine xr_if_eq F 381 dL_act_371 (by decide) (fun c371 => ?_) (fun c371 => ?_)
            · skip
              refine xr_iconst F dL_act_381 (v := (-1)) (by decide) ?_
              refine xr_icmp_ne F 389 dL_act_382 (by decide) (fun c382 => ?_) (fun c382 => ?_)
              · exact absurd rfl c382
              · skip
                refine xr_iconst F dL_act_385 (v := 1) (by decide) ?_
                refine xr_goto F 390 dL_act_386 (by decide) ?_
                refine xr_widen (k := 3) (n := 21) (Nat.le_of_ble_eq_true rfl) (Nat.le_of_ble_eq_true rfl) ?_
                exact ret _ _ _ _ dL_act_390 rfl ⟨rfl, K, V, Kt, Vt, ba, ra, hK, (okV_le hV (Nat.le_succ N)), rfl, rfl⟩
            · exact absurd (by decide) c371
        · skip
          exact absurd (z1.1.symm.trans q354) (by decide)
      · exact absurd (by decide) c327
    · skip
      refine xr_iconst F dL_act_318 (v := 1) (by decide) ?_
      refine xr_goto F 323 dL_act_319 (by decide) ?_
      refine xr_istore F [(8, .int 1), (7, .int (nI ((1 + j14 + 1) / 2))), (6, .int (nI (1 + j14))), (5, .int (nI j13)), (3, .int (nI (kNb K))), (0, .ref h), (1, .ref (o 0)), (2, .int x)] dL_act_323 (by decide) rfl ?_
      refine xr_iload F dL_act_325 0 rfl ?_
      refine xr_if_eq F 349 dL_act_327 (by decide) (fun c327 => ?_) (fun c327 => ?_)
      · exact absurd c327 (by decide)
      · skip
        refine xr_aload_n F dL_act_330 rfl 6 rfl ?_
        refine xr_dup F dL_act_331 rfl ?_
        refine xr_get F hin2 (25) rfl rfl 9 (by decide) (List.mem_of_getElem? (i := 8) rfl) (v := .int (dBank V)) rfl dL_act_332 ?_
        refine xr_iload F dL_act_335 1 rfl ?_
        refine xr_isub F ((dBank V) - (nI ((1 + j14 + 1) / 2))) dL_act_337 rfl ?_
        refine xr_put (ty := .int) F hin2 (25) rfl rfl 9 (by decide) tyX2 tyX2_ok nmX2 (List.mem_of_getElem? (i := 8) rfl) rfl (by decide) rfl rfl (Nat.le_of_ble_eq_true rfl) (bw h a t ++ (cw yI yZ a K V ++ (cw yI yZ t Kt Vt ++ (zwx yI yL o ba pa la ra (kFee K) (kDry K) (kMill K) (kMark K) (kNb K) (kSpr K) (kGoal K) (dHour V) ((dBank V) - (nI ((1 + j14 + 1) / 2))) (dLev V) (dOver V) (dDrawn V) (dFull V) (dLock V) (dFill V) (dAt V) (dPur V) (dSer V) (zA V))))) rfl dL_act_338 ?_
        refine xr_aload_n F dL_act_341 rfl 6 rfl ?_
        refine xr_iload F dL_act_342 3 rfl ?_
        refine xr_iload F dL_act_344 2 rfl ?_
        refine xr_stk (st' := [.int (nI (1 + j14)), .int (nI (j13 + 1) - 1), .ref (o 0)]) (by rw [nI_pred]) ?_
        obtain ⟨V15, eV15⟩ : ∃ x9 : CD, x9 = (dHour V, (dBank V) - (nI ((1 + j14 + 1) / 2)), dLev V, dOver V, dDrawn V, dFull V, dLock V, dFill V, dAt V, dPur V, dSer V) := ⟨_, rfl⟩
        refine xr_ws (ws' := bw h a t ++ (cw yI yZ a K V ++ (cw yI yZ t Kt Vt ++ (zw yI yL o ba pa la ra K V15 (zA V))))) (by rw [eV15, zw_mk]) ?_
        refine xr_ws (ws' := bw h a t ++ (cw yI yZ a K V ++ (cw yI yZ t Kt Vt)) ++ ((zw yI yL o ba pa la ra K V15 (zA V)) ++ (([] : va_W)))) (by first | (simp only [List.append_assoc, List.append_nil, List.nil_append]; done) | rfl | (simp only [List.append_assoc, List.append_nil, List.nil_append]; rfl)) ?_
        refine xr_mcVv F (rest := []) (As := [.int (nI (j13 + 1) - 1), .int (nI (1 + j14))]) (k_X2_into l D yI yZ yL o ba pa la ra K V15 (zA V) (j13 + 1) (nI (1 + j14)) (by omega)) (cwV 2 F.hts gL_act_X2_into rfl rfl rfl (by decide +kernel) ⟨Nat.le_trans (m := 7) (show (j13 + 1) + 1 ≤ 7 by omega) (Nat.le_of_ble_eq_true rfl), Nat.le_trans (m := 168) (show 8 + (5 + 11) + 24 * (j13 + 1) ≤ 168 by omega) (Nat.le_of_ble_eq_true rfl)⟩) (q0 := 0) rfl rfl (bw h a t ++ (cw yI yZ a K V ++ (cw yI yZ t Kt Vt))) (([] : va_W)) rfl rfl rfl (Nat.le_of_ble_eq_true rfl) dL_act_346 ⟨Nat.le_of_ble_eq_true rfl, Nat.le_of_ble_eq_true rfl⟩ (fun W1 z1 => ?_)
        obtain ⟨eC, eI, oV⟩ := aA c315
        rw [show V15 = tBank V (dBank V - nI (((1 + j14) + 1) / 2)) from eV15, eI] at z1
        obtain ⟨U, eU⟩ : ∃ x9 : CD, x9 = c_pour (tBank V (dBank V - nI (((1 + j14) + 1) / 2))) (j13 + 1) (nI (1 + j14)) := ⟨_, rfl⟩
        rw [← eU] at z1 eC oV
        subst z1
        refine xr_ws (ws' := bw h a t ++ (cw yI yZ a K V ++ (cw yI yZ t Kt Vt ++ (zw yI yL o ba pa la ra K U (zA U))))) (by first | (simp only [List.append_assoc, List.append_nil, List.nil_append]; done) | rfl | (simp only [List.append_assoc, List.append_nil, List.nil_append]; rfl)) ?_
        refine xr_aload_n F dL_act_349 rfl 5 rfl ?_
        refine xr_iload F dL_act_350 3 rfl ?_
        refine xr_iload F dL_act_352 2 rfl ?_
        refine xr_ws (ws' := ([] : va_W) ++ ((bw h a t ++ (cw yI yZ a K V)) ++ (cw yI yZ t Kt Vt ++ (zw yI yL o ba pa la ra K U (zA U))))) (by first | (simp only [List.append_assoc, List.append_nil, List.nil_append]; done) | rfl | (simp only [List.append_assoc, List.append_nil, List.nil_append]; rfl)) ?_
        have q354 : q_water V (nI j13) (nI (1 + j14)) = 0 := aq.trans (if_neg c315)
        refine xr_mcXVi F G (rest := []) (As := [.int (nI j13), .int (nI (1 + j14))]) (k_X1_water l D yI yZ yL hst h a t K V (nI j13) (nI (1 + j14)) ) (cwV 2 F.hts gL_act_X1_water rfl rfl rfl (by decide +kernel) ⟨Nat.le_of_ble_eq_true rfl, Nat.le_of_ble_eq_true rfl⟩) (q0 := 0) rfl rfl (([] : va_W)) (cw yI yZ t Kt Vt ++ (zw yI yL o ba pa la ra K U (zA U))) rfl rfl rfl (Nat.le_of_ble_eq_true rfl) dL_act_354 ⟨Nat.le_of_ble_eq_true rfl, Nat.le_of_ble_eq_true rfl⟩ (fun E1 W1 z1 => ?_) (fun r1 W1 z1 => ?_)
        · skip
          rcases z1.1 with h9 | h9 | h9 <;> exact absurd (q354.symm.trans h9.1) (by decide)
        · skip
          obtain ⟨-, z0, z1⟩ := z1
          subst z0
          subst z1
          refine xr_ws (ws' := bw h a t ++ (cw yI yZ a K (C_water V (nI j13) (nI (1 + j14))) ++ (cw yI yZ t Kt Vt ++ (zw yI yL o ba pa la ra K U (zA U))))) (by first | (simp only [List.append_assoc, List.append_nil, List.nil_append]; done) | rfl | (simp only [List.append_assoc, List.append_nil, List.nil_append]; rfl)) ?_
          refine xr_ws (ws' := bw h a t ++ (cw yI yZ a K U ++ (cw yI yZ t Kt Vt ++ (zw yI yL o ba pa la ra K U (zA U))))) (by rw [eC]) ?_
          refine xr_top (y := dBank U) (by rw [eC]) ?_
          refine xr_istore F [(4, .int (dBank U)), (8, .int 1), (7, .int (nI ((1 + j14 + 1) / 2))), (6, .int (nI (1 + j14))), (5, .int (nI j13)), (3, .int (nI (kNb K))), (0, .ref h), (1, .ref (o 0)), (2, .int x)] dL_act_357 (by decide) rfl ?_
          refine xr_goto F 367 dL_act_359 (by decide) ?_
          refine xr_iload F dL_act_367 0 rfl ?_
          refine xr_iload F dL_act_369 1 rfl ?_
          refine xr_if_eq F 381 dL_act_371 (by decide) (fun c371 => ?_) (fun c371 => ?_)
          · exact absurd c371 (by decide)
          · skip
            refine xr_aload_n F dL_act_374 rfl 7 rfl ?_
            refine xr_get F hin2 (25) rfl rfl 9 (by decide) (List.mem_of_getElem? (i := 8) rfl) (v := .int (dBank U)) rfl dL_act_375 ?_
            refine xr_goto F 382 dL_act_378 (by decide) ?_
            refine xr_icmp_ne F 389 dL_act_382 (by decide) (fun c382 => ?_) (fun c382 => ?_)
            · exact absurd rfl c382
            · skip
              refine xr_iconst F dL_act_385 (v := 1) (by decide) ?_
              refine xr_goto F 390 dL_act_386 (by decide) ?_
              refine xr_widen (k := 3) (n := 21) (Nat.le_of_ble_eq_true rfl) (Nat.le_of_ble_eq_true rfl) ?_
              exact ret _ _ _ _ dL_act_390 rfl ⟨rfl, K, U, Kt, Vt, ba, ra, hK, oV, (by rw [eU]; rfl), rfl⟩
  · skip
    refine xr_tableIn F (off := 379) 391 dL_act_12 (by decide) (by decide) (by decide) (by decide) ?_
    refine xr_iload_n F dL_act_391 rfl 3 rfl ?_
    refine xr_iconst F dL_act_392 (v := 4) (by decide) ?_
    refine xr_ishr F (x >>> (4 &&& 31)) dL_act_393 rfl ?_
    refine xr_iconst F dL_act_394 (v := 5) (by decide) ?_
    refine xr_ws (ws' := (bw h a t ++ (cw yI yZ a K V ++ (cw yI yZ t Kt Vt ++ (zw yI yL o ba pa la ra K V (zA V))))) ++ (([] : va_W) ++ ([] : va_W))) (by first | (simp only [List.append_assoc, List.append_nil, List.nil_append]; done) | rfl | (simp only [List.append_assoc, List.append_nil, List.nil_append]; rfl)) ?_
    refine xr_mcSi F (rest := []) (As := [.int (x >>> (4 &&& 31)), .int 5]) (k_L_below l D yI yZ yL (x >>> (4 &&& 31)) 5 (by decide) (by decide)) (va_cwS 2 F.hts gL_act_L_below rfl rfl rfl (by decide +kernel) ⟨Nat.le_of_ble_eq_true rfl, Nat.le_of_ble_eq_true rfl⟩) (bw h a t ++ (cw yI yZ a K V ++ (cw yI yZ t Kt Vt ++ (zw yI yL o ba pa la ra K V (zA V))))) ([] : va_W) rfl rfl rfl (Nat.le_of_ble_eq_true rfl) dL_act_395 ⟨Nat.le_of_ble_eq_true rfl, Nat.le_of_ble_eq_true rfl⟩ (fun r1 W1 z1 => ?_)
    obtain ⟨⟨j16, hj16, z0⟩, z1⟩ := z1
    subst z0
    subst z1
    refine xr_ws (ws' := bw h a t ++ (cw yI yZ a K V ++ (cw yI yZ t Kt Vt ++ (zw yI yL o ba pa la ra K V (zA V))))) (by first | (simp only [List.append_assoc, List.append_nil, List.nil_append]; done) | rfl | (simp only [List.append_assoc, List.append_nil, List.nil_append]; rfl)) ?_
    refine xr_istore F [(5, .int (nI j16)), (3, .int (nI (kNb K))), (0, .ref h), (1, .ref (o 0)), (2, .int x)] dL_act_398 (by decide) rfl ?_
    obtain ⟨aq, aA, aB⟩ := act_work (K := K) (V := V) (k := j16) hj16 hV
    refine xr_aload_n F dL_act_400 rfl 3 rfl ?_
    refine xr_get F hin2 (25) rfl rfl 4 (by decide) (List.mem_of_getElem? (i := 9) rfl) (v := .ref (o 3)) rfl dL_act_401 ?_
    refine xr_iload F dL_act_404 0 rfl ?_
    refine xr_aald F (28) 2 rfl rfl rfl (j16) rfl (by omega) (by decide) dL_act_406 ?_
    refine xr_iconst F dL_act_407 (v := 0) (by decide) ?_
    refine xr_iald F (1 + (12 + (12 + (11 + j16)))) 0 (w_skip (1) rfl (w_skip (12) rfl (w_skip (12) rfl (zwx_l (by omega))))) rfl (0) rfl (by decide) (by decide) dL_act_408 ?_
    refine xr_top (y := (dFull V) j16) rfl ?_
    refine xr_iconst F dL_act_409 (v := 1) (by decide) ?_
    refine xr_icmp_eq F 422 dL_act_410 (by decide) (fun c410 => ?_) (fun c410 => ?_)
    · skip
      refine xr_iconst F dL_act_422 (v := 1) (by decide) ?_
      refine xr_goto F 427 dL_act_423 (by decide) ?_
      refine xr_istore F [(6, .int 1), (5, .int (nI j16)), (3, .int (nI (kNb K))), (0, .ref h), (1, .ref (o 0)), (2, .int x)] dL_act_427 (by decide) rfl ?_
      refine xr_iload F dL_act_429 0 rfl ?_
      refine xr_if_eq F 440 dL_act_431 (by decide) (fun c431 => ?_) (fun c431 => ?_)
      · exact absurd c431 (by decide)
      · skip
        refine xr_aload_n F dL_act_434 rfl 4 rfl ?_
        refine xr_iload F dL_act_435 1 rfl ?_
        refine xr_ws (ws' := bw h a t ++ (cw yI yZ a K V ++ (cw yI yZ t Kt Vt)) ++ ((zw yI yL o ba pa la ra K V (zA V)) ++ (([] : va_W)))) (by first | (simp only [List.append_assoc, List.append_nil, List.nil_append]; done) | rfl | (simp only [List.append_assoc, List.append_nil, List.nil_append]; rfl)) ?_
        refine xr_mcVv F (rest := []) (As := [.int (nI j16)]) (k_X2_turn l D yI yZ yL o ba pa la ra K V (zA V) j16 (by omega)) (cwV 1 F.hts gL_act_X2_turn rfl rfl rfl (by decide +kernel) ⟨Nat.le_of_ble_eq_true rfl, Nat.le_of_ble_eq_true rfl⟩) (q0 := 0) rfl rfl (bw h a t ++ (cw yI yZ a K V ++ (cw yI yZ t Kt Vt))) (([] : va_W)) rfl rfl rfl (Nat.le_of_ble_eq_true rfl) dL_act_437 ⟨Nat.le_of_ble_eq_true rfl, Nat.le_of_ble_eq_true rfl⟩ (fun W1 z1 => ?_)
        obtain ⟨eC, eI, oV⟩ := aA (aq.trans (if_pos c410))
        rw [eI] at z1
        obtain ⟨U, eU⟩ : ∃ x9 : CD, x9 = c_turn V j16 := ⟨_, rfl⟩
        rw [← eU] at z1 eC oV
        subst z1
        refine xr_ws (ws' := bw h a t ++ (cw yI yZ a K V ++ (cw yI yZ t Kt Vt ++ (zw yI yL o ba pa la ra K U (zA U))))) (by first | (simp only [List.append_assoc, List.append_nil, List.nil_append]; done) | rfl | (simp only [List.append_assoc, List.append_nil, List.nil_append]; rfl)) ?_
        refine xr_aload_n F dL_act_440 rfl 3 rfl ?_
        refine xr_iload F dL_act_441 1 rfl ?_
        refine xr_ws (ws' := ([] : va_W) ++ ((bw h a t ++ (cw yI yZ a K V)) ++ (cw yI yZ t Kt Vt ++ (zw yI yL o ba pa la ra K U (zA U))))) (by first | (simp only [List.append_assoc, List.append_nil, List.nil_append]; done) | rfl | (simp only [List.append_assoc, List.append_nil, List.nil_append]; rfl)) ?_
        have q443 : q_work V (nI j16) = 0 := (aq.trans (if_pos c410))
        refine xr_mcXVz F G (rest := []) (As := [.int (nI j16)]) (k_X1_work l D yI yZ yL hst h a t K V (nI j16) hV.2.1) (cwV 1 F.hts gL_act_X1_work rfl rfl rfl (by decide +kernel) ⟨Nat.le_of_ble_eq_true rfl, Nat.le_of_ble_eq_true rfl⟩) (q0 := 0) rfl rfl (([] : va_W)) (cw yI yZ t Kt Vt ++ (zw yI yL o ba pa la ra K U (zA U))) rfl rfl rfl (Nat.le_of_ble_eq_true rfl) dL_act_443 ⟨Nat.le_of_ble_eq_true rfl, Nat.le_of_ble_eq_true rfl⟩ (fun E1 W1 z1 => ?_) (fun r1 W1 z1 => ?_)
        · skip
          rcases z1.1 with h9 | h9 <;> exact absurd (q443.symm.trans h9.1) (by decide)
        · skip
          obtain ⟨-, z0, z1⟩ := z1
          subst z0
          subst z1
          refine xr_ws (ws' := bw h a t ++ (cw yI yZ a K (C_work V (nI j16)) ++ (cw yI yZ t Kt Vt ++ (zw yI yL o ba pa la ra K U (zA U))))) (by first | (simp only [List.append_assoc, List.append_nil, List.nil_append]; done) | rfl | (simp only [List.append_assoc, List.append_nil, List.nil_append]; rfl)) ?_
          refine xr_ws (ws' := bw h a t ++ (cw yI yZ a K U ++ (cw yI yZ t Kt Vt ++ (zw yI yL o ba pa la ra K U (zA U))))) (by rw [eC]) ?_
          refine xr_top (y := dFull U j16) (by rw [eC, ix_nI (by omega)]) ?_
          refine xr_istore F [(7, .int (dFull U j16)), (6, .int 1), (5, .int (nI j16)), (3, .int (nI (kNb K))), (0, .ref h), (1, .ref (o 0)), (2, .int x)] dL_act_446 (by decide) rfl ?_
          refine xr_goto F 464 dL_act_448 (by decide) ?_
          refine xr_iload F dL_act_464 1 rfl ?_
          refine xr_if_eq F 496 dL_act_466 (by decide) (fun c466 => ?_) (fun c466 => ?_)
          · exact absurd c466 (by decide)
          · skip
            refine xr_iload F dL_act_469 0 rfl ?_
            refine xr_aload_n F dL_act_471 rfl 5 rfl ?_
            refine xr_get F hin2 (25) rfl rfl 4 (by decide) (List.mem_of_getElem? (i := 9) rfl) (v := .ref (o 3)) rfl dL_act_472 ?_
            refine xr_iload F dL_act_475 2 rfl ?_
            refine xr_aald F (28) 2 rfl rfl rfl (j16) rfl (by omega) (by decide) dL_act_477 ?_
            refine xr_iconst F dL_act_478 (v := 0) (by decide) ?_
            refine xr_iald F (1 + (12 + (12 + (11 + j16)))) 0 (w_skip (1) rfl (w_skip (12) rfl (w_skip (12) rfl (zwx_l (by omega))))) rfl (0) rfl (by decide) (by decide) dL_act_479 ?_
            refine xr_top (y := (dFull U) j16) rfl ?_
            refine xr_iconst F dL_act_480 (v := 1) (by decide) ?_
            refine xr_icmp_ne F 488 dL_act_481 (by decide) (fun c481 => ?_) (fun c481 => ?_)
            · skip
              refine xr_iconst F dL_act_488 (v := 0) (by decide) ?_
              refine xr_icmp_ne F 496 dL_act_489 (by decide) (fun c489 => ?_) (fun c489 => ?_)
              · exact absurd ((oV.2.1 j16 (by omega)).resolve_right c481) c489
              · skip
                refine xr_iconst F dL_act_492 (v := 1) (by decide) ?_
                refine xr_goto F 497 dL_act_493 (by decide) ?_
                refine xr_widen (k := 3) (n := 21) (Nat.le_of_ble_eq_true rfl) (Nat.le_of_ble_eq_true rfl) ?_
                exact ret _ _ _ _ dL_act_497 rfl ⟨rfl, K, U, Kt, Vt, ba, ra, hK, oV, (by rw [eU]; exact (turn_same V j16).2.2.2.2.2.2), rfl⟩
            · skip
              refine xr_iconst F dL_act_484 (v := 1) (by decide) ?_
              refine xr_goto F 489 dL_act_485 (by decide) ?_
              refine xr_icmp_ne F 496 dL_act_489 (by decide) (fun c489 => ?_) (fun c489 => ?_)
              · exact absurd c481 c489
              · skip
                refine xr_iconst F dL_act_492 (v := 1) (by decide) ?_
                refine xr_goto F 497 dL_act_493 (by decide) ?_
                refine xr_widen (k := 3) (n := 21) (Nat.le_of_ble_eq_true rfl) (Nat.le_of_ble_eq_true rfl) ?_
                exact ret _ _ _ _ dL_act_497 rfl ⟨rfl, K, U, Kt, Vt, ba, ra, hK, oV, (by rw [eU]; exact (turn_same V j16).2.2.2.2.2.2), rfl⟩
    · skip
      refine xr_aload_n F dL_act_413 rfl 3 rfl ?_
      refine xr_iload F dL_act_414 0 rfl ?_
      refine xr_ws (ws' := bw h a t ++ (cw yI yZ a K V ++ (cw yI yZ t Kt Vt)) ++ ((zw yI yL o ba pa la ra K V (zA V)) ++ (([] : va_W)))) (by first | (simp only [List.append_assoc, List.append_nil, List.nil_append]; done) | rfl | (simp only [List.append_assoc, List.append_nil, List.nil_append]; rfl)) ?_
      refine xr_mcVz F (rest := []) (As := [.int (nI j16)]) (k_X2_hasWater l D yI yZ yL o ba pa la ra K V (zA V) j16 (by omega)) (cwV 1 F.hts gL_act_X2_hasWater rfl rfl rfl (by decide +kernel) ⟨Nat.le_of_ble_eq_true rfl, Nat.le_of_ble_eq_true rfl⟩) (q0 := 0) rfl rfl (bw h a t ++ (cw yI yZ a K V ++ (cw yI yZ t Kt Vt))) (([] : va_W)) rfl rfl rfl (Nat.le_of_ble_eq_true rfl) dL_act_416 ⟨Nat.le_of_ble_eq_true rfl, Nat.le_of_ble_eq_true rfl⟩ (fun r1 W1 z1 => ?_)
      obtain ⟨z0, z1⟩ := z1
      subst z0
      subst z1
      refine xr_ws (ws' := bw h a t ++ (cw yI yZ a K V ++ (cw yI yZ t Kt Vt ++ (zw yI yL o ba pa la ra K V (zA V))))) (by first | (simp only [List.append_assoc, List.append_nil, List.nil_append]; done) | rfl | (simp only [List.append_assoc, List.append_nil, List.nil_append]; rfl)) ?_
      refine xr_if_eq F 426 dL_act_419 (by decide) (fun c419 => ?_) (fun c419 => ?_)
      · skip
        refine xr_iconst F dL_act_426 (v := 0) (by decide) ?_
        refine xr_istore F [(6, .int 0), (5, .int (nI j16)), (3, .int (nI (kNb K))), (0, .ref h), (1, .ref (o 0)), (2, .int x)] dL_act_427 (by decide) rfl ?_
        refine xr_iload F dL_act_429 0 rfl ?_
        refine xr_if_eq F 440 dL_act_431 (by decide) (fun c431 => ?_) (fun c431 => ?_)
        · skip
          refine xr_aload_n F dL_act_440 rfl 3 rfl ?_
          refine xr_iload F dL_act_441 1 rfl ?_
          refine xr_ws (ws' := ([] : va_W) ++ ((bw h a t ++ (cw yI yZ a K V)) ++ (cw yI yZ t Kt Vt ++ (zw yI yL o ba pa la ra K V (zA V))))) (by first | (simp only [List.append_assoc, List.append_nil, List.nil_append]; done) | rfl | (simp only [List.append_assoc, List.append_nil, List.nil_append]; rfl)) ?_
          have q443 : q_work V (nI j16) = 2 := ((aq.trans (if_neg c410)).trans (if_pos c419))
          refine xr_mcXVz F G (rest := []) (As := [.int (nI j16)]) (k_X1_work l D yI yZ yL hst h a t K V (nI j16) hV.2.1) (cwV 1 F.hts gL_act_X1_work rfl rfl rfl (by decide +kernel) ⟨Nat.le_of_ble_eq_true rfl, Nat.le_of_ble_eq_true rfl⟩) (q0 := 0) rfl rfl (([] : va_W)) (cw yI yZ t Kt Vt ++ (zw yI yL o ba pa la ra K V (zA V))) rfl rfl rfl (Nat.le_of_ble_eq_true rfl) dL_act_443 ⟨Nat.le_of_ble_eq_true rfl, Nat.le_of_ble_eq_true rfl⟩ (fun E1 W1 z1 => ?_) (fun r1 W1 z1 => ?_)
          · skip
            obtain ⟨z0, z1⟩ := z1
            subst z1
            rcases z0 with ⟨h9, z0⟩ | ⟨h9, z0⟩
            · skip
              exact absurd (q443.symm.trans h9) (by decide)
            · skip
              subst z0
              refine xr_catch F G htab [⟨349, 359, 362, 65⟩] ⟨440, 448, 451, 65⟩ [⟨630, 642, 645, 65⟩] rfl (fun z hz => Or.inl (by rcases List.mem_cons.mp hz with rfl | hz <;> first | decide | (rcases List.mem_cons.mp hz with rfl | hz <;> first | decide | exact absurd hz List.not_mem_nil) | exact absurd hz List.not_mem_nil)) (by decide) (by decide) (List.mem_of_getElem? (i := 1) rfl) (List.mem_of_getElem? (i := 2) rfl) (fun q9 => ?_)
              refine xr_ws (ws' := bw h a t ++ (cw yI yZ a K V ++ (cw yI yZ t Kt Vt ++ (zw yI yL o ba pa la ra K V (zA V))))) (by first | (simp only [List.append_assoc, List.append_nil, List.nil_append]; done) | rfl | (simp only [List.append_assoc, List.append_nil, List.nil_append]; rfl)) ?_
              refine xr_astore F [(8, .ref q9), (6, .int 0), (5, .int (nI j16)), (3, .int (nI (kNb K))), (0, .ref h), (1, .ref (o 0)), (2, .int x)] dL_act_451 (by decide) rfl ?_
              refine xr_iload F dL_act_453 1 rfl ?_
              refine xr_if_ne F 462 dL_act_455 (by decide) (fun c455 => ?_) (fun c455 => ?_)
              · exact absurd rfl c455
              · skip
                refine xr_iconst F dL_act_458 (v := 1) (by decide) ?_
                refine xr_goto F 463 dL_act_459 (by decide) ?_
                refine xr_widen (k := 3) (n := 21) (Nat.le_of_ble_eq_true rfl) (Nat.le_of_ble_eq_true rfl) ?_
                exact ret _ _ _ _ dL_act_463 rfl ⟨rfl, K, V, Kt, Vt, ba, ra, hK, (okV_le hV (Nat.le_succ N)), rfl, rfl⟩
          · skip
            exact absurd (z1.1.symm.trans q443) (by decide)
        · exact absurd (by decide) c431
      · skip
        refine xr_iconst F dL_act_422 (v := 1) (by decide) ?_
        refine xr_goto F 427 dL_act_423 (by decide) ?_
        refine xr_istore F [(6, .int 1), (5, .int (nI j16)), (3, .int (nI (kNb K))), (0, .ref h), (1, .ref (o 0)), (2, .int x)] dL_act_427 (by decide) rfl ?_
        refine xr_iload F dL_act_429 0 rfl ?_
        refine xr_if_eq F 440 dL_act_431 (by decide) (fun c431 => ?_) (fun c431 => ?_)
        · exact absurd c431 (by decide)
        · skip
          refine xr_aload_n F dL_act_434 rfl 4 rfl ?_
          refine xr_iload F dL_act_435 1 rfl ?_
          refine xr_ws (ws' := bw h a t ++ (cw yI yZ a K V ++ (cw yI yZ t Kt Vt)) ++ ((zw yI yL o ba pa la ra K V (zA V)) ++ (([] : va_W)))) (by first | (simp only [List.append_assoc, List.append_nil, List.nil_append]; done) | rfl | (simp only [List.append_assoc, List.append_nil, List.nil_append]; rfl)) ?_
          refine xr_mcVv F (rest := []) (As := [.int (nI j16)]) (k_X2_turn l D yI yZ yL o ba pa la ra K V (zA V) j16 (by omega)) (cwV 1 F.hts gL_act_X2_turn rfl rfl rfl (by decide +kernel) ⟨Nat.le_of_ble_eq_true rfl, Nat.le_of_ble_eq_true rfl⟩) (q0 := 0) rfl rfl (bw h a t ++ (cw yI yZ a K V ++ (cw yI yZ t Kt Vt))) (([] : va_W)) rfl rfl rfl (Nat.le_of_ble_eq_true rfl) dL_act_437 ⟨Nat.le_of_ble_eq_true rfl, Nat.le_of_ble_eq_true rfl⟩ (fun W1 z1 => ?_)
          obtain ⟨eC, eI, oV⟩ := aA ((aq.trans (if_neg c410)).trans (if_neg c419))
          rw [eI] at z1
          obtain ⟨U, eU⟩ : ∃ x9 : CD, x9 = c_turn V j16 := ⟨_, rfl⟩
          rw [← eU] at z1 eC oV
          subst z1
          refine xr_ws (ws' := bw h a t ++ (cw yI yZ a K V ++ (cw yI yZ t Kt Vt ++ (zw yI yL o ba pa la ra K U (zA U))))) (by first | (simp only [List.append_assoc, List.append_nil, List.nil_append]; done) | rfl | (simp only [List.append_assoc, List.append_nil, List.nil_append]; rfl)) ?_
          refine xr_aload_n F dL_act_440 rfl 3 rfl ?_
          refine xr_iload F dL_act_441 1 rfl ?_
          refine xr_ws (ws' := ([] : va_W) ++ ((bw h a t ++ (cw yI yZ a K V)) ++ (cw yI yZ t Kt Vt ++ (zw yI yL o ba pa la ra K U (zA U))))) (by first | (simp only [List.append_assoc, List.append_nil, List.nil_append]; done) | rfl | (simp only [List.append_assoc, List.append_nil, List.nil_append]; rfl)) ?_
          have q443 : q_work V (nI j16) = 0 := ((aq.trans (if_neg c410)).trans (if_neg c419))
          refine xr_mcXVz F G (rest := []) (As := [.int (nI j16)]) (k_X1_work l D yI yZ yL hst h a t K V (nI j16) hV.2.1) (cwV 1 F.hts gL_act_X1_work rfl rfl rfl (by decide +kernel) ⟨Nat.le_of_ble_eq_true rfl, Nat.le_of_ble_eq_true rfl⟩) (q0 := 0) rfl rfl (([] : va_W)) (cw yI yZ t Kt Vt ++ (zw yI yL o ba pa la ra K U (zA U))) rfl rfl rfl (Nat.le_of_ble_eq_true rfl) dL_act_443 ⟨Nat.le_of_ble_eq_true rfl, Nat.le_of_ble_eq_true rfl⟩ (fun E1 W1 z1 => ?_) (fun r1 W1 z1 => ?_)
          · skip
            rcases z1.1 with h9 | h9 <;> exact absurd (q443.symm.trans h9.1) (by decide)
          · skip
            obtain ⟨-, z0, z1⟩ := z1
            subst z0
            subst z1
            refine xr_ws (ws' := bw h a t ++ (cw yI yZ a K (C_work V (nI j16)) ++ (cw yI yZ t Kt Vt ++ (zw yI yL o ba pa la ra K U (zA U))))) (by first | (simp only [List.append_assoc, List.append_nil, List.nil_append]; done) | rfl | (simp only [List.append_assoc, List.append_nil, List.nil_append]; rfl)) ?_
            refine xr_ws (ws' := bw h a t ++ (cw yI yZ a K U ++ (cw yI yZ t Kt Vt ++ (zw yI yL o ba pa la ra K U (zA U))))) (by rw [eC]) ?_
            refine xr_top (y := dFull U j16) (by rw [eC, ix_nI (by omega)]) ?_
            refine xr_istore F [(7, .int (dFull U j16)), (6, .int 1), (5, .int (nI j16)), (3, .int (nI (kNb K))), (0, .ref h), (1, .ref (o 0)), (2, .int x)] dL_act_446 (by decide) rfl ?_
            refine xr_goto F 464 dL_act_448 (by decide) ?_
            refine xr_iload F dL_act_464 1 rfl ?_
            refine xr_if_eq F 496 dL_act_466 (by decide) (fun c466 => ?_) (fun c466 => ?_)
            · exact absurd c466 (by decide)
            · skip
              refine xr_iload F dL_act_469 0 rfl ?_
              refine xr_aload_n F dL_act_471 rfl 5 rfl ?_
              refine xr_get F hin2 (25) rfl rfl 4 (by decide) (List.mem_of_getElem? (i := 9) rfl) (v := .ref (o 3)) rfl dL_act_472 ?_
              refine xr_iload F dL_act_475 2 rfl ?_
              refine xr_aald F (28) 2 rfl rfl rfl (j16) rfl (by omega) (by decide) dL_act_477 ?_
              refine xr_iconst F dL_act_478 (v := 0) (by decide) ?_
              refine xr_iald F (1 + (12 + (12 + (11 + j16)))) 0 (w_skip (1) rfl (w_skip (12) rfl (w_skip (12) rfl (zwx_l (by omega))))) rfl (0) rfl (by decide) (by decide) dL_act_479 ?_
              refine xr_top (y := (dFull U) j16) rfl ?_
              refine xr_iconst F dL_act_480 (v := 1) (by decide) ?_
              refine xr_icmp_ne F 488 dL_act_481 (by decide) (fun c481 => ?_) (fun c481 => ?_)
              · skip
                refine xr_iconst F dL_act_488 (v := 0) (by decide) ?_
                refine xr_icmp_ne F 496 dL_act_489 (by decide) (fun c489 => ?_) (fun c489 => ?_)
                · exact absurd ((oV.2.1 j16 (by omega)).resolve_right c481) c489
                · skip
                  refine xr_iconst F dL_act_492 (v := 1) (by decide) ?_
                  refine xr_goto F 497 dL_act_493 (by decide) ?_
                  refine xr_widen (k := 3) (n := 21) (Nat.le_of_ble_eq_true rfl) (Nat.le_of_ble_eq_true rfl) ?_
                  exact ret _ _ _ _ dL_act_497 rfl ⟨rfl, K, U, Kt, Vt, ba, ra, hK, oV, (by rw [eU]; exact (turn_same V j16).2.2.2.2.2.2), rfl⟩
              · skip
                refine xr_iconst F dL_act_484 (v := 1) (by decide) ?_
                refine xr_goto F 489 dL_act_485 (by decide) ?_
                refine xr_icmp_ne F 496 dL_act_489 (by decide) (fun c489 => ?_) (fun c489 => ?_)
                · exact absurd c481 c489
                · skip
                  refine xr_iconst F dL_act_492 (v := 1) (by decide) ?_
                  refine xr_goto F 497 dL_act_493 (by decide) ?_
                  refine xr_widen (k := 3) (n := 21) (Nat.le_of_ble_eq_true rfl) (Nat.le_of_ble_eq_true rfl) ?_
                  exact ret _ _ _ _ dL_act_497 rfl ⟨rfl, K, U, Kt, Vt, ba, ra, hK, oV, (by rw [eU]; exact (turn_same V j16).2.2.2.2.2.2), rfl⟩
  · skip
    refine xr_tableIn F (off := 379) 391 dL_act_12 (by decide) (by decide) (by decide) (by decide) ?_
    refine xr_iload_n F dL_act_391 rfl 3 rfl ?_
    refine xr_iconst F dL_act_392 (v := 4) (by decide) ?_
    refine xr_ishr F (x >>> (4 &&& 31)) dL_act_393 rfl ?_
    refine xr_iconst F dL_act_394 (v := 5) (by decide) ?_
    refine xr_ws (ws' := (bw h a t ++ (cw yI yZ a K V ++ (cw yI yZ t Kt Vt ++ (zw yI yL o ba pa la ra K V (zA V))))) ++ (([] : va_W) ++ ([] : va_W))) (by first | (simp only [List.append_assoc, List.append_nil, List.nil_append]; done) | rfl | (simp only [List.append_assoc, List.append_nil, List.nil_append]; rfl)) ?_
    refine xr_mcSi F (rest := []) (As := [.int (x >>> (4 &&& 31)), .int 5]) (k_L_below l D yI yZ yL (x >>> (4 &&& 31)) 5 (by decide) (by decide)) (va_cwS 2 F.hts gL_act_L_below rfl rfl rfl (by decide +kernel) ⟨Nat.le_of_ble_eq_true rfl, Nat.le_of_ble_eq_true rfl⟩) (bw h a t ++ (cw yI yZ a K V ++ (cw yI yZ t Kt Vt ++ (zw yI yL o ba pa la ra K V (zA V))))) ([] : va_W) rfl rfl rfl (Nat.le_of_ble_eq_true rfl) dL_act_395 ⟨Nat.le_of_ble_eq_true rfl, Nat.le_of_ble_eq_true rfl⟩ (fun r1 W1 z1 => ?_)
    obtain ⟨⟨j17, hj17, z0⟩, z1⟩ := z1
    subst z0
    subst z1
    refine xr_ws (ws' := bw h a t ++ (cw yI yZ a K V ++ (cw yI yZ t Kt Vt ++ (zw yI yL o ba pa la ra K V (zA V))))) (by first | (simp only [List.append_assoc, List.append_nil, List.nil_append]; done) | rfl | (simp only [List.append_assoc, List.append_nil, List.nil_append]; rfl)) ?_
    refine xr_istore F [(5, .int (nI j17)), (3, .int (nI (kNb K))), (0, .ref h), (1, .ref (o 0)), (2, .int x)] dL_act_398 (by decide) rfl ?_
    obtain ⟨aq, aA, aB⟩ := act_work (K := K) (V := V) (k := j17) hj17 hV
    refine xr_aload_n F dL_act_400 rfl 3 rfl ?_
    refine xr_get F hin2 (25) rfl rfl 4 (by decide) (List.mem_of_getElem? (i := 9) rfl) (v := .ref (o 3)) rfl dL_act_401 ?_
    refine xr_iload F dL_act_404 0 rfl ?_
    refine xr_aald F (28) 2 rfl rfl rfl (j17) rfl (by omega) (by decide) dL_act_406 ?_
    refine xr_iconst F dL_act_407 (v := 0) (by decide) ?_
    refine xr_iald F (1 + (12 + (12 + (11 + j17)))) 0 (w_skip (1) rfl (w_skip (12) rfl (w_skip (12) rfl (zwx_l (by omega))))) rfl (0) rfl (by decide) (by decide) dL_act_408 ?_
    refine xr_top (y := (dFull V) j17) rfl ?_
    refine xr_iconst F dL_act_409 (v := 1) (by decide) ?_
    refine xr_icmp_eq F 422 dL_act_410 (by decide) (fun c410 => ?_) (fun c410 => ?_)
    · skip
      refine xr_iconst F dL_act_422 (v := 1) (by decide) ?_
      refine xr_goto F 427 dL_act_423 (by decide) ?_
      refine xr_istore F [(6, .int 1), (5, .int (nI j17)), (3, .int (nI (kNb K))), (0, .ref h), (1, .ref (o 0)), (2, .int x)] dL_act_427 (by decide) rfl ?_
      refine xr_iload F dL_act_429 0 rfl ?_
      refine xr_if_eq F 440 dL_act_431 (by decide) (fun c431 => ?_) (fun c431 => ?_)
      · exact absurd c431 (by decide)
      · skip
        refine xr_aload_n F dL_act_434 rfl 4 rfl ?_
        refine xr_iload F dL_act_435 1 rfl ?_
        refine xr_ws (ws' := bw h a t ++ (cw yI yZ a K V ++ (cw yI yZ t Kt Vt)) ++ ((zw yI yL o ba pa la ra K V (zA V)) ++ (([] : va_W)))) (by first | (simp only [List.append_assoc, List.append_nil, List.nil_append]; done) | rfl | (simp only [List.append_assoc, List.append_nil, List.nil_append]; rfl)) ?_
        refine xr_mcVv F (rest := []) (As := [.int (nI j17)]) (k_X2_turn l D yI yZ yL o ba pa la ra K V (zA V) j17 (by omega)) (cwV 1 F.hts gL_act_X2_turn rfl rfl rfl (by decide +kernel) ⟨Nat.le_of_ble_eq_true rfl, Nat.le_of_ble_eq_true rfl⟩) (q0 := 0) rfl rfl (bw h a t ++ (cw yI yZ a K V ++ (cw yI yZ t Kt Vt))) (([] : va_W)) rfl rfl rfl (Nat.le_of_ble_eq_true rfl) dL_act_437 ⟨Nat.le_of_ble_eq_true rfl, Nat.le_of_ble_eq_true rfl⟩ (fun W1 z1 => ?_)
        obtain ⟨eC, eI, oV⟩ := aA (aq.trans (if_pos c410))
        rw [eI] at z1
        obtain ⟨U, eU⟩ : ∃ x9 : CD, x9 = c_turn V j17 := ⟨_, rfl⟩
        rw [← eU] at z1 eC oV
        subst z1
        refine xr_ws (ws' := bw h a t ++ (cw yI yZ a K V ++ (cw yI yZ t Kt Vt ++ (zw yI yL o ba pa la ra K U (zA U))))) (by first | (simp only [List.append_assoc, List.append_nil, List.nil_append]; done) | rfl | (simp only [List.append_assoc, List.append_nil, List.nil_append]; rfl)) ?_
        refine xr_aload_n F dL_act_440 rfl 3 rfl ?_
        refine xr_iload F dL_act_441 1 rfl ?_
        refine xr_ws (ws' := ([] : va_W) ++ ((bw h a t ++ (cw yI yZ a K V)) ++ (cw yI yZ t Kt Vt ++ (zw yI yL o ba pa la ra K U (zA U))))) (by first | (simp only [List.append_assoc, List.append_nil, List.nil_append]; done) | rfl | (simp only [List.append_assoc, List.append_nil, List.nil_append]; rfl)) ?_
        have q443 : q_work V (nI j17) = 0 := (aq.trans (if_pos c410))
        refine xr_mcXVz F G (rest := []) (As := [.int (nI j17)]) (k_X1_work l D yI yZ yL hst h a t K V (nI j17) hV.2.1) (cwV 1 F.hts gL_act_X1_work rfl rfl rfl (by decide +kernel) ⟨Nat.le_of_ble_eq_true rfl, Nat.le_of_ble_eq_true rfl⟩) (q0 := 0) rfl rfl (([] : va_W)) (cw yI yZ t Kt Vt ++ (zw yI yL o ba pa la ra K U (zA U))) rfl rfl rfl (Nat.le_of_ble_eq_true rfl) dL_act_443 ⟨Nat.le_of_ble_eq_true rfl, Nat.le_of_ble_eq_true rfl⟩ (fun E1 W1 z1 => ?_) (fun r1 W1 z1 => ?_)
        · skip
          rcases z1.1 with h9 | h9 <;> exact absurd (q443.symm.trans h9.1) (by decide)
        · skip
          obtain ⟨-, z0, z1⟩ := z1
          subst z0
          subst z1
          refine xr_ws (ws' := bw h a t ++ (cw yI yZ a K (C_work V (nI j17)) ++ (cw yI yZ t Kt Vt ++ (zw yI yL o ba pa la ra K U (zA U))))) (by first | (simp only [List.append_assoc, List.append_nil, List.nil_append]; done) | rfl | (simp only [List.append_assoc, List.append_nil, List.nil_append]; rfl)) ?_
          refine xr_ws (ws' := bw h a t ++ (cw yI yZ a K U ++ (cw yI yZ t Kt Vt ++ (zw yI yL o ba pa la ra K U (zA U))))) (by rw [eC]) ?_
          refine xr_top (y := dFull U j17) (by rw [eC, ix_nI (by omega)]) ?_
          refine xr_istore F [(7, .int (dFull U j17)), (6, .int 1), (5, .int (nI j17)), (3, .int (nI (kNb K))), (0, .ref h), (1, .ref (o 0)), (2, .int x)] dL_act_446 (by decide) rfl ?_
          refine xr_goto F 464 dL_act_448 (by decide) ?_
          refine xr_iload F dL_act_464 1 rfl ?_
          refine xr_if_eq F 496 dL_act_466 (by decide) (fun c466 => ?_) (fun c466 => ?_)
          · exact absurd c466 (by decide)
          · skip
            refine xr_iload F dL_act_469 0 rfl ?_
            refine xr_aload_n F dL_act_471 rfl 5 rfl ?_
            refine xr_get F hin2 (25) rfl rfl 4 (by decide) (List.mem_of_getElem? (i := 9) rfl) (v := .ref (o 3)) rfl dL_act_472 ?_
            refine xr_iload F dL_act_475 2 rfl ?_
            refine xr_aald F (28) 2 rfl rfl rfl (j17) rfl (by omega) (by decide) dL_act_477 ?_
            refine xr_iconst F dL_act_478 (v := 0) (by decide) ?_
            refine xr_iald F (1 + (12 + (12 + (11 + j17)))) 0 (w_skip (1) rfl (w_skip (12) rfl (w_skip (12) rfl (zwx_l (by omega))))) rfl (0) rfl (by decide) (by decide) dL_act_479 ?_
            refine xr_top (y := (dFull U) j17) rfl ?_
            refine xr_iconst F dL_act_480 (v := 1) (by decide) ?_
            refine xr_icmp_ne F 488 dL_act_481 (by decide) (fun c481 => ?_) (fun c481 => ?_)
            · skip
              refine xr_iconst F dL_act_488 (v := 0) (by decide) ?_
              refine xr_icmp_ne F 496 dL_act_489 (by decide) (fun c489 => ?_) (fun c489 => ?_)
              · exact absurd ((oV.2.1 j17 (by omega)).resolve_right c481) c489
              · skip
                refine xr_iconst F dL_act_492 (v := 1) (by decide) ?_
                refine xr_goto F 497 dL_act_493 (by decide) ?_
                refine xr_widen (k := 3) (n := 21) (Nat.le_of_ble_eq_true rfl) (Nat.le_of_ble_eq_true rfl) ?_
                exact ret _ _ _ _ dL_act_497 rfl ⟨rfl, K, U, Kt, Vt, ba, ra, hK, oV, (by rw [eU]; exact (turn_same V j17).2.2.2.2.2.2), rfl⟩
            · skip
              refine xr_iconst F dL_act_484 (v := 1) (by decide) ?_
              refine xr_goto F 489 dL_act_485 (by decide) ?_
              refine xr_icmp_ne F 496 dL_act_489 (by decide) (fun c489 => ?_) (fun c489 => ?_)
              · exact absurd c481 c489
              · skip
                refine xr_iconst F dL_act_492 (v := 1) (by decide) ?_
                refine xr_goto F 497 dL_act_493 (by decide) ?_
                refine xr_widen (k := 3) (n := 21) (Nat.le_of_ble_eq_true rfl) (Nat.le_of_ble_eq_true rfl) ?_
                exact ret _ _ _ _ dL_act_497 rfl ⟨rfl, K, U, Kt, Vt, ba, ra, hK, oV, (by rw [eU]; exact (turn_same V j17).2.2.2.2.2.2), rfl⟩
    · skip
      refine xr_aload_n F dL_act_413 rfl 3 rfl ?_
      refine xr_iload F dL_act_414 0 rfl ?_
      refine xr_ws (ws' := bw h a t ++ (cw yI yZ a K V ++ (cw yI yZ t Kt Vt)) ++ ((zw yI yL o ba pa la ra K V (zA V)) ++ (([] : va_W)))) (by first | (simp only [List.append_assoc, List.append_nil, List.nil_append]; done) | rfl | (simp only [List.append_assoc, List.append_nil, List.nil_append]; rfl)) ?_
      refine xr_mcVz F (rest := []) (As := [.int (nI j17)]) (k_X2_hasWater l D yI yZ yL o ba pa la ra K V (zA V) j17 (by omega)) (cwV 1 F.hts gL_act_X2_hasWater rfl rfl rfl (by decide +kernel) ⟨Nat.le_of_ble_eq_true rfl, Nat.le_of_ble_eq_true rfl⟩) (q0 := 0) rfl rfl (bw h a t ++ (cw yI yZ a K V ++ (cw yI yZ t Kt Vt))) (([] : va_W)) rfl rfl rfl (Nat.le_of_ble_eq_true rfl) dL_act_416 ⟨Nat.le_of_ble_eq_true rfl, Nat.le_of_ble_eq_true rfl⟩ (fun r1 W1 z1 => ?_)
      obtain ⟨z0, z1⟩ := z1
      subst z0
      subst z1
      refine xr_ws (ws' := bw h a t ++ (cw yI yZ a K V ++ (cw yI yZ t Kt Vt ++ (zw yI yL o ba pa la ra K V (zA V))))) (by first | (simp only [List.append_assoc, List.append_nil, List.nil_append]; done) | rfl | (simp only [List.append_assoc, List.append_nil, List.nil_append]; rfl)) ?_
      refine xr_if_eq F 426 dL_act_419 (by decide) (fun c419 => ?_) (fun c419 => ?_)
      · skip
        refine xr_iconst F dL_act_426 (v := 0) (by decide) ?_
        refine xr_istore F [(6, .int 0), (5, .int (nI j17)), (3, .int (nI (kNb K))), (0, .ref h), (1, .ref (o 0)), (2, .int x)] dL_act_427 (by decide) rfl ?_
        refine xr_iload F dL_act_429 0 rfl ?_
        refine xr_if_eq F 440 dL_act_431 (by decide) (fun c431 => ?_) (fun c431 => ?_)
        · skip
          refine xr_aload_n F dL_act_440 rfl 3 rfl ?_
          refine xr_iload F dL_act_441 1 rfl ?_
          refine xr_ws (ws' := ([] : va_W) ++ ((bw h a t ++ (cw yI yZ a K V)) ++ (cw yI yZ t Kt Vt ++ (zw yI yL o ba pa la ra K V (zA V))))) (by first | (simp only [List.append_assoc, List.append_nil, List.nil_append]; done) | rfl | (simp only [List.append_assoc, List.append_nil, List.nil_append]; rfl)) ?_
          have q443 : q_work V (nI j17) = 2 := ((aq.trans (if_neg c410)).trans (if_pos c419))
          refine xr_mcXVz F G (rest := []) (As := [.int (nI j17)]) (k_X1_work l D yI yZ yL hst h a t K V (nI j17) hV.2.1) (cwV 1 F.hts gL_act_X1_work rfl rfl rfl (by decide +kernel) ⟨Nat.le_of_ble_eq_true rfl, Nat.le_of_ble_eq_true rfl⟩) (q0 := 0) rfl rfl (([] : va_W)) (cw yI yZ t Kt Vt ++ (zw yI yL o ba pa la ra K V (zA V))) rfl rfl rfl (Nat.le_of_ble_eq_true rfl) dL_act_443 ⟨Nat.le_of_ble_eq_true rfl, Nat.le_of_ble_eq_true rfl⟩ (fun E1 W1 z1 => ?_) (fun r1 W1 z1 => ?_)
          · skip
            obtain ⟨z0, z1⟩ := z1
            subst z1
            rcases z0 with ⟨h9, z0⟩ | ⟨h9, z0⟩
            · skip
              exact absurd (q443.symm.trans h9) (by decide)
            · skip
              subst z0
              refine xr_catch F G htab [⟨349, 359, 362, 65⟩] ⟨440, 448, 451, 65⟩ [⟨630, 642, 645, 65⟩] rfl (fun z hz => Or.inl (by rcases List.mem_cons.mp hz with rfl | hz <;> first | decide | (rcases List.mem_cons.mp hz with rfl | hz <;> first | decide | exact absurd hz List.not_mem_nil) | exact absurd hz List.not_mem_nil)) (by decide) (by decide) (List.mem_of_getElem? (i := 1) rfl) (List.mem_of_getElem? (i := 2) rfl) (fun q9 => ?_)
              refine xr_ws (ws' := bw h a t ++ (cw yI yZ a K V ++ (cw yI yZ t Kt Vt ++ (zw yI yL o ba pa la ra K V (zA V))))) (by first | (simp only [List.append_assoc, List.append_nil, List.nil_append]; done) | rfl | (simp only [List.append_assoc, List.append_nil, List.nil_append]; rfl)) ?_
              refine xr_astore F [(8, .ref q9), (6, .int 0), (5, .int (nI j17)), (3, .int (nI (kNb K))), (0, .ref h), (1, .ref (o 0)), (2, .int x)] dL_act_451 (by decide) rfl ?_
              refine xr_iload F dL_act_453 1 rfl ?_
              refine xr_if_ne F 462 dL_act_455 (by decide) (fun c455 => ?_) (fun c455 => ?_)
              · exact absurd rfl c455
              · skip
                refine xr_iconst F dL_act_458 (v := 1) (by decide) ?_
                refine xr_goto F 463 dL_act_459 (by decide) ?_
                refine xr_widen (k := 3) (n := 21) (Nat.le_of_ble_eq_true rfl) (Nat.le_of_ble_eq_true rfl) ?_
                exact ret _ _ _ _ dL_act_463 rfl ⟨rfl, K, V, Kt, Vt, ba, ra, hK, (okV_le hV (Nat.le_succ N)), rfl, rfl⟩
          · skip
            exact absurd (z1.1.symm.trans q443) (by decide)
        · exact absurd (by decide) c431
      · skip
        refine xr_iconst F dL_act_422 (v := 1) (by decide) ?_
        refine xr_goto F 427 dL_act_423 (by decide) ?_
        refine xr_istore F [(6, .int 1), (5, .int (nI j17)), (3, .int (nI (kNb K))), (0, .ref h), (1, .ref (o 0)), (2, .int x)] dL_act_427 (by decide) rfl ?_
        refine xr_iload F dL_act_429 0 rfl ?_
        refine xr_if_eq F 440 dL_act_431 (by decide) (fun c431 => ?_) (fun c431 => ?_)
        · exact absurd c431 (by decide)
        · skip
          refine xr_aload_n F dL_act_434 rfl 4 rfl ?_
          refine xr_iload F dL_act_435 1 rfl ?_
          refine xr_ws (ws' := bw h a t ++ (cw yI yZ a K V ++ (cw yI yZ t Kt Vt)) ++ ((zw yI yL o ba pa la ra K V (zA V)) ++ (([] : va_W)))) (by first | (simp only [List.append_assoc, List.append_nil, List.nil_append]; done) | rfl | (simp only [List.append_assoc, List.append_nil, List.nil_append]; rfl)) ?_
          refine xr_mcVv F (rest := []) (As := [.int (nI j17)]) (k_X2_turn l D yI yZ yL o ba pa la ra K V (zA V) j17 (by omega)) (cwV 1 F.hts gL_act_X2_turn rfl rfl rfl (by decide +kernel) ⟨Nat.le_of_ble_eq_true rfl, Nat.le_of_ble_eq_true rfl⟩) (q0 := 0) rfl rfl (bw h a t ++ (cw yI yZ a K V ++ (cw yI yZ t Kt Vt))) (([] : va_W)) rfl rfl rfl (Nat.le_of_ble_eq_true rfl) dL_act_437 ⟨Nat.le_of_ble_eq_true rfl, Nat.le_of_ble_eq_true rfl⟩ (fun W1 z1 => ?_)
          obtain ⟨eC, eI, oV⟩ := aA ((aq.trans (if_neg c410)).trans (if_neg c419))
          rw [eI] at z1
          obtain ⟨U, eU⟩ : ∃ x9 : CD, x9 = c_turn V j17 := ⟨_, rfl⟩
          rw [← eU] at z1 eC oV
          subst z1
          refine xr_ws (ws' := bw h a t ++ (cw yI yZ a K V ++ (cw yI yZ t Kt Vt ++ (zw yI yL o ba pa la ra K U (zA U))))) (by first | (simp only [List.append_assoc, List.append_nil, List.nil_append]; done) | rfl | (simp only [List.append_assoc, List.append_nil, List.nil_append]; rfl)) ?_
          refine xr_aload_n F dL_act_440 rfl 3 rfl ?_
          refine xr_iload F dL_act_441 1 rfl ?_
          refine xr_ws (ws' := ([] : va_W) ++ ((bw h a t ++ (cw yI yZ a K V)) ++ (cw yI yZ t Kt Vt ++ (zw yI yL o ba pa la ra K U (zA U))))) (by first | (simp only [List.append_assoc, List.append_nil, List.nil_append]; done) | rfl | (simp only [List.append_assoc, List.append_nil, List.nil_append]; rfl)) ?_
          have q443 : q_work V (nI j17) = 0 := ((aq.trans (if_neg c410)).trans (if_neg c419))
          refine xr_mcXVz F G (rest := []) (As := [.int (nI j17)]) (k_X1_work l D yI yZ yL hst h a t K V (nI j17) hV.2.1) (cwV 1 F.hts gL_act_X1_work rfl rfl rfl (by decide +kernel) ⟨Nat.le_of_ble_eq_true rfl, Nat.le_of_ble_eq_true rfl⟩) (q0 := 0) rfl rfl (([] : va_W)) (cw yI yZ t Kt Vt ++ (zw yI yL o ba pa la ra K U (zA U))) rfl rfl rfl (Nat.le_of_ble_eq_true rfl) dL_act_443 ⟨Nat.le_of_ble_eq_true rfl, Nat.le_of_ble_eq_true rfl⟩ (fun E1 W1 z1 => ?_) (fun r1 W1 z1 => ?_)
          · skip
            rcases z1.1 with h9 | h9 <;> exact absurd (q443.symm.trans h9.1) (by decide)
          · skip
            obtain ⟨-, z0, z1⟩ := z1
            subst z0
            subst z1
            refine xr_ws (ws' := bw h a t ++ (cw yI yZ a K (C_work V (nI j17)) ++ (cw yI yZ t Kt Vt ++ (zw yI yL o ba pa la ra K U (zA U))))) (by first | (simp only [List.append_assoc, List.append_nil, List.nil_append]; done) | rfl | (simp only [List.append_assoc, List.append_nil, List.nil_append]; rfl)) ?_
            refine xr_ws (ws' := bw h a t ++ (cw yI yZ a K U ++ (cw yI yZ t Kt Vt ++ (zw yI yL o ba pa la ra K U (zA U))))) (by rw [eC]) ?_
            refine xr_top (y := dFull U j17) (by rw [eC, ix_nI (by omega)]) ?_
            refine xr_istore F [(7, .int (dFull U j17)), (6, .int 1), (5, .int (nI j17)), (3, .int (nI (kNb K))), (0, .ref h), (1, .ref (o 0)), (2, .int x)] dL_act_446 (by decide) rfl ?_
            refine xr_goto F 464 dL_act_448 (by decide) ?_
            refine xr_iload F dL_act_464 1 rfl ?_
            refine xr_if_eq F 496 dL_act_466 (by decide) (fun c466 => ?_) (fun c466 => ?_)
            · exact absurd c466 (by decide)
            · skip
              refine xr_iload F dL_act_469 0 rfl ?_
              refine xr_aload_n F dL_act_471 rfl 5 rfl ?_
              refine xr_get F hin2 (25) rfl rfl 4 (by decide) (List.mem_of_getElem? (i := 9) rfl) (v := .ref (o 3)) rfl dL_act_472 ?_
              refine xr_iload F dL_act_475 2 rfl ?_
              refine xr_aald F (28) 2 rfl rfl rfl (j17) rfl (by omega) (by decide) dL_act_477 ?_
              refine xr_iconst F dL_act_478 (v := 0) (by decide) ?_
              refine xr_iald F (1 + (12 + (12 + (11 + j17)))) 0 (w_skip (1) rfl (w_skip (12) rfl (w_skip (12) rfl (zwx_l (by omega))))) rfl (0) rfl (by decide) (by decide) dL_act_479 ?_
              refine xr_top (y := (dFull U) j17) rfl ?_
              refine xr_iconst F dL_act_480 (v := 1) (by decide) ?_
              refine xr_icmp_ne F 488 dL_act_481 (by decide) (fun c481 => ?_) (fun c481 => ?_)
              · skip
                refine xr_iconst F dL_act_488 (v := 0) (by decide) ?_
                refine xr_icmp_ne F 496 dL_act_489 (by decide) (fun c489 => ?_) (fun c489 => ?_)
                · exact absurd ((oV.2.1 j17 (by omega)).resolve_right c481) c489
                · skip
                  refine xr_iconst F dL_act_492 (v := 1) (by decide) ?_
                  refine xr_goto F 497 dL_act_493 (by decide) ?_
                  refine xr_widen (k := 3) (n := 21) (Nat.le_of_ble_eq_true rfl) (Nat.le_of_ble_eq_true rfl) ?_
                  exact ret _ _ _ _ dL_act_497 rfl ⟨rfl, K, U, Kt, Vt, ba, ra, hK, oV, (by rw [eU]; exact (turn_same V j17).2.2.2.2.2.2), rfl⟩
              · skip
                refine xr_iconst F dL_act_484 (v := 1) (by decide) ?_
                refine xr_goto F 489 dL_act_485 (by decide) ?_
                refine xr_icmp_ne F 496 dL_act_489 (by decide) (fun c489 => ?_) (fun c489 => ?_)
                · exact absurd c481 c489
                · skip
                  refine xr_iconst F dL_act_492 (v := 1) (by decide) ?_
                  refine xr_goto F 497 dL_act_493 (by decide) ?_
                  refine xr_widen (k := 3) (n := 21) (Nat.le_of_ble_eq_true rfl) (Nat.le_of_ble_eq_true rfl) ?_
                  exact ret _ _ _ _ dL_act_497 rfl ⟨rfl, K, U, Kt, Vt, ba, ra, hK, oV, (by rw [eU]; exact (turn_same V j17).2.2.2.2.2.2), rfl⟩
  · skip
    refine xr_tableIn F (off := 486) 498 dL_act_12 (by decide) (by decide) (by decide) (by decide) ?_
    refine xr_iload_n F dL_act_498 rfl 0 rfl ?_
    refine xr_if_ne F 504 dL_act_499 (by decide) (fun c499 => ?_) (fun c499 => ?_)
    · skip
      have hpos : 0 < kNb K := Nat.pos_of_ne_zero (fun z => c499 (by rw [z]; rfl))
      refine xr_iload_n F dL_act_504 rfl 3 rfl ?_
      refine xr_iconst F dL_act_505 (v := 4) (by decide) ?_
      refine xr_ishr F (x >>> (4 &&& 31)) dL_act_506 rfl ?_
      refine xr_iload_n F dL_act_507 rfl 0 rfl ?_
      refine xr_ws (ws' := (bw h a t ++ (cw yI yZ a K V ++ (cw yI yZ t Kt Vt ++ (zw yI yL o ba pa la ra K V (zA V))))) ++ (([] : va_W) ++ ([] : va_W))) (by first | (simp only [List.append_assoc, List.append_nil, List.nil_append]; done) | rfl | (simp only [List.append_assoc, List.append_nil, List.nil_append]; rfl)) ?_
      refine xr_mcSi F (rest := []) (As := [.int (x >>> (4 &&& 31)), .int (nI (kNb K))]) (k_L_below l D yI yZ yL (x >>> (4 &&& 31)) (kNb K) hpos (by omega)) (va_cwS 2 F.hts gL_act_L_below rfl rfl rfl (by decide +kernel) ⟨Nat.le_of_ble_eq_true rfl, Nat.le_of_ble_eq_true rfl⟩) (bw h a t ++ (cw yI yZ a K V ++ (cw yI yZ t Kt Vt ++ (zw yI yL o ba pa la ra K V (zA V))))) ([] : va_W) rfl rfl rfl (Nat.le_of_ble_eq_true rfl) dL_act_508 ⟨Nat.le_of_ble_eq_true rfl, Nat.le_of_ble_eq_true rfl⟩ (fun r1 W1 z1 => ?_)
      obtain ⟨⟨j18, hj18, z0⟩, z1⟩ := z1
      subst z0
      subst z1
      refine xr_ws (ws' := bw h a t ++ (cw yI yZ a K V ++ (cw yI yZ t Kt Vt ++ (zw yI yL o ba pa la ra K V (zA V))))) (by first | (simp only [List.append_assoc, List.append_nil, List.nil_append]; done) | rfl | (simp only [List.append_assoc, List.append_nil, List.nil_append]; rfl)) ?_
      refine xr_istore F [(5, .int (nI j18)), (3, .int (nI (kNb K))), (0, .ref h), (1, .ref (o 0)), (2, .int x)] dL_act_511 (by decide) rfl ?_
      refine xr_aload_n F dL_act_513 rfl 3 rfl ?_
      refine xr_get F hin2 (25) rfl rfl 10 (by decide) (List.mem_of_getElem? (i := 2) rfl) (v := .ref ba) rfl dL_act_514 ?_
      refine xr_iload F dL_act_517 0 rfl ?_
      refine xr_aald F (29) 2 rfl rfl rfl (j18) rfl (by omega) (by omega) dL_act_519 ?_
      refine xr_iconst F dL_act_520 (v := 1) (by decide) ?_
      refine xr_iald F (1 + (12 + (12 + (16 + j18)))) 0 (w_skip (1) rfl (w_skip (12) rfl (w_skip (12) rfl (zwx_r (by omega))))) rfl (1) rfl (by decide) (by decide) dL_act_521 ?_
      refine xr_top (y := (kGoal K) j18) rfl ?_
      refine xr_istore F [(6, .int ((kGoal K) j18)), (5, .int (nI j18)), (3, .int (nI (kNb K))), (0, .ref h), (1, .ref (o 0)), (2, .int x)] dL_act_522 (by decide) rfl ?_
      refine xr_aload_n F dL_act_524 rfl 4 rfl ?_
      refine xr_get F hin2 (25) rfl rfl 10 (by decide) (List.mem_of_getElem? (i := 2) rfl) (v := .ref ba) rfl dL_act_525 ?_
      refine xr_iload F dL_act_528 1 rfl ?_
      refine xr_aald F (29) 2 rfl rfl rfl (j18) rfl (by omega) (by omega) dL_act_530 ?_
      refine xr_iconst F dL_act_531 (v := 1) (by decide) ?_
      refine xr_iload_n F dL_act_532 rfl 5 rfl ?_
      refine xr_bipush F dL_act_533 (v := 6) (by decide) ?_
      refine xr_ishr F (x >>> (6 &&& 31)) dL_act_535 rfl ?_
      refine xr_bipush F dL_act_536 (v := 6) (by decide) ?_
      refine xr_ws (ws' := (bw h a t ++ (cw yI yZ a K V ++ (cw yI yZ t Kt Vt ++ (zw yI yL o ba pa la ra K V (zA V))))) ++ (([] : va_W) ++ ([] : va_W))) (by first | (simp only [List.append_assoc, List.append_nil, List.nil_append]; done) | rfl | (simp only [List.append_assoc, List.append_nil, List.nil_append]; rfl)) ?_
      refine xr_mcSi F (rest := [.int 1, .ref (ra j18)]) (As := [.int (x >>> (6 &&& 31)), .int 6]) (k_L_below l D yI yZ yL (x >>> (6 &&& 31)) 6 (by decide) (by decide)) (va_cwS 2 F.hts gL_act_L_below rfl rfl rfl (by decide +kernel) ⟨Nat.le_of_ble_eq_true rfl, Nat.le_of_ble_eq_true rfl⟩) (bw h a t ++ (cw yI yZ a K V ++ (cw yI yZ t Kt Vt ++ (zw yI yL o ba pa la ra K V (zA V))))) ([] : va_W) rfl rfl rfl (Nat.le_of_ble_eq_true rfl) dL_act_538 ⟨Nat.le_of_ble_eq_true rfl, Nat.le_of_ble_eq_true rfl⟩ (fun r1 W1 z1 => ?_)
      obtain ⟨⟨j19, hj19, z0⟩, z1⟩ := z1
      subst z0
      subst z1
      refine xr_ws (ws' := bw h a t ++ (cw yI yZ a K V ++ (cw yI yZ t Kt Vt ++ (zw yI yL o ba pa la ra K V (zA V))))) (by first | (simp only [List.append_assoc, List.append_nil, List.nil_append]; done) | rfl | (simp only [List.append_assoc, List.append_nil, List.nil_append]; rfl)) ?_
      refine xr_iast F (1 + (12 + (12 + (16 + j18)))) 0 (w_skip (1) rfl (w_skip (12) rfl (w_skip (12) rfl (zwx_r (by omega))))) rfl (1) rfl (by decide) (by decide) (bw h a t ++ (cw yI yZ a K V ++ (cw yI yZ t Kt Vt ++ (zwx yI yL o ba pa la ra (kFee K) (kDry K) (kMill K) (kMark K) (kNb K) (kSpr K) (upd (kGoal K) j18 (nI j19)) (dHour V) (dBank V) (dLev V) (dOver V) (dDrawn V) (dFull V) (dLock V) (dFill V) (dAt V) (dPur V) (dSer V) (zA V))))) (s_skip (1) rfl (s_skip (12) rfl (s_skip (12) rfl (zwx_sr1 (by omega))))) dL_act_541 ?_
      refine xr_aload_n F dL_act_542 rfl 3 rfl ?_
      refine xr_iload F dL_act_543 1 rfl ?_
      refine xr_aload_n F dL_act_545 rfl 4 rfl ?_
      refine xr_get F hin2 (25) rfl rfl 10 (by decide) (List.mem_of_getElem? (i := 2) rfl) (v := .ref ba) rfl dL_act_546 ?_
      refine xr_iload F dL_act_549 1 rfl ?_
      refine xr_aald F (29) 2 rfl rfl rfl (j18) rfl (by omega) (by omega) dL_act_551 ?_
      refine xr_iconst F dL_act_552 (v := 1) (by decide) ?_
      refine xr_iald F (1 + (12 + (12 + (16 + j18)))) 0 (w_skip (1) rfl (w_skip (12) rfl (w_skip (12) rfl (zwx_r (by omega))))) rfl (1) rfl (by decide) (by decide) dL_act_553 ?_
      refine xr_top (y := nI j19) pk_us ?_
      refine xr_ws (ws' := ([] : va_W) ++ ((bw h a t ++ (cw yI yZ a K V)) ++ (cw yI yZ t Kt Vt ++ (zwx yI yL o ba pa la ra (kFee K) (kDry K) (kMill K) (kMark K) (kNb K) (kSpr K) (upd (kGoal K) j18 (nI j19)) (dHour V) (dBank V) (dLev V) (dOver V) (dDrawn V) (dFull V) (dLock V) (dFill V) (dAt V) (dPur V) (dSer V) (zA V))))) (by first | (simp only [List.append_assoc, List.append_nil, List.nil_append]; done) | rfl | (simp only [List.append_assoc, List.append_nil, List.nil_append]; rfl)) ?_
      have q554 : q_send K (nI j18) (nI j19) = 0 := (act_send hj18 hj19 hK hV).1
      refine xr_mcXVi F G (rest := []) (As := [.int (nI j18), .int (nI j19)]) (k_X1_send l D yI yZ yL hst h a t K V (nI j18) (nI j19) hK.1) (cwV 2 F.hts gL_act_X1_send rfl rfl rfl (by decide +kernel) ⟨Nat.le_of_ble_eq_true rfl, Nat.le_of_ble_eq_true rfl⟩) (q0 := 0) rfl rfl (([] : va_W)) (cw yI yZ t Kt Vt ++ (zwx yI yL o ba pa la ra (kFee K) (kDry K) (kMill K) (kMark K) (kNb K) (kSpr K) (upd (kGoal K) j18 (nI j19)) (dHour V) (dBank V) (dLev V) (dOver V) (dDrawn V) (dFull V) (dLock V) (dFill V) (dAt V) (dPur V) (dSer V) (zA V))) rfl rfl rfl (Nat.le_of_ble_eq_true rfl) dL_act_554 ⟨Nat.le_of_ble_eq_true rfl, Nat.le_of_ble_eq_true rfl⟩ (fun E1 W1 z1 => ?_) (fun r1 W1 z1 => ?_)
      · skip
        exact absurd (q554.symm.trans z1.1.1) (by decide)
      · skip
        obtain ⟨-, z0, z1⟩ := z1
        subst z0
        subst z1
        refine xr_ws (ws' := bw h a t ++ (cw yI yZ a (K_send K (nI j18) (nI j19)) V ++ (cw yI yZ t Kt Vt ++ (zwx yI yL o ba pa la ra (kFee K) (kDry K) (kMill K) (kMark K) (kNb K) (kSpr K) (upd (kGoal K) j18 (nI j19)) (dHour V) (dBank V) (dLev V) (dOver V) (dDrawn V) (dFull V) (dLock V) (dFill V) (dAt V) (dPur V) (dSer V) (zA V))))) (by first | (simp only [List.append_assoc, List.append_nil, List.nil_append]; done) | rfl | (simp only [List.append_assoc, List.append_nil, List.nil_append]; rfl)) ?_
        refine xr_top (y := kGoal K j18) (by rw [ix_nI (by omega)]) ?_
        refine xr_iload F dL_act_557 0 rfl ?_
        refine xr_icmp_ne F 566 dL_act_559 (by decide) (fun c559 => ?_) (fun c559 => ?_)
        · exact absurd rfl c559
        · skip
          refine xr_iconst F dL_act_562 (v := 1) (by decide) ?_
          refine xr_goto F 567 dL_act_563 (by decide) ?_
          refine xr_widen (k := 3) (n := 21) (Nat.le_of_ble_eq_true rfl) (Nat.le_of_ble_eq_true rfl) ?_
          exact ret _ _ _ _ dL_act_567 rfl ⟨rfl, (uGoal K (upd (kGoal K) j18 (nI j19))), V, Kt, Vt, ba, ra, (act_send hj18 hj19 hK hV).2.2.1, (okV_le (act_send hj18 hj19 hK hV).2.2.2 (Nat.le_succ N)), rfl, (by rw [(act_send hj18 hj19 hK hV).2.1]; rfl)⟩
    · skip
      refine xr_iconst F dL_act_502 (v := 1) (by decide) ?_
      refine xr_widen (k := 3) (n := 21) (Nat.le_of_ble_eq_true rfl) (Nat.le_of_ble_eq_true rfl) ?_
      exact ret _ _ _ _ dL_act_503 rfl ⟨rfl, K, V, Kt, Vt, ba, ra, hK, (okV_le hV (Nat.le_succ N)), rfl, rfl⟩
  · skip
    refine xr_tableOut F 568 dL_act_12 (Or.inr (by rw [nI_toInt (by omega)]; omega)) (by decide) ?_
    refine xr_iload_n F dL_act_568 rfl 3 rfl ?_
    refine xr_iconst F dL_act_569 (v := 4) (by decide) ?_
    refine xr_ishr F (x >>> (4 &&& 31)) dL_act_570 rfl ?_
    refine xr_bipush F dL_act_571 (v := 6) (by decide) ?_
    refine xr_ws (ws' := (bw h a t ++ (cw yI yZ a K V ++ (cw yI yZ t Kt Vt ++ (zw yI yL o ba pa la ra K V (zA V))))) ++ (([] : va_W) ++ ([] : va_W))) (by first | (simp only [List.append_assoc, List.append_nil, List.nil_append]; done) | rfl | (simp only [List.append_assoc, List.append_nil, List.nil_append]; rfl)) ?_
    refine xr_mcSi F (rest := []) (As := [.int (x >>> (4 &&& 31)), .int 6]) (k_L_below l D yI yZ yL (x >>> (4 &&& 31)) 6 (by decide) (by decide)) (va_cwS 2 F.hts gL_act_L_below rfl rfl rfl (by decide +kernel) ⟨Nat.le_of_ble_eq_true rfl, Nat.le_of_ble_eq_true rfl⟩) (bw h a t ++ (cw yI yZ a K V ++ (cw yI yZ t Kt Vt ++ (zw yI yL o ba pa la ra K V (zA V))))) ([] : va_W) rfl rfl rfl (Nat.le_of_ble_eq_true rfl) dL_act_573 ⟨Nat.le_of_ble_eq_true rfl, Nat.le_of_ble_eq_true rfl⟩ (fun r1 W1 z1 => ?_)
    obtain ⟨⟨j20, hj20, z0⟩, z1⟩ := z1
    subst z0
    subst z1
    refine xr_ws (ws' := bw h a t ++ (cw yI yZ a K V ++ (cw yI yZ t Kt Vt ++ (zw yI yL o ba pa la ra K V (zA V))))) (by first | (simp only [List.append_assoc, List.append_nil, List.nil_append]; done) | rfl | (simp only [List.append_assoc, List.append_nil, List.nil_append]; rfl)) ?_
    refine xr_istore F [(5, .int (nI j20)), (3, .int (nI (kNb K))), (0, .ref h), (1, .ref (o 0)), (2, .int x)] dL_act_576 (by decide) rfl ?_
    refine xr_iload_n F dL_act_578 rfl 4 rfl ?_
    refine xr_bipush F dL_act_579 (v := 6) (by decide) ?_
    refine xr_ishr F (x >>> (6 &&& 31)) dL_act_581 rfl ?_
    refine xr_bipush F dL_act_582 (v := 6) (by decide) ?_
    refine xr_ws (ws' := (bw h a t ++ (cw yI yZ a K V ++ (cw yI yZ t Kt Vt ++ (zw yI yL o ba pa la ra K V (zA V))))) ++ (([] : va_W) ++ ([] : va_W))) (by first | (simp only [List.append_assoc, List.append_nil, List.nil_append]; done) | rfl | (simp only [List.append_assoc, List.append_nil, List.nil_append]; rfl)) ?_
    refine xr_mcSi F (rest := []) (As := [.int (x >>> (6 &&& 31)), .int 6]) (k_L_below l D yI yZ yL (x >>> (6 &&& 31)) 6 (by decide) (by decide)) (va_cwS 2 F.hts gL_act_L_below rfl rfl rfl (by decide +kernel) ⟨Nat.le_of_ble_eq_true rfl, Nat.le_of_ble_eq_true rfl⟩) (bw h a t ++ (cw yI yZ a K V ++ (cw yI yZ t Kt Vt ++ (zw yI yL o ba pa la ra K V (zA V))))) ([] : va_W) rfl rfl rfl (Nat.le_of_ble_eq_true rfl) dL_act_584 ⟨Nat.le_of_ble_eq_true rfl, Nat.le_of_ble_eq_true rfl⟩ (fun r1 W1 z1 => ?_)
    obtain ⟨⟨j21, hj21, z0⟩, z1⟩ := z1
    subst z0
    subst z1
    refine xr_ws (ws' := bw h a t ++ (cw yI yZ a K V ++ (cw yI yZ t Kt Vt ++ (zw yI yL o ba pa la ra K V (zA V))))) (by first | (simp only [List.append_assoc, List.append_nil, List.nil_append]; done) | rfl | (simp only [List.append_assoc, List.append_nil, List.nil_append]; rfl)) ?_
    refine xr_istore F [(6, .int (nI j21)), (5, .int (nI j20)), (3, .int (nI (kNb K))), (0, .ref h), (1, .ref (o 0)), (2, .int x)] dL_act_587 (by decide) rfl ?_
    refine xr_iload_n F dL_act_589 rfl 5 rfl ?_
    refine xr_iconst F dL_act_590 (v := 5) (by decide) ?_
    refine xr_ishr F (x >>> (5 &&& 31)) dL_act_591 rfl ?_
    refine xr_iload_n F dL_act_592 rfl 5 rfl ?_
    refine xr_bipush F dL_act_593 (v := 8) (by decide) ?_
    refine xr_ishr F (x >>> (8 &&& 31)) dL_act_595 rfl ?_
    refine xr_iconst F dL_act_596 (v := 3) (by decide) ?_
    refine xr_ws (ws' := (bw h a t ++ (cw yI yZ a K V ++ (cw yI yZ t Kt Vt ++ (zw yI yL o ba pa la ra K V (zA V))))) ++ (([] : va_W) ++ ([] : va_W))) (by first | (simp only [List.append_assoc, List.append_nil, List.nil_append]; done) | rfl | (simp only [List.append_assoc, List.append_nil, List.nil_append]; rfl)) ?_
    refine xr_mcSi F (rest := [.int (x >>> (5 &&& 31))]) (As := [.int (x >>> (8 &&& 31)), .int 3]) (k_L_below l D yI yZ yL (x >>> (8 &&& 31)) 3 (by decide) (by decide)) (va_cwS 2 F.hts gL_act_L_below rfl rfl rfl (by decide +kernel) ⟨Nat.le_of_ble_eq_true rfl, Nat.le_of_ble_eq_true rfl⟩) (bw h a t ++ (cw yI yZ a K V ++ (cw yI yZ t Kt Vt ++ (zw yI yL o ba pa la ra K V (zA V))))) ([] : va_W) rfl rfl rfl (Nat.le_of_ble_eq_true rfl) dL_act_597 ⟨Nat.le_of_ble_eq_true rfl, Nat.le_of_ble_eq_true rfl⟩ (fun r1 W1 z1 => ?_)
    obtain ⟨⟨j22, hj22, z0⟩, z1⟩ := z1
    subst z0
    subst z1
    refine xr_ws (ws' := bw h a t ++ (cw yI yZ a K V ++ (cw yI yZ t Kt Vt ++ (zw yI yL o ba pa la ra K V (zA V))))) (by first | (simp only [List.append_assoc, List.append_nil, List.nil_append]; done) | rfl | (simp only [List.append_assoc, List.append_nil, List.nil_append]; rfl)) ?_
    refine xr_if_ne F 607 dL_act_600 (by decide) (fun c600 => ?_) (fun c600 => ?_)
    · skip
      refine xr_bipush F dL_act_607 (v := 100) (by decide) ?_
      refine xr_ws (ws' := (bw h a t ++ (cw yI yZ a K V ++ (cw yI yZ t Kt Vt ++ (zw yI yL o ba pa la ra K V (zA V))))) ++ (([] : va_W) ++ ([] : va_W))) (by first | (simp only [List.append_assoc, List.append_nil, List.nil_append]; done) | rfl | (simp only [List.append_assoc, List.append_nil, List.nil_append]; rfl)) ?_
      refine xr_mcSi F (rest := []) (As := [.int (x >>> (5 &&& 31)), .int 100]) (k_L_below l D yI yZ yL (x >>> (5 &&& 31)) 100 (by decide) (by decide)) (va_cwS 2 F.hts gL_act_L_below rfl rfl rfl (by decide +kernel) ⟨Nat.le_of_ble_eq_true rfl, Nat.le_of_ble_eq_true rfl⟩) (bw h a t ++ (cw yI yZ a K V ++ (cw yI yZ t Kt Vt ++ (zw yI yL o ba pa la ra K V (zA V))))) ([] : va_W) rfl rfl rfl (Nat.le_of_ble_eq_true rfl) dL_act_609 ⟨Nat.le_of_ble_eq_true rfl, Nat.le_of_ble_eq_true rfl⟩ (fun r1 W1 z1 => ?_)
      obtain ⟨⟨j23, hj23, z0⟩, z1⟩ := z1
      subst z0
      subst z1
      refine xr_ws (ws' := bw h a t ++ (cw yI yZ a K V ++ (cw yI yZ t Kt Vt ++ (zw yI yL o ba pa la ra K V (zA V))))) (by first | (simp only [List.append_assoc, List.append_nil, List.nil_append]; done) | rfl | (simp only [List.append_assoc, List.append_nil, List.nil_append]; rfl)) ?_
      refine xr_istore F [(7, .int (nI j23)), (6, .int (nI j21)), (5, .int (nI j20)), (3, .int (nI (kNb K))), (0, .ref h), (1, .ref (o 0)), (2, .int x)] dL_act_612 (by decide) rfl ?_
      refine xr_iload_n F dL_act_614 rfl 3 rfl ?_
      refine xr_bipush F dL_act_615 (v := 10) (by decide) ?_
      refine xr_icmp_ge F 630 dL_act_617 (by decide) (fun c617 => ?_) (fun c617 => ?_)
      · skip
        have hge : ¬ kNb K < 10 := fun z => absurd (nI_lt (b := 10) z (by decide)) (Int32.not_lt.mpr c617)
        refine xr_aload_n F dL_act_630 rfl 4 rfl ?_
        refine xr_iload F dL_act_631 2 rfl ?_
        refine xr_iload F dL_act_633 1 rfl ?_
        refine xr_iload F dL_act_635 0 rfl ?_
        refine xr_ws (ws' := ([] : va_W) ++ ((bw h a t ++ (cw yI yZ a K V)) ++ (cw yI yZ t Kt Vt ++ (zw yI yL o ba pa la ra K V (zA V))))) (by first | (simp only [List.append_assoc, List.append_nil, List.nil_append]; done) | rfl | (simp only [List.append_assoc, List.append_nil, List.nil_append]; rfl)) ?_
        have q637 : q_barge K (nI j20) (nI j21) (nI j23) = 3 := ((act_barge hj20 hj21 (by omega) hK hV).1.trans (if_neg hge))
        refine xr_mcXVi F G (rest := []) (As := [.int (nI j20), .int (nI j21), .int (nI j23)]) (k_X1_barge l D yI yZ yL hst h a t K V (nI j20) (nI j21) (nI j23) hK.1) (cwV 3 F.hts gL_act_X1_barge rfl rfl rfl (by decide +kernel) ⟨Nat.le_of_ble_eq_true rfl, Nat.le_of_ble_eq_true rfl⟩) (q0 := 0) rfl rfl (([] : va_W)) (cw yI yZ t Kt Vt ++ (zw yI yL o ba pa la ra K V (zA V))) rfl rfl rfl (Nat.le_of_ble_eq_true rfl) dL_act_637 ⟨Nat.le_of_ble_eq_true rfl, Nat.le_of_ble_eq_true rfl⟩ (fun E1 W1 z1 => ?_) (fun r1 W1 z1 => ?_)
        · skip
          obtain ⟨z0, z1⟩ := z1
          subst z1
          rcases z0 with ⟨h9, z0⟩ | ⟨h9, z0⟩ | ⟨h9, z0⟩
          · skip
            exact absurd (q637.symm.trans h9) (by decide)
          · skip
            exact absurd (q637.symm.trans h9) (by decide)
          · skip
            subst z0
            refine xr_catch F G htab [⟨349, 359, 362, 65⟩, ⟨440, 448, 451, 65⟩] ⟨630, 642, 645, 65⟩ [] rfl (fun z hz => Or.inl (by rcases List.mem_cons.mp hz with rfl | hz <;> first | decide | (rcases List.mem_cons.mp hz with rfl | hz <;> first | decide | exact absurd hz List.not_mem_nil) | exact absurd hz List.not_mem_nil)) (by decide) (by decide) (List.mem_of_getElem? (i := 1) rfl) (List.mem_of_getElem? (i := 2) rfl) (fun q9 => ?_)
            refine xr_ws (ws' := bw h a t ++ (cw yI yZ a K V ++ (cw yI yZ t Kt Vt ++ (zw yI yL o ba pa la ra K V (zA V))))) (by first | (simp only [List.append_assoc, List.append_nil, List.nil_append]; done) | rfl | (simp only [List.append_assoc, List.append_nil, List.nil_append]; rfl)) ?_
            refine xr_astore F [(8, .ref q9), (7, .int (nI j23)), (6, .int (nI j21)), (5, .int (nI j20)), (3, .int (nI (kNb K))), (0, .ref h), (1, .ref (o 0)), (2, .int x)] dL_act_645 (by decide) rfl ?_
            refine xr_iconst F dL_act_647 (v := (-1)) (by decide) ?_
            refine xr_istore F [(4, .int ((-1))), (8, .ref q9), (7, .int (nI j23)), (6, .int (nI j21)), (5, .int (nI j20)), (3, .int (nI (kNb K))), (0, .ref h), (1, .ref (o 0)), (2, .int x)] dL_act_648 (by decide) rfl ?_
            refine xr_iload F dL_act_650 0 rfl ?_
            refine xr_iload_n F dL_act_652 rfl 5 rfl ?_
            refine xr_bipush F dL_act_653 (v := 10) (by decide) ?_
            refine xr_icmp_ge F 662 dL_act_655 (by decide) (fun c655 => ?_) (fun c655 => ?_)
            · skip
              refine xr_iconst F dL_act_662 (v := (-1)) (by decide) ?_
              refine xr_icmp_ne F 670 dL_act_663 (by decide) (fun c663 => ?_) (fun c663 => ?_)
              · exact absurd rfl c663
              · skip
                refine xr_iconst F dL_act_666 (v := 1) (by decide) ?_
                refine xr_goto F 671 dL_act_667 (by decide) ?_
                refine xr_widen (k := 3) (n := 21) (Nat.le_of_ble_eq_true rfl) (Nat.le_of_ble_eq_true rfl) ?_
                exact ret _ _ _ _ dL_act_671 rfl ⟨rfl, K, V, Kt, Vt, ba, ra, hK, (okV_le hV (Nat.le_succ N)), rfl, rfl⟩
            · exact absurd c617 c655
        · skip
          exact absurd (z1.1.symm.trans q637) (by decide)
      · skip
        have hlt : kNb K < 10 := Nat.not_le.mp (fun z => c617 (nI_le (a := 10) z (by omega)))
        refine xr_aload_n F dL_act_620 rfl 5 rfl ?_
        refine xr_iload F dL_act_621 2 rfl ?_
        refine xr_iload F dL_act_623 1 rfl ?_
        refine xr_iload F dL_act_625 0 rfl ?_
        refine xr_ws (ws' := bw h a t ++ (cw yI yZ a K V ++ (cw yI yZ t Kt Vt)) ++ ((zw yI yL o ba pa la ra K V (zA V)) ++ (([] : va_W)))) (by first | (simp only [List.append_assoc, List.append_nil, List.nil_append]; done) | rfl | (simp only [List.append_assoc, List.append_nil, List.nil_append]; rfl)) ?_
        refine xr_mcVv F (rest := []) (As := [.int (nI j20), .int (nI j21), .int (nI j23)]) (k_X2_come l D yI yZ yL o ba pa la ra K V (zA V) (nI j20) (nI j21) (nI j23) hlt) (cwV 3 F.hts gL_act_X2_come rfl rfl rfl (by decide +kernel) ⟨Nat.le_of_ble_eq_true rfl, Nat.le_of_ble_eq_true rfl⟩) (q0 := 0) rfl rfl (bw h a t ++ (cw yI yZ a K V ++ (cw yI yZ t Kt Vt))) (([] : va_W)) rfl rfl rfl (Nat.le_of_ble_eq_true rfl) dL_act_627 ⟨Nat.le_of_ble_eq_true rfl, Nat.le_of_ble_eq_true rfl⟩ (fun W1 z1 => ?_)
        obtain ⟨bb, rr, z1⟩ := z1
        subst z1
        refine xr_ws (ws' := bw h a t ++ (cw yI yZ a K V ++ (cw yI yZ t Kt Vt ++ (zw yI yL o bb pa la rr (z_comeK K (nI j21)) (z_comeV K V (nI j20) (nI j23)) (zA V))))) (by first | (simp only [List.append_assoc, List.append_nil, List.nil_append]; done) | rfl | (simp only [List.append_assoc, List.append_nil, List.nil_append]; rfl)) ?_
        refine xr_aload_n F dL_act_630 rfl 4 rfl ?_
        refine xr_iload F dL_act_631 2 rfl ?_
        refine xr_iload F dL_act_633 1 rfl ?_
        refine xr_iload F dL_act_635 0 rfl ?_
        refine xr_ws (ws' := ([] : va_W) ++ ((bw h a t ++ (cw yI yZ a K V)) ++ (cw yI yZ t Kt Vt ++ (zw yI yL o bb pa la rr (z_comeK K (nI j21)) (z_comeV K V (nI j20) (nI j23)) (zA V))))) (by first | (simp only [List.append_assoc, List.append_nil, List.nil_append]; done) | rfl | (simp only [List.append_assoc, List.append_nil, List.nil_append]; rfl)) ?_
        have q637 : q_barge K (nI j20) (nI j21) (nI j23) = 0 := ((act_barge hj20 hj21 (by omega) hK hV).1.trans (if_pos hlt))
        refine xr_mcXVi F G (rest := []) (As := [.int (nI j20), .int (nI j21), .int (nI j23)]) (k_X1_barge l D yI yZ yL hst h a t K V (nI j20) (nI j21) (nI j23) hK.1) (cwV 3 F.hts gL_act_X1_barge rfl rfl rfl (by decide +kernel) ⟨Nat.le_of_ble_eq_true rfl, Nat.le_of_ble_eq_true rfl⟩) (q0 := 0) rfl rfl (([] : va_W)) (cw yI yZ t Kt Vt ++ (zw yI yL o bb pa la rr (z_comeK K (nI j21)) (z_comeV K V (nI j20) (nI j23)) (zA V))) rfl rfl rfl (Nat.le_of_ble_eq_true rfl) dL_act_637 ⟨Nat.le_of_ble_eq_true rfl, Nat.le_of_ble_eq_true rfl⟩ (fun E1 W1 z1 => ?_) (fun r1 W1 z1 => ?_)
        · skip
          rcases z1.1 with h9 | h9 | h9 <;> exact absurd (q637.symm.trans h9.1) (by decide)
        · skip
          obtain ⟨-, z0, z1⟩ := z1
          subst z0
          subst z1
          refine xr_ws (ws' := bw h a t ++ (cw yI yZ a (K_barge K (nI j20) (nI j21) (nI j23)) (V_barge K V (nI j20) (nI j21) (nI j23)) ++ (cw yI yZ t Kt Vt ++ (zw yI yL o bb pa la rr (z_comeK K (nI j21)) (z_comeV K V (nI j20) (nI j23)) (zA V))))) (by first | (simp only [List.append_assoc, List.append_nil, List.nil_append]; done) | rfl | (simp only [List.append_assoc, List.append_nil, List.nil_append]; rfl)) ?_
          refine xr_istore F [(4, .int (nI (kNb K))), (7, .int (nI j23)), (6, .int (nI j21)), (5, .int (nI j20)), (3, .int (nI (kNb K))), (0, .ref h), (1, .ref (o 0)), (2, .int x)] dL_act_640 (by decide) rfl ?_
          refine xr_goto F 650 dL_act_642 (by decide) ?_
          refine xr_iload F dL_act_650 0 rfl ?_
          refine xr_iload_n F dL_act_652 rfl 4 rfl ?_
          refine xr_bipush F dL_act_653 (v := 10) (by decide) ?_
          refine xr_icmp_ge F 662 dL_act_655 (by decide) (fun c655 => ?_) (fun c655 => ?_)
          · exact absurd c655 c617
          · skip
            refine xr_iload_n F dL_act_658 rfl 4 rfl ?_
            refine xr_goto F 663 dL_act_659 (by decide) ?_
            refine xr_icmp_ne F 670 dL_act_663 (by decide) (fun c663 => ?_) (fun c663 => ?_)
            · exact absurd rfl c663
            · skip
              refine xr_iconst F dL_act_666 (v := 1) (by decide) ?_
              refine xr_goto F 671 dL_act_667 (by decide) ?_
              refine xr_widen (k := 3) (n := 21) (Nat.le_of_ble_eq_true rfl) (Nat.le_of_ble_eq_true rfl) ?_
              exact ret _ _ _ _ dL_act_671 rfl ⟨rfl, (z_comeK K (nI j21)), (z_comeV K V (nI j20) (nI j23)), Kt, Vt, bb, rr, ((act_barge hj20 hj21 (c := j23) (by omega) hK hV).2.1 hlt).2.2.1, (okV_le ((act_barge hj20 hj21 (c := j23) (by omega) hK hV).2.1 hlt).2.2.2 (Nat.le_succ N)), rfl, (by rw [((act_barge hj20 hj21 (c := j23) (by omega) hK hV).2.1 hlt).1, ((act_barge hj20 hj21 (c := j23) (by omega) hK hV).2.1 hlt).2.1]; rfl)⟩
    · skip
      refine xr_iconst F dL_act_603 (v := 4) (by decide) ?_
      refine xr_goto F 609 dL_act_604 (by decide) ?_
      refine xr_ws (ws' := (bw h a t ++ (cw yI yZ a K V ++ (cw yI yZ t Kt Vt ++ (zw yI yL o ba pa la ra K V (zA V))))) ++ (([] : va_W) ++ ([] : va_W))) (by first | (simp only [List.append_assoc, List.append_nil, List.nil_append]; done) | rfl | (simp only [List.append_assoc, List.append_nil, List.nil_append]; rfl)) ?_
      refine xr_mcSi F (rest := []) (As := [.int (x >>> (5 &&& 31)), .int 4]) (k_L_below l D yI yZ yL (x >>> (5 &&& 31)) 4 (by decide) (by decide)) (va_cwS 2 F.hts gL_act_L_below rfl rfl rfl (by decide +kernel) ⟨Nat.le_of_ble_eq_true rfl, Nat.le_of_ble_eq_true rfl⟩) (bw h a t ++ (cw yI yZ a K V ++ (cw yI yZ t Kt Vt ++ (zw yI yL o ba pa la ra K V (zA V))))) ([] : va_W) rfl rfl rfl (Nat.le_of_ble_eq_true rfl) dL_act_609 ⟨Nat.le_of_ble_eq_true rfl, Nat.le_of_ble_eq_true rfl⟩ (fun r1 W1 z1 => ?_)
      obtain ⟨⟨j24, hj24, z0⟩, z1⟩ := z1
      subst z0
      subst z1
      refine xr_ws (ws' := bw h a t ++ (cw yI yZ a K V ++ (cw yI yZ t Kt Vt ++ (zw yI yL o ba pa la ra K V (zA V))))) (by first | (simp only [List.append_assoc, List.append_nil, List.nil_append]; done) | rfl | (simp only [List.append_assoc, List.append_nil, List.nil_append]; rfl)) ?_
      refine xr_istore F [(7, .int (nI j24)), (6, .int (nI j21)), (5, .int (nI j20)), (3, .int (nI (kNb K))), (0, .ref h), (1, .ref (o 0)), (2, .int x)] dL_act_612 (by decide) rfl ?_
      refine xr_iload_n F dL_act_614 rfl 3 rfl ?_
      refine xr_bipush F dL_act_615 (v := 10) (by decide) ?_
      refine xr_icmp_ge F 630 dL_act_617 (by decide) (fun c617 => ?_) (fun c617 => ?_)
      · skip
        have hge : ¬ kNb K < 10 := fun z => absurd (nI_lt (b := 10) z (by decide)) (Int32.not_lt.mpr c617)
        refine xr_aload_n F dL_act_630 rfl 4 rfl ?_
        refine xr_iload F dL_act_631 2 rfl ?_
        refine xr_iload F dL_act_633 1 rfl ?_
        refine xr_iload F dL_act_635 0 rfl ?_
        refine xr_ws (ws' := ([] : va_W) ++ ((bw h a t ++ (cw yI yZ a K V)) ++ (cw yI yZ t Kt Vt ++ (zw yI yL o ba pa la ra K V (zA V))))) (by first | (simp only [List.append_assoc, List.append_nil, List.nil_append]; done) | rfl | (simp only [List.append_assoc, List.append_nil, List.nil_append]; rfl)) ?_
        have q637 : q_barge K (nI j20) (nI j21) (nI j24) = 3 := ((act_barge hj20 hj21 (by omega) hK hV).1.trans (if_neg hge))
        refine xr_mcXVi F G (rest := []) (As := [.int (nI j20), .int (nI j21), .int (nI j24)]) (k_X1_barge l D yI yZ yL hst h a t K V (nI j20) (nI j21) (nI j24) hK.1) (cwV 3 F.hts gL_act_X1_barge rfl rfl rfl (by decide +kernel) ⟨Nat.le_of_ble_eq_true rfl, Nat.le_of_ble_eq_true rfl⟩) (q0 := 0) rfl rfl (([] : va_W)) (cw yI yZ t Kt Vt ++ (zw yI yL o ba pa la ra K V (zA V))) rfl rfl rfl (Nat.le_of_ble_eq_true rfl) dL_act_637 ⟨Nat.le_of_ble_eq_true rfl, Nat.le_of_ble_eq_true rfl⟩ (fun E1 W1 z1 => ?_) (fun r1 W1 z1 => ?_)
        · skip
          obtain ⟨z0, z1⟩ := z1
          subst z1
          rcases z0 with ⟨h9, z0⟩ | ⟨h9, z0⟩ | ⟨h9, z0⟩
          · skip
            exact absurd (q637.symm.trans h9) (by decide)
          · skip
            exact absurd (q637.symm.trans h9) (by decide)
          · skip
            subst z0
            refine xr_catch F G htab [⟨349, 359, 362, 65⟩, ⟨440, 448, 451, 65⟩] ⟨630, 642, 645, 65⟩ [] rfl (fun z hz => Or.inl (by rcases List.mem_cons.mp hz with rfl | hz <;> first | decide | (rcases List.mem_cons.mp hz with rfl | hz <;> first | decide | exact absurd hz List.not_mem_nil) | exact absurd hz List.not_mem_nil)) (by decide) (by decide) (List.mem_of_getElem? (i := 1) rfl) (List.mem_of_getElem? (i := 2) rfl) (fun q9 => ?_)
            refine xr_ws (ws' := bw h a t ++ (cw yI yZ a K V ++ (cw yI yZ t Kt Vt ++ (zw yI yL o ba pa la ra K V (zA V))))) (by first | (simp only [List.append_assoc, List.append_nil, List.nil_append]; done) | rfl | (simp only [List.append_assoc, List.append_nil, List.nil_append]; rfl)) ?_
            refine xr_astore F [(8, .ref q9), (7, .int (nI j24)), (6, .int (nI j21)), (5, .int (nI j20)), (3, .int (nI (kNb K))), (0, .ref h), (1, .ref (o 0)), (2, .int x)] dL_act_645 (by decide) rfl ?_
            refine xr_iconst F dL_act_647 (v := (-1)) (by decide) ?_
            refine xr_istore F [(4, .int ((-1))), (8, .ref q9), (7, .int (nI j24)), (6, .int (nI j21)), (5, .int (nI j20)), (3, .int (nI (kNb K))), (0, .ref h), (1, .ref (o 0)), (2, .int x)] dL_act_648 (by decide) rfl ?_
            refine xr_iload F dL_act_650 0 rfl ?_
            refine xr_iload_n F dL_act_652 rfl 5 rfl ?_
            refine xr_bipush F dL_act_653 (v := 10) (by decide) ?_
            refine xr_icmp_ge F 662 dL_act_655 (by decide) (fun c655 => ?_) (fun c655 => ?_)
            · skip
              refine xr_iconst F dL_act_662 (v := (-1)) (by decide) ?_
              refine xr_icmp_ne F 670 dL_act_663 (by decide) (fun c663 => ?_) (fun c663 => ?_)
              · exact absurd rfl c663
              · skip
                refine xr_iconst F dL_act_666 (v := 1) (by decide) ?_
                refine xr_goto F 671 dL_act_667 (by decide) ?_
                refine xr_widen (k := 3) (n := 21) (Nat.le_of_ble_eq_true rfl) (Nat.le_of_ble_eq_true rfl) ?_
                exact ret _ _ _ _ dL_act_671 rfl ⟨rfl, K, V, Kt, Vt, ba, ra, hK, (okV_le hV (Nat.le_succ N)), rfl, rfl⟩
            · exact absurd c617 c655
        · skip
          exact absurd (z1.1.symm.trans q637) (by decide)
      · skip
        have hlt : kNb K < 10 := Nat.not_le.mp (fun z => c617 (nI_le (a := 10) z (by omega)))
        refine xr_aload_n F dL_act_620 rfl 5 rfl ?_
        refine xr_iload F dL_act_621 2 rfl ?_
        refine xr_iload F dL_act_623 1 rfl ?_
        refine xr_iload F dL_act_625 0 rfl ?_
        refine xr_ws (ws' := bw h a t ++ (cw yI yZ a K V ++ (cw yI yZ t Kt Vt)) ++ ((zw yI yL o ba pa la ra K V (zA V)) ++ (([] : va_W)))) (by first | (simp only [List.append_assoc, List.append_nil, List.nil_append]; done) | rfl | (simp only [List.append_assoc, List.append_nil, List.nil_append]; rfl)) ?_
        refine xr_mcVv F (rest := []) (As := [.int (nI j20), .int (nI j21), .int (nI j24)]) (k_X2_come l D yI yZ yL o ba pa la ra K V (zA V) (nI j20) (nI j21) (nI j24) hlt) (cwV 3 F.hts gL_act_X2_come rfl rfl rfl (by decide +kernel) ⟨Nat.le_of_ble_eq_true rfl, Nat.le_of_ble_eq_true rfl⟩) (q0 := 0) rfl rfl (bw h a t ++ (cw yI yZ a K V ++ (cw yI yZ t Kt Vt))) (([] : va_W)) rfl rfl rfl (Nat.le_of_ble_eq_true rfl) dL_act_627 ⟨Nat.le_of_ble_eq_true rfl, Nat.le_of_ble_eq_true rfl⟩ (fun W1 z1 => ?_)
        obtain ⟨bb, rr, z1⟩ := z1
        subst z1
        refine xr_ws (ws' := bw h a t ++ (cw yI yZ a K V ++ (cw yI yZ t Kt Vt ++ (zw yI yL o bb pa la rr (z_comeK K (nI j21)) (z_comeV K V (nI j20) (nI j24)) (zA V))))) (by first | (simp only [List.append_assoc, List.append_nil, List.nil_append]; done) | rfl | (simp only [List.append_assoc, List.append_nil, List.nil_append]; rfl)) ?_
        refine xr_aload_n F dL_act_630 rfl 4 rfl ?_
        refine xr_iload F dL_act_631 2 rfl ?_
        refine xr_iload F dL_act_633 1 rfl ?_
        refine xr_iload F dL_act_635 0 rfl ?_
        refine xr_ws (ws' := ([] : va_W) ++ ((bw h a t ++ (cw yI yZ a K V)) ++ (cw yI yZ t Kt Vt ++ (zw yI yL o bb pa la rr (z_comeK K (nI j21)) (z_comeV K V (nI j20) (nI j24)) (zA V))))) (by first | (simp only [List.append_assoc, List.append_nil, List.nil_append]; done) | rfl | (simp only [List.append_assoc, List.append_nil, List.nil_append]; rfl)) ?_
        have q637 : q_barge K (nI j20) (nI j21) (nI j24) = 0 := ((act_barge hj20 hj21 (by omega) hK hV).1.trans (if_pos hlt))
        refine xr_mcXVi F G (rest := []) (As := [.int (nI j20), .int (nI j21), .int (nI j24)]) (k_X1_barge l D yI yZ yL hst h a t K V (nI j20) (nI j21) (nI j24) hK.1) (cwV 3 F.hts gL_act_X1_barge rfl rfl rfl (by decide +kernel) ⟨Nat.le_of_ble_eq_true rfl, Nat.le_of_ble_eq_true rfl⟩) (q0 := 0) rfl rfl (([] : va_W)) (cw yI yZ t Kt Vt ++ (zw yI yL o bb pa la rr (z_comeK K (nI j21)) (z_comeV K V (nI j20) (nI j24)) (zA V))) rfl rfl rfl (Nat.le_of_ble_eq_true rfl) dL_act_637 ⟨Nat.le_of_ble_eq_true rfl, Nat.le_of_ble_eq_true rfl⟩ (fun E1 W1 z1 => ?_) (fun r1 W1 z1 => ?_)
        · skip
          rcases z1.1 with h9 | h9 | h9 <;> exact absurd (q637.symm.trans h9.1) (by decide)
        · skip
          obtain ⟨-, z0, z1⟩ := z1
          subst z0
          subst z1
          refine xr_ws (ws' := bw h a t ++ (cw yI yZ a (K_barge K (nI j20) (nI j21) (nI j24)) (V_barge K V (nI j20) (nI j21) (nI j24)) ++ (cw yI yZ t Kt Vt ++ (zw yI yL o bb pa la rr (z_comeK K (nI j21)) (z_comeV K V (nI j20) (nI j24)) (zA V))))) (by first | (simp only [List.append_assoc, List.append_nil, List.nil_append]; done) | rfl | (simp only [List.append_assoc, List.append_nil, List.nil_append]; rfl)) ?_
          refine xr_istore F [(4, .int (nI (kNb K))), (7, .int (nI j24)), (6, .int (nI j21)), (5, .int (nI j20)), (3, .int (nI (kNb K))), (0, .ref h), (1, .ref (o 0)), (2, .int x)] dL_act_640 (by decide) rfl ?_
          refine xr_goto F 650 dL_act_642 (by decide) ?_
          refine xr_iload F dL_act_650 0 rfl ?_
          refine xr_iload_n F dL_act_652 rfl 4 rfl ?_
          refine xr_bipush F dL_act_653 (v := 10) (by decide) ?_
          refine xr_icmp_ge F 662 dL_act_655 (by decide) (fun c655 => ?_) (fun c655 => ?_)
          · exact absurd c655 c617
          · skip
            refine xr_iload_n F dL_act_658 rfl 4 rfl ?_
            refine xr_goto F 663 dL_act_659 (by decide) ?_
            refine xr_icmp_ne F 670 dL_act_663 (by decide) (fun c663 => ?_) (fun c663 => ?_)
            · exact absurd rfl c663
            · skip
              refine xr_iconst F dL_act_666 (v := 1) (by decide) ?_
              refine xr_goto F 671 dL_act_667 (by decide) ?_
              refine xr_widen (k := 3) (n := 21) (Nat.le_of_ble_eq_true rfl) (Nat.le_of_ble_eq_true rfl) ?_
              exact ret _ _ _ _ dL_act_671 rfl ⟨rfl, (z_comeK K (nI j21)), (z_comeV K V (nI j20) (nI j24)), Kt, Vt, bb, rr, ((act_barge hj20 hj21 (c := j24) (by omega) hK hV).2.1 hlt).2.2.1, (okV_le ((act_barge hj20 hj21 (c := j24) (by omega) hK hV).2.1 hlt).2.2.2 (Nat.le_succ N)), rfl, (by rw [((act_barge hj20 hj21 (c := j24) (by omega) hK hV).2.1 hlt).1, ((act_barge hj20 hj21 (c := j24) (by omega) hK hV).2.1 hlt).2.1]; rfl)⟩
