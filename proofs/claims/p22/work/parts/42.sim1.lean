def rm_X2_into (n : Nat) : Room := { frames := n, cells := 0, slots := 0, locals := 24 * n }
set_option maxHeartbeats 4000000 in
set_option maxRecDepth 100000 in
/-- into: the pounds below n -/
theorem k_X2_intoN (l : Launch) (D : va_G) (yI yZ yL : ClassId) (o : Nat → Nat) (ba : Nat) (pa la ra : Nat → Nat) (K : CK) : ∀ (n : Nat) (V : CD) (aw x : Int32), n ≤ 6 → xMv l yX2_into wsX2_into (rm_X2_into n) D (tysG yI yZ yL) (zw yI yL o ba pa la ra K V aw) [.ref (o 0), .int (nI n - 1), .int x] 0 0 (fun W1 : va_W => W1 = zw yI yL o ba pa la ra K (z_into n x V aw).1 (z_into n x V aw).2) := by
  intro n
  induction n with
  | zero =>
    intro V aw x h0
    refine xE_v (cc := cX2_into) (nL := 5) (by decide) rfl (Nat.le_of_ble_eq_true rfl) ?_
    intro p e s m args below meth c A Q F hnm ret
    have hin2 : ∀ w ∈ u_ws RX2 TX2 11, w ∈ wsX2_into := by decide +kernel
    show AW p l e (rm_X2_into 0) s m args below meth c 5 D A 0 0 Q (zw yI yL o ba pa la ra K V aw) [(0, .ref (o 0)), (1, .int (nI 0 - 1)), (2, .int x)] 0 []
    refine xr_lveq (lv' := [(0, .ref (o 0)), (1, .int ((-1))), (2, .int x)]) rfl ?_
    refine xr_iload_n F dX2_into_0 rfl 1 rfl ?_
    refine xr_if_ge F 15 dX2_into_1 (by decide) (fun c1 => ?_) (fun c1 => ?_)
    · exact absurd c1 (by decide)
    · skip
      refine xr_aload_n F dX2_into_4 rfl 0 rfl ?_
      refine xr_dup F dX2_into_5 rfl ?_
      refine xr_get F hin2 (0) rfl rfl 3 (by decide) (List.mem_of_getElem? (i := 1) rfl) (v := .int aw) rfl dX2_into_6 ?_
      refine xr_iload_n F dX2_into_9 rfl 2 rfl ?_
      refine xr_iadd F (aw + x) dX2_into_10 rfl ?_
      refine xr_put (ty := .int) F hin2 (0) rfl rfl 3 (by decide) tyX2 tyX2_ok nmX2 (List.mem_of_getElem? (i := 1) rfl) rfl (by decide) rfl rfl (Nat.le_of_ble_eq_true rfl) (zw yI yL o ba pa la ra K V (aw + x)) rfl dX2_into_11 ?_
      refine ret _ _ _ dX2_into_14 ?_
      rfl
  | succ n ih =>
    intro V aw x h0
    refine xE_v (cc := cX2_into) (nL := 5) (by decide) rfl (Nat.le_of_ble_eq_true rfl) ?_
    intro p e s m args below meth c A Q F hnm ret
    have hin2 : ∀ w ∈ u_ws RX2 TX2 11, w ∈ wsX2_into := by decide +kernel
    show AW p l e (rm_X2_into (n + 1)) s m args below meth c 5 D A 0 0 Q (zw yI yL o ba pa la ra K V aw) [(0, .ref (o 0)), (1, .int (nI (n + 1) - 1)), (2, .int x)] 0 []
    refine xr_lveq (lv' := [(0, .ref (o 0)), (1, .int (nI n)), (2, .int x)]) (by rw [nI_pred]) ?_
    refine xr_iload_n F dX2_into_0 rfl 1 rfl ?_
    refine xr_if_ge F 15 dX2_into_1 (by decide) (fun c1 => ?_) (fun c1 => ?_)
    · skip
      refine xr_aload_n F dX2_into_15 rfl 0 rfl ?_
      refine xr_get F hin2 (0) rfl rfl 2 (by decide) (List.mem_of_getElem? (i := 2) rfl) (v := .ref (o 2)) rfl dX2_into_16 ?_
      refine xr_iload_n F dX2_into_19 rfl 1 rfl ?_
      refine xr_aald F (2) 2 rfl rfl rfl (n) rfl (by omega) (by decide) dX2_into_20 ?_
      refine xr_astore_n F [(3, .ref (pa n)), (0, .ref (o 0)), (1, .int (nI n)), (2, .int x)] dX2_into_21 rfl (by decide) rfl ?_
      refine xr_aload_n F dX2_into_22 rfl 0 rfl ?_
      refine xr_iconst F dX2_into_23 (v := 0) (by decide) ?_
      refine xr_dup2 F dX2_into_24 rfl rfl ?_
      refine xr_iald F (5 + n) 0 (zwx_p (by omega)) rfl (0) rfl (by decide) (by decide) dX2_into_25 ?_
      refine xr_top (y := (dLev V) n) rfl ?_
      refine xr_iload_n F dX2_into_26 rfl 3 rfl ?_
      refine xr_iadd F (((dLev V) n) + x) dX2_into_27 rfl ?_
      refine xr_iast F (5 + n) 0 (zwx_p (by omega)) rfl (0) rfl (by decide) (by decide) (zwx yI yL o ba pa la ra (kFee K) (kDry K) (kMill K) (kMark K) (kNb K) (kSpr K) (kGoal K) (dHour V) (dBank V) (upd (dLev V) n (((dLev V) n) + x)) (dOver V) (dDrawn V) (dFull V) (dLock V) (dFill V) (dAt V) (dPur V) (dSer V) aw) (zwx_sp0 (by omega)) dX2_into_28 ?_
      refine xr_aload_n F dX2_into_29 rfl 0 rfl ?_
      refine xr_iconst F dX2_into_30 (v := 0) (by decide) ?_
      refine xr_iald F (5 + n) 0 (zwx_p (by omega)) rfl (0) rfl (by decide) (by decide) dX2_into_31 ?_
      refine xr_top (y := ((dLev V) n) + x) pk_us ?_
      refine xr_bipush F dX2_into_32 (v := 100) (by decide) ?_
      refine xr_icmp_gt F 38 dX2_into_34 (by decide) (fun c34 => ?_) (fun c34 => ?_)
      · skip
        refine xr_aload_n F dX2_into_38 rfl 0 rfl ?_
        refine xr_iconst F dX2_into_39 (v := 0) (by decide) ?_
        refine xr_iald F (5 + n) 0 (zwx_p (by omega)) rfl (0) rfl (by decide) (by decide) dX2_into_40 ?_
        refine xr_top (y := ((dLev V) n) + x) pk_us ?_
        refine xr_bipush F dX2_into_41 (v := 100) (by decide) ?_
        refine xr_isub F ((((dLev V) n) + x) - 100) dX2_into_43 rfl ?_
        refine xr_istore F [(4, .int ((((dLev V) n) + x) - 100)), (3, .ref (pa n)), (0, .ref (o 0)), (1, .int (nI n)), (2, .int x)] dX2_into_44 (by decide) rfl ?_
        refine xr_aload_n F dX2_into_46 rfl 1 rfl ?_
        refine xr_iconst F dX2_into_47 (v := 0) (by decide) ?_
        refine xr_bipush F dX2_into_48 (v := 100) (by decide) ?_
        refine xr_iast F (5 + n) 0 (zwx_p (by omega)) rfl (0) rfl (by decide) (by decide) (zwx yI yL o ba pa la ra (kFee K) (kDry K) (kMill K) (kMark K) (kNb K) (kSpr K) (kGoal K) (dHour V) (dBank V) (upd (upd (dLev V) n (((dLev V) n) + x)) n 100) (dOver V) (dDrawn V) (dFull V) (dLock V) (dFill V) (dAt V) (dPur V) (dSer V) aw) (zwx_sp0 (by omega)) dX2_into_50 ?_
        refine xr_aload_n F dX2_into_51 rfl 1 rfl ?_
        refine xr_iconst F dX2_into_52 (v := 1) (by decide) ?_
        refine xr_dup2 F dX2_into_53 rfl rfl ?_
        refine xr_iald F (5 + n) 0 (zwx_p (by omega)) rfl (1) rfl (by decide) (by decide) dX2_into_54 ?_
        refine xr_top (y := (dOver V) n) rfl ?_
        refine xr_iload F dX2_into_55 0 rfl ?_
        refine xr_iadd F (((dOver V) n) + ((((dLev V) n) + x) - 100)) dX2_into_57 rfl ?_
        refine xr_iast F (5 + n) 0 (zwx_p (by omega)) rfl (1) rfl (by decide) (by decide) (zwx yI yL o ba pa la ra (kFee K) (kDry K) (kMill K) (kMark K) (kNb K) (kSpr K) (kGoal K) (dHour V) (dBank V) (upd (upd (dLev V) n (((dLev V) n) + x)) n 100) (upd (dOver V) n (((dOver V) n) + ((((dLev V) n) + x) - 100))) (dDrawn V) (dFull V) (dLock V) (dFill V) (dAt V) (dPur V) (dSer V) aw) (zwx_sp1 (by omega)) dX2_into_58 ?_
        refine xr_aload_n F dX2_into_59 rfl 2 rfl ?_
        refine xr_iload_n F dX2_into_60 rfl 3 rfl ?_
        refine xr_iconst F dX2_into_61 (v := 1) (by decide) ?_
        refine xr_isub F (nI n - 1) dX2_into_62 rfl ?_
        refine xr_iload F dX2_into_63 0 rfl ?_
        obtain ⟨V1, eV1⟩ : ∃ x9 : CD, x9 = (dHour V, dBank V, upd (upd (dLev V) n (((dLev V) n) + x)) n 100, upd (dOver V) n (((dOver V) n) + ((((dLev V) n) + x) - 100)), dDrawn V, dFull V, dLock V, dFill V, dAt V, dPur V, dSer V) := ⟨_, rfl⟩
        refine xr_ws (ws' := zw yI yL o ba pa la ra K V1 aw) (by rw [eV1, zw_mk]) ?_
        refine xr_ws (ws' := ([] : va_W) ++ ((zw yI yL o ba pa la ra K V1 aw) ++ (([] : va_W)))) (by first | (simp only [List.append_assoc, List.append_nil, List.nil_append]; done) | rfl | (simp only [List.append_assoc, List.append_nil, List.nil_append]; rfl)) ?_
        refine xr_mcVv F (rest := []) (As := [.int (nI n - 1), .int ((((dLev V) n) + x) - 100)]) (ih V1 aw ((((dLev V) n) + x) - 100) (by omega)) (cwV 2 F.hts gX2_into_X2_into rfl rfl rfl (by decide +kernel) ⟨by show n + 1 ≤ n + 1; omega, by show 8 + (5 + 11) + 24 * n ≤ 24 * (n + 1); omega⟩) (q0 := 0) rfl rfl (([] : va_W)) (([] : va_W)) rfl rfl rfl (Nat.le_of_ble_eq_true rfl) dX2_into_65 ⟨Nat.le_of_ble_eq_true rfl, Nat.le_of_ble_eq_true rfl⟩ (fun W1 z1 => ?_)
        obtain ⟨V2, eV2⟩ : ∃ x9 : CD, x9 = (z_into n ((((dLev V) n) + x) - 100) V1 aw).1 := ⟨_, rfl⟩
        rw [← eV2] at z1
        obtain ⟨x3, ex3⟩ : ∃ x9 : Int32, x9 = (z_into n ((((dLev V) n) + x) - 100) V1 aw).2 := ⟨_, rfl⟩
        rw [← ex3] at z1
        subst z1
        refine xr_ws (ws' := zw yI yL o ba pa la ra K V2 x3) (by first | (simp only [List.append_assoc, List.append_nil, List.nil_append]; done) | rfl | (simp only [List.append_assoc, List.append_nil, List.nil_append]; rfl)) ?_
        refine ret _ _ _ dX2_into_68 ?_
        rw [z_into, if_pos c34]
        subst ex3
        subst eV2
        subst eV1
        rfl
      · skip
        refine ret _ _ _ dX2_into_37 ?_
        rw [z_into, if_neg c34]
        rfl
    · exact absurd (nI_pos' (by omega)) c1
theorem k_X2_into (l : Launch) (D : va_G) (yI yZ yL : ClassId) (o : Nat → Nat) (ba : Nat) (pa la ra : Nat → Nat) (K : CK) (V : CD) (aw : Int32) (n : Nat) (x : Int32) (h0 : n ≤ 6) : xMv l yX2_into wsX2_into (rm_X2_into n) D (tysG yI yZ yL) (zw yI yL o ba pa la ra K V aw) [.ref (o 0), .int (nI n - 1), .int x] 0 0 (fun W1 : va_W => W1 = zw yI yL o ba pa la ra K (z_into n x V aw).1 (z_into n x V aw).2) := k_X2_intoN l D yI yZ yL o ba pa la ra K n V aw x h0

def rm_X2_turn : Room := { frames := 7, cells := 0, slots := 0, locals := 168 }
set_option maxHeartbeats 4000000 in
set_option maxRecDepth 100000 in
/-- turn -/
theorem k_X2_turn (l : Launch) (D : va_G) (yI yZ yL : ClassId) (o : Nat → Nat) (ba : Nat) (pa la ra : Nat → Nat) (K : CK) (V : CD) (aw : Int32) (k : Nat) (h0 : k < 5) : xMv l yX2_turn wsX2_turn rm_X2_turn D (tysG yI yZ yL) (zw yI yL o ba pa la ra K V aw) [.ref (o 0), .int (nI k)] 0 0 (fun W1 : va_W => W1 = zw yI yL o ba pa la ra K ((z_turn V aw k).1) ((z_turn V aw k).2)) := by
  refine xE_v (cc := cX2_turn) (nL := 3) (by decide) rfl (Nat.le_of_ble_eq_true rfl) ?_
  intro p e s m args below meth c A Q F hnm ret
  have hin2 : ∀ w ∈ u_ws RX2 TX2 11, w ∈ wsX2_turn := by decide +kernel
  show AW p l e rm_X2_turn s m args below meth c 3 D A 0 0 Q (zw yI yL o ba pa la ra K V aw) [(0, .ref (o 0)), (1, .int (nI k))] 0 []
  refine xr_aload_n F dX2_turn_0 rfl 0 rfl ?_
  refine xr_get F hin2 (0) rfl rfl 4 (by decide) (List.mem_of_getElem? (i := 1) rfl) (v := .ref (o 3)) rfl dX2_turn_1 ?_
  refine xr_iload_n F dX2_turn_4 rfl 1 rfl ?_
  refine xr_aald F (3) 2 rfl rfl rfl (k) rfl (by omega) (by decide) dX2_turn_5 ?_
  refine xr_astore_n F [(2, .ref (la k)), (0, .ref (o 0)), (1, .int (nI k))] dX2_turn_6 rfl (by decide) rfl ?_
  refine xr_aload_n F dX2_turn_7 rfl 0 rfl ?_
  refine xr_iconst F dX2_turn_8 (v := 0) (by decide) ?_
  refine xr_iald F (11 + k) 0 (zwx_l (by omega)) rfl (0) rfl (by decide) (by decide) dX2_turn_9 ?_
  refine xr_top (y := (dFull V) k) rfl ?_
  refine xr_iconst F dX2_turn_10 (v := 1) (by decide) ?_
  refine xr_icmp_ne F 28 dX2_turn_11 (by decide) (fun c11 => ?_) (fun c11 => ?_)
  · skip
    refine xr_aload_n F dX2_turn_28 rfl 1 rfl ?_
    refine xr_get F hin2 (0) rfl rfl 2 (by decide) (List.mem_of_getElem? (i := 2) rfl) (v := .ref (o 2)) rfl dX2_turn_29 ?_
    refine xr_iload_n F dX2_turn_32 rfl 2 rfl ?_
    refine xr_iconst F dX2_turn_33 (v := 1) (by decide) ?_
    refine xr_iadd F (nI (k + 1)) dX2_turn_34 (nI_add k 1) ?_
    refine xr_aald F (2) 2 rfl rfl rfl (k + 1) rfl (by omega) (by decide) dX2_turn_35 ?_
    refine xr_iconst F dX2_turn_36 (v := 0) (by decide) ?_
    refine xr_dup2 F dX2_turn_37 rfl rfl ?_
    refine xr_iald F (5 + (k + 1)) 0 (zwx_p (by omega)) rfl (0) rfl (by decide) (by decide) dX2_turn_38 ?_
    refine xr_top (y := (dLev V) (k + 1)) rfl ?_
    refine xr_bipush F dX2_turn_39 (v := 12) (by decide) ?_
    refine xr_isub F (((dLev V) (k + 1)) - 12) dX2_turn_41 rfl ?_
    refine xr_iast F (5 + (k + 1)) 0 (zwx_p (by omega)) rfl (0) rfl (by decide) (by decide) (zwx yI yL o ba pa la ra (kFee K) (kDry K) (kMill K) (kMark K) (kNb K) (kSpr K) (kGoal K) (dHour V) (dBank V) (upd (dLev V) (k + 1) (((dLev V) (k + 1)) - 12)) (dOver V) (dDrawn V) (dFull V) (dLock V) (dFill V) (dAt V) (dPur V) (dSer V) aw) (zwx_sp0 (by omega)) dX2_turn_42 ?_
    refine xr_aload_n F dX2_turn_43 rfl 0 rfl ?_
    refine xr_iconst F dX2_turn_44 (v := 0) (by decide) ?_
    refine xr_iconst F dX2_turn_45 (v := 1) (by decide) ?_
    refine xr_iast F (11 + k) 0 (zwx_l (by omega)) rfl (0) rfl (by decide) (by decide) (zwx yI yL o ba pa la ra (kFee K) (kDry K) (kMill K) (kMark K) (kNb K) (kSpr K) (kGoal K) (dHour V) (dBank V) (upd (dLev V) (k + 1) (((dLev V) (k + 1)) - 12)) (dOver V) (dDrawn V) (upd (dFull V) k 1) (dLock V) (dFill V) (dAt V) (dPur V) (dSer V) aw) (zwx_sl0 (by omega)) dX2_turn_46 ?_
    refine xr_aload_n F dX2_turn_47 rfl 0 rfl ?_
    refine xr_iconst F dX2_turn_48 (v := 2) (by decide) ?_
    refine xr_dup2 F dX2_turn_49 rfl rfl ?_
    refine xr_iald F (11 + k) 0 (zwx_l (by omega)) rfl (2) rfl (by decide) (by decide) dX2_turn_50 ?_
    refine xr_top (y := (dFill V) k) rfl ?_
    refine xr_bipush F dX2_turn_51 (v := 12) (by decide) ?_
    refine xr_iadd F (((dFill V) k) + 12) dX2_turn_53 rfl ?_
    refine xr_iast F (11 + k) 0 (zwx_l (by omega)) rfl (2) rfl (by decide) (by decide) (zwx yI yL o ba pa la ra (kFee K) (kDry K) (kMill K) (kMark K) (kNb K) (kSpr K) (kGoal K) (dHour V) (dBank V) (upd (dLev V) (k + 1) (((dLev V) (k + 1)) - 12)) (dOver V) (dDrawn V) (upd (dFull V) k 1) (dLock V) (upd (dFill V) k (((dFill V) k) + 12)) (dAt V) (dPur V) (dSer V) aw) (zwx_sl2 (by omega)) dX2_turn_54 ?_
    refine ret _ _ _ dX2_turn_55 ?_
    have f0 : (z_turn V aw k).1 = (dHour V, dBank V, upd (dLev V) (k + 1) (((dLev V) (k + 1)) - 12), dOver V, dDrawn V, upd (dFull V) k 1, dLock V, upd (dFill V) k (((dFill V) k) + 12), dAt V, dPur V, dSer V) := by
      simp only [z_turn, z_fill, c11, ↓reduceIte]
      try simp only [tHour, tBank, tLev, tOver, tDrawn, tFull, tLock, tFill, tAt, tPur, tSer, dHour, dBank, dLev, dOver, dDrawn, dFull, dLock, dFill, dAt, dPur, dSer]
    have f1 : (z_turn V aw k).2 = aw := by
      simp only [z_turn, z_fill, c11, ↓reduceIte]
      try simp only [tHour, tBank, tLev, tOver, tDrawn, tFull, tLock, tFill, tAt, tPur, tSer, dHour, dBank, dLev, dOver, dDrawn, dFull, dLock, dFill, dAt, dPur, dSer]
    rw [f0, f1, zw_mk]
  · skip
    refine xr_aload_n F dX2_turn_14 rfl 0 rfl ?_
    refine xr_iconst F dX2_turn_15 (v := 0) (by decide) ?_
    refine xr_iconst F dX2_turn_16 (v := 0) (by decide) ?_
    refine xr_iast F (11 + k) 0 (zwx_l (by omega)) rfl (0) rfl (by decide) (by decide) (zwx yI yL o ba pa la ra (kFee K) (kDry K) (kMill K) (kMark K) (kNb K) (kSpr K) (kGoal K) (dHour V) (dBank V) (dLev V) (dOver V) (dDrawn V) (upd (dFull V) k 0) (dLock V) (dFill V) (dAt V) (dPur V) (dSer V) aw) (zwx_sl0 (by omega)) dX2_turn_17 ?_
    refine xr_aload_n F dX2_turn_18 rfl 1 rfl ?_
    refine xr_iload_n F dX2_turn_19 rfl 2 rfl ?_
    refine xr_bipush F dX2_turn_20 (v := 12) (by decide) ?_
    refine xr_stk (st' := [.int 12, .int (nI (k + 1) - 1), .ref (o 0)]) (by rw [nI_pred]) ?_
    obtain ⟨V1, eV1⟩ : ∃ x9 : CD, x9 = (dHour V, dBank V, dLev V, dOver V, dDrawn V, upd (dFull V) k 0, dLock V, dFill V, dAt V, dPur V, dSer V) := ⟨_, rfl⟩
    refine xr_ws (ws' := zw yI yL o ba pa la ra K V1 aw) (by rw [eV1, zw_mk]) ?_
    refine xr_ws (ws' := ([] : va_W) ++ ((zw yI yL o ba pa la ra K V1 aw) ++ (([] : va_W)))) (by first | (simp only [List.append_assoc, List.append_nil, List.nil_append]; done) | rfl | (simp only [List.append_assoc, List.append_nil, List.nil_append]; rfl)) ?_
    refine xr_mcVv F (rest := []) (As := [.int (nI (k + 1) - 1), .int 12]) (k_X2_into l D yI yZ yL o ba pa la ra K V1 aw (k + 1) 12 (by omega)) (cwV 2 F.hts gX2_turn_X2_into rfl rfl rfl (by decide +kernel) ⟨Nat.le_trans (m := 7) (show (k + 1) + 1 ≤ 7 by omega) (Nat.le_of_ble_eq_true rfl), Nat.le_trans (m := 168) (show 8 + (5 + 11) + 24 * (k + 1) ≤ 168 by omega) (Nat.le_of_ble_eq_true rfl)⟩) (q0 := 0) rfl rfl (([] : va_W)) (([] : va_W)) rfl rfl rfl (Nat.le_of_ble_eq_true rfl) dX2_turn_22 ⟨Nat.le_of_ble_eq_true rfl, Nat.le_of_ble_eq_true rfl⟩ (fun W1 z1 => ?_)
    obtain ⟨V2, eV2⟩ : ∃ x9 : CD, x9 = (z_into (k + 1) 12 V1 aw).1 := ⟨_, rfl⟩
    rw [← eV2] at z1
    obtain ⟨x3, ex3⟩ : ∃ x9 : Int32, x9 = (z_into (k + 1) 12 V1 aw).2 := ⟨_, rfl⟩
    rw [← ex3] at z1
    subst z1
    refine xr_ws (ws' := zw yI yL o ba pa la ra K V2 x3) (by first | (simp only [List.append_assoc, List.append_nil, List.nil_append]; done) | rfl | (simp only [List.append_assoc, List.append_nil, List.nil_append]; rfl)) ?_
    refine xr_goto F 55 dX2_turn_25 (by decide) ?_
    refine ret _ _ _ dX2_turn_55 ?_
    have f0 : (z_turn V aw k).1 = V2 := by
      subst ex3
      subst eV2
      subst eV1
      simp only [z_turn, z_fill, c11, ↓reduceIte]
      try simp only [tHour, tBank, tLev, tOver, tDrawn, tFull, tLock, tFill, tAt, tPur, tSer, dHour, dBank, dLev, dOver, dDrawn, dFull, dLock, dFill, dAt, dPur, dSer]
    have f1 : (z_turn V aw k).2 = x3 := by
      subst ex3
      subst eV2
      subst eV1
      simp only [z_turn, z_fill, c11, ↓reduceIte]
      try simp only [tHour, tBank, tLev, tOver, tDrawn, tFull, tLock, tFill, tAt, tPur, tSer, dHour, dBank, dLev, dOver, dDrawn, dFull, dLock, dFill, dAt, dPur, dSer]
    rw [f0, f1]

def rm_X2_hasWater : Room := { frames := 0, cells := 0, slots := 0, locals := 0 }
set_option maxHeartbeats 4000000 in
set_option maxRecDepth 100000 in
/-- hasWater -/
theorem k_X2_hasWater (l : Launch) (D : va_G) (yI yZ yL : ClassId) (o : Nat → Nat) (ba : Nat) (pa la ra : Nat → Nat) (K : CK) (V : CD) (aw : Int32) (k : Nat) (h0 : k < 5) : xMi l yX2_hasWater wsX2_hasWater rm_X2_hasWater D (tysG yI yZ yL) (zw yI yL o ba pa la ra K V aw) [.ref (o 0), .int (nI k)] 0 0 (fun (r : Int32) (W1 : va_W) => r = z_has V k ∧ W1 = zw yI yL o ba pa la ra K V aw) := by
  refine xE_z (cc := cX2_hasWater) (nL := 2) (by decide) rfl (Nat.le_of_ble_eq_true rfl) ?_
  intro p e s m args below meth c A Q F hnm ret
  have hin2 : ∀ w ∈ u_ws RX2 TX2 11, w ∈ wsX2_hasWater := by decide +kernel
  show AW p l e rm_X2_hasWater s m args below meth c 2 D A 0 0 Q (zw yI yL o ba pa la ra K V aw) [(0, .ref (o 0)), (1, .int (nI k))] 0 []
  refine xr_aload_n F dX2_hasWater_0 rfl 0 rfl ?_
  refine xr_get F hin2 (0) rfl rfl 2 (by decide) (List.mem_of_getElem? (i := 1) rfl) (v := .ref (o 2)) rfl dX2_hasWater_1 ?_
  refine xr_iload_n F dX2_hasWater_4 rfl 1 rfl ?_
  refine xr_iconst F dX2_hasWater_5 (v := 1) (by decide) ?_
  refine xr_iadd F (nI (k + 1)) dX2_hasWater_6 (nI_add k 1) ?_
  refine xr_aald F (2) 2 rfl rfl rfl (k + 1) rfl (by omega) (by decide) dX2_hasWater_7 ?_
  refine xr_iconst F dX2_hasWater_8 (v := 0) (by decide) ?_
  refine xr_iald F (5 + (k + 1)) 0 (zwx_p (by omega)) rfl (0) rfl (by decide) (by decide) dX2_hasWater_9 ?_
  refine xr_top (y := (dLev V) (k + 1)) rfl ?_
  refine xr_bipush F dX2_hasWater_10 (v := 12) (by decide) ?_
  refine xr_isub F (((dLev V) (k + 1)) - 12) dX2_hasWater_12 rfl ?_
  refine xr_bipush F dX2_hasWater_13 (v := 20) (by decide) ?_
  refine xr_icmp_lt F 22 dX2_hasWater_15 (by decide) (fun c15 => ?_) (fun c15 => ?_)
  · skip
    refine xr_iconst F dX2_hasWater_22 (v := 0) (by decide) ?_
    refine ret _ _ _ _ dX2_hasWater_23 rfl ⟨?_, rfl⟩
    first | with_reducible rfl | (simp only [z_has, c15, ↓reduceIte]; done) | (simp only [z_has, c15, ↓reduceIte]; rfl) | rfl
  · skip
    refine xr_iconst F dX2_hasWater_18 (v := 1) (by decide) ?_
    refine xr_goto F 23 dX2_hasWater_19 (by decide) ?_
    refine ret _ _ _ _ dX2_hasWater_23 rfl ⟨?_, rfl⟩
    first | with_reducible rfl | (simp only [z_has, c15, ↓reduceIte]; done) | (simp only [z_has, c15, ↓reduceIte]; rfl) | rfl

def rm_X2_lockOf : Room := { frames := 0, cells := 0, slots := 0, locals := 0 }
set_option maxHeartbeats 4000000 in
set_option maxRecDepth 100000 in
/-- lockOf -/
theorem k_X2_lockOf (l : Launch) (D : va_G) (yI yZ yL : ClassId) (o : Nat → Nat) (ba : Nat) (pa la ra : Nat → Nat) (K : CK) (V : CD) (aw : Int32) (b : Nat) (h0 : b < kNb K) : xMi l yX2_lockOf wsX2_lockOf rm_X2_lockOf D (tysG yI yZ yL) (zw yI yL o ba pa la ra K V aw) [.ref (o 0), .ref (ra b)] 0 0 (fun (r : Int32) (W1 : va_W) => r = z_lock K V b ∧ W1 = zw yI yL o ba pa la ra K V aw) := by
  refine xE_i (cc := cX2_lockOf) (nL := 2) (by decide) rfl (Nat.le_of_ble_eq_true rfl) ?_
  intro p e s m args below meth c A Q F hnm ret
  show AW p l e rm_X2_lockOf s m args below meth c 2 D A 0 0 Q (zw yI yL o ba pa la ra K V aw) [(0, .ref (o 0)), (1, .ref (ra b))] 0 []
  refine xr_aload_n F dX2_lockOf_0 rfl 1 rfl ?_
  refine xr_iconst F dX2_lockOf_1 (v := 0) (by decide) ?_
  refine xr_iald F (16 + b) 0 (zwx_r (by omega)) rfl (0) rfl (by decide) (by decide) dX2_lockOf_2 ?_
  refine xr_top (y := (dAt V) b) rfl ?_
  refine xr_aload_n F dX2_lockOf_3 rfl 1 rfl ?_
  refine xr_iconst F dX2_lockOf_4 (v := 1) (by decide) ?_
  refine xr_iald F (16 + b) 0 (zwx_r (by omega)) rfl (1) rfl (by decide) (by decide) dX2_lockOf_5 ?_
  refine xr_top (y := (kGoal K) b) rfl ?_
  refine xr_icmp_ne F 11 dX2_lockOf_6 (by decide) (fun c6 => ?_) (fun c6 => ?_)
  · skip
    refine xr_aload_n F dX2_lockOf_11 rfl 1 rfl ?_
    refine xr_iconst F dX2_lockOf_12 (v := 1) (by decide) ?_
    refine xr_iald F (16 + b) 0 (zwx_r (by omega)) rfl (1) rfl (by decide) (by decide) dX2_lockOf_13 ?_
    refine xr_top (y := (kGoal K) b) rfl ?_
    refine xr_aload_n F dX2_lockOf_14 rfl 1 rfl ?_
    refine xr_iconst F dX2_lockOf_15 (v := 0) (by decide) ?_
    refine xr_iald F (16 + b) 0 (zwx_r (by omega)) rfl (0) rfl (by decide) (by decide) dX2_lockOf_16 ?_
    refine xr_top (y := (dAt V) b) rfl ?_
    refine xr_icmp_le F 26 dX2_lockOf_17 (by decide) (fun c17 => ?_) (fun c17 => ?_)
    · skip
      refine xr_aload_n F dX2_lockOf_26 rfl 1 rfl ?_
      refine xr_iconst F dX2_lockOf_27 (v := 0) (by decide) ?_
      refine xr_iald F (16 + b) 0 (zwx_r (by omega)) rfl (0) rfl (by decide) (by decide) dX2_lockOf_28 ?_
      refine xr_top (y := (dAt V) b) rfl ?_
      refine xr_iconst F dX2_lockOf_29 (v := 1) (by decide) ?_
      refine xr_isub F (((dAt V) b) - 1) dX2_lockOf_30 rfl ?_
      refine ret _ _ _ _ dX2_lockOf_31 ⟨?_, rfl⟩
      first | with_reducible rfl | (simp only [z_lock, c6, c17, ↓reduceIte]; done) | (simp only [z_lock, c6, c17, ↓reduceIte]; rfl) | rfl
    · skip
      refine xr_aload_n F dX2_lockOf_20 rfl 1 rfl ?_
      refine xr_iconst F dX2_lockOf_21 (v := 0) (by decide) ?_
      refine xr_iald F (16 + b) 0 (zwx_r (by omega)) rfl (0) rfl (by decide) (by decide) dX2_lockOf_22 ?_
      refine xr_top (y := (dAt V) b) rfl ?_
      refine xr_goto F 31 dX2_lockOf_23 (by decide) ?_
      refine ret _ _ _ _ dX2_lockOf_31 ⟨?_, rfl⟩
      first | with_reducible rfl | (simp only [z_lock, c6, c17, ↓reduceIte]; done) | (simp only [z_lock, c6, c17, ↓reduceIte]; rfl) | rfl
  · skip
    refine xr_iconst F dX2_lockOf_9 (v := (-1)) (by decide) ?_
    refine ret _ _ _ _ dX2_lockOf_10 ⟨?_, rfl⟩
    first | with_reducible rfl | (simp only [z_lock, c6, ↓reduceIte]; done) | (simp only [z_lock, c6, ↓reduceIte]; rfl) | rfl

def rm_X2_rank : Room := { frames := 1, cells := 0, slots := 0, locals := 21 }
set_option maxHeartbeats 4000000 in
set_option maxRecDepth 100000 in
/-- rank -/
theorem k_X2_rank (l : Launch) (D : va_G) (yI yZ yL : ClassId) (o : Nat → Nat) (ba : Nat) (pa la ra : Nat → Nat) (K : CK) (V : CD) (aw : Int32) (b : Nat) (k : Nat) (h0 : b < kNb K) (h1 : k < 5) : xMi l yX2_rank wsX2_rank rm_X2_rank D (tysG yI yZ yL) (zw yI yL o ba pa la ra K V aw) [.ref (o 0), .ref (ra b), .int (nI k)] 0 0 (fun (r : Int32) (W1 : va_W) => r = z_rank K V b k ∧ W1 = zw yI yL o ba pa la ra K V aw) := by
  refine xE_i (cc := cX2_rank) (nL := 5) (by decide) rfl (Nat.le_of_ble_eq_true rfl) ?_
  intro p e s m args below meth c A Q F hnm ret
  have hin2 : ∀ w ∈ u_ws RX2 TX2 11, w ∈ wsX2_rank := by decide +kernel
  show AW p l e rm_X2_rank s m args below meth c 5 D A 0 0 Q (zw yI yL o ba pa la ra K V aw) [(0, .ref (o 0)), (1, .ref (ra b)), (2, .int (nI k))] 0 []
  refine xr_aload_n F dX2_rank_0 rfl 0 rfl ?_
  refine xr_aload_n F dX2_rank_1 rfl 1 rfl ?_
  refine xr_ws (ws' := ([] : va_W) ++ ((zw yI yL o ba pa la ra K V aw) ++ (([] : va_W)))) (by first | (simp only [List.append_assoc, List.append_nil, List.nil_append]; done) | rfl | (simp only [List.append_assoc, List.append_nil, List.nil_append]; rfl)) ?_
  refine xr_mcVi F (rest := []) (As := [.ref (ra b)]) (k_X2_lockOf l D yI yZ yL o ba pa la ra K V aw b (by omega)) (cwV 1 F.hts gX2_rank_X2_lockOf rfl rfl rfl (by decide +kernel) ⟨Nat.le_of_ble_eq_true rfl, Nat.le_of_ble_eq_true rfl⟩) (q0 := 0) rfl rfl (([] : va_W)) (([] : va_W)) rfl rfl rfl (Nat.le_of_ble_eq_true rfl) dX2_rank_2 ⟨Nat.le_of_ble_eq_true rfl, Nat.le_of_ble_eq_true rfl⟩ (fun r1 W1 z1 => ?_)
  obtain ⟨z0, z1⟩ := z1
  subst z0
  subst z1
  refine xr_ws (ws' := zw yI yL o ba pa la ra K V aw) (by first | (simp only [List.append_assoc, List.append_nil, List.nil_append]; done) | rfl | (simp only [List.append_assoc, List.append_nil, List.nil_append]; rfl)) ?_
  refine xr_iload_n F dX2_rank_5 rfl 2 rfl ?_
  refine xr_icmp_ne F 19 dX2_rank_6 (by decide) (fun c6 => ?_) (fun c6 => ?_)
  · skip
    refine xr_iconst F dX2_rank_19 (v := 0) (by decide) ?_
    refine ret _ _ _ _ dX2_rank_20 ⟨?_, rfl⟩
    first | with_reducible rfl | (simp only [z_rank, z_rank2, z_rankU, z_rankD, c6, ↓reduceIte]; done) | (simp only [z_rank, z_rank2, z_rankU, z_rankD, c6, ↓reduceIte]; rfl) | rfl
  · skip
    refine xr_aload_n F dX2_rank_9 rfl 1 rfl ?_
    refine xr_iconst F dX2_rank_10 (v := 2) (by decide) ?_
    refine xr_iald F (16 + b) 0 (zwx_r (by omega)) rfl (2) rfl (by decide) (by decide) dX2_rank_11 ?_
    refine xr_top (y := (dPur V) b) rfl ?_
    refine xr_aload_n F dX2_rank_12 rfl 0 rfl ?_
    refine xr_get F hin2 (0) rfl rfl 8 (by decide) (List.mem_of_getElem? (i := 1) rfl) (v := .int (kFee K)) rfl dX2_rank_13 ?_
    refine xr_icmp_ge F 21 dX2_rank_16 (by decide) (fun c16 => ?_) (fun c16 => ?_)
    · skip
      refine xr_aload_n F dX2_rank_21 rfl 1 rfl ?_
      refine xr_iconst F dX2_rank_22 (v := 1) (by decide) ?_
      refine xr_iald F (16 + b) 0 (zwx_r (by omega)) rfl (1) rfl (by decide) (by decide) dX2_rank_23 ?_
      refine xr_top (y := (kGoal K) b) rfl ?_
      refine xr_aload_n F dX2_rank_24 rfl 1 rfl ?_
      refine xr_iconst F dX2_rank_25 (v := 0) (by decide) ?_
      refine xr_iald F (16 + b) 0 (zwx_r (by omega)) rfl (0) rfl (by decide) (by decide) dX2_rank_26 ?_
      refine xr_top (y := (dAt V) b) rfl ?_
      refine xr_icmp_ge F 34 dX2_rank_27 (by decide) (fun c27 => ?_) (fun c27 => ?_)
      · skip
        refine xr_iconst F dX2_rank_34 (v := 0) (by decide) ?_
        refine xr_istore_n F [(3, .int 0), (0, .ref (o 0)), (1, .ref (ra b)), (2, .int (nI k))] dX2_rank_35 rfl (by decide) rfl ?_
        refine xr_aload_n F dX2_rank_36 rfl 1 rfl ?_
        refine xr_get F hin2 (0) rfl rfl 4 (by decide) (List.mem_of_getElem? (i := 2) rfl) (v := .ref (o 3)) rfl dX2_rank_37 ?_
        refine xr_iload_n F dX2_rank_40 rfl 3 rfl ?_
        refine xr_aald F (3) 2 rfl rfl rfl (k) rfl (by omega) (by decide) dX2_rank_41 ?_
        refine xr_iconst F dX2_rank_42 (v := 0) (by decide) ?_
        refine xr_iald F (11 + k) 0 (zwx_l (by omega)) rfl (0) rfl (by decide) (by decide) dX2_rank_43 ?_
        refine xr_top (y := (dFull V) k) rfl ?_
        refine xr_iconst F dX2_rank_44 (v := 1) (by decide) ?_
        refine xr_icmp_ne F 52 dX2_rank_45 (by decide) (fun c45 => ?_) (fun c45 => ?_)
        · skip
          refine xr_iconst F dX2_rank_52 (v := 0) (by decide) ?_
          refine xr_istore F [(4, .int 0), (3, .int 0), (0, .ref (o 0)), (1, .ref (ra b)), (2, .int (nI k))] dX2_rank_53 (by decide) rfl ?_
          refine xr_iload_n F dX2_rank_55 rfl 1 rfl ?_
          refine xr_if_eq F 66 dX2_rank_56 (by decide) (fun c56 => ?_) (fun c56 => ?_)
          · skip
            refine xr_aload_n F dX2_rank_66 rfl 2 rfl ?_
            refine xr_iload_n F dX2_rank_67 rfl 4 rfl ?_
            refine xr_ws (ws' := ([] : va_W) ++ ((zw yI yL o ba pa la ra K V aw) ++ (([] : va_W)))) (by first | (simp only [List.append_assoc, List.append_nil, List.nil_append]; done) | rfl | (simp only [List.append_assoc, List.append_nil, List.nil_append]; rfl)) ?_
            refine xr_mcVz F (rest := []) (As := [.int (nI k)]) (k_X2_hasWater l D yI yZ yL o ba pa la ra K V aw k (by omega)) (cwV 1 F.hts gX2_rank_X2_hasWater rfl rfl rfl (by decide +kernel) ⟨Nat.le_of_ble_eq_true rfl, Nat.le_of_ble_eq_true rfl⟩) (q0 := 0) rfl rfl (([] : va_W)) (([] : va_W)) rfl rfl rfl (Nat.le_of_ble_eq_true rfl) dX2_rank_68 ⟨Nat.le_of_ble_eq_true rfl, Nat.le_of_ble_eq_true rfl⟩ (fun r1 W1 z1 => ?_)
            obtain ⟨z0, z1⟩ := z1
            subst z0
            subst z1
            refine xr_ws (ws' := zw yI yL o ba pa la ra K V aw) (by first | (simp only [List.append_assoc, List.append_nil, List.nil_append]; done) | rfl | (simp only [List.append_assoc, List.append_nil, List.nil_append]; rfl)) ?_
            refine xr_if_ne F 76 dX2_rank_71 (by decide) (fun c71 => ?_) (fun c71 => ?_)
            · skip
              refine xr_iload_n F dX2_rank_76 rfl 1 rfl ?_
              refine xr_if_ne F 87 dX2_rank_77 (by decide) (fun c77 => ?_) (fun c77 => ?_)
              · exact absurd rfl c77
              · skip
                refine xr_iload F dX2_rank_80 0 rfl ?_
                refine xr_if_ne F 87 dX2_rank_82 (by decide) (fun c82 => ?_) (fun c82 => ?_)
                · exact absurd rfl c82
                · skip
                  refine xr_iconst F dX2_rank_85 (v := 2) (by decide) ?_
                  refine ret _ _ _ _ dX2_rank_86 ⟨?_, rfl⟩
                  first | with_reducible rfl | (simp only [z_rank, z_rank2, z_rankU, z_rankD, c6, c16, c27, c45, c71, ↓reduceIte]; done) | (simp only [z_rank, z_rank2, z_rankU, z_rankD, c6, c16, c27, c45, c71, ↓reduceIte]; rfl) | rfl
            · skip
              refine xr_iconst F dX2_rank_74 (v := 0) (by decide) ?_
              refine ret _ _ _ _ dX2_rank_75 ⟨?_, rfl⟩
              first | with_reducible rfl | (simp only [z_rank, z_rank2, z_rankU, z_rankD, c6, c16, c27, c45, c71, ↓reduceIte]; done) | (simp only [z_rank, z_rank2, z_rankU, z_rankD, c6, c16, c27, c45, c71, ↓reduceIte]; rfl) | rfl
          · exact absurd (by decide) c56
        · skip
          refine xr_iconst F dX2_rank_48 (v := 1) (by decide) ?_
          refine xr_goto F 53 dX2_rank_49 (by decide) ?_
          refine xr_istore F [(4, .int 1), (3, .int 0), (0, .ref (o 0)), (1, .ref (ra b)), (2, .int (nI k))] dX2_rank_53 (by decide) rfl ?_
          refine xr_iload_n F dX2_rank_55 rfl 1 rfl ?_
          refine xr_if_eq F 66 dX2_rank_56 (by decide) (fun c56 => ?_) (fun c56 => ?_)
          · skip
            refine xr_aload_n F dX2_rank_66 rfl 2 rfl ?_
            refine xr_iload_n F dX2_rank_67 rfl 4 rfl ?_
            refine xr_ws (ws' := ([] : va_W) ++ ((zw yI yL o ba pa la ra K V aw) ++ (([] : va_W)))) (by first | (simp only [List.append_assoc, List.append_nil, List.nil_append]; done) | rfl | (simp only [List.append_assoc, List.append_nil, List.nil_append]; rfl)) ?_
            refine xr_mcVz F (rest := []) (As := [.int (nI k)]) (k_X2_hasWater l D yI yZ yL o ba pa la ra K V aw k (by omega)) (cwV 1 F.hts gX2_rank_X2_hasWater rfl rfl rfl (by decide +kernel) ⟨Nat.le_of_ble_eq_true rfl, Nat.le_of_ble_eq_true rfl⟩) (q0 := 0) rfl rfl (([] : va_W)) (([] : va_W)) rfl rfl rfl (Nat.le_of_ble_eq_true rfl) dX2_rank_68 ⟨Nat.le_of_ble_eq_true rfl, Nat.le_of_ble_eq_true rfl⟩ (fun r1 W1 z1 => ?_)
            obtain ⟨z0, z1⟩ := z1
            subst z0
            subst z1
            refine xr_ws (ws' := zw yI yL o ba pa la ra K V aw) (by first | (simp only [List.append_assoc, List.append_nil, List.nil_append]; done) | rfl | (simp only [List.append_assoc, List.append_nil, List.nil_append]; rfl)) ?_
            refine xr_if_ne F 76 dX2_rank_71 (by decide) (fun c71 => ?_) (fun c71 => ?_)
            · skip
              refine xr_iload_n F dX2_rank_76 rfl 1 rfl ?_
              refine xr_if_ne F 87 dX2_rank_77 (by decide) (fun c77 => ?_) (fun c77 => ?_)
              · exact absurd rfl c77
              · skip
                refine xr_iload F dX2_rank_80 0 rfl ?_
                refine xr_if_ne F 87 dX2_rank_82 (by decide) (fun c82 => ?_) (fun c82 => ?_)
                · skip
                  refine xr_aload_n F dX2_rank_87 rfl 2 rfl ?_
                  refine xr_get F hin2 (0) rfl rfl 7 (by decide) (List.mem_of_getElem? (i := 3) rfl) (v := .int (kDry K)) rfl dX2_rank_88 ?_
                  refine xr_if_eq F 98 dX2_rank_91 (by decide) (fun c91 => ?_) (fun c91 => ?_)
                  · skip
                    refine xr_iconst F dX2_rank_98 (v := 1) (by decide) ?_
                    refine ret _ _ _ _ dX2_rank_99 ⟨?_, rfl⟩
                    first | with_reducible rfl | (simp only [z_rank, z_rank2, z_rankU, z_rankD, c6, c16, c27, c45, c71, c91, ↓reduceIte]; done) | (simp only [z_rank, z_rank2, z_rankU, z_rankD, c6, c16, c27, c45, c71, c91, ↓reduceIte]; rfl) | rfl
                  · skip
                    refine xr_iconst F dX2_rank_94 (v := 0) (by decide) ?_
                    refine xr_goto F 99 dX2_rank_95 (by decide) ?_
                    refine ret _ _ _ _ dX2_rank_99 ⟨?_, rfl⟩
                    first | with_reducible rfl | (simp only [z_rank, z_rank2, z_rankU, z_rankD, c6, c16, c27, c45, c71, c91, ↓reduceIte]; done) | (simp only [z_rank, z_rank2, z_rankU, z_rankD, c6, c16, c27, c45, c71, c91, ↓reduceIte]; rfl) | rfl
                · exact absurd c82 (by decide)
            · skip
              refine xr_iconst F dX2_rank_74 (v := 0) (by decide) ?_
              refine ret _ _ _ _ dX2_rank_75 ⟨?_, rfl⟩
              first | with_reducible rfl | (simp only [z_rank, z_rank2, z_rankU, z_rankD, c6, c16, c27, c45, c71, ↓reduceIte]; done) | (simp only [z_rank, z_rank2, z_rankU, z_rankD, c6, c16, c27, c45, c71, ↓reduceIte]; rfl) | rfl
          · exact absurd (by decide) c56
      · skip
        refine xr_iconst F dX2_rank_30 (v := 1) (by decide) ?_
        refine xr_goto F 35 dX2_rank_31 (by decide) ?_
        refine xr_istore_n F [(3, .int 1), (0, .ref (o 0)), (1, .ref (ra b)), (2, .int (nI k))] dX2_rank_35 rfl (by decide) rfl ?_
        refine xr_aload_n F dX2_rank_36 rfl 1 rfl ?_
        refine xr_get F hin2 (0) rfl rfl 4 (by decide) (List.mem_of_getElem? (i := 2) rfl) (v := .ref (o 3)) rfl dX2_rank_37 ?_
        refine xr_iload_n F dX2_rank_40 rfl 3 rfl ?_
        refine xr_aald F (3) 2 rfl rfl rfl (k) rfl (by omega) (by decide) dX2_rank_41 ?_
        refine xr_iconst F dX2_rank_42 (v := 0) (by decide) ?_
        refine xr_iald F (11 + k) 0 (zwx_l (by omega)) rfl (0) rfl (by decide) (by decide) dX2_rank_43 ?_
        refine xr_top (y := (dFull V) k) rfl ?_
        refine xr_iconst F dX2_rank_44 (v := 1) (by decide) ?_
        refine xr_icmp_ne F 52 dX2_rank_45 (by decide) (fun c45 => ?_) (fun c45 => ?_)
        · skip
          refine xr_iconst F dX2_rank_52 (v := 0) (by decide) ?_
          refine xr_istore F [(4, .int 0), (3, .int 1), (0, .ref (o 0)), (1, .ref (ra b)), (2, .int (nI k))] dX2_rank_53 (by decide) rfl ?_
          refine xr_iload_n F dX2_rank_55 rfl 1 rfl ?_
          refine xr_if_eq F 66 dX2_rank_56 (by decide) (fun c56 => ?_) (fun c56 => ?_)
          · exact absurd c56 (by decide)
          · skip
            refine xr_iload F dX2_rank_59 0 rfl ?_
            refine xr_if_eq F 66 dX2_rank_61 (by decide) (fun c61 => ?_) (fun c61 => ?_)
            · skip
              refine xr_aload_n F dX2_rank_66 rfl 2 rfl ?_
              refine xr_iload_n F dX2_rank_67 rfl 4 rfl ?_
              refine xr_ws (ws' := ([] : va_W) ++ ((zw yI yL o ba pa la ra K V aw) ++ (([] : va_W)))) (by first | (simp only [List.append_assoc, List.append_nil, List.nil_append]; done) | rfl | (simp only [List.append_assoc, List.append_nil, List.nil_append]; rfl)) ?_
              refine xr_mcVz F (rest := []) (As := [.int (nI k)]) (k_X2_hasWater l D yI yZ yL o ba pa la ra K V aw k (by omega)) (cwV 1 F.hts gX2_rank_X2_hasWater rfl rfl rfl (by decide +kernel) ⟨Nat.le_of_ble_eq_true rfl, Nat.le_of_ble_eq_true rfl⟩) (q0 := 0) rfl rfl (([] : va_W)) (([] : va_W)) rfl rfl rfl (Nat.le_of_ble_eq_true rfl) dX2_rank_68 ⟨Nat.le_of_ble_eq_true rfl, Nat.le_of_ble_eq_true rfl⟩ (fun r1 W1 z1 => ?_)
              obtain ⟨z0, z1⟩ := z1
              subst z0
              subst z1
              refine xr_ws (ws' := zw yI yL o ba pa la ra K V aw) (by first | (simp only [List.append_assoc, List.append_nil, List.nil_append]; done) | rfl | (simp only [List.append_assoc, List.append_nil, List.nil_append]; rfl)) ?_
              refine xr_if_ne F 76 dX2_rank_71 (by decide) (fun c71 => ?_) (fun c71 => ?_)
              · skip
                refine xr_iload_n F dX2_rank_76 rfl 1 rfl ?_
                refine xr_if_ne F 87 dX2_rank_77 (by decide) (fun c77 => ?_) (fun c77 => ?_)
                · skip
                  refine xr_aload_n F dX2_rank_87 rfl 2 rfl ?_
                  refine xr_get F hin2 (0) rfl rfl 7 (by decide) (List.mem_of_getElem? (i := 3) rfl) (v := .int (kDry K)) rfl dX2_rank_88 ?_
                  refine xr_if_eq F 98 dX2_rank_91 (by decide) (fun c91 => ?_) (fun c91 => ?_)
                  · skip
                    refine xr_iconst F dX2_rank_98 (v := 1) (by decide) ?_
                    refine ret _ _ _ _ dX2_rank_99 ⟨?_, rfl⟩
                    first | with_reducible rfl | (simp only [z_rank, z_rank2, z_rankU, z_rankD, c6, c16, c27, c45, c71, c91, ↓reduceIte]; done) | (simp only [z_rank, z_rank2, z_rankU, z_rankD, c6, c16, c27, c45, c71, c91, ↓reduceIte]; rfl) | rfl
                  · skip
                    refine xr_iconst F dX2_rank_94 (v := 0) (by decide) ?_
                    refine xr_goto F 99 dX2_rank_95 (by decide) ?_
                    refine ret _ _ _ _ dX2_rank_99 ⟨?_, rfl⟩
                    first | with_reducible rfl | (simp only [z_rank, z_rank2, z_rankU, z_rankD, c6, c16, c27, c45, c71, c91, ↓reduceIte]; done) | (simp only [z_rank, z_rank2, z_rankU, z_rankD, c6, c16, c27, c45, c71, c91, ↓reduceIte]; rfl) | rfl
                · exact absurd c77 (by decide)
              · skip
                refine xr_iconst F dX2_rank_74 (v := 0) (by decide) ?_
                refine ret _ _ _ _ dX2_rank_75 ⟨?_, rfl⟩
                first | with_reducible rfl | (simp only [z_rank, z_rank2, z_rankU, z_rankD, c6, c16, c27, c45, c71, ↓reduceIte]; done) | (simp only [z_rank, z_rank2, z_rankU, z_rankD, c6, c16, c27, c45, c71, ↓reduceIte]; rfl) | rfl
            · exact absurd (by decide) c61
        · skip
          refine xr_iconst F dX2_rank_48 (v := 1) (by decide) ?_
          refine xr_goto F 53 dX2_rank_49 (by decide) ?_
          refine xr_istore F [(4, .int 1), (3, .int 1), (0, .ref (o 0)), (1, .ref (ra b)), (2, .int (nI k))] dX2_rank_53 (by decide) rfl ?_
          refine xr_iload_n F dX2_rank_55 rfl 1 rfl ?_
          refine xr_if_eq F 66 dX2_rank_56 (by decide) (fun c56 => ?_) (fun c56 => ?_)
          · exact absurd c56 (by decide)
          · skip
            refine xr_iload F dX2_rank_59 0 rfl ?_
            refine xr_if_eq F 66 dX2_rank_61 (by decide) (fun c61 => ?_) (fun c61 => ?_)
            · exact absurd c61 (by decide)
            · skip
              refine xr_iconst F dX2_rank_64 (v := 2) (by decide) ?_
              refine ret _ _ _ _ dX2_rank_65 ⟨?_, rfl⟩
              first | with_reducible rfl | (simp only [z_rank, z_rank2, z_rankU, z_rankD, c6, c16, c27, c45, ↓reduceIte]; done) | (simp only [z_rank, z_rank2, z_rankU, z_rankD, c6, c16, c27, c45, ↓reduceIte]; rfl) | rfl
    · skip
      refine xr_iconst F dX2_rank_19 (v := 0) (by decide) ?_
      refine ret _ _ _ _ dX2_rank_20 ⟨?_, rfl⟩
      first | with_reducible rfl | (simp only [z_rank, z_rank2, z_rankU, z_rankD, c6, c16, ↓reduceIte]; done) | (simp only [z_rank, z_rank2, z_rankU, z_rankD, c6, c16, ↓reduceIte]; rfl) | rfl
