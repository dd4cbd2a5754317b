def rm_J9_floorMod_7cf53 : Room := { frames := 0, cells := 0, slots := 0, locals := 0 }
set_option maxHeartbeats 4000000 in
set_option maxRecDepth 100000 in
/-- Math.floorMod of an hour and 8 -/
theorem k_J9_floorMod_7cf53 (l : Launch) (D : va_G) (yI yZ yL : ClassId) (h : Nat) (h0 : h < 2147483648) : xMi l yJ9_floorMod_7cf53 wsJ9_floorMod_7cf53 rm_J9_floorMod_7cf53 D (tysG yI yZ yL) [] [.int (nI h), .int 8] 0 0 (fun (r : Int32) (W1 : va_W) => r = nI (h % 8) ∧ W1 = []) := by
  refine xE_iF (cc := cJ9_floorMod_7cf53) (nL := 3) (by decide +kernel) rfl (Nat.le_of_ble_eq_true rfl) ?_
  intro p e s m args below meth c A Q F hnm ret
  show AW p l e rm_J9_floorMod_7cf53 s m args below meth c 3 D A 0 0 Q [] [(0, .int (nI h)), (1, .int 8)] 0 []
  refine xr_iload_n F dJ9_floorMod_7cf53_0 rfl 0 rfl ?_
  refine xr_iload_n F dJ9_floorMod_7cf53_1 rfl 1 rfl ?_
  refine xr_irem F (nI (h % 8)) dJ9_floorMod_7cf53_2 (by decide) (pk_rem (a := h) (d := 8) h0 (by decide) (by decide)) ?_
  refine xr_istore_n F [(2, .int (nI (h % 8))), (0, .int (nI h)), (1, .int 8)] dJ9_floorMod_7cf53_3 rfl (by decide) rfl ?_
  refine xr_iload_n F dJ9_floorMod_7cf53_4 rfl 1 rfl ?_
  refine xr_iload_n F dJ9_floorMod_7cf53_5 rfl 2 rfl ?_
  refine xr_ixor F (nI (h ^^^ 8)) dJ9_floorMod_7cf53_6 (xk_xor h 8) ?_
  refine xr_if_ge F 18 dJ9_floorMod_7cf53_7 (by decide) (fun c7 => ?_) (fun c7 => ?_)
  · skip
    refine xr_iload_n F dJ9_floorMod_7cf53_18 rfl 0 rfl ?_
    refine ret _ _ _ _ dJ9_floorMod_7cf53_19 ⟨?_, rfl⟩
    first | rfl | (simp only [c7, ↓reduceIte]; done) | (simp only [c7, ↓reduceIte]; rfl)
  · exact absurd (xk_fmod h0) c7

def rm_X0_goHour : Room := { frames := 4, cells := 0, slots := 0, locals := 91 }
set_option maxHeartbeats 4000000 in
set_option maxRecDepth 100000 in
/-- goHour -/
theorem k_X0_goHour (l : Launch) (D : va_G) (yI yZ yL : ClassId) (a : Nat → Nat) (K : CK) (V : CD)  (h0 : kNb K ≤ 10) (h1 : kMill K ≤ 6) (h2 : dHour V < 2147483648) : xMi l yX0_goHour wsX0_goHour rm_X0_goHour D (tysG yI yZ yL) (cw yI yZ a K V) [.ref (a 0)] 0 0 (fun (r : Int32) (W1 : va_W) => r = (c_hour K V).2 ∧ W1 = cw yI yZ a K ((c_hour K V).1)) := by
  refine xE_i (cc := cX0_goHour) (nL := 5) (by decide) rfl (Nat.le_of_ble_eq_true rfl) ?_
  intro p e s m args below meth c A Q F hnm ret
  have hin0 : ∀ w ∈ u_ws RX0 TX0 18, w ∈ wsX0_goHour := by decide +kernel
  show AW p l e rm_X0_goHour s m args below meth c 5 D A 0 0 Q (cw yI yZ a K V) [(0, .ref (a 0))] 0 []
  refine xr_aload_n F dX0_goHour_0 rfl 0 rfl ?_
  refine xr_iconst F dX0_goHour_1 (v := nI 6 - 1) (by decide) ?_
  refine xr_aload_n F dX0_goHour_2 rfl 0 rfl ?_
  refine xr_get F hin0 0 rfl rfl 6 (by decide) (List.mem_of_getElem? (i := 1) rfl) (v := .ref (a 1)) rfl dX0_goHour_3 ?_
  refine xr_aload_n F dX0_goHour_6 rfl 0 rfl ?_
  refine xr_get F hin0 0 rfl rfl 0 (by decide) (List.mem_of_getElem? (i := 2) rfl) (v := .int (nI (dHour V))) rfl dX0_goHour_7 ?_
  refine xr_bipush F dX0_goHour_10 (v := 8) (by decide) ?_
  refine xr_callSi F (wr := cw yI yZ a K V) (rest := [.ref (a 1), .int (nI 6 - 1), .ref (a 0)]) (As := [.int (nI (dHour V)), .int 8]) (k_J9_floorMod_7cf53 l D yI yZ yL (dHour V) (by assumption)) (va_cwS 2 F.hts gX0_goHour_J9_floorMod_7cf53 rfl rfl rfl (by decide +kernel) ⟨Nat.le_of_ble_eq_true rfl, Nat.le_of_ble_eq_true rfl⟩) [] [0, 1, 2, 3, 4, 5, 6, 7, 8, 9, 10, 11] rfl rfl (by decide) (by decide) (by decide) rfl rfl (Nat.le_of_ble_eq_true rfl) dX0_goHour_12 ⟨Nat.le_of_ble_eq_true rfl, Nat.le_of_ble_eq_true rfl⟩ (fun r1 W1 z1 => ?_)
  obtain ⟨z0, z1⟩ := z1
  subst z0
  subst z1
  refine xr_ws (ws' := cw yI yZ a K V) rfl ?_
  refine xr_iald F 1 0 rfl rfl ((dHour V) % 8) rfl (Nat.mod_lt _ (by decide)) (by decide) dX0_goHour_15 ?_
  refine xr_callVv F (wr := ([] : va_W)) (rest := []) (As := [.int (nI 6 - 1), .int ((kSpr K) ((dHour V) % 8))]) (k_X0_pour l D yI yZ yL a K V 6 ((kSpr K) ((dHour V) % 8)) (by decide)) (cwV 2 F.hts gX0_goHour_X0_pour rfl rfl rfl (by decide +kernel) ⟨Nat.le_of_ble_eq_true rfl, Nat.le_of_ble_eq_true rfl⟩) (q0 := 0) rfl rfl [0, 1, 2, 3, 4, 5, 6, 7, 8, 9, 10, 11] [] rfl rfl (by decide) (by decide) (by decide) rfl rfl (Nat.le_of_ble_eq_true rfl) dX0_goHour_16 ⟨Nat.le_of_ble_eq_true rfl, Nat.le_of_ble_eq_true rfl⟩ (fun W1 z1 => ?_)
  obtain ⟨V1, eV1⟩ : ∃ x9 : CD, x9 = c_pour V 6 ((kSpr K) ((dHour V) % 8)) := ⟨_, rfl⟩
  rw [← eV1] at z1
  subst z1
  refine xr_ws (ws' := cw yI yZ a K V1) rfl ?_
  refine xr_aload_n F dX0_goHour_19 rfl 0 rfl ?_
  refine xr_callVv F (wr := ([] : va_W)) (rest := []) (As := []) (k_X0_turnMill l D yI yZ yL a K V1 (by assumption)) (cwV 0 F.hts gX0_goHour_X0_turnMill rfl rfl rfl (by decide +kernel) ⟨Nat.le_of_ble_eq_true rfl, Nat.le_of_ble_eq_true rfl⟩) (q0 := 0) rfl rfl [0, 1, 2, 3, 4, 5, 6, 7, 8, 9, 10, 11] [] rfl rfl (by decide) (by decide) (by decide) rfl rfl (Nat.le_of_ble_eq_true rfl) dX0_goHour_20 ⟨Nat.le_of_ble_eq_true rfl, Nat.le_of_ble_eq_true rfl⟩ (fun W1 z1 => ?_)
  obtain ⟨V2, eV2⟩ : ∃ x9 : CD, x9 = c_mill K V1 := ⟨_, rfl⟩
  rw [← eV2] at z1
  subst z1
  refine xr_ws (ws' := cw yI yZ a K V2) rfl ?_
  refine xr_iconst F dX0_goHour_23 (v := 0) (by decide) ?_
  refine xr_istore_n F [(1, .int 0), (0, .ref (a 0))] dX0_goHour_24 rfl (by decide) rfl ?_
  refine xr_iconst F dX0_goHour_25 (v := 0) (by decide) ?_
  refine xr_istore_n F [(2, .int 0), (1, .int 0), (0, .ref (a 0))] dX0_goHour_26 rfl (by decide) rfl ?_
  refine xr_iconst F dX0_goHour_27 (v := nI 5 - 1) (by decide) ?_
  refine xr_istore_n F [(3, .int (nI 5 - 1)), (2, .int 0), (1, .int 0), (0, .ref (a 0))] dX0_goHour_28 rfl (by decide) rfl ?_
  have lp : ∀ (i : Nat) (U : CD) (sb : Int32) (sv : Int32), i ≤ 5 → c_hourL K i U sb sv = c_hourL K 5 (c_hourA K V) 0 0 → AW p l e rm_X0_goHour s m args below meth c 5 D A 0 0 Q (cw yI yZ a K U) [(3, .int (nI i - 1)), (2, .int sb), (1, .int sv), (0, .ref (a 0))] 29 [] := by
    intro i
    induction i with
    | zero =>
      intro U sb sv hn hi
      refine xr_iload_n F dX0_goHour_29 rfl 0 rfl ?_
      refine xr_if_lt F 70 dX0_goHour_30 (by decide) (fun c30 => ?_) (fun c30 => ?_)
      · skip
        refine xr_aload_n F dX0_goHour_70 rfl 3 rfl ?_
        refine xr_dup F dX0_goHour_71 rfl ?_
        refine xr_get F hin0 0 rfl rfl 0 (by decide) (List.mem_of_getElem? (i := 2) rfl) (v := .int (nI (dHour U))) rfl dX0_goHour_72 ?_
        refine xr_iconst F dX0_goHour_75 (v := 1) (by decide) ?_
        refine xr_iadd F (nI (dHour U + 1)) dX0_goHour_76 (nI_add (dHour U) 1) ?_
        refine xr_put (ty := .int) F hin0 0 rfl rfl 0 (by decide) tyX0 tyX0_ok nmX0 (List.mem_of_getElem? (i := 2) rfl) rfl (by decide) rfl rfl (Nat.le_of_ble_eq_true rfl) (cwx yI yZ a (kFee K) (kDry K) (kMill K) (kMark K) (kNb K) (kSpr K) (kGoal K) (dHour U + 1) (dBank U) (dLev U) (dOver U) (dDrawn U) (dFull U) (dLock U) (dFill U) (dAt U) (dPur U) (dSer U)) rfl dX0_goHour_77 ?_
        refine xr_iload_n F dX0_goHour_80 rfl 2 rfl ?_
        refine ret _ _ _ _ dX0_goHour_81 ⟨?_, ?_⟩
        · unfold c_hour
          rw [← hi]; rfl
        · have e9 : (c_hour K V).1 = (dHour U + 1, dBank U, dLev U, dOver U, dDrawn U, dFull U, dLock U, dFill U, dAt U, dPur U, dSer U) := by
            unfold c_hour
            rw [← hi]; rfl
          rw [e9, cw_mk]
      · exact absurd (by decide) c30
    | succ i ih =>
      intro U sb sv hn hi
      refine xr_lveq (lv' := [(3, .int (nI i)), (2, .int sb), (1, .int sv), (0, .ref (a 0))]) (by rw [nI_pred]) ?_
      refine xr_iload_n F dX0_goHour_29 rfl 0 rfl ?_
      refine xr_if_lt F 70 dX0_goHour_30 (by decide) (fun c30 => ?_) (fun c30 => ?_)
      · exact absurd c30 (nI_pos (by omega))
      · skip
        refine xr_aload_n F dX0_goHour_33 rfl 3 rfl ?_
        refine xr_iload_n F dX0_goHour_34 rfl 0 rfl ?_
        refine xr_iload_n F dX0_goHour_35 rfl 1 rfl ?_
        refine xr_callVi F (wr := ([] : va_W)) (rest := []) (As := [.int (nI i), .int sb]) (k_X0_nextBarge l D yI yZ yL a K U i sb (by omega) (by assumption)) (cwV 2 F.hts gX0_goHour_X0_nextBarge rfl rfl rfl (by decide +kernel) ⟨Nat.le_of_ble_eq_true rfl, Nat.le_of_ble_eq_true rfl⟩) (q0 := 0) rfl rfl [0, 1, 2, 3, 4, 5, 6, 7, 8, 9, 10, 11] [] rfl rfl (by decide) (by decide) (by decide) rfl rfl (Nat.le_of_ble_eq_true rfl) dX0_goHour_36 ⟨Nat.le_of_ble_eq_true rfl, Nat.le_of_ble_eq_true rfl⟩ (fun r1 W1 z1 => ?_)
        obtain ⟨z0, z1⟩ := z1
        subst z0
        subst z1
        refine xr_ws (ws' := cw yI yZ a K U) rfl ?_
        refine xr_istore F [(4, .int (c_next K U i sb)), (3, .int (nI i)), (2, .int sb), (1, .int sv), (0, .ref (a 0))] dX0_goHour_39 (by decide) rfl ?_
        refine xr_iload F dX0_goHour_41 0 rfl ?_
        refine xr_iconst F dX0_goHour_43 (v := (-1)) (by decide) ?_
        refine xr_icmp_eq F 64 dX0_goHour_44 (by decide) (fun c44 => ?_) (fun c44 => ?_)
        · skip
          refine xr_iinc F (nI i - 1) [(3, .int (nI i - 1)), (4, .int (c_next K U i sb)), (2, .int sb), (1, .int sv), (0, .ref (a 0))] dX0_goHour_64 1 rfl (xk_m1 (nI i)) (by decide) rfl ?_
          refine xr_goto F 29 dX0_goHour_67 (by decide) ?_
          refine xr_lv (lv' := [(3, .int (nI i - 1)), (2, .int sb), (1, .int sv), (0, .ref (a 0))]) [0, 2, 3, 4] rfl ?_
          exact ih U sb sv (by omega) (by rw [← hi, c_hourL, if_pos c44])
        · skip
          obtain ⟨q, hq, eq⟩ := c_next_some c44
          refine xr_lveq (lv' := [(4, .int (nI q)), (3, .int (nI i)), (2, .int sb), (1, .int sv), (0, .ref (a 0))]) (by rw [eq]) ?_
          refine xr_aload_n F dX0_goHour_47 rfl 4 rfl ?_
          refine xr_iload_n F dX0_goHour_48 rfl 1 rfl ?_
          refine xr_iload F dX0_goHour_49 0 rfl ?_
          refine xr_callVv F (wr := ([] : va_W)) (rest := []) (As := [.int (nI i), .int (nI q)]) (k_X0_serve l D yI yZ yL a K U i q (by omega) (by omega)) (cwV 2 F.hts gX0_goHour_X0_serve rfl rfl rfl (by decide +kernel) ⟨Nat.le_of_ble_eq_true rfl, Nat.le_of_ble_eq_true rfl⟩) (q0 := 0) rfl rfl [0, 1, 2, 3, 4, 5, 6, 7, 8, 9, 10, 11] [] rfl rfl (by decide) (by decide) (by decide) rfl rfl (Nat.le_of_ble_eq_true rfl) dX0_goHour_51 ⟨Nat.le_of_ble_eq_true rfl, Nat.le_of_ble_eq_true rfl⟩ (fun W1 z1 => ?_)
          obtain ⟨V3, eV3⟩ : ∃ x9 : CD, x9 = c_serve K U i q := ⟨_, rfl⟩
          rw [← eV3] at z1
          subst z1
          refine xr_ws (ws' := cw yI yZ a K V3) rfl ?_
          refine xr_iload_n F dX0_goHour_54 rfl 2 rfl ?_
          refine xr_iconst F dX0_goHour_55 (v := 1) (by decide) ?_
          refine xr_iload F dX0_goHour_56 0 rfl ?_
          refine xr_ishl F (1 <<< ((nI q) &&& 31)) dX0_goHour_58 rfl ?_
          refine xr_ior F (sb ||| (1 <<< ((nI q) &&& 31))) dX0_goHour_59 rfl ?_
          refine xr_istore_n F [(2, .int (sb ||| (1 <<< ((nI q) &&& 31)))), (4, .int (nI q)), (3, .int (nI i)), (1, .int sv), (0, .ref (a 0))] dX0_goHour_60 rfl (by decide) rfl ?_
          refine xr_iinc F (sv + 1) [(1, .int (sv + 1)), (2, .int (sb ||| (1 <<< ((nI q) &&& 31)))), (4, .int (nI q)), (3, .int (nI i)), (0, .ref (a 0))] dX0_goHour_61 3 rfl rfl (by decide) rfl ?_
          refine xr_iinc F (nI i - 1) [(3, .int (nI i - 1)), (1, .int (sv + 1)), (2, .int (sb ||| (1 <<< ((nI q) &&& 31)))), (4, .int (nI q)), (0, .ref (a 0))] dX0_goHour_64 3 rfl (xk_m1 (nI i)) (by decide) rfl ?_
          refine xr_goto F 29 dX0_goHour_67 (by decide) ?_
          refine xr_lv (lv' := [(3, .int (nI i - 1)), (2, .int (sb ||| (1 <<< ((nI q) &&& 31)))), (1, .int (sv + 1)), (0, .ref (a 0))]) [0, 2, 1, 4] rfl ?_
          subst eV3
          exact ih (c_serve K U i q) (sb ||| (1 <<< ((nI q) &&& 31))) (sv + 1) (by omega) (by rw [← hi, c_hourL, if_neg c44, eq, nI_clamp (by omega)])
  refine xr_lv (lv' := [(3, .int (nI 5 - 1)), (2, .int 0), (1, .int 0), (0, .ref (a 0))]) [0, 1, 2, 3] rfl ?_
  exact lp 5 V2 0 0 (by omega) (by subst eV2; subst eV1; rfl)

def rm_X0_goHours : Room := { frames := 5, cells := 0, slots := 0, locals := 115 }
set_option maxHeartbeats 4000000 in
set_option maxRecDepth 100000 in
/-- goHours -/
theorem k_X0_goHours (l : Launch) (D : va_G) (yI yZ yL : ClassId) (a : Nat → Nat) (K : CK) (V : CD) (n : Nat) (h0 : kNb K ≤ 10) (h1 : kMill K ≤ 6) (h2 : n < 2147483648) (h3 : dHour V + n < 2147483648) : xMi l yX0_goHours wsX0_goHours rm_X0_goHours D (tysG yI yZ yL) (cw yI yZ a K V) [.ref (a 0), .int (nI n)] 0 0 (fun (r : Int32) (W1 : va_W) => r = (c_hours K n V 0).2 ∧ W1 = cw yI yZ a K ((c_hours K n V 0).1)) := by
  refine xE_i (cc := cX0_goHours) (nL := 4) (by decide) rfl (Nat.le_of_ble_eq_true rfl) ?_
  intro p e s m args below meth c A Q F hnm ret
  have hin0 : ∀ w ∈ u_ws RX0 TX0 18, w ∈ wsX0_goHours := by decide +kernel
  show AW p l e rm_X0_goHours s m args below meth c 4 D A 0 0 Q (cw yI yZ a K V) [(0, .ref (a 0)), (1, .int (nI n))] 0 []
  refine xr_iconst F dX0_goHours_0 (v := 0) (by decide) ?_
  refine xr_istore_n F [(2, .int 0), (0, .ref (a 0)), (1, .int (nI n))] dX0_goHours_1 rfl (by decide) rfl ?_
  refine xr_iconst F dX0_goHours_2 (v := 0) (by decide) ?_
  refine xr_istore_n F [(3, .int 0), (2, .int 0), (0, .ref (a 0)), (1, .int (nI n))] dX0_goHours_3 rfl (by decide) rfl ?_
  have lp : ∀ (i : Nat) (U : CD) (b : Nat) (r : Int32), i + b = n → dHour U + i < 2147483648 → c_hours K i U r = c_hours K n V 0 → AW p l e rm_X0_goHours s m args below meth c 4 D A 0 0 Q (cw yI yZ a K U) [(3, .int (nI b)), (2, .int r), (0, .ref (a 0)), (1, .int (nI n))] 4 [] := by
    intro i
    induction i with
    | zero =>
      intro U b r hb hh hi
      refine xr_iload_n F dX0_goHours_4 rfl 0 rfl ?_
      refine xr_iload_n F dX0_goHours_5 rfl 3 rfl ?_
      refine xr_icmp_ge F 22 dX0_goHours_6 (by decide) (fun c6 => ?_) (fun c6 => ?_)
      · skip
        refine xr_iload_n F dX0_goHours_22 rfl 1 rfl ?_
        refine ret _ _ _ _ dX0_goHours_23 ⟨?_, ?_⟩
        · rw [← hi]; rfl
        · rw [← hi]; rfl
      · exact (xk_ge (a := n) (b := b) (by omega) (by omega) c6).elim
    | succ i ih =>
      intro U b r hb hh hi
      refine xr_iload_n F dX0_goHours_4 rfl 0 rfl ?_
      refine xr_iload_n F dX0_goHours_5 rfl 3 rfl ?_
      refine xr_icmp_ge F 22 dX0_goHours_6 (by decide) (fun c6 => ?_) (fun c6 => ?_)
      · exact (xk_nlt (a := b) (b := n) (by omega) (by omega) (by omega) c6).elim
      · skip
        refine xr_iload_n F dX0_goHours_9 rfl 1 rfl ?_
        refine xr_aload_n F dX0_goHours_10 rfl 2 rfl ?_
        refine xr_callVi F (wr := ([] : va_W)) (rest := [.int r]) (As := []) (k_X0_goHour l D yI yZ yL a K U (by assumption) (by assumption) (by omega)) (cwV 0 F.hts gX0_goHours_X0_goHour rfl rfl rfl (by decide +kernel) ⟨Nat.le_of_ble_eq_true rfl, Nat.le_of_ble_eq_true rfl⟩) (q0 := 0) rfl rfl [0, 1, 2, 3, 4, 5, 6, 7, 8, 9, 10, 11] [] rfl rfl (by decide) (by decide) (by decide) rfl rfl (Nat.le_of_ble_eq_true rfl) dX0_goHours_11 ⟨Nat.le_of_ble_eq_true rfl, Nat.le_of_ble_eq_true rfl⟩ (fun r1 W1 z1 => ?_)
        obtain ⟨z0, z1⟩ := z1
        subst z0
        obtain ⟨V1, eV1⟩ : ∃ x9 : CD, x9 = (c_hour K U).1 := ⟨_, rfl⟩
        rw [← eV1] at z1
        subst z1
        refine xr_ws (ws' := cw yI yZ a K V1) rfl ?_
        refine xr_iadd F (r + ((c_hour K U).2)) dX0_goHours_14 rfl ?_
        refine xr_istore_n F [(2, .int (r + ((c_hour K U).2))), (3, .int (nI b)), (0, .ref (a 0)), (1, .int (nI n))] dX0_goHours_15 rfl (by decide) rfl ?_
        refine xr_iinc F (nI (b + 1)) [(3, .int (nI (b + 1))), (2, .int (r + ((c_hour K U).2))), (0, .ref (a 0)), (1, .int (nI n))] dX0_goHours_16 1 rfl (nI_add b 1) (by decide) rfl ?_
        refine xr_goto F 4 dX0_goHours_19 (by decide) ?_
        refine xr_lv (lv' := [(3, .int (nI (b + 1))), (2, .int (r + ((c_hour K U).2))), (0, .ref (a 0)), (1, .int (nI n))]) [0, 1, 2, 3] rfl ?_
        subst eV1
        exact ih (c_hour K U).1 (b + 1) (r + ((c_hour K U).2)) (by omega) (by rw [dHour_hour]; omega) (by rw [← hi, c_hours])
  refine xr_lv (lv' := [(3, .int 0), (2, .int 0), (0, .ref (a 0)), (1, .int (nI n))]) [0, 1, 2, 3] rfl ?_
  exact lp n V 0 0 rfl h3 rfl
