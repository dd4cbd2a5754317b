def rm_X2_next : Room := { frames := 2, cells := 0, slots := 0, locals := 45 }
set_option maxHeartbeats 4000000 in
set_option maxRecDepth 100000 in
/-- next -/
theorem k_X2_next (l : Launch) (D : va_G) (yI yZ yL : ClassId) (o : Nat → Nat) (ba : Nat) (pa la ra : Nat → Nat) (K : CK) (V : CD) (aw : Int32) (k : Nat) (wa : Nat) (wf : Nat → Int32) (h0 : k < 5) (h1 : kNb K ≤ 10) : xMi l yX2_next wsX2_next rm_X2_next D (tysG yI yZ yL) (zw yI yL o ba pa la ra K V aw ++ (([(wa, .inl (yZ, (kNb K), .inl wf))] : va_W))) [.ref (o 0), .int (nI k), .ref wa] 0 0 (fun (r : Int32) (W1 : va_W) => r = z_next K V k wf ∧ W1 = zw yI yL o ba pa la ra K V aw ++ (([(wa, .inl (yZ, (kNb K), .inl wf))] : va_W))) := by
  refine xE_i (cc := cX2_next) (nL := 7) (by decide) rfl (Nat.le_of_ble_eq_true rfl) ?_
  intro p e s m args below meth c A Q F hnm ret
  have hin2 : ∀ w ∈ u_ws RX2 TX2 11, w ∈ wsX2_next := by decide +kernel
  show AW p l e rm_X2_next s m args below meth c 7 D A 0 0 Q (zw yI yL o ba pa la ra K V aw ++ (([(wa, .inl (yZ, (kNb K), .inl wf))] : va_W))) [(0, .ref (o 0)), (1, .int (nI k)), (2, .ref wa)] 0 []
  refine xr_iconst F dX2_next_0 (v := (-1)) (by decide) ?_
  refine xr_istore_n F [(3, .int ((-1))), (0, .ref (o 0)), (1, .int (nI k)), (2, .ref wa)] dX2_next_1 rfl (by decide) rfl ?_
  refine xr_iconst F dX2_next_2 (v := 0) (by decide) ?_
  refine xr_istore F [(4, .int 0), (3, .int ((-1))), (0, .ref (o 0)), (1, .int (nI k)), (2, .ref wa)] dX2_next_3 (by decide) rfl ?_
  refine xr_aload_n F dX2_next_5 rfl 2 rfl ?_
  refine xr_get F hin2 (0) rfl rfl 10 (by decide) (List.mem_of_getElem? (i := 1) rfl) (v := .ref ba) rfl dX2_next_6 ?_
  refine xr_alen F (4) 2 rfl rfl (v := nI (kNb K)) rfl dX2_next_9 ?_
  refine xr_iconst F dX2_next_10 (v := 1) (by decide) ?_
  refine xr_isub F ((nI (kNb K)) - 1) dX2_next_11 rfl ?_
  refine xr_istore F [(5, .int ((nI (kNb K)) - 1)), (4, .int 0), (3, .int ((-1))), (0, .ref (o 0)), (1, .int (nI k)), (2, .ref wa)] dX2_next_12 (by decide) rfl ?_
  have lp : ∀ (i : Nat) (best : Int32) (rk : Int32), i ≤ kNb K → z_nextL K V k wf i best rk = z_next K V k wf → AW p l e rm_X2_next s m args below meth c 7 D A 0 0 Q (zw yI yL o ba pa la ra K V aw ++ (([(wa, .inl (yZ, (kNb K), .inl wf))] : va_W))) [(5, .int (nI i - 1)), (3, .int best), (4, .int rk), (0, .ref (o 0)), (1, .int (nI k)), (2, .ref wa)] 14 [] := by
    intro i
    induction i with
    | zero =>
      intro best rk hn hi
      refine xr_iload F dX2_next_14 0 rfl ?_
      refine xr_if_lt F 72 dX2_next_16 (by decide) (fun c16 => ?_) (fun c16 => ?_)
      · skip
        refine xr_iload_n F dX2_next_72 rfl 1 rfl ?_
        exact ret _ _ _ _ dX2_next_73 ⟨hi, rfl⟩
      · exact absurd (by decide) c16
    | succ i ih =>
      intro best rk hn hi
      refine xr_lveq (lv' := [(5, .int (nI i)), (3, .int best), (4, .int rk), (0, .ref (o 0)), (1, .int (nI k)), (2, .ref wa)]) (by rw [nI_pred]) ?_
      refine xr_iload F dX2_next_14 0 rfl ?_
      refine xr_if_lt F 72 dX2_next_16 (by decide) (fun c16 => ?_) (fun c16 => ?_)
      · exact absurd c16 (nI_pos (by omega))
      · skip
        refine xr_aload_n F dX2_next_19 rfl 5 rfl ?_
        refine xr_iload F dX2_next_20 0 rfl ?_
        refine xr_zald F (16 + (kNb K) + (0)) 1 (w_skip (16 + (kNb K)) (zw_len _ _ _ _ _ _ _ _ _ _) rfl) rfl (i) rfl (by omega) (by omega) dX2_next_22 ?_
        refine xr_if_eq F 30 dX2_next_23 (by decide) (fun c23 => ?_) (fun c23 => ?_)
        · skip
          refine xr_aload_n F dX2_next_30 rfl 3 rfl ?_
          refine xr_aload_n F dX2_next_31 rfl 3 rfl ?_
          refine xr_get F hin2 (0) rfl rfl 10 (by decide) (List.mem_of_getElem? (i := 1) rfl) (v := .ref ba) rfl dX2_next_32 ?_
          refine xr_iload F dX2_next_35 0 rfl ?_
          refine xr_aald F (4) 2 rfl rfl rfl (i) rfl (by omega) (by omega) dX2_next_37 ?_
          refine xr_iload_n F dX2_next_38 rfl 4 rfl ?_
          refine xr_ws (ws' := ([] : va_W) ++ ((zw yI yL o ba pa la ra K V aw) ++ (([(wa, .inl (yZ, (kNb K), .inl wf))] : va_W)))) (by first | (simp only [List.append_assoc, List.append_nil, List.nil_append]; done) | rfl | (simp only [List.append_assoc, List.append_nil, List.nil_append]; rfl)) ?_
          refine xr_mcVi F (rest := []) (As := [.ref (ra i), .int (nI k)]) (k_X2_rank l D yI yZ yL o ba pa la ra K V aw i k (by omega) (by omega)) (cwV 2 F.hts gX2_next_X2_rank rfl rfl rfl (by decide +kernel) ⟨Nat.le_of_ble_eq_true rfl, Nat.le_of_ble_eq_true rfl⟩) (q0 := 0) rfl rfl (([] : va_W)) (([(wa, .inl (yZ, (kNb K), .inl wf))] : va_W)) rfl rfl rfl (Nat.le_of_ble_eq_true rfl) dX2_next_39 ⟨Nat.le_of_ble_eq_true rfl, Nat.le_of_ble_eq_true rfl⟩ (fun r1 W1 z1 => ?_)
          obtain ⟨z0, z1⟩ := z1
          subst z0
          subst z1
          refine xr_ws (ws' := zw yI yL o ba pa la ra K V aw ++ (([(wa, .inl (yZ, (kNb K), .inl wf))] : va_W))) (by first | (simp only [List.append_assoc, List.append_nil, List.nil_append]; done) | rfl | (simp only [List.append_assoc, List.append_nil, List.nil_append]; rfl)) ?_
          refine xr_istore F [(6, .int (z_rank K V i k)), (5, .int (nI i)), (3, .int best), (4, .int rk), (0, .ref (o 0)), (1, .int (nI k)), (2, .ref wa)] dX2_next_42 (by decide) rfl ?_
          refine xr_iload F dX2_next_44 0 rfl ?_
          refine xr_if_eq F 66 dX2_next_46 (by decide) (fun c46 => ?_) (fun c46 => ?_)
          · skip
            refine xr_iinc F (nI i - 1) [(5, .int (nI i - 1)), (6, .int (z_rank K V i k)), (3, .int best), (4, .int rk), (0, .ref (o 0)), (1, .int (nI k)), (2, .ref wa)] dX2_next_66 1 rfl (xk_m1 (nI i)) (by decide) rfl ?_
            refine xr_goto F 14 dX2_next_69 (by decide) ?_
            refine xr_lv (lv' := [(5, .int (nI i - 1)), (3, .int best), (4, .int rk), (0, .ref (o 0)), (1, .int (nI k)), (2, .ref wa)]) [0, 2, 3, 4, 5, 6] rfl ?_
            exact ih best rk (by omega) (by rw [← hi]; simp only [z_nextL, c16, c23, c46, ↓reduceIte])
          · skip
            refine xr_iload F dX2_next_49 0 rfl ?_
            refine xr_iload F dX2_next_51 3 rfl ?_
            refine xr_icmp_ge F 59 dX2_next_53 (by decide) (fun c53 => ?_) (fun c53 => ?_)
            · skip
              refine xr_iload F dX2_next_59 1 rfl ?_
              refine xr_istore_n F [(3, .int (nI i)), (6, .int (z_rank K V i k)), (5, .int (nI i)), (4, .int rk), (0, .ref (o 0)), (1, .int (nI k)), (2, .ref wa)] dX2_next_61 rfl (by decide) rfl ?_
              refine xr_iload F dX2_next_62 1 rfl ?_
              refine xr_istore F [(4, .int (z_rank K V i k)), (3, .int (nI i)), (6, .int (z_rank K V i k)), (5, .int (nI i)), (0, .ref (o 0)), (1, .int (nI k)), (2, .ref wa)] dX2_next_64 (by decide) rfl ?_
              refine xr_iinc F (nI i - 1) [(5, .int (nI i - 1)), (4, .int (z_rank K V i k)), (3, .int (nI i)), (6, .int (z_rank K V i k)), (0, .ref (o 0)), (1, .int (nI k)), (2, .ref wa)] dX2_next_66 3 rfl (xk_m1 (nI i)) (by decide) rfl ?_
              refine xr_goto F 14 dX2_next_69 (by decide) ?_
              refine xr_lv (lv' := [(5, .int (nI i - 1)), (3, .int (nI i)), (4, .int (z_rank K V i k)), (0, .ref (o 0)), (1, .int (nI k)), (2, .ref wa)]) [0, 2, 1, 4, 5, 6] rfl ?_
              exact ih (nI i) (z_rank K V i k) (by omega) (by rw [← hi]; simp only [z_nextL, c16, c23, c46, c53, ↓reduceIte])
            · skip
              refine xr_goto F 66 dX2_next_56 (by decide) ?_
              refine xr_iinc F (nI i - 1) [(5, .int (nI i - 1)), (6, .int (z_rank K V i k)), (3, .int best), (4, .int rk), (0, .ref (o 0)), (1, .int (nI k)), (2, .ref wa)] dX2_next_66 1 rfl (xk_m1 (nI i)) (by decide) rfl ?_
              refine xr_goto F 14 dX2_next_69 (by decide) ?_
              refine xr_lv (lv' := [(5, .int (nI i - 1)), (3, .int best), (4, .int rk), (0, .ref (o 0)), (1, .int (nI k)), (2, .ref wa)]) [0, 2, 3, 4, 5, 6] rfl ?_
              exact ih best rk (by omega) (by rw [← hi]; simp only [z_nextL, c16, c23, c46, c53, ↓reduceIte])
        · skip
          refine xr_iconst F dX2_next_26 (v := 0) (by decide) ?_
          refine xr_goto F 42 dX2_next_27 (by decide) ?_
          refine xr_istore F [(6, .int 0), (5, .int (nI i)), (3, .int best), (4, .int rk), (0, .ref (o 0)), (1, .int (nI k)), (2, .ref wa)] dX2_next_42 (by decide) rfl ?_
          refine xr_iload F dX2_next_44 0 rfl ?_
          refine xr_if_eq F 66 dX2_next_46 (by decide) (fun c46 => ?_) (fun c46 => ?_)
          · skip
            refine xr_iinc F (nI i - 1) [(5, .int (nI i - 1)), (6, .int 0), (3, .int best), (4, .int rk), (0, .ref (o 0)), (1, .int (nI k)), (2, .ref wa)] dX2_next_66 1 rfl (xk_m1 (nI i)) (by decide) rfl ?_
            refine xr_goto F 14 dX2_next_69 (by decide) ?_
            refine xr_lv (lv' := [(5, .int (nI i - 1)), (3, .int best), (4, .int rk), (0, .ref (o 0)), (1, .int (nI k)), (2, .ref wa)]) [0, 2, 3, 4, 5, 6] rfl ?_
            exact ih best rk (by omega) (by rw [← hi]; simp only [z_nextL, c16, c23, ↓reduceIte])
          · exact absurd (by decide) c46
  refine xr_lv (lv' := [(5, .int ((nI (kNb K)) - 1)), (3, .int ((-1))), (4, .int 0), (0, .ref (o 0)), (1, .int (nI k)), (2, .ref wa)]) [0, 2, 1, 3, 4, 5] rfl ?_
  exact lp (kNb K) (-1) 0 (Nat.le_refl _) rfl

def rm_X2_pass : Room := { frames := 8, cells := 1, slots := 10, locals := 190 }
set_option maxHeartbeats 4000000 in
set_option maxRecDepth 100000 in
/-- pass -/
theorem k_X2_pass (l : Launch) (D : va_G) (yI yZ yL : ClassId) (o : Nat → Nat) (ba : Nat) (pa la ra : Nat → Nat) (K : CK) (V : CD) (aw : Int32)  (h0 : kNb K ≤ 10) (h1 : kMill K ≤ 6) (h2 : dHour V < 2147483647) : xMi l yX2_pass wsX2_pass rm_X2_pass D (tysG yI yZ yL) (zw yI yL o ba pa la ra K V aw) [.ref (o 0)] 1 10 (fun (r : Int32) (W1 : va_W) => r = (z_hour K V aw).2.2 ∧ W1 = zw yI yL o ba pa la ra K ((z_hour K V aw).1) ((z_hour K V aw).2.1)) := by
  refine xE_i (cc := cX2_pass) (nL := 7) (by decide) rfl (Nat.le_of_ble_eq_true rfl) ?_
  intro p e s m args below meth c A Q F hnm ret
  have hin2 : ∀ w ∈ u_ws RX2 TX2 11, w ∈ wsX2_pass := by decide +kernel
  show AW p l e rm_X2_pass s m args below meth c 7 D A 0 0 Q (zw yI yL o ba pa la ra K V aw) [(0, .ref (o 0))] 0 []
  have lp : ∀ (i : Nat) (U : CD) (ax : Int32) (wf : Nat → Int32) (sv : Int32) (wa : Nat), i ≤ 5 → z_hourL K i U ax wf sv = z_hourB K V aw → AW p l e rm_X2_pass s m args below meth c 7 D A (0 + 1) (0 + kNb K) Q (zw yI yL o ba pa la ra K U ax ++ (([(wa, .inl (yZ, (kNb K), .inl wf))] : va_W))) [(3, .int (nI i - 1)), (2, .int sv), (0, .ref (o 0)), (1, .ref wa)] 150 [] := by
    intro i
    induction i with
    | zero =>
      intro U ax wf sv wa hn hi
      refine xr_iload_n F dX2_pass_150 rfl 0 rfl ?_
      refine xr_if_lt F 304 dX2_pass_151 (by decide) (fun c151 => ?_) (fun c151 => ?_)
      · skip
        refine xr_aload_n F dX2_pass_304 rfl 2 rfl ?_
        refine xr_dup F dX2_pass_305 rfl ?_
        refine xr_get F hin2 (0) rfl rfl 0 (by decide) (List.mem_of_getElem? (i := 2) rfl) (v := .int (nI (dHour U))) rfl dX2_pass_306 ?_
        refine xr_iconst F dX2_pass_309 (v := 1) (by decide) ?_
        refine xr_iadd F (nI (dHour U + 1)) dX2_pass_310 (nI_add (dHour U) 1) ?_
        refine xr_put (ty := .int) F hin2 (0) rfl rfl 0 (by decide) tyX2 tyX2_ok nmX2 (List.mem_of_getElem? (i := 2) rfl) rfl (by decide) rfl rfl (Nat.le_of_ble_eq_true rfl) (zwx yI yL o ba pa la ra (kFee K) (kDry K) (kMill K) (kMark K) (kNb K) (kSpr K) (kGoal K) (dHour U + 1) (dBank U) (dLev U) (dOver U) (dDrawn U) (dFull U) (dLock U) (dFill U) (dAt U) (dPur U) (dSer U) ax ++ (([(wa, .inl (yZ, (kNb K), .inl wf))] : va_W))) rfl dX2_pass_311 ?_
        refine xr_iload_n F dX2_pass_314 rfl 1 rfl ?_
        refine xr_drop (zwx yI yL o ba pa la ra (kFee K) (kDry K) (kMill K) (kMark K) (kNb K) (kSpr K) (kGoal K) (dHour U + 1) (dBank U) (dLev U) (dOver U) (dDrawn U) (dFull U) (dLock U) (dFill U) (dAt U) (dPur U) (dSer U) ax) (([(wa, .inl (yZ, (kNb K), .inl wf))] : va_W)) rfl ?_
        refine xr_widen (k := 1) (n := 10) (Nat.le_of_ble_eq_true rfl) (by show 0 + kNb K ≤ 10; omega) ?_
        have h9 : z_hourB K V aw = (U, ax, sv) := hi.symm
        refine ret _ _ _ _ dX2_pass_315 ⟨?_, ?_⟩
        · rw [z_hour, h9]
        · rw [z_hour, h9]; rfl
      · exact absurd (by decide) c151
    | succ i ih =>
      intro U ax wf sv wa hn hi
      refine xr_lveq (lv' := [(3, .int (nI i)), (2, .int sv), (0, .ref (o 0)), (1, .ref wa)]) (by rw [nI_pred]) ?_
      refine xr_iload_n F dX2_pass_150 rfl 0 rfl ?_
      refine xr_if_lt F 304 dX2_pass_151 (by decide) (fun c151 => ?_) (fun c151 => ?_)
      · exact absurd c151 (nI_pos (by omega))
      · skip
        refine xr_aload_n F dX2_pass_154 rfl 2 rfl ?_
        refine xr_iload_n F dX2_pass_155 rfl 0 rfl ?_
        refine xr_aload_n F dX2_pass_156 rfl 3 rfl ?_
        refine xr_ws (ws' := ([] : va_W) ++ ((zw yI yL o ba pa la ra K U ax ++ (([(wa, .inl (yZ, (kNb K), .inl wf))] : va_W))) ++ (([] : va_W)))) (by first | (simp only [List.append_assoc, List.append_nil, List.nil_append]; done) | rfl | (simp only [List.append_assoc, List.append_nil, List.nil_append]; rfl)) ?_
        refine xr_mcVi F (rest := []) (As := [.int (nI i), .ref wa]) (k_X2_next l D yI yZ yL o ba pa la ra K U ax i wa wf (by omega) (by assumption)) (cwV 2 F.hts gX2_pass_X2_next rfl rfl rfl (by decide +kernel) ⟨Nat.le_of_ble_eq_true rfl, Nat.le_of_ble_eq_true rfl⟩) (q0 := 0) rfl rfl (([] : va_W)) (([] : va_W)) rfl rfl rfl (Nat.le_of_ble_eq_true rfl) dX2_pass_157 ⟨Nat.le_of_ble_eq_true rfl, (by show _ ≤ (10 : Nat); omega)⟩ (fun r1 W1 z1 => ?_)
        obtain ⟨z0, z1⟩ := z1
        subst z0
        subst z1
        refine xr_ws (ws' := zw yI yL o ba pa la ra K U ax ++ (([(wa, .inl (yZ, (kNb K), .inl wf))] : va_W))) (by first | (simp only [List.append_assoc, List.append_nil, List.nil_append]; done) | rfl | (simp only [List.append_assoc, List.append_nil, List.nil_append]; rfl)) ?_
        refine xr_istore F [(4, .int (z_next K U i wf)), (3, .int (nI i)), (2, .int sv), (0, .ref (o 0)), (1, .ref wa)] dX2_pass_160 (by decide) rfl ?_
        refine xr_iload F dX2_pass_162 0 rfl ?_
        refine xr_if_ge F 170 dX2_pass_164 (by decide) (fun c164 => ?_) (fun c164 => ?_)
        · skip
          obtain ⟨q, hq, eq⟩ := z_next_some c164
          refine xr_lveq (lv' := [(4, .int (nI q)), (3, .int (nI i)), (2, .int sv), (0, .ref (o 0)), (1, .ref wa)]) (by rw [eq]) ?_
          refine xr_aload_n F dX2_pass_170 rfl 3 rfl ?_
          refine xr_get F hin2 (0) rfl rfl 10 (by decide) (List.mem_of_getElem? (i := 7) rfl) (v := .ref ba) rfl dX2_pass_171 ?_
          refine xr_iload F dX2_pass_174 0 rfl ?_
          refine xr_aald F (4) 2 rfl rfl rfl (q) rfl (by omega) (by omega) dX2_pass_176 ?_
          refine xr_astore F [(5, .ref (ra q)), (4, .int (nI q)), (3, .int (nI i)), (2, .int sv), (0, .ref (o 0)), (1, .ref wa)] dX2_pass_177 (by decide) rfl ?_
          refine xr_aload F dX2_pass_179 0 rfl ?_
          refine xr_iconst F dX2_pass_181 (v := 1) (by decide) ?_
          refine xr_iald F (16 + q) 0 (w_left (zwx_r (by omega))) rfl (1) rfl (by decide) (by decide) dX2_pass_182 ?_
          refine xr_top (y := (kGoal K) q) rfl ?_
          refine xr_aload F dX2_pass_183 0 rfl ?_
          refine xr_iconst F dX2_pass_185 (v := 0) (by decide) ?_
          refine xr_iald F (16 + q) 0 (w_left (zwx_r (by omega))) rfl (0) rfl (by decide) (by decide) dX2_pass_186 ?_
          refine xr_top (y := (dAt U) q) rfl ?_
          refine xr_icmp_ge F 194 dX2_pass_187 (by decide) (fun c187 => ?_) (fun c187 => ?_)
          · skip
            refine xr_iconst F dX2_pass_194 (v := 0) (by decide) ?_
            refine xr_istore F [(6, .int 0), (5, .ref (ra q)), (4, .int (nI q)), (3, .int (nI i)), (2, .int sv), (0, .ref (o 0)), (1, .ref wa)] dX2_pass_195 (by decide) rfl ?_
            refine xr_aload_n F dX2_pass_197 rfl 5 rfl ?_
            refine xr_get F hin2 (0) rfl rfl 4 (by decide) (List.mem_of_getElem? (i := 9) rfl) (v := .ref (o 3)) rfl dX2_pass_198 ?_
            refine xr_iload_n F dX2_pass_201 rfl 3 rfl ?_
            refine xr_aald F (3) 2 rfl rfl rfl (i) rfl (by omega) (by decide) dX2_pass_202 ?_
            refine xr_iconst F dX2_pass_203 (v := 0) (by decide) ?_
            refine xr_iald F (11 + i) 0 (w_left (zwx_l (by omega))) rfl (0) rfl (by decide) (by decide) dX2_pass_204 ?_
            refine xr_top (y := (dFull U) i) rfl ?_
            refine xr_iconst F dX2_pass_205 (v := 1) (by decide) ?_
            refine xr_icmp_ne F 213 dX2_pass_206 (by decide) (fun c206 => ?_) (fun c206 => ?_)
            · skip
              refine xr_iconst F dX2_pass_213 (v := 0) (by decide) ?_
              refine xr_iload F dX2_pass_214 0 rfl ?_
              refine xr_icmp_eq F 224 dX2_pass_216 (by decide) (fun c216 => ?_) (fun c216 => ?_)
              · skip
                refine xr_aload_n F dX2_pass_224 rfl 5 rfl ?_
                refine xr_iload_n F dX2_pass_225 rfl 3 rfl ?_
                refine xr_ws (ws' := ([] : va_W) ++ ((zw yI yL o ba pa la ra K U ax) ++ (([(wa, .inl (yZ, (kNb K), .inl wf))] : va_W)))) (by first | (simp only [List.append_assoc, List.append_nil, List.nil_append]; done) | rfl | (simp only [List.append_assoc, List.append_nil, List.nil_append]; rfl)) ?_
                refine xr_mcVv F (rest := []) (As := [.int (nI i)]) (k_X2_turn l D yI yZ yL o ba pa la ra K U ax i (by omega)) (cwV 1 F.hts gX2_pass_X2_turn rfl rfl rfl (by decide +kernel) ⟨Nat.le_of_ble_eq_true rfl, Nat.le_of_ble_eq_true rfl⟩) (q0 := 0) rfl rfl (([] : va_W)) (([(wa, .inl (yZ, (kNb K), .inl wf))] : va_W)) rfl rfl rfl (Nat.le_of_ble_eq_true rfl) dX2_pass_226 ⟨Nat.le_of_ble_eq_true rfl, (by show _ ≤ (10 : Nat); omega)⟩ (fun W1 z1 => ?_)
                obtain ⟨V1, eV1⟩ : ∃ x9 : CD, x9 = (z_turn U ax i).1 := ⟨_, rfl⟩
                rw [← eV1] at z1
                obtain ⟨x2, ex2⟩ : ∃ x9 : Int32, x9 = (z_turn U ax i).2 := ⟨_, rfl⟩
                rw [← ex2] at z1
                subst z1
                refine xr_ws (ws' := zw yI yL o ba pa la ra K V1 x2 ++ (([(wa, .inl (yZ, (kNb K), .inl wf))] : va_W))) (by first | (simp only [List.append_assoc, List.append_nil, List.nil_append]; done) | rfl | (simp only [List.append_assoc, List.append_nil, List.nil_append]; rfl)) ?_
                refine xr_aload F dX2_pass_229 1 rfl ?_
                refine xr_iconst F dX2_pass_231 (v := 0) (by decide) ?_
                refine xr_dup2 F dX2_pass_232 rfl rfl ?_
                refine xr_iald F (16 + q) 0 (w_left (zwx_r (by omega))) rfl (0) rfl (by decide) (by decide) dX2_pass_233 ?_
                refine xr_top (y := (dAt V1) q) rfl ?_
                refine xr_iload F dX2_pass_234 0 rfl ?_
                refine xr_if_eq F 243 dX2_pass_236 (by decide) (fun c236 => ?_) (fun c236 => ?_)
                · skip
                  refine xr_iconst F dX2_pass_243 (v := 1) (by decide) ?_
                  refine xr_iadd F (((dAt V1) q) + 1) dX2_pass_244 rfl ?_
                  refine xr_iast F (16 + q) 0 (w_left (zwx_r (by omega))) rfl (0) rfl (by decide) (by decide) (zwx yI yL o ba pa la ra (kFee K) (kDry K) (kMill K) (kMark K) (kNb K) (kSpr K) (kGoal K) (dHour V1) (dBank V1) (dLev V1) (dOver V1) (dDrawn V1) (dFull V1) (dLock V1) (dFill V1) (upd (dAt V1) q (((dAt V1) q) + 1)) (dPur V1) (dSer V1) x2 ++ (([(wa, .inl (yZ, (kNb K), .inl wf))] : va_W))) (s_left (by (first | rw [zw_len] | rw [zwx_len]); omega) (zwx_sr0 (by omega))) dX2_pass_245 ?_
                  refine xr_aload F dX2_pass_246 1 rfl ?_
                  refine xr_iconst F dX2_pass_248 (v := 2) (by decide) ?_
                  refine xr_dup2 F dX2_pass_249 rfl rfl ?_
                  refine xr_iald F (16 + q) 0 (w_left (zwx_r (by omega))) rfl (2) rfl (by decide) (by decide) dX2_pass_250 ?_
                  refine xr_top (y := (dPur V1) q) rfl ?_
                  refine xr_aload_n F dX2_pass_251 rfl 5 rfl ?_
                  refine xr_get F hin2 (0) rfl rfl 8 (by decide) (List.mem_of_getElem? (i := 10) rfl) (v := .int (kFee K)) rfl dX2_pass_252 ?_
                  refine xr_isub F (((dPur V1) q) - (kFee K)) dX2_pass_255 rfl ?_
                  refine xr_iast F (16 + q) 0 (w_left (zwx_r (by omega))) rfl (2) rfl (by decide) (by decide) (zwx yI yL o ba pa la ra (kFee K) (kDry K) (kMill K) (kMark K) (kNb K) (kSpr K) (kGoal K) (dHour V1) (dBank V1) (dLev V1) (dOver V1) (dDrawn V1) (dFull V1) (dLock V1) (dFill V1) (upd (dAt V1) q (((dAt V1) q) + 1)) (upd (dPur V1) q (((dPur V1) q) - (kFee K))) (dSer V1) x2 ++ (([(wa, .inl (yZ, (kNb K), .inl wf))] : va_W))) (s_left (by (first | rw [zw_len] | rw [zwx_len]); omega) (zwx_sr2 (by omega))) dX2_pass_256 ?_
                  refine xr_aload_n F dX2_pass_257 rfl 5 rfl ?_
                  refine xr_dup F dX2_pass_258 rfl ?_
                  refine xr_get F hin2 (0) rfl rfl 9 (by decide) (List.mem_of_getElem? (i := 6) rfl) (v := .int (dBank V1)) rfl dX2_pass_259 ?_
                  refine xr_aload_n F dX2_pass_262 rfl 5 rfl ?_
                  refine xr_get F hin2 (0) rfl rfl 8 (by decide) (List.mem_of_getElem? (i := 10) rfl) (v := .int (kFee K)) rfl dX2_pass_263 ?_
                  refine xr_iadd F ((dBank V1) + (kFee K)) dX2_pass_266 rfl ?_
                  refine xr_put (ty := .int) F hin2 (0) rfl rfl 9 (by decide) tyX2 tyX2_ok nmX2 (List.mem_of_getElem? (i := 6) rfl) rfl (by decide) rfl rfl (Nat.le_of_ble_eq_true rfl) (zwx yI yL o ba pa la ra (kFee K) (kDry K) (kMill K) (kMark K) (kNb K) (kSpr K) (kGoal K) (dHour V1) ((dBank V1) + (kFee K)) (dLev V1) (dOver V1) (dDrawn V1) (dFull V1) (dLock V1) (dFill V1) (upd (dAt V1) q (((dAt V1) q) + 1)) (upd (dPur V1) q (((dPur V1) q) - (kFee K))) (dSer V1) x2 ++ (([(wa, .inl (yZ, (kNb K), .inl wf))] : va_W))) rfl dX2_pass_267 ?_
                  refine xr_aload F dX2_pass_270 1 rfl ?_
                  refine xr_iconst F dX2_pass_272 (v := 3) (by decide) ?_
                  refine xr_dup2 F dX2_pass_273 rfl rfl ?_
                  refine xr_iald F (16 + q) 0 (w_left (zwx_r (by omega))) rfl (3) rfl (by decide) (by decide) dX2_pass_274 ?_
                  refine xr_top (y := (dSer V1) q) rfl ?_
                  refine xr_iconst F dX2_pass_275 (v := 1) (by decide) ?_
                  refine xr_iadd F (((dSer V1) q) + 1) dX2_pass_276 rfl ?_
                  refine xr_iast F (16 + q) 0 (w_left (zwx_r (by omega))) rfl (3) rfl (by decide) (by decide) (zwx yI yL o ba pa la ra (kFee K) (kDry K) (kMill K) (kMark K) (kNb K) (kSpr K) (kGoal K) (dHour V1) ((dBank V1) + (kFee K)) (dLev V1) (dOver V1) (dDrawn V1) (dFull V1) (dLock V1) (dFill V1) (upd (dAt V1) q (((dAt V1) q) + 1)) (upd (dPur V1) q (((dPur V1) q) - (kFee K))) (upd (dSer V1) q (((dSer V1) q) + 1)) x2 ++ (([(wa, .inl (yZ, (kNb K), .inl wf))] : va_W))) (s_left (by (first | rw [zw_len] | rw [zwx_len]); omega) (zwx_sr3 (by omega))) dX2_pass_277 ?_
                  refine xr_aload_n F dX2_pass_278 rfl 5 rfl ?_
                  refine xr_get F hin2 (0) rfl rfl 4 (by decide) (List.mem_of_getElem? (i := 9) rfl) (v := .ref (o 3)) rfl dX2_pass_279 ?_
                  refine xr_iload_n F dX2_pass_282 rfl 3 rfl ?_
                  refine xr_aald F (3) 2 rfl rfl rfl (i) rfl (by omega) (by decide) dX2_pass_283 ?_
                  refine xr_iconst F dX2_pass_284 (v := 1) (by decide) ?_
                  refine xr_dup2 F dX2_pass_285 rfl rfl ?_
                  refine xr_iald F (11 + i) 0 (w_left (zwx_l (by omega))) rfl (1) rfl (by decide) (by decide) dX2_pass_286 ?_
                  refine xr_top (y := (dLock V1) i) rfl ?_
                  refine xr_iconst F dX2_pass_287 (v := 1) (by decide) ?_
                  refine xr_iadd F (((dLock V1) i) + 1) dX2_pass_288 rfl ?_
                  refine xr_iast F (11 + i) 0 (w_left (zwx_l (by omega))) rfl (1) rfl (by decide) (by decide) (zwx yI yL o ba pa la ra (kFee K) (kDry K) (kMill K) (kMark K) (kNb K) (kSpr K) (kGoal K) (dHour V1) ((dBank V1) + (kFee K)) (dLev V1) (dOver V1) (dDrawn V1) (dFull V1) (upd (dLock V1) i (((dLock V1) i) + 1)) (dFill V1) (upd (dAt V1) q (((dAt V1) q) + 1)) (upd (dPur V1) q (((dPur V1) q) - (kFee K))) (upd (dSer V1) q (((dSer V1) q) + 1)) x2 ++ (([(wa, .inl (yZ, (kNb K), .inl wf))] : va_W))) (s_left (by (first | rw [zw_len] | rw [zwx_len]); omega) (zwx_sl1 (by omega))) dX2_pass_289 ?_
                  refine xr_aload_n F dX2_pass_290 rfl 6 rfl ?_
                  refine xr_iload F dX2_pass_291 2 rfl ?_
                  refine xr_iconst F dX2_pass_293 (v := 1) (by decide) ?_
                  refine xr_zast F (16 + (kNb K) + (0)) 1 (w_skip (16 + (kNb K)) zwx_len rfl) rfl (q) rfl (by omega) (by omega) (zwx yI yL o ba pa la ra (kFee K) (kDry K) (kMill K) (kMark K) (kNb K) (kSpr K) (kGoal K) (dHour V1) ((dBank V1) + (kFee K)) (dLev V1) (dOver V1) (dDrawn V1) (dFull V1) (upd (dLock V1) i (((dLock V1) i) + 1)) (dFill V1) (upd (dAt V1) q (((dAt V1) q) + 1)) (upd (dPur V1) q (((dPur V1) q) - (kFee K))) (upd (dSer V1) q (((dSer V1) q) + 1)) x2 ++ (([(wa, .inl (yZ, (kNb K), .inl (upd wf q 1)))] : va_W))) (s_skip (16 + (kNb K)) zwx_len rfl) dX2_pass_294 ?_
                  obtain ⟨V3, eV3⟩ : ∃ x9 : CD, x9 = (dHour V1, (dBank V1) + (kFee K), dLev V1, dOver V1, dDrawn V1, dFull V1, upd (dLock V1) i (((dLock V1) i) + 1), dFill V1, upd (dAt V1) q (((dAt V1) q) + 1), upd (dPur V1) q (((dPur V1) q) - (kFee K)), upd (dSer V1) q (((dSer V1) q) + 1)) := ⟨_, rfl⟩
                  refine xr_ws (ws' := zw yI yL o ba pa la ra K V3 x2 ++ (([(wa, .inl (yZ, (kNb K), .inl (upd wf q 1)))] : va_W))) (by rw [eV3, zw_mk]) ?_
                  refine xr_iinc F (sv + 1) [(2, .int (sv + 1)), (6, .int 0), (5, .ref (ra q)), (4, .int (nI q)), (3, .int (nI i)), (0, .ref (o 0)), (1, .ref wa)] dX2_pass_295 4 rfl rfl (by decide) rfl ?_
                  refine xr_iinc F (nI i - 1) [(3, .int (nI i - 1)), (2, .int (sv + 1)), (6, .int 0), (5, .ref (ra q)), (4, .int (nI q)), (0, .ref (o 0)), (1, .ref wa)] dX2_pass_298 4 rfl (xk_m1 (nI i)) (by decide) rfl ?_
                  refine xr_goto F 150 dX2_pass_301 (by decide) ?_
                  refine xr_lv (lv' := [(3, .int (nI i - 1)), (2, .int (sv + 1)), (0, .ref (o 0)), (1, .ref wa)]) [0, 1, 5, 6] rfl ?_
                  exact ih V3 x2 (upd wf q 1) (sv + 1) wa (by omega) (by rw [← hi, z_hourL, if_pos c164, eq, nI_clamp (by omega)]; subst eV3; subst ex2; subst eV1; simp only [z_serve, z_serveT, z_serve2, c187, c206, xk_10, xk_01, eq_self, ↓reduceIte]; try simp only [tHour, tBank, tLev, tOver, tDrawn, tFull, tLock, tFill, tAt, tPur, tSer, dHour, dBank, dLev, dOver, dDrawn, dFull, dLock, dFill, dAt, dPur, dSer])
                · exact absurd (by decide) c236
              · exact absurd (by decide) c216
            · skip
              refine xr_iconst F dX2_pass_209 (v := 1) (by decide) ?_
              refine xr_goto F 214 dX2_pass_210 (by decide) ?_
              refine xr_iload F dX2_pass_214 0 rfl ?_
              refine xr_icmp_eq F 224 dX2_pass_216 (by decide) (fun c216 => ?_) (fun c216 => ?_)
              · exact absurd c216 (by decide)
              · skip
                refine xr_aload_n F dX2_pass_219 rfl 5 rfl ?_
                refine xr_iload_n F dX2_pass_220 rfl 3 rfl ?_
                refine xr_ws (ws' := ([] : va_W) ++ ((zw yI yL o ba pa la ra K U ax) ++ (([(wa, .inl (yZ, (kNb K), .inl wf))] : va_W)))) (by first | (simp only [List.append_assoc, List.append_nil, List.nil_append]; done) | rfl | (simp only [List.append_assoc, List.append_nil, List.nil_append]; rfl)) ?_
                refine xr_mcVv F (rest := []) (As := [.int (nI i)]) (k_X2_turn l D yI yZ yL o ba pa la ra K U ax i (by omega)) (cwV 1 F.hts gX2_pass_X2_turn rfl rfl rfl (by decide +kernel) ⟨Nat.le_of_ble_eq_true rfl, Nat.le_of_ble_eq_true rfl⟩) (q0 := 0) rfl rfl (([] : va_W)) (([(wa, .inl (yZ, (kNb K), .inl wf))] : va_W)) rfl rfl rfl (Nat.le_of_ble_eq_true rfl) dX2_pass_221 ⟨Nat.le_of_ble_eq_true rfl, (by show _ ≤ (10 : Nat); omega)⟩ (fun W1 z1 => ?_)
                obtain ⟨V4, eV4⟩ : ∃ x9 : CD, x9 = (z_turn U ax i).1 := ⟨_, rfl⟩
                rw [← eV4] at z1
                obtain ⟨x5, ex5⟩ : ∃ x9 : Int32, x9 = (z_turn U ax i).2 := ⟨_, rfl⟩
                rw [← ex5] at z1
                subst z1
                refine xr_ws (ws' := zw yI yL o ba pa la ra K V4 x5 ++ (([(wa, .inl (yZ, (kNb K), .inl wf))] : va_W))) (by first | (simp only [List.append_assoc, List.append_nil, List.nil_append]; done) | rfl | (simp only [List.append_assoc, List.append_nil, List.nil_append]; rfl)) ?_
                refine xr_aload_n F dX2_pass_224 rfl 5 rfl ?_
                refine xr_iload_n F dX2_pass_225 rfl 3 rfl ?_
                refine xr_ws (ws' := ([] : va_W) ++ ((zw yI yL o ba pa la ra K V4 x5) ++ (([(wa, .inl (yZ, (kNb K), .inl wf))] : va_W)))) (by first | (simp only [List.append_assoc, List.append_nil, List.nil_append]; done) | rfl | (simp only [List.append_assoc, List.append_nil, List.nil_append]; rfl)) ?_
                refine xr_mcVv F (rest := []) (As := [.int (nI i)]) (k_X2_turn l D yI yZ yL o ba pa la ra K V4 x5 i (by omega)) (cwV 1 F.hts gX2_pass_X2_turn rfl rfl rfl (by decide +kernel) ⟨Nat.le_of_ble_eq_true rfl, Nat.le_of_ble_eq_true rfl⟩) (q0 := 0) rfl rfl (([] : va_W)) (([(wa, .inl (yZ, (kNb K), .inl wf))] : va_W)) rfl rfl rfl (Nat.le_of_ble_eq_true rfl) dX2_pass_226 ⟨Nat.le_of_ble_eq_true rfl, (by show _ ≤ (10 : Nat); omega)⟩ (fun W1 z1 => ?_)
                obtain ⟨V6, eV6⟩ : ∃ x9 : CD, x9 = (z_turn V4 x5 i).1 := ⟨_, rfl⟩
                rw [← eV6] at z1
                obtain ⟨x7, ex7⟩ : ∃ x9 : Int32, x9 = (z_turn V4 x5 i).2 := ⟨_, rfl⟩
                rw [← ex7] at z1
                subst z1
                refine xr_ws (ws' := zw yI yL o ba pa la ra K V6 x7 ++ (([(wa, .inl (yZ, (kNb K), .inl wf))] : va_W))) (by first | (simp only [List.append_assoc, List.append_nil, List.nil_append]; done) | rfl | (simp only [List.append_assoc, List.append_nil, List.nil_append]; rfl)) ?_
                refine xr_aload F dX2_pass_229 1 rfl ?_
                refine xr_iconst F dX2_pass_231 (v := 0) (by decide) ?_
                refine xr_dup2 F dX2_pass_232 rfl rfl ?_
                refine xr_iald F (16 + q) 0 (w_left (zwx_r (by omega))) rfl (0) rfl (by decide) (by decide) dX2_pass_233 ?_
                refine xr_top (y := (dAt V6) q) rfl ?_
                refine xr_iload F dX2_pass_234 0 rfl ?_
                refine xr_if_eq F 243 dX2_pass_236 (by decide) (fun c236 => ?_) (fun c236 => ?_)
                · skip
                  refine xr_iconst F dX2_pass_243 (v := 1) (by decide) ?_
                  refine xr_iadd F (((dAt V6) q) + 1) dX2_pass_244 rfl ?_
                  refine xr_iast F (16 + q) 0 (w_left (zwx_r (by omega))) rfl (0) rfl (by decide) (by decide) (zwx yI yL o ba pa la ra (kFee K) (kDry K) (kMill K) (kMark K) (kNb K) (kSpr K) (kGoal K) (dHour V6) (dBank V6) (dLev V6) (dOver V6) (dDrawn V6) (dFull V6) (dLock V6) (dFill V6) (upd (dAt V6) q (((dAt V6) q) + 1)) (dPur V6) (dSer V6) x7 ++ (([(wa, .inl (yZ, (kNb K), .inl wf))] : va_W))) (s_left (by (first | rw [zw_len] | rw [zwx_len]); omega) (zwx_sr0 (by omega))) dX2_pass_245 ?_
                  refine xr_aload F dX2_pass_246 1 rfl ?_
                  refine xr_iconst F dX2_pass_248 (v := 2) (by decide) ?_
                  refine xr_dup2 F dX2_pass_249 rfl rfl ?_
                  refine xr_iald F (16 + q) 0 (w_left (zwx_r (by omega))) rfl (2) rfl (by decide) (by decide) dX2_pass_250 ?_
                  refine xr_top (y := (dPur V6) q) rfl ?_
                  refine xr_aload_n F dX2_pass_251 rfl 5 rfl ?_
                  refine xr_get F hin2 (0) rfl rfl 8 (by decide) (List.mem_of_getElem? (i := 10) rfl) (v := .int (kFee K)) rfl dX2_pass_252 ?_
                  refine xr_isub F (((dPur V6) q) - (kFee K)) dX2_pass_255 rfl ?_
                  refine xr_iast F (16 + q) 0 (w_left (zwx_r (by omega))) rfl (2) rfl (by decide) (by decide) (zwx yI yL o ba pa la ra (kFee K) (kDry K) (kMill K) (kMark K) (kNb K) (kSpr K) (kGoal K) (dHour V6) (dBank V6) (dLev V6) (dOver V6) (dDrawn V6) (dFull V6) (dLock V6) (dFill V6) (upd (dAt V6) q (((dAt V6) q) + 1)) (upd (dPur V6) q (((dPur V6) q) - (kFee K))) (dSer V6) x7 ++ (([(wa, .inl (yZ, (kNb K), .inl wf))] : va_W))) (s_left (by (first | rw [zw_len] | rw [zwx_len]); omega) (zwx_sr2 (by omega))) dX2_pass_256 ?_
                  refine xr_aload_n F dX2_pass_257 rfl 5 rfl ?_
                  refine xr_dup F dX2_pass_258 rfl ?_
                  refine xr_get F hin2 (0) rfl rfl 9 (by decide) (List.mem_of_getElem? (i := 6) rfl) (v := .int (dBank V6)) rfl dX2_pass_259 ?_
                  refine xr_aload_n F dX2_pass_262 rfl 5 rfl ?_
                  refine xr_get F hin2 (0) rfl rfl 8 (by decide) (List.mem_of_getElem? (i := 10) rfl) (v := .int (kFee K)) rfl dX2_pass_263 ?_
                  refine xr_iadd F ((dBank V6) + (kFee K)) dX2_pass_266 rfl ?_
                  refine xr_put (ty := .int) F hin2 (0) rfl rfl 9 (by decide) tyX2 tyX2_ok nmX2 (List.mem_of_getElem? (i := 6) rfl) rfl (by decide) rfl rfl (Nat.le_of_ble_eq_true rfl) (zwx yI yL o ba pa la ra (kFee K) (kDry K) (kMill K) (kMark K) (kNb K) (kSpr K) (kGoal K) (dHour V6) ((dBank V6) + (kFee K)) (dLev V6) (dOver V6) (dDrawn V6) (dFull V6) (dLock V6) (dFill V6) (upd (dAt V6) q (((dAt V6) q) + 1)) (upd (dPur V6) q (((dPur V6) q) - (kFee K))) (dSer V6) x7 ++ (([(wa, .inl (yZ, (kNb K), .inl wf))] : va_W))) rfl dX2_pass_267 ?_
                  refine xr_aload F dX2_pass_270 1 rfl ?_
                  refine xr_iconst F dX2_pass_272 (v := 3) (by decide) ?_
                  refine xr_dup2 F dX2_pass_273 rfl rfl ?_
                  refine xr_iald F (16 + q) 0 (w_left (zwx_r (by omega))) rfl (3) rfl (by decide) (by decide) dX2_pass_274 ?_
                  refine xr_top (y := (dSer V6) q) rfl ?_
                  refine xr_iconst F dX2_pass_275 (v := 1) (by decide) ?_
                  refine xr_iadd F (((dSer V6) q) + 1) dX2_pass_276 rfl ?_
                  refine xr_iast F (16 + q) 0 (w_left (zwx_r (by omega))) rfl (3) rfl (by decide) (by decide) (zwx yI yL o ba pa la ra (kFee K) (kDry K) (kMill K) (kMark K) (kNb K) (kSpr K) (kGoal K) (dHour V6) ((dBank V6) + (kFee K)) (dLev V6) (dOver V6) (dDrawn V6) (dFull V6) (dLock V6) (dFill V6) (upd (dAt V6) q (((dAt V6) q) + 1)) (upd (dPur V6) q (((dPur V6) q) - (kFee K))) (upd (dSer V6) q (((dSer V6) q) + 1)) x7 ++ (([(wa, .inl (yZ, (kNb K), .inl wf))] : va_W))) (s_left (by (first | rw [zw_len] | rw [zwx_len]); omega) (zwx_sr3 (by omega))) dX2_pass_277 ?_
                  refine xr_aload_n F dX2_pass_278 rfl 5 rfl ?_
                  refine xr_get F hin2 (0) rfl rfl 4 (by decide) (List.mem_of_getElem? (i := 9) rfl) (v := .ref (o 3)) rfl dX2_pass_279 ?_
                  refine xr_iload_n F dX2_pass_282 rfl 3 rfl ?_
                  refine xr_aald F (3) 2 rfl rfl rfl (i) rfl (by omega) (by decide) dX2_pass_283 ?_
                  refine xr_iconst F dX2_pass_284 (v := 1) (by decide) ?_
                  refine xr_dup2 F dX2_pass_285 rfl rfl ?_
                  refine xr_iald F (11 + i) 0 (w_left (zwx_l (by omega))) rfl (1) rfl (by decide) (by decide) dX2_pass_286 ?_
                  refine xr_top (y := (dLock V6) i) rfl ?_
                  refine xr_iconst F dX2_pass_287 (v := 1) (by decide) ?_
                  refine xr_iadd F (((dLock V6) i) + 1) dX2_pass_288 rfl ?_
                  refine xr_iast F (11 + i) 0 (w_left (zwx_l (by omega))) rfl (1) rfl (by decide) (by decide) (zwx yI yL o ba pa la ra (kFee K) (kDry K) (kMill K) (kMark K) (kNb K) (kSpr K) (kGoal K) (dHour V6) ((dBank V6) + (kFee K)) (dLev V6) (dOver V6) (dDrawn V6) (dFull V6) (upd (dLock V6) i (((dLock V6) i) + 1)) (dFill V6) (upd (dAt V6) q (((dAt V6) q) + 1)) (upd (dPur V6) q (((dPur V6) q) - (kFee K))) (upd (dSer V6) q (((dSer V6) q) + 1)) x7 ++ (([(wa, .inl (yZ, (kNb K), .inl wf))] : va_W))) (s_left (by (first | rw [zw_len] | rw [zwx_len]); omega) (zwx_sl1 (by omega))) dX2_pass_289 ?_
                  refine xr_aload_n F dX2_pass_290 rfl 6 rfl ?_
                  refine xr_iload F dX2_pass_291 2 rfl ?_
                  refine xr_iconst F dX2_pass_293 (v := 1) (by decide) ?_
                  refine xr_zast F (16 + (kNb K) + (0)) 1 (w_skip (16 + (kNb K)) zwx_len rfl) rfl (q) rfl (by omega) (by omega) (zwx yI yL o ba pa la ra (kFee K) (kDry K) (kMill K) (kMark K) (kNb K) (kSpr K) (kGoal K) (dHour V6) ((dBank V6) + (kFee K)) (dLev V6) (dOver V6) (dDrawn V6) (dFull V6) (upd (dLock V6) i (((dLock V6) i) + 1)) (dFill V6) (upd (dAt V6) q (((dAt V6) q) + 1)) (upd (dPur V6) q (((dPur V6) q) - (kFee K))) (upd (dSer V6) q (((dSer V6) q) + 1)) x7 ++ (([(wa, .inl (yZ, (kNb K), .inl (upd wf q 1)))] : va_W))) (s_skip (16 + (kNb K)) zwx_len rfl) dX2_pass_294 ?_
                  obtain ⟨V8, eV8⟩ : ∃ x9 : CD, x9 = (dHour V6, (dBank V6) + (kFee K), dLev V6, dOver V6, dDrawn V6, dFull V6, upd (dLock V6) i (((dLock V6) i) + 1), dFill V6, upd (dAt V6) q (((dAt V6) q) + 1), upd (dPur V6) q (((dPur V6) q) - (kFee K)), upd (dSer V6) q (((dSer V6) q) + 1)) := ⟨_, rfl⟩
                  refine xr_ws (ws' := zw yI yL o ba pa la ra K V8 x7 ++ (([(wa, .inl (yZ, (kNb K), .inl (upd wf q 1)))] : va_W))) (by rw [eV8, zw_mk]) ?_
                  refine xr_iinc F (sv + 1) [(2, .int (sv + 1)), (6, .int 0), (5, .ref (ra q)), (4, .int (nI q)), (3, .int (nI i)), (0, .ref (o 0)), (1, .ref wa)] dX2_pass_295 4 rfl rfl (by decide) rfl ?_
                  refine xr_iinc F (nI i - 1) [(3, .int (nI i - 1)), (2, .int (sv + 1)), (6, .int 0), (5, .ref (ra q)), (4, .int (nI q)), (0, .ref (o 0)), (1, .ref wa)] dX2_pass_298 4 rfl (xk_m1 (nI i)) (by decide) rfl ?_
                  refine xr_goto F 150 dX2_pass_301 (by decide) ?_
                  refine xr_lv (lv' := [(3, .int (nI i - 1)), (2, .int (sv + 1)), (0, .ref (o 0)), (1, .ref wa)]) [0, 1, 5, 6] rfl ?_
                  exact ih V8 x7 (upd wf q 1) (sv + 1) wa (by omega) (by rw [← hi, z_hourL, if_pos c164, eq, nI_clamp (by omega)]; subst eV8; subst ex7; subst eV6; subst ex5; subst eV4; simp only [z_serve, z_serveT, z_serve2, c187, c206, xk_10, xk_01, eq_self, ↓reduceIte]; try simp only [tHour, tBank, tLev, tOver, tDrawn, tFull, tLock, tFill, tAt, tPur, tSer, dHour, dBank, dLev, dOver, dDrawn, dFull, dLock, dFill, dAt, dPur, dSer])
                · exact absurd (by decide) c236
          · skip
            refine xr_iconst F dX2_pass_190 (v := 1) (by decide) ?_
            refine xr_goto F 195 dX2_pass_191 (by decide) ?_
            refine xr_istore F [(6, .int 1), (5, .ref (ra q)), (4, .int (nI q)), (3, .int (nI i)), (2, .int sv), (0, .ref (o 0)), (1, .ref wa)] dX2_pass_195 (by decide) rfl ?_
            refine xr_aload_n F dX2_pass_197 rfl 5 rfl ?_
            refine xr_get F hin2 (0) rfl rfl 4 (by decide) (List.mem_of_getElem? (i := 9) rfl) (v := .ref (o 3)) rfl dX2_pass_198 ?_
            refine xr_iload_n F dX2_pass_201 rfl 3 rfl ?_
            refine xr_aald F (3) 2 rfl rfl rfl (i) rfl (by omega) (by decide) dX2_pass_202 ?_
            refine xr_iconst F dX2_pass_203 (v := 0) (by decide) ?_
            refine xr_iald F (11 + i) 0 (w_left (zwx_l (by omega))) rfl (0) rfl (by decide) (by decide) dX2_pass_204 ?_
            refine xr_top (y := (dFull U) i) rfl ?_
            refine xr_iconst F dX2_pass_205 (v := 1) (by decide) ?_
            refine xr_icmp_ne F 213 dX2_pass_206 (by decide) (fun c206 => ?_) (fun c206 => ?_)
            · skip
              refine xr_iconst F dX2_pass_213 (v := 0) (by decide) ?_
              refine xr_iload F dX2_pass_214 0 rfl ?_
              refine xr_icmp_eq F 224 dX2_pass_216 (by decide) (fun c216 => ?_) (fun c216 => ?_)
              · exact absurd c216 (by decide)
              · skip
                refine xr_aload_n F dX2_pass_219 rfl 5 rfl ?_
                refine xr_iload_n F dX2_pass_220 rfl 3 rfl ?_
                refine xr_ws (ws' := ([] : va_W) ++ ((zw yI yL o ba pa la ra K U ax) ++ (([(wa, .inl (yZ, (kNb K), .inl wf))] : va_W)))) (by first | (simp only [List.append_assoc, List.append_nil, List.nil_append]; done) | rfl | (simp only [List.append_assoc, List.append_nil, List.nil_append]; rfl)) ?_
                refine xr_mcVv F (rest := []) (As := [.int (nI i)]) (k_X2_turn l D yI yZ yL o ba pa la ra K U ax i (by omega)) (cwV 1 F.hts gX2_pass_X2_turn rfl rfl rfl (by decide +kernel) ⟨Nat.le_of_ble_eq_true rfl, Nat.le_of_ble_eq_true rfl⟩) (q0 := 0) rfl rfl (([] : va_W)) (([(wa, .inl (yZ, (kNb K), .inl wf))] : va_W)) rfl rfl rfl (Nat.le_of_ble_eq_true rfl) dX2_pass_221 ⟨Nat.le_of_ble_eq_true rfl, (by show _ ≤ (10 : Nat); omega)⟩ (fun W1 z1 => ?_)
                obtain ⟨V9, eV9⟩ : ∃ x9 : CD, x9 = (z_turn U ax i).1 := ⟨_, rfl⟩
                rw [← eV9] at z1
                obtain ⟨x10, ex10⟩ : ∃ x9 : Int32, x9 = (z_turn U ax i).2 := ⟨_, rfl⟩
                rw [← ex10] at z1
                subst z1
                refine xr_ws (ws' := zw yI yL o ba pa la ra K V9 x10 ++ (([(wa, .inl (yZ, (kNb K), .inl wf))] : va_W))) (by first | (simp only [List.append_assoc, List.append_nil, List.nil_append]; done) | rfl | (simp only [List.append_assoc, List.append_nil, List.nil_append]; rfl)) ?_
                refine xr_aload_n F dX2_pass_224 rfl 5 rfl ?_
                refine xr_iload_n F dX2_pass_225 rfl 3 rfl ?_
                refine xr_ws (ws' := ([] : va_W) ++ ((zw yI yL o ba pa la ra K V9 x10) ++ (([(wa, .inl (yZ, (kNb K), .inl wf))] : va_W)))) (by first | (simp only [List.append_assoc, List.append_nil, List.nil_append]; done) | rfl | (simp only [List.append_assoc, List.append_nil, List.nil_append]; rfl)) ?_
                refine xr_mcVv F (rest := []) (As := [.int (nI i)]) (k_X2_turn l D yI yZ yL o ba pa la ra K V9 x10 i (by omega)) (cwV 1 F.hts gX2_pass_X2_turn rfl rfl rfl (by decide +kernel) ⟨Nat.le_of_ble_eq_true rfl, Nat.le_of_ble_eq_true rfl⟩) (q0 := 0) rfl rfl (([] : va_W)) (([(wa, .inl (yZ, (kNb K), .inl wf))] : va_W)) rfl rfl rfl (Nat.le_of_ble_eq_true rfl) dX2_pass_226 ⟨Nat.le_of_ble_eq_true rfl, (by show _ ≤ (10 : Nat); omega)⟩ (fun W1 z1 => ?_)
                obtain ⟨V11, eV11⟩ : ∃ x9 : CD, x9 = (z_turn V9 x10 i).1 := ⟨_, rfl⟩
                rw [← eV11] at z1
                obtain ⟨x12, ex12⟩ : ∃ x9 : Int32, x9 = (z_turn V9 x10 i).2 := ⟨_, rfl⟩
                rw [← ex12] at z1
                subst z1
                refine xr_ws (ws' := zw yI yL o ba pa la ra K V11 x12 ++ (([(wa, .inl (yZ, (kNb K), .inl wf))] : va_W))) (by first | (simp only [List.append_assoc, List.append_nil, List.nil_append]; done) | rfl | (simp only [List.append_assoc, List.append_nil, List.nil_append]; rfl)) ?_
                refine xr_aload F dX2_pass_229 1 rfl ?_
                refine xr_iconst F dX2_pass_231 (v := 0) (by decide) ?_
                refine xr_dup2 F dX2_pass_232 rfl rfl ?_
                refine xr_iald F (16 + q) 0 (w_left (zwx_r (by omega))) rfl (0) rfl (by decide) (by decide) dX2_pass_233 ?_
                refine xr_top (y := (dAt V11) q) rfl ?_
                refine xr_iload F dX2_pass_234 0 rfl ?_
                refine xr_if_eq F 243 dX2_pass_236 (by decide) (fun c236 => ?_) (fun c236 => ?_)
                · exact absurd c236 (by decide)
                · skip
                  refine xr_iconst F dX2_pass_239 (v := (-1)) (by decide) ?_
                  refine xr_goto F 244 dX2_pass_240 (by decide) ?_
                  refine xr_iadd F (((dAt V11) q) + (-1)) dX2_pass_244 rfl ?_
                  refine xr_iast F (16 + q) 0 (w_left (zwx_r (by omega))) rfl (0) rfl (by decide) (by decide) (zwx yI yL o ba pa la ra (kFee K) (kDry K) (kMill K) (kMark K) (kNb K) (kSpr K) (kGoal K) (dHour V11) (dBank V11) (dLev V11) (dOver V11) (dDrawn V11) (dFull V11) (dLock V11) (dFill V11) (upd (dAt V11) q (((dAt V11) q) + (-1))) (dPur V11) (dSer V11) x12 ++ (([(wa, .inl (yZ, (kNb K), .inl wf))] : va_W))) (s_left (by (first | rw [zw_len] | rw [zwx_len]); omega) (zwx_sr0 (by omega))) dX2_pass_245 ?_
                  refine xr_aload F dX2_pass_246 1 rfl ?_
                  refine xr_iconst F dX2_pass_248 (v := 2) (by decide) ?_
                  refine xr_dup2 F dX2_pass_249 rfl rfl ?_
                  refine xr_iald F (16 + q) 0 (w_left (zwx_r (by omega))) rfl (2) rfl (by decide) (by decide) dX2_pass_250 ?_
                  refine xr_top (y := (dPur V11) q) rfl ?_
                  refine xr_aload_n F dX2_pass_251 rfl 5 rfl ?_
                  refine xr_get F hin2 (0) rfl rfl 8 (by decide) (List.mem_of_getElem? (i := 10) rfl) (v := .int (kFee K)) rfl dX2_pass_252 ?_
                  refine xr_isub F (((dPur V11) q) - (kFee K)) dX2_pass_255 rfl ?_
                  refine xr_iast F (16 + q) 0 (w_left (zwx_r (by omega))) rfl (2) rfl (by decide) (by decide) (zwx yI yL o ba pa la ra (kFee K) (kDry K) (kMill K) (kMark K) (kNb K) (kSpr K) (kGoal K) (dHour V11) (dBank V11) (dLev V11) (dOver V11) (dDrawn V11) (dFull V11) (dLock V11) (dFill V11) (upd (dAt V11) q (((dAt V11) q) + (-1))) (upd (dPur V11) q (((dPur V11) q) - (kFee K))) (dSer V11) x12 ++ (([(wa, .inl (yZ, (kNb K), .inl wf))] : va_W))) (s_left (by (first | rw [zw_len] | rw [zwx_len]); omega) (zwx_sr2 (by omega))) dX2_pass_256 ?_
                  refine xr_aload_n F dX2_pass_257 rfl 5 rfl ?_
                  refine xr_dup F dX2_pass_258 rfl ?_
                  refine xr_get F hin2 (0) rfl rfl 9 (by decide) (List.mem_of_getElem? (i := 6) rfl) (v := .int (dBank V11)) rfl dX2_pass_259 ?_
                  refine xr_aload_n F dX2_pass_262 rfl 5 rfl ?_
                  refine xr_get F hin2 (0) rfl rfl 8 (by decide) (List.mem_of_getElem? (i := 10) rfl) (v := .int (kFee K)) rfl dX2_pass_263 ?_
                  refine xr_iadd F ((dBank V11) + (kFee K)) dX2_pass_266 rfl ?_
                  refine xr_put (ty := .int) F hin2 (0) rfl rfl 9 (by decide) tyX2 tyX2_ok nmX2 (List.mem_of_getElem? (i := 6) rfl) rfl (by decide) rfl rfl (Nat.le_of_ble_eq_true rfl) (zwx yI yL o ba pa la ra (kFee K) (kDry K) (kMill K) (kMark K) (kNb K) (kSpr K) (kGoal K) (dHour V11) ((dBank V11) + (kFee K)) (dLev V11) (dOver V11) (dDrawn V11) (dFull V11) (dLock V11) (dFill V11) (upd (dAt V11) q (((dAt V11) q) + (-1))) (upd (dPur V11) q (((dPur V11) q) - (kFee K))) (dSer V11) x12 ++ (([(wa, .inl (yZ, (kNb K), .inl wf))] : va_W))) rfl dX2_pass_267 ?_
                  refine xr_aload F dX2_pass_270 1 rfl ?_
                  refine xr_iconst F dX2_pass_272 (v := 3) (by decide) ?_
                  refine xr_dup2 F dX2_pass_273 rfl rfl ?_
                  refine xr_iald F (16 + q) 0 (w_left (zwx_r (by omega))) rfl (3) rfl (by decide) (by decide) dX2_pass_274 ?_
                  refine xr_top (y := (dSer V11) q) rfl ?_
                  refine xr_iconst F dX2_pass_275 (v := 1) (by decide) ?_
                  refine xr_iadd F (((dSer V11) q) + 1) dX2_pass_276 rfl ?_
                  refine xr_iast F (16 + q) 0 (w_left (zwx_r (by omega))) rfl (3) rfl (by decide) (by decide) (zwx yI yL o ba pa la ra (kFee K) (kDry K) (kMill K) (kMark K) (kNb K) (kSpr K) (kGoal K) (dHour V11) ((dBank V11) + (kFee K)) (dLev V11) (dOver V11) (dDrawn V11) (dFull V11) (dLock V11) (dFill V11) (upd (dAt V11) q (((dAt V11) q) + (-1))) (upd (dPur V11) q (((dPur V11) q) - (kFee K))) (upd (dSer V11) q (((dSer V11) q) + 1)) x12 ++ (([(wa, .inl (yZ, (kNb K), .inl wf))] : va_W))) (s_left (by (first | rw [zw_len] | rw [zwx_len]); omega) (zwx_sr3 (by omega))) dX2_pass_277 ?_
                  refine xr_aload_n F dX2_pass_278 rfl 5 rfl ?_
                  refine xr_get F hin2 (0) rfl rfl 4 (by decide) (List.mem_of_getElem? (i := 9) rfl) (v := .ref (o 3)) rfl dX2_pass_279 ?_
                  refine xr_iload_n F dX2_pass_282 rfl 3 rfl ?_
                  refine xr_aald F (3) 2 rfl rfl rfl (i) rfl (by omega) (by decide) dX2_pass_283 ?_
                  refine xr_iconst F dX2_pass_284 (v := 1) (by decide) ?_
                  refine xr_dup2 F dX2_pass_285 rfl rfl ?_
                  refine xr_iald F (11 + i) 0 (w_left (zwx_l (by omega))) rfl (1) rfl (by decide) (by decide) dX2_pass_286 ?_
                  refine xr_top (y := (dLock V11) i) rfl ?_
                  refine xr_iconst F dX2_pass_287 (v := 1) (by decide) ?_
                  refine xr_iadd F (((dLock V11) i) + 1) dX2_pass_288 rfl ?_
                  refine xr_iast F (11 + i) 0 (w_left (zwx_l (by omega))) rfl (1) rfl (by decide) (by decide) (zwx yI yL o ba pa la ra (kFee K) (kDry K) (kMill K) (kMark K) (kNb K) (kSpr K) (kGoal K) (dHour V11) ((dBank V11) + (kFee K)) (dLev V11) (dOver V11) (dDrawn V11) (dFull V11) (upd (dLock V11) i (((dLock V11) i) + 1)) (dFill V11) (upd (dAt V11) q (((dAt V11) q) + (-1))) (upd (dPur V11) q (((dPur V11) q) - (kFee K))) (upd (dSer V11) q (((dSer V11) q) + 1)) x12 ++ (([(wa, .inl (yZ, (kNb K), .inl wf))] : va_W))) (s_left (by (first | rw [zw_len] | rw [zwx_len]); omega) (zwx_sl1 (by omega))) dX2_pass_289 ?_
                  refine xr_aload_n F dX2_pass_290 rfl 6 rfl ?_
                  refine xr_iload F dX2_pass_291 2 rfl ?_
                  refine xr_iconst F dX2_pass_293 (v := 1) (by decide) ?_
                  refine xr_zast F (16 + (kNb K) + (0)) 1 (w_skip (16 + (kNb K)) zwx_len rfl) rfl (q) rfl (by omega) (by omega) (zwx yI yL o ba pa la ra (kFee K) (kDry K) (kMill K) (kMark K) (kNb K) (kSpr K) (kGoal K) (dHour V11) ((dBank V11) + (kFee K)) (dLev V11) (dOver V11) (dDrawn V11) (dFull V11) (upd (dLock V11) i (((dLock V11) i) + 1)) (dFill V11) (upd (dAt V11) q (((dAt V11) q) + (-1))) (upd (dPur V11) q (((dPur V11) q) - (kFee K))) (upd (dSer V11) q (((dSer V11) q) + 1)) x12 ++ (([(wa, .inl (yZ, (kNb K), .inl (upd wf q 1)))] : va_W))) (s_skip (16 + (kNb K)) zwx_len rfl) dX2_pass_294 ?_
                  obtain ⟨V13, eV13⟩ : ∃ x9 : CD, x9 = (dHour V11, (dBank V11) + (kFee K), dLev V11, dOver V11, dDrawn V11, dFull V11, upd (dLock V11) i (((dLock V11) i) + 1), dFill V11, upd (dAt V11) q (((dAt V11) q) + (-1)), upd (dPur V11) q (((dPur V11) q) - (kFee K)), upd (dSer V11) q (((dSer V11) q) + 1)) := ⟨_, rfl⟩
                  refine xr_ws (ws' := zw yI yL o ba pa la ra K V13 x12 ++ (([(wa, .inl (yZ, (kNb K), .inl (upd wf q 1)))] : va_W))) (by rw [eV13, zw_mk]) ?_
                  refine xr_iinc F (sv + 1) [(2, .int (sv + 1)), (6, .int 1), (5, .ref (ra q)), (4, .int (nI q)), (3, .int (nI i)), (0, .ref (o 0)), (1, .ref wa)] dX2_pass_295 4 rfl rfl (by decide) rfl ?_
                  refine xr_iinc F (nI i - 1) [(3, .int (nI i - 1)), (2, .int (sv + 1)), (6, .int 1), (5, .ref (ra q)), (4, .int (nI q)), (0, .ref (o 0)), (1, .ref wa)] dX2_pass_298 4 rfl (xk_m1 (nI i)) (by decide) rfl ?_
                  refine xr_goto F 150 dX2_pass_301 (by decide) ?_
                  refine xr_lv (lv' := [(3, .int (nI i - 1)), (2, .int (sv + 1)), (0, .ref (o 0)), (1, .ref wa)]) [0, 1, 5, 6] rfl ?_
                  exact ih V13 x12 (upd wf q 1) (sv + 1) wa (by omega) (by rw [← hi, z_hourL, if_pos c164, eq, nI_clamp (by omega)]; subst eV13; subst ex12; subst eV11; subst ex10; subst eV9; simp only [z_serve, z_serveT, z_serve2, c187, c206, xk_10, xk_01, eq_self, ↓reduceIte]; try simp only [tHour, tBank, tLev, tOver, tDrawn, tFull, tLock, tFill, tAt, tPur, tSer, dHour, dBank, dLev, dOver, dDrawn, dFull, dLock, dFill, dAt, dPur, dSer])
            · skip
              refine xr_iconst F dX2_pass_209 (v := 1) (by decide) ?_
              refine xr_goto F 214 dX2_pass_210 (by decide) ?_
              refine xr_iload F dX2_pass_214 0 rfl ?_
              refine xr_icmp_eq F 224 dX2_pass_216 (by decide) (fun c216 => ?_) (fun c216 => ?_)
              · skip
                refine xr_aload_n F dX2_pass_224 rfl 5 rfl ?_
                refine xr_iload_n F dX2_pass_225 rfl 3 rfl ?_
                refine xr_ws (ws' := ([] : va_W) ++ ((zw yI yL o ba pa la ra K U ax) ++ (([(wa, .inl (yZ, (kNb K), .inl wf))] : va_W)))) (by first | (simp only [List.append_assoc, List.append_nil, List.nil_append]; done) | rfl | (simp only [List.append_assoc, List.append_nil, List.nil_append]; rfl)) ?_
                refine xr_mcVv F (rest := []) (As := [.int (nI i)]) (k_X2_turn l D yI yZ yL o ba pa la ra K U ax i (by omega)) (cwV 1 F.hts gX2_pass_X2_turn rfl rfl rfl (by decide +kernel) ⟨Nat.le_of_ble_eq_true rfl, Nat.le_of_ble_eq_true rfl⟩) (q0 := 0) rfl rfl (([] : va_W)) (([(wa, .inl (yZ, (kNb K), .inl wf))] : va_W)) rfl rfl rfl (Nat.le_of_ble_eq_true rfl) dX2_pass_226 ⟨Nat.le_of_ble_eq_true rfl, (by show _ ≤ (10 : Nat); omega)⟩ (fun W1 z1 => ?_)
                obtain ⟨V14, eV14⟩ : ∃ x9 : CD, x9 = (z_turn U ax i).1 := ⟨_, rfl⟩
                rw [← eV14] at z1
                obtain ⟨x15, ex15⟩ : ∃ x9 : Int32, x9 = (z_turn U ax i).2 := ⟨_, rfl⟩
                rw [← ex15] at z1
                subst z1
                refine xr_ws (ws' := zw yI yL o ba pa la ra K V14 x15 ++ (([(wa, .inl (yZ, (kNb K), .inl wf))] : va_W))) (by first | (simp only [List.append_assoc, List.append_nil, List.nil_append]; done) | rfl | (simp only [List.append_assoc, List.append_nil, List.nil_append]; rfl)) ?_
                refine xr_aload F dX2_pass_229 1 rfl ?_
                refine xr_iconst F dX2_pass_231 (v := 0) (by decide) ?_
                refine xr_dup2 F dX2_pass_232 rfl rfl ?_
                refine xr_iald F (16 + q) 0 (w_left (zwx_r (by omega))) rfl (0) rfl (by decide) (by decide) dX2_pass_233 ?_
                refine xr_top (y := (dAt V14) q) rfl ?_
                refine xr_iload F dX2_pass_234 0 rfl ?_
                refine xr_if_eq F 243 dX2_pass_236 (by decide) (fun c236 => ?_) (fun c236 => ?_)
                · exact absurd c236 (by decide)
                · skip
                  refine xr_iconst F dX2_pass_239 (v := (-1)) (by decide) ?_
                  refine xr_goto F 244 dX2_pass_240 (by decide) ?_
                  refine xr_iadd F (((dAt V14) q) + (-1)) dX2_pass_244 rfl ?_
                  refine xr_iast F (16 + q) 0 (w_left (zwx_r (by omega))) rfl (0) rfl (by decide) (by decide) (zwx yI yL o ba pa la ra (kFee K) (kDry K) (kMill K) (kMark K) (kNb K) (kSpr K) (kGoal K) (dHour V14) (dBank V14) (dLev V14) (dOver V14) (dDrawn V14) (dFull V14) (dLock V14) (dFill V14) (upd (dAt V14) q (((dAt V14) q) + (-1))) (dPur V14) (dSer V14) x15 ++ (([(wa, .inl (yZ, (kNb K), .inl wf))] : va_W))) (s_left (by (first | rw [zw_len] | rw [zwx_len]); omega) (zwx_sr0 (by omega))) dX2_pass_245 ?_
                  refine xr_aload F dX2_pass_246 1 rfl ?_
                  refine xr_iconst F dX2_pass_248 (v := 2) (by decide) ?_
                  refine xr_dup2 F dX2_pass_249 rfl rfl ?_
                  refine xr_iald F (16 + q) 0 (w_left (zwx_r (by omega))) rfl (2) rfl (by decide) (by decide) dX2_pass_250 ?_
                  refine xr_top (y := (dPur V14) q) rfl ?_
                  refine xr_aload_n F dX2_pass_251 rfl 5 rfl ?_
                  refine xr_get F hin2 (0) rfl rfl 8 (by decide) (List.mem_of_getElem? (i := 10) rfl) (v := .int (kFee K)) rfl dX2_pass_252 ?_
                  refine xr_isub F (((dPur V14) q) - (kFee K)) dX2_pass_255 rfl ?_
                  refine xr_iast F (16 + q) 0 (w_left (zwx_r (by omega))) rfl (2) rfl (by decide) (by decide) (zwx yI yL o ba pa la ra (kFee K) (kDry K) (kMill K) (kMark K) (kNb K) (kSpr K) (kGoal K) (dHour V14) (dBank V14) (dLev V14) (dOver V14) (dDrawn V14) (dFull V14) (dLock V14) (dFill V14) (upd (dAt V14) q (((dAt V14) q) + (-1))) (upd (dPur V14) q (((dPur V14) q) - (kFee K))) (dSer V14) x15 ++ (([(wa, .inl (yZ, (kNb K), .inl wf))] : va_W))) (s_left (by (first | rw [zw_len] | rw [zwx_len]); omega) (zwx_sr2 (by omega))) dX2_pass_256 ?_
                  refine xr_aload_n F dX2_pass_257 rfl 5 rfl ?_
                  refine xr_dup F dX2_pass_258 rfl ?_
                  refine xr_get F hin2 (0) rfl rfl 9 (by decide) (List.mem_of_getElem? (i := 6) rfl) (v := .int (dBank V14)) rfl dX2_pass_259 ?_
                  refine xr_aload_n F dX2_pass_262 rfl 5 rfl ?_
                  refine xr_get F hin2 (0) rfl rfl 8 (by decide) (List.mem_of_getElem? (i := 10) rfl) (v := .int (kFee K)) rfl dX2_pass_263 ?_
                  refine xr_iadd F ((dBank V14) + (kFee K)) dX2_pass_266 rfl ?_
                  refine xr_put (ty := .int) F hin2 (0) rfl rfl 9 (by decide) tyX2 tyX2_ok nmX2 (List.mem_of_getElem? (i := 6) rfl) rfl (by decide) rfl rfl (Nat.le_of_ble_eq_true rfl) (zwx yI yL o ba pa la ra (kFee K) (kDry K) (kMill K) (kMark K) (kNb K) (kSpr K) (kGoal K) (dHour V14) ((dBank V14) + (kFee K)) (dLev V14) (dOver V14) (dDrawn V14) (dFull V14) (dLock V14) (dFill V14) (upd (dAt V14) q (((dAt V14) q) + (-1))) (upd (dPur V14) q (((dPur V14) q) - (kFee K))) (dSer V14) x15 ++ (([(wa, .inl (yZ, (kNb K), .inl wf))] : va_W))) rfl dX2_pass_267 ?_
                  refine xr_aload F dX2_pass_270 1 rfl ?_
                  refine xr_iconst F dX2_pass_272 (v := 3) (by decide) ?_
                  refine xr_dup2 F dX2_pass_273 rfl rfl ?_
                  refine xr_iald F (16 + q) 0 (w_left (zwx_r (by omega))) rfl (3) rfl (by decide) (by decide) dX2_pass_274 ?_
                  refine xr_top (y := (dSer V14) q) rfl ?_
                  refine xr_iconst F dX2_pass_275 (v := 1) (by decide) ?_
                  refine xr_iadd F (((dSer V14) q) + 1) dX2_pass_276 rfl ?_
                  refine xr_iast F (16 + q) 0 (w_left (zwx_r (by omega))) rfl (3) rfl (by decide) (by decide) (zwx yI yL o ba pa la ra (kFee K) (kDry K) (kMill K) (kMark K) (kNb K) (kSpr K) (kGoal K) (dHour V14) ((dBank V14) + (kFee K)) (dLev V14) (dOver V14) (dDrawn V14) (dFull V14) (dLock V14) (dFill V14) (upd (dAt V14) q (((dAt V14) q) + (-1))) (upd (dPur V14) q (((dPur V14) q) - (kFee K))) (upd (dSer V14) q (((dSer V14) q) + 1)) x15 ++ (([(wa, .inl (yZ, (kNb K), .inl wf))] : va_W))) (s_left (by (first | rw [zw_len] | rw [zwx_len]); omega) (zwx_sr3 (by omega))) dX2_pass_277 ?_
                  refine xr_aload_n F dX2_pass_278 rfl 5 rfl ?_
                  refine xr_get F hin2 (0) rfl rfl 4 (by decide) (List.mem_of_getElem? (i := 9) rfl) (v := .ref (o 3)) rfl dX2_pass_279 ?_
                  refine xr_iload_n F dX2_pass_282 rfl 3 rfl ?_
                  refine xr_aald F (3) 2 rfl rfl rfl (i) rfl (by omega) (by decide) dX2_pass_283 ?_
                  refine xr_iconst F dX2_pass_284 (v := 1) (by decide) ?_
                  refine xr_dup2 F dX2_pass_285 rfl rfl ?_
                  refine xr_iald F (11 + i) 0 (w_left (zwx_l (by omega))) rfl (1) rfl (by decide) (by decide) dX2_pass_286 ?_
                  refine xr_top (y := (dLock V14) i) rfl ?_
                  refine xr_iconst F dX2_pass_287 (v := 1) (by decide) ?_
                  refine xr_iadd F (((dLock V14) i) + 1) dX2_pass_288 rfl ?_
                  refine xr_iast F (11 + i) 0 (w_left (zwx_l (by omega))) rfl (1) rfl (by decide) (by decide) (zwx yI yL o ba pa la ra (kFee K) (kDry K) (kMill K) (kMark K) (kNb K) (kSpr K) (kGoal K) (dHour V14) ((dBank V14) + (kFee K)) (dLev V14) (dOver V14) (dDrawn V14) (dFull V14) (upd (dLock V14) i (((dLock V14) i) + 1)) (dFill V14) (upd (dAt V14) q (((dAt V14) q) + (-1))) (upd (dPur V14) q (((dPur V14) q) - (kFee K))) (upd (dSer V14) q (((dSer V14) q) + 1)) x15 ++ (([(wa, .inl (yZ, (kNb K), .inl wf))] : va_W))) (s_left (by (first | rw [zw_len] | rw [zwx_len]); omega) (zwx_sl1 (by omega))) dX2_pass_289 ?_
                  refine xr_aload_n F dX2_pass_290 rfl 6 rfl ?_
                  refine xr_iload F dX2_pass_291 2 rfl ?_
                  refine xr_iconst F dX2_pass_293 (v := 1) (by decide) ?_
                  refine xr_zast F (16 + (kNb K) + (0)) 1 (w_skip (16 + (kNb K)) zwx_len rfl) rfl (q) rfl (by omega) (by omega) (zwx yI yL o ba pa la ra (kFee K) (kDry K) (kMill K) (kMark K) (kNb K) (kSpr K) (kGoal K) (dHour V14) ((dBank V14) + (kFee K)) (dLev V14) (dOver V14) (dDrawn V14) (dFull V14) (upd (dLock V14) i (((dLock V14) i) + 1)) (dFill V14) (upd (dAt V14) q (((dAt V14) q) + (-1))) (upd (dPur V14) q (((dPur V14) q) - (kFee K))) (upd (dSer V14) q (((dSer V14) q) + 1)) x15 ++ (([(wa, .inl (yZ, (kNb K), .inl (upd wf q 1)))] : va_W))) (s_skip (16 + (kNb K)) zwx_len rfl) dX2_pass_294 ?_
                  obtain ⟨V16, eV16⟩ : ∃ x9 : CD, x9 = (dHour V14, (dBank V14) + (kFee K), dLev V14, dOver V14, dDrawn V14, dFull V14, upd (dLock V14) i (((dLock V14) i) + 1), dFill V14, upd (dAt V14) q (((dAt V14) q) + (-1)), upd (dPur V14) q (((dPur V14) q) - (kFee K)), upd (dSer V14) q (((dSer V14) q) + 1)) := ⟨_, rfl⟩
                  refine xr_ws (ws' := zw yI yL o ba pa la ra K V16 x15 ++ (([(wa, .inl (yZ, (kNb K), .inl (upd wf q 1)))] : va_W))) (by rw [eV16, zw_mk]) ?_
                  refine xr_iinc F (sv + 1) [(2, .int (sv + 1)), (6, .int 1), (5, .ref (ra q)), (4, .int (nI q)), (3, .int (nI i)), (0, .ref (o 0)), (1, .ref wa)] dX2_pass_295 4 rfl rfl (by decide) rfl ?_
                  refine xr_iinc F (nI i - 1) [(3, .int (nI i - 1)), (2, .int (sv + 1)), (6, .int 1), (5, .ref (ra q)), (4, .int (nI q)), (0, .ref (o 0)), (1, .ref wa)] dX2_pass_298 4 rfl (xk_m1 (nI i)) (by decide) rfl ?_
                  refine xr_goto F 150 dX2_pass_301 (by decide) ?_
                  refine xr_lv (lv' := [(3, .int (nI i - 1)), (2, .int (sv + 1)), (0, .ref (o 0)), (1, .ref wa)]) [0, 1, 5, 6] rfl ?_
                  exact ih V16 x15 (upd wf q 1) (sv + 1) wa (by omega) (by rw [← hi, z_hourL, if_pos c164, eq, nI_clamp (by omega)]; subst eV16; subst ex15; subst eV14; simp only [z_serve, z_serveT, z_serve2, c187, c206, xk_10, xk_01, eq_self, ↓reduceIte]; try simp only [tHour, tBank, tLev, tOver, tDrawn, tFull, tLock, tFill, tAt, tPur, tSer, dHour, dBank, dLev, dOver, dDrawn, dFull, dLock, dFill, dAt, dPur, dSer])
              · exact absurd (by decide) c216
        · skip
          refine xr_goto F 298 dX2_pass_167 (by decide) ?_
          refine xr_iinc F (nI i - 1) [(3, .int (nI i - 1)), (4, .int (z_next K U i wf)), (2, .int sv), (0, .ref (o 0)), (1, .ref wa)] dX2_pass_298 1 rfl (xk_m1 (nI i)) (by decide) rfl ?_
          refine xr_goto F 150 dX2_pass_301 (by decide) ?_
          refine xr_lv (lv' := [(3, .int (nI i - 1)), (2, .int sv), (0, .ref (o 0)), (1, .ref wa)]) [0, 2, 3, 4] rfl ?_
          exact ih U ax wf sv wa (by omega) (by rw [← hi, z_hourL, if_neg c164])
  refine xr_aload_n F dX2_pass_0 rfl 0 rfl ?_
  refine xr_iconst F dX2_pass_1 (v := 5) (by decide) ?_
  refine xr_aload_n F dX2_pass_2 rfl 0 rfl ?_
  refine xr_get F hin2 (0) rfl rfl 1 (by decide) (List.mem_of_getElem? (i := 1) rfl) (v := .ref (o 1)) rfl dX2_pass_3 ?_
  refine xr_aload_n F dX2_pass_6 rfl 0 rfl ?_
  refine xr_get F hin2 (0) rfl rfl 0 (by decide) (List.mem_of_getElem? (i := 2) rfl) (v := .int (nI (dHour V))) rfl dX2_pass_7 ?_
  refine xr_bipush F dX2_pass_10 (v := 8) (by decide) ?_
  refine xr_irem F (nI (dHour V % 8)) dX2_pass_12 (by decide) (pk_rem (a := dHour V) (d := 8) (by omega) (by decide) (by decide)) ?_
  refine xr_iald F (1) 0 rfl rfl (dHour V % 8) rfl (Nat.mod_lt _ (by decide)) (by decide) dX2_pass_13 ?_
  refine xr_stk (st' := [.int ((kSpr K) (dHour V % 8)), .int (nI 6 - 1), .ref (o 0)]) rfl ?_
  refine xr_ws (ws' := ([] : va_W) ++ ((zw yI yL o ba pa la ra K V aw) ++ (([] : va_W)))) (by first | (simp only [List.append_assoc, List.append_nil, List.nil_append]; done) | rfl | (simp only [List.append_assoc, List.append_nil, List.nil_append]; rfl)) ?_
  refine xr_mcVv F (rest := []) (As := [.int (nI 6 - 1), .int ((kSpr K) (dHour V % 8))]) (k_X2_into l D yI yZ yL o ba pa la ra K V aw 6 ((kSpr K) (dHour V % 8)) (by decide)) (cwV 2 F.hts gX2_pass_X2_into rfl rfl rfl (by decide +kernel) ⟨Nat.le_trans (m := 7) (show 6 + 1 ≤ 7 by omega) (Nat.le_of_ble_eq_true rfl), Nat.le_trans (m := 168) (show 8 + (5 + 11) + 24 * 6 ≤ 168 by omega) (Nat.le_of_ble_eq_true rfl)⟩) (q0 := 0) rfl rfl (([] : va_W)) (([] : va_W)) rfl rfl rfl (Nat.le_of_ble_eq_true rfl) dX2_pass_14 ⟨Nat.le_of_ble_eq_true rfl, (by show _ ≤ (10 : Nat); omega)⟩ (fun W1 z1 => ?_)
  obtain ⟨V17, eV17⟩ : ∃ x9 : CD, x9 = (z_into 6 ((kSpr K) (dHour V % 8)) V aw).1 := ⟨_, rfl⟩
  rw [← eV17] at z1
  obtain ⟨x18, ex18⟩ : ∃ x9 : Int32, x9 = (z_into 6 ((kSpr K) (dHour V % 8)) V aw).2 := ⟨_, rfl⟩
  rw [← ex18] at z1
  subst z1
  refine xr_ws (ws' := zw yI yL o ba pa la ra K V17 x18) (by first | (simp only [List.append_assoc, List.append_nil, List.nil_append]; done) | rfl | (simp only [List.append_assoc, List.append_nil, List.nil_append]; rfl)) ?_
  refine xr_aload_n F dX2_pass_17 rfl 0 rfl ?_
  refine xr_get F hin2 (0) rfl rfl 5 (by decide) (List.mem_of_getElem? (i := 3) rfl) (v := .int (nI (kMill K) - 1)) rfl dX2_pass_18 ?_
  rcases hm : kMill K with _ | q
  · skip
    refine xr_top (y := (-1)) (by decide) ?_
    refine xr_if_lt F 138 dX2_pass_21 (by decide) (fun c21 => ?_) (fun c21 => ?_)
    · skip
      refine xr_aload_n F dX2_pass_138 rfl 0 rfl ?_
      refine xr_get F hin2 (0) rfl rfl 10 (by decide) (List.mem_of_getElem? (i := 7) rfl) (v := .ref ba) rfl dX2_pass_139 ?_
      refine xr_alen F (4) 2 rfl rfl (v := nI (kNb K)) rfl dX2_pass_142 ?_
      refine xr_newa F 1 (ty := .boolean) rfl (fun _ h => h) (List.mem_of_getElem? (i := 8) rfl) rfl (kNb K) rfl (by omega) (kNb K, .inl (fun _ => 0)) (fun _ => rfl) (by show kNb K * 1 ≤ 536870912; omega) (Nat.le_of_ble_eq_true rfl) (by show _ ≤ (10 : Nat); omega) dX2_pass_143 (fun q19 => ?_)
      refine xr_ws (ws' := zw yI yL o ba pa la ra K V17 x18 ++ (([(q19, .inl (yZ, (kNb K), .inl (fun _ => 0)))] : va_W))) (by first | (simp only [List.append_assoc, List.append_nil, List.nil_append]; done) | rfl | (simp only [List.append_assoc, List.append_nil, List.nil_append]; rfl)) ?_
      refine xr_astore_n F [(1, .ref q19), (0, .ref (o 0))] dX2_pass_145 rfl (by decide) rfl ?_
      refine xr_iconst F dX2_pass_146 (v := 0) (by decide) ?_
      refine xr_istore_n F [(2, .int 0), (1, .ref q19), (0, .ref (o 0))] dX2_pass_147 rfl (by decide) rfl ?_
      refine xr_iconst F dX2_pass_148 (v := nI 5 - 1) (by decide) ?_
      refine xr_istore_n F [(3, .int (nI 5 - 1)), (2, .int 0), (1, .ref q19), (0, .ref (o 0))] dX2_pass_149 rfl (by decide) rfl ?_
      refine xr_lv (lv' := [(3, .int (nI 5 - 1)), (2, .int 0), (0, .ref (o 0)), (1, .ref q19)]) [0, 1, 3, 2] rfl ?_
      refine lp 5 V17 x18 (fun _ => 0) 0 q19 (by omega) ?_
      subst ex18; subst eV17
      first | (simp only [z_hourB, z_hourA, z_mill, z_mill1, hm, ↓reduceIte]; done) | (simp only [z_hourB, z_hourA, z_mill, z_mill1, hm, ↓reduceIte]; rfl)
    · exact absurd (by decide) c21
  · skip
    have hq : q < 6 := by omega
    refine xr_top (y := nI q) (nI_pred q) ?_
    refine xr_if_lt F 138 dX2_pass_21 (by decide) (fun c21 => ?_) (fun c21 => ?_)
    · exact absurd c21 (nI_pos (by omega))
    · skip
      refine xr_aload_n F dX2_pass_24 rfl 0 rfl ?_
      refine xr_get F hin2 (0) rfl rfl 2 (by decide) (List.mem_of_getElem? (i := 4) rfl) (v := .ref (o 2)) rfl dX2_pass_25 ?_
      refine xr_aload_n F dX2_pass_28 rfl 0 rfl ?_
      refine xr_get F hin2 (0) rfl rfl 5 (by decide) (List.mem_of_getElem? (i := 3) rfl) (v := .int (nI (kMill K) - 1)) rfl dX2_pass_29 ?_
      refine xr_top (y := nI q) (by rw [hm, nI_pred]) ?_
      refine xr_aald F (2) 2 rfl rfl rfl (q) rfl (by omega) (by decide) dX2_pass_32 ?_
      refine xr_iconst F dX2_pass_33 (v := 0) (by decide) ?_
      refine xr_iald F (5 + q) 0 (zwx_p (by omega)) rfl (0) rfl (by decide) (by decide) dX2_pass_34 ?_
      refine xr_top (y := (dLev V17) q) rfl ?_
      refine xr_aload_n F dX2_pass_35 rfl 0 rfl ?_
      refine xr_get F hin2 (0) rfl rfl 6 (by decide) (List.mem_of_getElem? (i := 5) rfl) (v := .int (kMark K)) rfl dX2_pass_36 ?_
      refine xr_icmp_le F 138 dX2_pass_39 (by decide) (fun c39 => ?_) (fun c39 => ?_)
      · skip
        refine xr_aload_n F dX2_pass_138 rfl 0 rfl ?_
        refine xr_get F hin2 (0) rfl rfl 10 (by decide) (List.mem_of_getElem? (i := 7) rfl) (v := .ref ba) rfl dX2_pass_139 ?_
        refine xr_alen F (4) 2 rfl rfl (v := nI (kNb K)) rfl dX2_pass_142 ?_
        refine xr_newa F 1 (ty := .boolean) rfl (fun _ h => h) (List.mem_of_getElem? (i := 8) rfl) rfl (kNb K) rfl (by omega) (kNb K, .inl (fun _ => 0)) (fun _ => rfl) (by show kNb K * 1 ≤ 536870912; omega) (Nat.le_of_ble_eq_true rfl) (by show _ ≤ (10 : Nat); omega) dX2_pass_143 (fun q20 => ?_)
        refine xr_ws (ws' := zw yI yL o ba pa la ra K V17 x18 ++ (([(q20, .inl (yZ, (kNb K), .inl (fun _ => 0)))] : va_W))) (by first | (simp only [List.append_assoc, List.append_nil, List.nil_append]; done) | rfl | (simp only [List.append_assoc, List.append_nil, List.nil_append]; rfl)) ?_
        refine xr_astore_n F [(1, .ref q20), (0, .ref (o 0))] dX2_pass_145 rfl (by decide) rfl ?_
        refine xr_iconst F dX2_pass_146 (v := 0) (by decide) ?_
        refine xr_istore_n F [(2, .int 0), (1, .ref q20), (0, .ref (o 0))] dX2_pass_147 rfl (by decide) rfl ?_
        refine xr_iconst F dX2_pass_148 (v := nI 5 - 1) (by decide) ?_
        refine xr_istore_n F [(3, .int (nI 5 - 1)), (2, .int 0), (1, .ref q20), (0, .ref (o 0))] dX2_pass_149 rfl (by decide) rfl ?_
        refine xr_lv (lv' := [(3, .int (nI 5 - 1)), (2, .int 0), (0, .ref (o 0)), (1, .ref q20)]) [0, 1, 3, 2] rfl ?_
        refine lp 5 V17 x18 (fun _ => 0) 0 q20 (by omega) ?_
        subst ex18; subst eV17
        first | (simp only [z_hourB, z_hourA, z_mill, z_mill1, hm, c39, ↓reduceIte]; done) | (simp only [z_hourB, z_hourA, z_mill, z_mill1, hm, c39, ↓reduceIte]; rfl)
      · skip
        refine xr_aload_n F dX2_pass_42 rfl 0 rfl ?_
        refine xr_get F hin2 (0) rfl rfl 2 (by decide) (List.mem_of_getElem? (i := 4) rfl) (v := .ref (o 2)) rfl dX2_pass_43 ?_
        refine xr_aload_n F dX2_pass_46 rfl 0 rfl ?_
        refine xr_get F hin2 (0) rfl rfl 5 (by decide) (List.mem_of_getElem? (i := 3) rfl) (v := .int (nI (kMill K) - 1)) rfl dX2_pass_47 ?_
        refine xr_top (y := nI q) (by rw [hm, nI_pred]) ?_
        refine xr_aald F (2) 2 rfl rfl rfl (q) rfl (by omega) (by decide) dX2_pass_50 ?_
        refine xr_iconst F dX2_pass_51 (v := 0) (by decide) ?_
        refine xr_iald F (5 + q) 0 (zwx_p (by omega)) rfl (0) rfl (by decide) (by decide) dX2_pass_52 ?_
        refine xr_top (y := (dLev V17) q) rfl ?_
        refine xr_aload_n F dX2_pass_53 rfl 0 rfl ?_
        refine xr_get F hin2 (0) rfl rfl 6 (by decide) (List.mem_of_getElem? (i := 5) rfl) (v := .int (kMark K)) rfl dX2_pass_54 ?_
        refine xr_isub F (((dLev V17) q) - (kMark K)) dX2_pass_57 rfl ?_
        refine xr_bipush F dX2_pass_58 (v := 10) (by decide) ?_
        refine xr_icmp_le F 68 dX2_pass_60 (by decide) (fun c60 => ?_) (fun c60 => ?_)
        · skip
          refine xr_aload_n F dX2_pass_68 rfl 0 rfl ?_
          refine xr_get F hin2 (0) rfl rfl 2 (by decide) (List.mem_of_getElem? (i := 4) rfl) (v := .ref (o 2)) rfl dX2_pass_69 ?_
          refine xr_aload_n F dX2_pass_72 rfl 0 rfl ?_
          refine xr_get F hin2 (0) rfl rfl 5 (by decide) (List.mem_of_getElem? (i := 3) rfl) (v := .int (nI (kMill K) - 1)) rfl dX2_pass_73 ?_
          refine xr_top (y := nI q) (by rw [hm, nI_pred]) ?_
          refine xr_aald F (2) 2 rfl rfl rfl (q) rfl (by omega) (by decide) dX2_pass_76 ?_
          refine xr_iconst F dX2_pass_77 (v := 0) (by decide) ?_
          refine xr_iald F (5 + q) 0 (zwx_p (by omega)) rfl (0) rfl (by decide) (by decide) dX2_pass_78 ?_
          refine xr_top (y := (dLev V17) q) rfl ?_
          refine xr_aload_n F dX2_pass_79 rfl 0 rfl ?_
          refine xr_get F hin2 (0) rfl rfl 6 (by decide) (List.mem_of_getElem? (i := 5) rfl) (v := .int (kMark K)) rfl dX2_pass_80 ?_
          refine xr_isub F (((dLev V17) q) - (kMark K)) dX2_pass_83 rfl ?_
          refine xr_istore_n F [(1, .int (((dLev V17) q) - (kMark K))), (0, .ref (o 0))] dX2_pass_84 rfl (by decide) rfl ?_
          refine xr_aload_n F dX2_pass_85 rfl 1 rfl ?_
          refine xr_get F hin2 (0) rfl rfl 2 (by decide) (List.mem_of_getElem? (i := 4) rfl) (v := .ref (o 2)) rfl dX2_pass_86 ?_
          refine xr_aload_n F dX2_pass_89 rfl 1 rfl ?_
          refine xr_get F hin2 (0) rfl rfl 5 (by decide) (List.mem_of_getElem? (i := 3) rfl) (v := .int (nI (kMill K) - 1)) rfl dX2_pass_90 ?_
          refine xr_top (y := nI q) (by rw [hm, nI_pred]) ?_
          refine xr_aald F (2) 2 rfl rfl rfl (q) rfl (by omega) (by decide) dX2_pass_93 ?_
          refine xr_iconst F dX2_pass_94 (v := 0) (by decide) ?_
          refine xr_dup2 F dX2_pass_95 rfl rfl ?_
          refine xr_iald F (5 + q) 0 (zwx_p (by omega)) rfl (0) rfl (by decide) (by decide) dX2_pass_96 ?_
          refine xr_top (y := (dLev V17) q) rfl ?_
          refine xr_iload_n F dX2_pass_97 rfl 0 rfl ?_
          refine xr_isub F (((dLev V17) q) - (((dLev V17) q) - (kMark K))) dX2_pass_98 rfl ?_
          refine xr_iast F (5 + q) 0 (zwx_p (by omega)) rfl (0) rfl (by decide) (by decide) (zwx yI yL o ba pa la ra (kFee K) (kDry K) (kMill K) (kMark K) (kNb K) (kSpr K) (kGoal K) (dHour V17) (dBank V17) (upd (dLev V17) q (((dLev V17) q) - (((dLev V17) q) - (kMark K)))) (dOver V17) (dDrawn V17) (dFull V17) (dLock V17) (dFill V17) (dAt V17) (dPur V17) (dSer V17) x18) (zwx_sp0 (by omega)) dX2_pass_99 ?_
          refine xr_aload_n F dX2_pass_100 rfl 1 rfl ?_
          refine xr_get F hin2 (0) rfl rfl 2 (by decide) (List.mem_of_getElem? (i := 4) rfl) (v := .ref (o 2)) rfl dX2_pass_101 ?_
          refine xr_aload_n F dX2_pass_104 rfl 1 rfl ?_
          refine xr_get F hin2 (0) rfl rfl 5 (by decide) (List.mem_of_getElem? (i := 3) rfl) (v := .int (nI (kMill K) - 1)) rfl dX2_pass_105 ?_
          refine xr_top (y := nI q) (by rw [hm, nI_pred]) ?_
          refine xr_aald F (2) 2 rfl rfl rfl (q) rfl (by omega) (by decide) dX2_pass_108 ?_
          refine xr_iconst F dX2_pass_109 (v := 2) (by decide) ?_
          refine xr_dup2 F dX2_pass_110 rfl rfl ?_
          refine xr_iald F (5 + q) 0 (zwx_p (by omega)) rfl (2) rfl (by decide) (by decide) dX2_pass_111 ?_
          refine xr_top (y := (dDrawn V17) q) rfl ?_
          refine xr_iload_n F dX2_pass_112 rfl 0 rfl ?_
          refine xr_iadd F (((dDrawn V17) q) + (((dLev V17) q) - (kMark K))) dX2_pass_113 rfl ?_
          refine xr_iast F (5 + q) 0 (zwx_p (by omega)) rfl (2) rfl (by decide) (by decide) (zwx yI yL o ba pa la ra (kFee K) (kDry K) (kMill K) (kMark K) (kNb K) (kSpr K) (kGoal K) (dHour V17) (dBank V17) (upd (dLev V17) q (((dLev V17) q) - (((dLev V17) q) - (kMark K)))) (dOver V17) (upd (dDrawn V17) q (((dDrawn V17) q) + (((dLev V17) q) - (kMark K)))) (dFull V17) (dLock V17) (dFill V17) (dAt V17) (dPur V17) (dSer V17) x18) (zwx_sp2 (by omega)) dX2_pass_114 ?_
          refine xr_aload_n F dX2_pass_115 rfl 1 rfl ?_
          refine xr_dup F dX2_pass_116 rfl ?_
          refine xr_get F hin2 (0) rfl rfl 9 (by decide) (List.mem_of_getElem? (i := 6) rfl) (v := .int (dBank V17)) rfl dX2_pass_117 ?_
          refine xr_iload_n F dX2_pass_120 rfl 0 rfl ?_
          refine xr_iconst F dX2_pass_121 (v := 5) (by decide) ?_
          refine xr_idiv F ((((dLev V17) q) - (kMark K)) / 5) dX2_pass_122 (by decide) rfl ?_
          refine xr_iadd F ((dBank V17) + ((((dLev V17) q) - (kMark K)) / 5)) dX2_pass_123 rfl ?_
          refine xr_put (ty := .int) F hin2 (0) rfl rfl 9 (by decide) tyX2 tyX2_ok nmX2 (List.mem_of_getElem? (i := 6) rfl) rfl (by decide) rfl rfl (Nat.le_of_ble_eq_true rfl) (zwx yI yL o ba pa la ra (kFee K) (kDry K) (kMill K) (kMark K) (kNb K) (kSpr K) (kGoal K) (dHour V17) ((dBank V17) + ((((dLev V17) q) - (kMark K)) / 5)) (upd (dLev V17) q (((dLev V17) q) - (((dLev V17) q) - (kMark K)))) (dOver V17) (upd (dDrawn V17) q (((dDrawn V17) q) + (((dLev V17) q) - (kMark K)))) (dFull V17) (dLock V17) (dFill V17) (dAt V17) (dPur V17) (dSer V17) x18) rfl dX2_pass_124 ?_
          refine xr_aload_n F dX2_pass_127 rfl 1 rfl ?_
          refine xr_aload_n F dX2_pass_128 rfl 1 rfl ?_
          refine xr_get F hin2 (0) rfl rfl 5 (by decide) (List.mem_of_getElem? (i := 3) rfl) (v := .int (nI (kMill K) - 1)) rfl dX2_pass_129 ?_
          refine xr_top (y := nI q) (by rw [hm, nI_pred]) ?_
          refine xr_iconst F dX2_pass_132 (v := 1) (by decide) ?_
          refine xr_isub F ((nI q) - 1) dX2_pass_133 rfl ?_
          refine xr_iload_n F dX2_pass_134 rfl 0 rfl ?_
          obtain ⟨V21, eV21⟩ : ∃ x9 : CD, x9 = (dHour V17, (dBank V17) + ((((dLev V17) q) - (kMark K)) / 5), upd (dLev V17) q (((dLev V17) q) - (((dLev V17) q) - (kMark K))), dOver V17, upd (dDrawn V17) q (((dDrawn V17) q) + (((dLev V17) q) - (kMark K))), dFull V17, dLock V17, dFill V17, dAt V17, dPur V17, dSer V17) := ⟨_, rfl⟩
          refine xr_ws (ws' := zw yI yL o ba pa la ra K V21 x18) (by rw [eV21, zw_mk]) ?_
          refine xr_ws (ws' := ([] : va_W) ++ ((zw yI yL o ba pa la ra K V21 x18) ++ (([] : va_W)))) (by first | (simp only [List.append_assoc, List.append_nil, List.nil_append]; done) | rfl | (simp only [List.append_assoc, List.append_nil, List.nil_append]; rfl)) ?_
          refine xr_mcVv F (rest := []) (As := [.int ((nI q) - 1), .int (((dLev V17) q) - (kMark K))]) (k_X2_into l D yI yZ yL o ba pa la ra K V21 x18 q (((dLev V17) q) - (kMark K)) (by omega)) (cwV 2 F.hts gX2_pass_X2_into rfl rfl rfl (by decide +kernel) ⟨Nat.le_trans (m := 7) (show q + 1 ≤ 7 by omega) (Nat.le_of_ble_eq_true rfl), Nat.le_trans (m := 168) (show 8 + (5 + 11) + 24 * q ≤ 168 by omega) (Nat.le_of_ble_eq_true rfl)⟩) (q0 := 0) rfl rfl (([] : va_W)) (([] : va_W)) rfl rfl rfl (Nat.le_of_ble_eq_true rfl) dX2_pass_135 ⟨Nat.le_of_ble_eq_true rfl, (by show _ ≤ (10 : Nat); omega)⟩ (fun W1 z1 => ?_)
          obtain ⟨V22, eV22⟩ : ∃ x9 : CD, x9 = (z_into q (((dLev V17) q) - (kMark K)) V21 x18).1 := ⟨_, rfl⟩
          rw [← eV22] at z1
          obtain ⟨x23, ex23⟩ : ∃ x9 : Int32, x9 = (z_into q (((dLev V17) q) - (kMark K)) V21 x18).2 := ⟨_, rfl⟩
          rw [← ex23] at z1
          subst z1
          refine xr_ws (ws' := zw yI yL o ba pa la ra K V22 x23) (by first | (simp only [List.append_assoc, List.append_nil, List.nil_append]; done) | rfl | (simp only [List.append_assoc, List.append_nil, List.nil_append]; rfl)) ?_
          refine xr_aload_n F dX2_pass_138 rfl 1 rfl ?_
          refine xr_get F hin2 (0) rfl rfl 10 (by decide) (List.mem_of_getElem? (i := 7) rfl) (v := .ref ba) rfl dX2_pass_139 ?_
          refine xr_alen F (4) 2 rfl rfl (v := nI (kNb K)) rfl dX2_pass_142 ?_
          refine xr_newa F 1 (ty := .boolean) rfl (fun _ h => h) (List.mem_of_getElem? (i := 8) rfl) rfl (kNb K) rfl (by omega) (kNb K, .inl (fun _ => 0)) (fun _ => rfl) (by show kNb K * 1 ≤ 536870912; omega) (Nat.le_of_ble_eq_true rfl) (by show _ ≤ (10 : Nat); omega) dX2_pass_143 (fun q24 => ?_)
          refine xr_ws (ws' := zw yI yL o ba pa la ra K V22 x23 ++ (([(q24, .inl (yZ, (kNb K), .inl (fun _ => 0)))] : va_W))) (by first | (simp only [List.append_assoc, List.append_nil, List.nil_append]; done) | rfl | (simp only [List.append_assoc, List.append_nil, List.nil_append]; rfl)) ?_
          refine xr_astore_n F [(1, .ref q24), (0, .ref (o 0))] dX2_pass_145 rfl (by decide) rfl ?_
          refine xr_iconst F dX2_pass_146 (v := 0) (by decide) ?_
          refine xr_istore_n F [(2, .int 0), (1, .ref q24), (0, .ref (o 0))] dX2_pass_147 rfl (by decide) rfl ?_
          refine xr_iconst F dX2_pass_148 (v := nI 5 - 1) (by decide) ?_
          refine xr_istore_n F [(3, .int (nI 5 - 1)), (2, .int 0), (1, .ref q24), (0, .ref (o 0))] dX2_pass_149 rfl (by decide) rfl ?_
          refine xr_lv (lv' := [(3, .int (nI 5 - 1)), (2, .int 0), (0, .ref (o 0)), (1, .ref q24)]) [0, 1, 3, 2] rfl ?_
          refine lp 5 V22 x23 (fun _ => 0) 0 q24 (by omega) ?_
          subst ex23; subst eV22; subst eV21; subst ex18; subst eV17
          first | (simp only [z_hourB, z_hourA, z_mill, z_mill1, hm, c39, c60, ↓reduceIte]; done) | (simp only [z_hourB, z_hourA, z_mill, z_mill1, hm, c39, c60, ↓reduceIte]; rfl)
        · skip
          refine xr_bipush F dX2_pass_63 (v := 10) (by decide) ?_
          refine xr_goto F 84 dX2_pass_65 (by decide) ?_
          refine xr_istore_n F [(1, .int 10), (0, .ref (o 0))] dX2_pass_84 rfl (by decide) rfl ?_
          refine xr_aload_n F dX2_pass_85 rfl 1 rfl ?_
          refine xr_get F hin2 (0) rfl rfl 2 (by decide) (List.mem_of_getElem? (i := 4) rfl) (v := .ref (o 2)) rfl dX2_pass_86 ?_
          refine xr_aload_n F dX2_pass_89 rfl 1 rfl ?_
          refine xr_get F hin2 (0) rfl rfl 5 (by decide) (List.mem_of_getElem? (i := 3) rfl) (v := .int (nI (kMill K) - 1)) rfl dX2_pass_90 ?_
          refine xr_top (y := nI q) (by rw [hm, nI_pred]) ?_
          refine xr_aald F (2) 2 rfl rfl rfl (q) rfl (by omega) (by decide) dX2_pass_93 ?_
          refine xr_iconst F dX2_pass_94 (v := 0) (by decide) ?_
          refine xr_dup2 F dX2_pass_95 rfl rfl ?_
          refine xr_iald F (5 + q) 0 (zwx_p (by omega)) rfl (0) rfl (by decide) (by decide) dX2_pass_96 ?_
          refine xr_top (y := (dLev V17) q) rfl ?_
          refine xr_iload_n F dX2_pass_97 rfl 0 rfl ?_
          refine xr_isub F (((dLev V17) q) - 10) dX2_pass_98 rfl ?_
          refine xr_iast F (5 + q) 0 (zwx_p (by omega)) rfl (0) rfl (by decide) (by decide) (zwx yI yL o ba pa la ra (kFee K) (kDry K) (kMill K) (kMark K) (kNb K) (kSpr K) (kGoal K) (dHour V17) (dBank V17) (upd (dLev V17) q (((dLev V17) q) - 10)) (dOver V17) (dDrawn V17) (dFull V17) (dLock V17) (dFill V17) (dAt V17) (dPur V17) (dSer V17) x18) (zwx_sp0 (by omega)) dX2_pass_99 ?_
          refine xr_aload_n F dX2_pass_100 rfl 1 rfl ?_
          refine xr_get F hin2 (0) rfl rfl 2 (by decide) (List.mem_of_getElem? (i := 4) rfl) (v := .ref (o 2)) rfl dX2_pass_101 ?_
          refine xr_aload_n F dX2_pass_104 rfl 1 rfl ?_
          refine xr_get F hin2 (0) rfl rfl 5 (by decide) (List.mem_of_getElem? (i := 3) rfl) (v := .int (nI (kMill K) - 1)) rfl dX2_pass_105 ?_
          refine xr_top (y := nI q) (by rw [hm, nI_pred]) ?_
          refine xr_aald F (2) 2 rfl rfl rfl (q) rfl (by omega) (by decide) dX2_pass_108 ?_
          refine xr_iconst F dX2_pass_109 (v := 2) (by decide) ?_
          refine xr_dup2 F dX2_pass_110 rfl rfl ?_
          refine xr_iald F (5 + q) 0 (zwx_p (by omega)) rfl (2) rfl (by decide) (by decide) dX2_pass_111 ?_
          refine xr_top (y := (dDrawn V17) q) rfl ?_
          refine xr_iload_n F dX2_pass_112 rfl 0 rfl ?_
          refine xr_iadd F (((dDrawn V17) q) + 10) dX2_pass_113 rfl ?_
          refine xr_iast F (5 + q) 0 (zwx_p (by omega)) rfl (2) rfl (by decide) (by decide) (zwx yI yL o ba pa la ra (kFee K) (kDry K) (kMill K) (kMark K) (kNb K) (kSpr K) (kGoal K) (dHour V17) (dBank V17) (upd (dLev V17) q (((dLev V17) q) - 10)) (dOver V17) (upd (dDrawn V17) q (((dDrawn V17) q) + 10)) (dFull V17) (dLock V17) (dFill V17) (dAt V17) (dPur V17) (dSer V17) x18) (zwx_sp2 (by omega)) dX2_pass_114 ?_
          refine xr_aload_n F dX2_pass_115 rfl 1 rfl ?_
          refine xr_dup F dX2_pass_116 rfl ?_
          refine xr_get F hin2 (0) rfl rfl 9 (by decide) (List.mem_of_getElem? (i := 6) rfl) (v := .int (dBank V17)) rfl dX2_pass_117 ?_
          refine xr_iload_n F dX2_pass_120 rfl 0 rfl ?_
          refine xr_iconst F dX2_pass_121 (v := 5) (by decide) ?_
          refine xr_idiv F (10 / 5) dX2_pass_122 (by decide) rfl ?_
          refine xr_iadd F ((dBank V17) + (10 / 5)) dX2_pass_123 rfl ?_
          refine xr_put (ty := .int) F hin2 (0) rfl rfl 9 (by decide) tyX2 tyX2_ok nmX2 (List.mem_of_getElem? (i := 6) rfl) rfl (by decide) rfl rfl (Nat.le_of_ble_eq_true rfl) (zwx yI yL o ba pa la ra (kFee K) (kDry K) (kMill K) (kMark K) (kNb K) (kSpr K) (kGoal K) (dHour V17) ((dBank V17) + (10 / 5)) (upd (dLev V17) q (((dLev V17) q) - 10)) (dOver V17) (upd (dDrawn V17) q (((dDrawn V17) q) + 10)) (dFull V17) (dLock V17) (dFill V17) (dAt V17) (dPur V17) (dSer V17) x18) rfl dX2_pass_124 ?_
          refine xr_aload_n F dX2_pass_127 rfl 1 rfl ?_
          refine xr_aload_n F dX2_pass_128 rfl 1 rfl ?_
          refine xr_get F hin2 (0) rfl rfl 5 (by decide) (List.mem_of_getElem? (i := 3) rfl) (v := .int (nI (kMill K) - 1)) rfl dX2_pass_129 ?_
          refine xr_top (y := nI q) (by rw [hm, nI_pred]) ?_
          refine xr_iconst F dX2_pass_132 (v := 1) (by decide) ?_
          refine xr_isub F ((nI q) - 1) dX2_pass_133 rfl ?_
          refine xr_iload_n F dX2_pass_134 rfl 0 rfl ?_
          obtain ⟨V25, eV25⟩ : ∃ x9 : CD, x9 = (dHour V17, (dBank V17) + (10 / 5), upd (dLev V17) q (((dLev V17) q) - 10), dOver V17, upd (dDrawn V17) q (((dDrawn V17) q) + 10), dFull V17, dLock V17, dFill V17, dAt V17, dPur V17, dSer V17) := ⟨_, rfl⟩
          refine xr_ws (ws' := zw yI yL o ba pa la ra K V25 x18) (by rw [eV25, zw_mk]) ?_
          refine xr_ws (ws' := ([] : va_W) ++ ((zw yI yL o ba pa la ra K V25 x18) ++ (([] : va_W)))) (by first | (simp only [List.append_assoc, List.append_nil, List.nil_append]; done) | rfl | (simp only [List.append_assoc, List.append_nil, List.nil_append]; rfl)) ?_
          refine xr_mcVv F (rest := []) (As := [.int ((nI q) - 1), .int 10]) (k_X2_into l D yI yZ yL o ba pa la ra K V25 x18 q 10 (by omega)) (cwV 2 F.hts gX2_pass_X2_into rfl rfl rfl (by decide +kernel) ⟨Nat.le_trans (m := 7) (show q + 1 ≤ 7 by omega) (Nat.le_of_ble_eq_true rfl), Nat.le_trans (m := 168) (show 8 + (5 + 11) + 24 * q ≤ 168 by omega) (Nat.le_of_ble_eq_true rfl)⟩) (q0 := 0) rfl rfl (([] : va_W)) (([] : va_W)) rfl rfl rfl (Nat.le_of_ble_eq_true rfl) dX2_pass_135 ⟨Nat.le_of_ble_eq_true rfl, (by show _ ≤ (10 : Nat); omega)⟩ (fun W1 z1 => ?_)
          obtain ⟨V26, eV26⟩ : ∃ x9 : CD, x9 = (z_into q 10 V25 x18).1 := ⟨_, rfl⟩
          rw [← eV26] at z1
          obtain ⟨x27, ex27⟩ : ∃ x9 : Int32, x9 = (z_into q 10 V25 x18).2 := ⟨_, rfl⟩
          rw [← ex27] at z1
          subst z1
          refine xr_ws (ws' := zw yI yL o ba pa la ra K V26 x27) (by first | (simp only [List.append_assoc, List.append_nil, List.nil_append]; done) | rfl | (simp only [List.append_assoc, List.append_nil, List.nil_append]; rfl)) ?_
          refine xr_aload_n F dX2_pass_138 rfl 1 rfl ?_
          refine xr_get F hin2 (0) rfl rfl 10 (by decide) (List.mem_of_getElem? (i := 7) rfl) (v := .ref ba) rfl dX2_pass_139 ?_
          refine xr_alen F (4) 2 rfl rfl (v := nI (kNb K)) rfl dX2_pass_142 ?_
          refine xr_newa F 1 (ty := .boolean) rfl (fun _ h => h) (List.mem_of_getElem? (i := 8) rfl) rfl (kNb K) rfl (by omega) (kNb K, .inl (fun _ => 0)) (fun _ => rfl) (by show kNb K * 1 ≤ 536870912; omega) (Nat.le_of_ble_eq_true rfl) (by show _ ≤ (10 : Nat); omega) dX2_pass_143 (fun q28 => ?_)
          refine xr_ws (ws' := zw yI yL o ba pa la ra K V26 x27 ++ (([(q28, .inl (yZ, (kNb K), .inl (fun _ => 0)))] : va_W))) (by first | (simp only [List.append_assoc, List.append_nil, List.nil_append]; done) | rfl | (simp only [List.append_assoc, List.append_nil, List.nil_append]; rfl)) ?_
          refine xr_astore_n F [(1, .ref q28), (0, .ref (o 0))] dX2_pass_145 rfl (by decide) rfl ?_
          refine xr_iconst F dX2_pass_146 (v := 0) (by decide) ?_
          refine xr_istore_n F [(2, .int 0), (1, .ref q28), (0, .ref (o 0))] dX2_pass_147 rfl (by decide) rfl ?_
          refine xr_iconst F dX2_pass_148 (v := nI 5 - 1) (by decide) ?_
          refine xr_istore_n F [(3, .int (nI 5 - 1)), (2, .int 0), (1, .ref q28), (0, .ref (o 0))] dX2_pass_149 rfl (by decide) rfl ?_
          refine xr_lv (lv' := [(3, .int (nI 5 - 1)), (2, .int 0), (0, .ref (o 0)), (1, .ref q28)]) [0, 1, 3, 2] rfl ?_
          refine lp 5 V26 x27 (fun _ => 0) 0 q28 (by omega) ?_
          subst ex27; subst eV26; subst eV25; subst ex18; subst eV17
          first | (simp only [z_hourB, z_hourA, z_mill, z_mill1, hm, c39, c60, ↓reduceIte]; done) | (simp only [z_hourB, z_hourA, z_mill, z_mill1, hm, c39, c60, ↓reduceIte]; rfl)
