def rm_X3_mean : Room := { frames := 1, cells := 0, slots := 0, locals := 25 }
set_option maxHeartbeats 4000000 in
set_option maxRecDepth 100000 in
/-- mean -/
theorem k_X3_mean (l : Launch) (D : va_G) (yI yZ yL : ClassId) (g u t : Nat → Nat) (th : Int32) (K : CK) (aw : Int32) (wh : Nat → Int32) (V : CD)  (h0 : vf_n64 (FP.ddiv (FP.i2d (c_water V)) (4618441417868443648))) : xMd l yX3_mean wsX3_mean rm_X3_mean D (tysG yI yZ yL) (mw yI g u t th K ++ (sw yI u (kMark K) aw wh V)) [.ref (g 0)] 0 0 (fun (r : UInt64) (W1 : va_W) => r = FP.ddiv (FP.i2d (c_water V)) (4618441417868443648) ∧ W1 = mw yI g u t 0 K ++ (sw yI u (kMark K) aw wh V)) := by
  refine xE_d (cc := cX3_mean) (nL := 1) (by decide) rfl (Nat.le_of_ble_eq_true rfl) ?_
  intro p e s m args below meth c A Q F hnm ret
  have hin3 : ∀ w ∈ u_ws RX3 TX3 9, w ∈ wsX3_mean := by decide +kernel
  show AW p l e rm_X3_mean s m args below meth c 1 D A 0 0 Q (mw yI g u t th K ++ (sw yI u (kMark K) aw wh V)) [(0, .ref (g 0))] 0 []
  refine xr_aload_n F dX3_mean_0 rfl 0 rfl ?_
  refine xr_iconst F dX3_mean_1 (v := 0) (by decide) ?_
  refine xr_put (ty := .int) F hin3 0 rfl rfl 0 (by decide) tyX3 tyX3_ok nmX3 (List.mem_of_getElem? (i := 1) rfl) rfl (by decide) rfl rfl (Nat.le_of_ble_eq_true rfl) (mw yI g u t 0 K ++ (sw yI u (kMark K) aw wh V)) rfl dX3_mean_2 ?_
  refine xr_aload_n F dX3_mean_5 rfl 0 rfl ?_
  refine xr_get F hin3 0 rfl rfl 7 (by decide) (List.mem_of_getElem? (i := 2) rfl) (v := .ref (u 0)) rfl dX3_mean_6 ?_
  refine xr_callVi F (wr := mw yI g u t 0 K) (rest := []) (As := []) (k_X2_allWater l D yI yZ yL u (kMark K) aw wh V ) (cwV 0 F.hts gX3_mean_X2_allWater rfl rfl rfl (by decide +kernel) ⟨Nat.le_of_ble_eq_true rfl, Nat.le_of_ble_eq_true rfl⟩) (q0 := 0) rfl rfl [3, 4, 5, 6, 7, 8, 9, 10, 11, 12, 13] [0, 1, 2] rfl rfl (by decide) (by decide) (by decide) rfl rfl (Nat.le_of_ble_eq_true rfl) dX3_mean_9 ⟨Nat.le_of_ble_eq_true rfl, Nat.le_of_ble_eq_true rfl⟩ (fun r1 W1 z1 => ?_)
  obtain ⟨z0, z1⟩ := z1
  subst z0
  subst z1
  refine xr_ws (ws' := mw yI g u t 0 K ++ (sw yI u (kMark K) aw wh V)) rfl ?_
  refine xr_i2d F dX3_mean_12 ?_
  refine xr_ldc2d F dX3_mean_13 (v := (4618441417868443648)) (List.mem_of_getElem? (i := 3) rfl) ?_
  refine xr_ddiv F dX3_mean_16 h0 ?_
  exact ret _ _ _ _ dX3_mean_17 ⟨rfl, rfl⟩

def rm_X3_digest : Room := { frames := 5, cells := 0, slots := 0, locals := 114 }
set_option maxHeartbeats 4000000 in
set_option maxRecDepth 100000 in
/-- digest -/
theorem k_X3_digest (l : Launch) (D : va_G) (yI yZ yL : ClassId) (g u t : Nat → Nat) (th : Int32) (K : CK) (aw : Int32) (wh : Nat → Int32) (V : CD)  (h0 : kNb K ≤ 10) : xMl l yX3_digest wsX3_digest rm_X3_digest D (tysG yI yZ yL) (mw yI g u t th K ++ (sw yI u (kMark K) aw wh V)) [.ref (g 0)] 0 0 (fun (r : Int64) (W1 : va_W) => r = dgA (m_tellW K V aw) K (m_tellP K V) (m_tellL K V wh) (m_tellB K V) ∧ W1 = mw yI g u t 0 K ++ (sw yI u (kMark K) aw wh V)) := by
  refine xE_l (cc := cX3_digest) (nL := 7) (by decide) rfl (Nat.le_of_ble_eq_true rfl) ?_
  intro p e s m args below meth c A Q F hnm ret
  have hin3 : ∀ w ∈ u_ws RX3 TX3 9, w ∈ wsX3_digest := by decide +kernel
  show AW p l e rm_X3_digest s m args below meth c 7 D A 0 0 Q (mw yI g u t th K ++ (sw yI u (kMark K) aw wh V)) [(0, .ref (g 0))] 0 []
  refine xr_aload_n F dX3_digest_0 rfl 0 rfl ?_
  refine xr_iconst F dX3_digest_1 (v := 0) (by decide) ?_
  refine xr_put (ty := .int) F hin3 0 rfl rfl 0 (by decide) tyX3 tyX3_ok nmX3 (List.mem_of_getElem? (i := 1) rfl) rfl (by decide) rfl rfl (Nat.le_of_ble_eq_true rfl) (mw yI g u t 0 K ++ (sw yI u (kMark K) aw wh V)) rfl dX3_digest_2 ?_
  refine xr_ldc2 F dX3_digest_5 (v := (1453)) (List.mem_of_getElem? (i := 2) rfl) ?_
  refine xr_lstore_n F [(1, .long ((1453))), (0, .ref (g 0))] dX3_digest_8 rfl (by decide) rfl ?_
  refine xr_iconst F dX3_digest_9 (v := 0) (by decide) ?_
  refine xr_istore_n F [(3, .int 0), (1, .long ((1453))), (0, .ref (g 0))] dX3_digest_10 rfl (by decide) rfl ?_
  have lp1 : ∀ (i : Nat) (b : Nat) (d : Int64), i + b = 10 → dgL (m_tellW K V aw) i b d = dgL (m_tellW K V aw) 10 0 1453 → AW p l e rm_X3_digest s m args below meth c 7 D A 0 0 Q (mw yI g u t 0 K ++ (sw yI u (kMark K) aw wh V)) [(3, .int (nI b)), (1, .long d), (0, .ref (g 0))] 11 [] := by
    intro i
    induction i with
    | zero =>
      intro b d hb hi1
      refine xr_iload_n F dX3_digest_11 rfl 0 rfl ?_
      refine xr_bipush F dX3_digest_12 (v := 9) (by decide) ?_
      refine xr_icmp_gt F 40 dX3_digest_14 (by decide) (fun c14 => ?_) (fun c14 => ?_)
      · skip
        refine xr_lload_n F dX3_digest_40 rfl 1 rfl ?_
        refine xr_ldc2 F dX3_digest_41 (v := (31)) (List.mem_of_getElem? (i := 3) rfl) ?_
        refine xr_lmul F dX3_digest_44 ?_
        refine xr_aload_n F dX3_digest_45 rfl 2 rfl ?_
        refine xr_get F hin3 0 rfl rfl 5 (by decide) (List.mem_of_getElem? (i := 5) rfl) (v := .int (kDry K)) rfl dX3_digest_46 ?_
        refine xr_if_eq F 56 dX3_digest_49 (by decide) (fun c49 => ?_) (fun c49 => ?_)
        · skip
          refine xr_iconst F dX3_digest_56 (v := 0) (by decide) ?_
          refine xr_i2l F dX3_digest_57 (v := (if kDry K = 0 then (0 : Int32) else 1).toInt64) (by rw [if_pos c49]) ?_
          refine xr_ladd F dX3_digest_58 ?_
          refine xr_lstore_n F [(1, .long ((d * (31)) + ((if kDry K = 0 then (0 : Int32) else 1).toInt64))), (3, .int (nI b)), (0, .ref (g 0))] dX3_digest_59 rfl (by decide) rfl ?_
          refine xr_aload_n F dX3_digest_60 rfl 2 rfl ?_
          refine xr_get F hin3 0 rfl rfl 3 (by decide) (List.mem_of_getElem? (i := 6) rfl) (v := .ref (g 2)) rfl dX3_digest_61 ?_
          refine xr_astore_n F [(3, .ref (g 2)), (1, .long ((d * (31)) + ((if kDry K = 0 then (0 : Int32) else 1).toInt64))), (0, .ref (g 0))] dX3_digest_64 rfl (by decide) rfl ?_
          refine xr_aload_n F dX3_digest_65 rfl 0 rfl ?_
          refine xr_alen F 2 0 rfl rfl (v := 8) rfl dX3_digest_66 ?_
          refine xr_istore F [(4, .int 8), (3, .ref (g 2)), (1, .long ((d * (31)) + ((if kDry K = 0 then (0 : Int32) else 1).toInt64))), (0, .ref (g 0))] dX3_digest_67 (by decide) rfl ?_
          refine xr_iconst F dX3_digest_69 (v := 0) (by decide) ?_
          refine xr_istore F [(5, .int 0), (4, .int 8), (3, .ref (g 2)), (1, .long ((d * (31)) + ((if kDry K = 0 then (0 : Int32) else 1).toInt64))), (0, .ref (g 0))] dX3_digest_70 (by decide) rfl ?_
          have lp3 : ∀ (i : Nat) (b : Nat) (d : Int64), i + b = 8 → dgL (kSpr K) i b d = dgL (kSpr K) 8 0 (dgL (m_tellW K V aw) 10 0 1453 * 31 + (if kDry K = 0 then (0 : Int32) else 1).toInt64) → AW p l e rm_X3_digest s m args below meth c 7 D A 0 0 Q (mw yI g u t 0 K ++ (sw yI u (kMark K) aw wh V)) [(5, .int (nI b)), (1, .long d), (0, .ref (g 0)), (4, .int 8), (3, .ref (g 2))] 72 [] := by
            intro i
            induction i with
            | zero =>
              intro b d hb hi3
              refine xr_iload F dX3_digest_72 0 rfl ?_
              refine xr_iload F dX3_digest_74 3 rfl ?_
              refine xr_icmp_ge F 101 dX3_digest_76 (by decide) (fun c76 => ?_) (fun c76 => ?_)
              · skip
                refine xr_iconst F dX3_digest_101 (v := 0) (by decide) ?_
                refine xr_istore_n F [(3, .int 0), (5, .int (nI b)), (1, .long d), (0, .ref (g 0)), (4, .int 8)] dX3_digest_102 rfl (by decide) rfl ?_
                have lp4 : ∀ (i : Nat) (b : Nat) (d : Int64), i + b = 6 → dgN (m_tellP K V) 4 i b d = dgN (m_tellP K V) 4 6 0 (dgL (kSpr K) 8 0 (dgL (m_tellW K V aw) 10 0 1453 * 31 + (if kDry K = 0 then (0 : Int32) else 1).toInt64)) → AW p l e rm_X3_digest s m args below meth c 7 D A 0 0 Q (mw yI g u t 0 K ++ (sw yI u (kMark K) aw wh V)) [(3, .int (nI b)), (1, .long d), (0, .ref (g 0))] 103 [] := by
                  intro i
                  induction i with
                  | zero =>
                    intro b d hb hi4
                    refine xr_iload_n F dX3_digest_103 rfl 0 rfl ?_
                    refine xr_bipush F dX3_digest_104 (v := 6) (by decide) ?_
                    refine xr_icmp_ge F 145 dX3_digest_106 (by decide) (fun c106 => ?_) (fun c106 => ?_)
                    · skip
                      refine xr_iconst F dX3_digest_145 (v := 0) (by decide) ?_
                      refine xr_istore_n F [(3, .int 0), (1, .long d), (0, .ref (g 0))] dX3_digest_146 rfl (by decide) rfl ?_
                      have lp5 : ∀ (i : Nat) (b : Nat) (d : Int64), i + b = 5 → dgN (m_tellL K V wh) 5 i b d = dgN (m_tellL K V wh) 5 5 0 (dgN (m_tellP K V) 4 6 0 (dgL (kSpr K) 8 0 (dgL (m_tellW K V aw) 10 0 1453 * 31 + (if kDry K = 0 then (0 : Int32) else 1).toInt64))) → AW p l e rm_X3_digest s m args below meth c 7 D A 0 0 Q (mw yI g u t 0 K ++ (sw yI u (kMark K) aw wh V)) [(3, .int (nI b)), (1, .long d), (0, .ref (g 0))] 147 [] := by
                        intro i
                        induction i with
                        | zero =>
                          intro b d hb hi5
                          refine xr_iload_n F dX3_digest_147 rfl 0 rfl ?_
                          refine xr_iconst F dX3_digest_148 (v := 5) (by decide) ?_
                          refine xr_icmp_ge F 188 dX3_digest_149 (by decide) (fun c149 => ?_) (fun c149 => ?_)
                          · skip
                            refine xr_iconst F dX3_digest_188 (v := 0) (by decide) ?_
                            refine xr_istore_n F [(3, .int 0), (1, .long d), (0, .ref (g 0))] dX3_digest_189 rfl (by decide) rfl ?_
                            have lp6 : ∀ (i : Nat) (b : Nat) (d : Int64), i + b = kNb K → dgN (m_tellB K V) 5 i b d = dgN (m_tellB K V) 5 (kNb K) 0 (dgN (m_tellL K V wh) 5 5 0 (dgN (m_tellP K V) 4 6 0 (dgL (kSpr K) 8 0 (dgL (m_tellW K V aw) 10 0 1453 * 31 + (if kDry K = 0 then (0 : Int32) else 1).toInt64)))) → AW p l e rm_X3_digest s m args below meth c 7 D A 0 0 Q (mw yI g u t 0 K ++ (sw yI u (kMark K) aw wh V)) [(3, .int (nI b)), (1, .long d), (0, .ref (g 0))] 190 [] := by
                              intro i
                              induction i with
                              | zero =>
                                intro b d hb hi6
                                refine xr_iload_n F dX3_digest_190 rfl 0 rfl ?_
                                refine xr_aload_n F dX3_digest_191 rfl 2 rfl ?_
                                refine xr_get F hin3 0 rfl rfl 1 (by decide) (List.mem_of_getElem? (i := 7) rfl) (v := .int (nI (kNb K))) rfl dX3_digest_192 ?_
                                refine xr_icmp_ge F 234 dX3_digest_195 (by decide) (fun c195 => ?_) (fun c195 => ?_)
                                · skip
                                  refine xr_lload_n F dX3_digest_234 rfl 1 rfl ?_
                                  exact ret _ _ _ _ dX3_digest_235 ⟨hi6, rfl⟩
                                · exact (xk_ge (a := kNb K) (b := b) (by omega) (by omega) c195).elim
                              | succ i ih =>
                                intro b d hb hi6
                                refine xr_iload_n F dX3_digest_190 rfl 0 rfl ?_
                                refine xr_aload_n F dX3_digest_191 rfl 2 rfl ?_
                                refine xr_get F hin3 0 rfl rfl 1 (by decide) (List.mem_of_getElem? (i := 7) rfl) (v := .int (nI (kNb K))) rfl dX3_digest_192 ?_
                                refine xr_icmp_ge F 234 dX3_digest_195 (by decide) (fun c195 => ?_) (fun c195 => ?_)
                                · exact (xk_nlt (a := b) (b := kNb K) (by omega) (by omega) (by omega) c195).elim
                                · skip
                                  refine xr_iconst F dX3_digest_198 (v := 0) (by decide) ?_
                                  refine xr_istore F [(4, .int 0), (3, .int (nI b)), (1, .long d), (0, .ref (g 0))] dX3_digest_199 (by decide) rfl ?_
                                  have lp6j : ∀ (j : Nat) (w : Nat) (d : Int64), j + w = 5 → dgN (m_tellB K V) 5 i (b + 1) (dgL (m_tellB K V b) j w d) = dgN (m_tellB K V) 5 (kNb K) 0 (dgN (m_tellL K V wh) 5 5 0 (dgN (m_tellP K V) 4 6 0 (dgL (kSpr K) 8 0 (dgL (m_tellW K V aw) 10 0 1453 * 31 + (if kDry K = 0 then (0 : Int32) else 1).toInt64)))) → AW p l e rm_X3_digest s m args below meth c 7 D A 0 0 Q (mw yI g u t 0 K ++ (sw yI u (kMark K) aw wh V)) [(4, .int (nI w)), (3, .int (nI b)), (1, .long d), (0, .ref (g 0))] 201 [] := by
                                    intro j
                                    induction j with
                                    | zero =>
                                      intro w d hbj hi6j
                                      refine xr_iload F dX3_digest_201 0 rfl ?_
                                      refine xr_iconst F dX3_digest_203 (v := 4) (by decide) ?_
                                      refine xr_icmp_gt F 228 dX3_digest_204 (by decide) (fun c204 => ?_) (fun c204 => ?_)
                                      · skip
                                        refine xr_iinc F (nI (b + 1)) [(3, .int (nI (b + 1))), (4, .int (nI w)), (1, .long d), (0, .ref (g 0))] dX3_digest_228 1 rfl (nI_add b 1) (by decide) rfl ?_
                                        refine xr_goto F 190 dX3_digest_231 (by decide) ?_
                                        refine xr_lv (lv' := [(3, .int (nI (b + 1))), (1, .long d), (0, .ref (g 0))]) [0, 2, 3] rfl ?_
                                        exact ih (b + 1) d (by omega) hi6j
                                      · exact absurd (nI_lt (a := 4) (by omega) (by omega)) c204
                                    | succ j ih =>
                                      intro w d hbj hi6j
                                      refine xr_iload F dX3_digest_201 0 rfl ?_
                                      refine xr_iconst F dX3_digest_203 (v := 4) (by decide) ?_
                                      refine xr_icmp_gt F 228 dX3_digest_204 (by decide) (fun c204 => ?_) (fun c204 => ?_)
                                      · exact absurd c204 (nI_nlt (a := 4) (by omega) (by omega))
                                      · skip
                                        refine xr_lload_n F dX3_digest_207 rfl 2 rfl ?_
                                        refine xr_ldc2 F dX3_digest_208 (v := (31)) (List.mem_of_getElem? (i := 3) rfl) ?_
                                        refine xr_lmul F dX3_digest_211 ?_
                                        refine xr_aload_n F dX3_digest_212 rfl 3 rfl ?_
                                        refine xr_iload_n F dX3_digest_213 rfl 1 rfl ?_
                                        refine xr_iload F dX3_digest_214 0 rfl ?_
                                        refine xr_callVi F (wr := ([] : va_W)) (rest := [.long (d * (31))]) (As := [.int (nI b), .int (nI w)]) (k_X3_bargeTold l D yI yZ yL g u t 0 K aw wh V b w (by omega) (by omega)) (cwV 2 F.hts gX3_digest_X3_bargeTold rfl rfl rfl (by decide +kernel) ⟨Nat.le_of_ble_eq_true rfl, Nat.le_of_ble_eq_true rfl⟩) (q0 := 0) rfl rfl [0, 1, 2, 3, 4, 5, 6, 7, 8, 9, 10, 11, 12, 13] [] rfl rfl (by decide) (by decide) (by decide) rfl rfl (Nat.le_of_ble_eq_true rfl) dX3_digest_216 ⟨Nat.le_of_ble_eq_true rfl, Nat.le_of_ble_eq_true rfl⟩ (fun r1 W1 z1 => ?_)
                                        obtain ⟨z0, z1⟩ := z1
                                        subst z0
                                        subst z1
                                        refine xr_ws (ws' := mw yI g u t 0 K ++ (sw yI u (kMark K) aw wh V)) rfl ?_
                                        refine xr_i2l F dX3_digest_219 (v := (m_tellB K V b w).toInt64) rfl ?_
                                        refine xr_ladd F dX3_digest_220 ?_
                                        refine xr_lstore_n F [(1, .long ((d * (31)) + ((m_tellB K V b w).toInt64))), (4, .int (nI w)), (3, .int (nI b)), (0, .ref (g 0))] dX3_digest_221 rfl (by decide) rfl ?_
                                        refine xr_iinc F (nI (w + 1)) [(4, .int (nI (w + 1))), (1, .long ((d * (31)) + ((m_tellB K V b w).toInt64))), (3, .int (nI b)), (0, .ref (g 0))] dX3_digest_222 1 rfl (nI_add w 1) (by decide) rfl ?_
                                        refine xr_goto F 201 dX3_digest_225 (by decide) ?_
                                        refine xr_lv (lv' := [(4, .int (nI (w + 1))), (3, .int (nI b)), (1, .long ((d * (31)) + ((m_tellB K V b w).toInt64))), (0, .ref (g 0))]) [0, 2, 1, 3] rfl ?_
                                        exact ih (w + 1) ((d * (31)) + ((m_tellB K V b w).toInt64)) (by omega) (by rw [← hi6j]; simp only [dgL])
                                  refine xr_lv (lv' := [(4, .int 0), (3, .int (nI b)), (1, .long d), (0, .ref (g 0))]) [0, 1, 2, 3] rfl ?_
                                  exact lp6j 5 0 d rfl hi6
                            refine xr_lv (lv' := [(3, .int 0), (1, .long d), (0, .ref (g 0))]) [0, 1, 2] rfl ?_
                            exact lp6 (kNb K) 0 d rfl (by rw [show d = dgN (m_tellL K V wh) 5 5 0 (dgN (m_tellP K V) 4 6 0 (dgL (kSpr K) 8 0 (dgL (m_tellW K V aw) 10 0 1453 * 31 + (if kDry K = 0 then (0 : Int32) else 1).toInt64))) from hi5])
                          · exact (xk_ge (a := 5) (b := b) (by omega) (by omega) c149).elim
                        | succ i ih =>
                          intro b d hb hi5
                          refine xr_iload_n F dX3_digest_147 rfl 0 rfl ?_
                          refine xr_iconst F dX3_digest_148 (v := 5) (by decide) ?_
                          refine xr_icmp_ge F 188 dX3_digest_149 (by decide) (fun c149 => ?_) (fun c149 => ?_)
                          · exact (xk_nlt (a := b) (b := 5) (by omega) (by omega) (by omega) c149).elim
                          · skip
                            refine xr_iconst F dX3_digest_152 (v := 0) (by decide) ?_
                            refine xr_istore F [(4, .int 0), (3, .int (nI b)), (1, .long d), (0, .ref (g 0))] dX3_digest_153 (by decide) rfl ?_
                            have lp5j : ∀ (j : Nat) (w : Nat) (d : Int64), j + w = 5 → dgN (m_tellL K V wh) 5 i (b + 1) (dgL (m_tellL K V wh b) j w d) = dgN (m_tellL K V wh) 5 5 0 (dgN (m_tellP K V) 4 6 0 (dgL (kSpr K) 8 0 (dgL (m_tellW K V aw) 10 0 1453 * 31 + (if kDry K = 0 then (0 : Int32) else 1).toInt64))) → AW p l e rm_X3_digest s m args below meth c 7 D A 0 0 Q (mw yI g u t 0 K ++ (sw yI u (kMark K) aw wh V)) [(4, .int (nI w)), (3, .int (nI b)), (1, .long d), (0, .ref (g 0))] 155 [] := by
                              intro j
                              induction j with
                              | zero =>
                                intro w d hbj hi5j
                                refine xr_iload F dX3_digest_155 0 rfl ?_
                                refine xr_iconst F dX3_digest_157 (v := 4) (by decide) ?_
                                refine xr_icmp_gt F 182 dX3_digest_158 (by decide) (fun c158 => ?_) (fun c158 => ?_)
                                · skip
                                  refine xr_iinc F (nI (b + 1)) [(3, .int (nI (b + 1))), (4, .int (nI w)), (1, .long d), (0, .ref (g 0))] dX3_digest_182 1 rfl (nI_add b 1) (by decide) rfl ?_
                                  refine xr_goto F 147 dX3_digest_185 (by decide) ?_
                                  refine xr_lv (lv' := [(3, .int (nI (b + 1))), (1, .long d), (0, .ref (g 0))]) [0, 2, 3] rfl ?_
                                  exact ih (b + 1) d (by omega) hi5j
                                · exact absurd (nI_lt (a := 4) (by omega) (by omega)) c158
                              | succ j ih =>
                                intro w d hbj hi5j
                                refine xr_iload F dX3_digest_155 0 rfl ?_
                                refine xr_iconst F dX3_digest_157 (v := 4) (by decide) ?_
                                refine xr_icmp_gt F 182 dX3_digest_158 (by decide) (fun c158 => ?_) (fun c158 => ?_)
                                · exact absurd c158 (nI_nlt (a := 4) (by omega) (by omega))
                                · skip
                                  refine xr_lload_n F dX3_digest_161 rfl 2 rfl ?_
                                  refine xr_ldc2 F dX3_digest_162 (v := (31)) (List.mem_of_getElem? (i := 3) rfl) ?_
                                  refine xr_lmul F dX3_digest_165 ?_
                                  refine xr_aload_n F dX3_digest_166 rfl 3 rfl ?_
                                  refine xr_iload_n F dX3_digest_167 rfl 1 rfl ?_
                                  refine xr_iload F dX3_digest_168 0 rfl ?_
                                  refine xr_callVi F (wr := ([] : va_W)) (rest := [.long (d * (31))]) (As := [.int (nI b), .int (nI w)]) (k_X3_lockTold l D yI yZ yL g u t 0 K aw wh V b w (by omega) (by omega) (by assumption)) (cwV 2 F.hts gX3_digest_X3_lockTold rfl rfl rfl (by decide +kernel) ⟨Nat.le_of_ble_eq_true rfl, Nat.le_of_ble_eq_true rfl⟩) (q0 := 0) rfl rfl [0, 1, 2, 3, 4, 5, 6, 7, 8, 9, 10, 11, 12, 13] [] rfl rfl (by decide) (by decide) (by decide) rfl rfl (Nat.le_of_ble_eq_true rfl) dX3_digest_170 ⟨Nat.le_of_ble_eq_true rfl, Nat.le_of_ble_eq_true rfl⟩ (fun r1 W1 z1 => ?_)
                                  obtain ⟨z0, z1⟩ := z1
                                  subst z0
                                  subst z1
                                  refine xr_ws (ws' := mw yI g u t 0 K ++ (sw yI u (kMark K) aw wh V)) rfl ?_
                                  refine xr_i2l F dX3_digest_173 (v := (m_tellL K V wh b w).toInt64) rfl ?_
                                  refine xr_ladd F dX3_digest_174 ?_
                                  refine xr_lstore_n F [(1, .long ((d * (31)) + ((m_tellL K V wh b w).toInt64))), (4, .int (nI w)), (3, .int (nI b)), (0, .ref (g 0))] dX3_digest_175 rfl (by decide) rfl ?_
                                  refine xr_iinc F (nI (w + 1)) [(4, .int (nI (w + 1))), (1, .long ((d * (31)) + ((m_tellL K V wh b w).toInt64))), (3, .int (nI b)), (0, .ref (g 0))] dX3_digest_176 1 rfl (nI_add w 1) (by decide) rfl ?_
                                  refine xr_goto F 155 dX3_digest_179 (by decide) ?_
                                  refine xr_lv (lv' := [(4, .int (nI (w + 1))), (3, .int (nI b)), (1, .long ((d * (31)) + ((m_tellL K V wh b w).toInt64))), (0, .ref (g 0))]) [0, 2, 1, 3] rfl ?_
                                  exact ih (w + 1) ((d * (31)) + ((m_tellL K V wh b w).toInt64)) (by omega) (by rw [← hi5j]; simp only [dgL])
                            refine xr_lv (lv' := [(4, .int 0), (3, .int (nI b)), (1, .long d), (0, .ref (g 0))]) [0, 1, 2, 3] rfl ?_
                            exact lp5j 5 0 d rfl hi5
                      refine xr_lv (lv' := [(3, .int 0), (1, .long d), (0, .ref (g 0))]) [0, 1, 2] rfl ?_
                      exact lp5 5 0 d rfl (by rw [show d = dgN (m_tellP K V) 4 6 0 (dgL (kSpr K) 8 0 (dgL (m_tellW K V aw) 10 0 1453 * 31 + (if kDry K = 0 then (0 : Int32) else 1).toInt64)) from hi4])
                    · exact (xk_ge (a := 6) (b := b) (by omega) (by omega) c106).elim
                  | succ i ih =>
                    intro b d hb hi4
                    refine xr_iload_n F dX3_digest_103 rfl 0 rfl ?_
                    refine xr_bipush F dX3_digest_104 (v := 6) (by decide) ?_
                    refine xr_icmp_ge F 145 dX3_digest_106 (by decide) (fun c106 => ?_) (fun c106 => ?_)
                    · exact (xk_nlt (a := b) (b := 6) (by omega) (by omega) (by omega) c106).elim
                    · skip
                      refine xr_iconst F dX3_digest_109 (v := 0) (by decide) ?_
                      refine xr_istore F [(4, .int 0), (3, .int (nI b)), (1, .long d), (0, .ref (g 0))] dX3_digest_110 (by decide) rfl ?_
                      have lp4j : ∀ (j : Nat) (w : Nat) (d : Int64), j + w = 4 → dgN (m_tellP K V) 4 i (b + 1) (dgL (m_tellP K V b) j w d) = dgN (m_tellP K V) 4 6 0 (dgL (kSpr K) 8 0 (dgL (m_tellW K V aw) 10 0 1453 * 31 + (if kDry K = 0 then (0 : Int32) else 1).toInt64)) → AW p l e rm_X3_digest s m args below meth c 7 D A 0 0 Q (mw yI g u t 0 K ++ (sw yI u (kMark K) aw wh V)) [(4, .int (nI w)), (3, .int (nI b)), (1, .long d), (0, .ref (g 0))] 112 [] := by
                        intro j
                        induction j with
                        | zero =>
                          intro w d hbj hi4j
                          refine xr_iload F dX3_digest_112 0 rfl ?_
                          refine xr_iconst F dX3_digest_114 (v := 3) (by decide) ?_
                          refine xr_icmp_gt F 139 dX3_digest_115 (by decide) (fun c115 => ?_) (fun c115 => ?_)
                          · skip
                            refine xr_iinc F (nI (b + 1)) [(3, .int (nI (b + 1))), (4, .int (nI w)), (1, .long d), (0, .ref (g 0))] dX3_digest_139 1 rfl (nI_add b 1) (by decide) rfl ?_
                            refine xr_goto F 103 dX3_digest_142 (by decide) ?_
                            refine xr_lv (lv' := [(3, .int (nI (b + 1))), (1, .long d), (0, .ref (g 0))]) [0, 2, 3] rfl ?_
                            exact ih (b + 1) d (by omega) hi4j
                          · exact absurd (nI_lt (a := 3) (by omega) (by omega)) c115
                        | succ j ih =>
                          intro w d hbj hi4j
                          refine xr_iload F dX3_digest_112 0 rfl ?_
                          refine xr_iconst F dX3_digest_114 (v := 3) (by decide) ?_
                          refine xr_icmp_gt F 139 dX3_digest_115 (by decide) (fun c115 => ?_) (fun c115 => ?_)
                          · exact absurd c115 (nI_nlt (a := 3) (by omega) (by omega))
                          · skip
                            refine xr_lload_n F dX3_digest_118 rfl 2 rfl ?_
                            refine xr_ldc2 F dX3_digest_119 (v := (31)) (List.mem_of_getElem? (i := 3) rfl) ?_
                            refine xr_lmul F dX3_digest_122 ?_
                            refine xr_aload_n F dX3_digest_123 rfl 3 rfl ?_
                            refine xr_iload_n F dX3_digest_124 rfl 1 rfl ?_
                            refine xr_iload F dX3_digest_125 0 rfl ?_
                            refine xr_callVi F (wr := ([] : va_W)) (rest := [.long (d * (31))]) (As := [.int (nI b), .int (nI w)]) (k_X3_poundTold l D yI yZ yL g u t 0 K aw wh V b w (by omega) (by omega) (by assumption)) (cwV 2 F.hts gX3_digest_X3_poundTold rfl rfl rfl (by decide +kernel) ⟨Nat.le_of_ble_eq_true rfl, Nat.le_of_ble_eq_true rfl⟩) (q0 := 0) rfl rfl [0, 1, 2, 3, 4, 5, 6, 7, 8, 9, 10, 11, 12, 13] [] rfl rfl (by decide) (by decide) (by decide) rfl rfl (Nat.le_of_ble_eq_true rfl) dX3_digest_127 ⟨Nat.le_of_ble_eq_true rfl, Nat.le_of_ble_eq_true rfl⟩ (fun r1 W1 z1 => ?_)
                            obtain ⟨z0, z1⟩ := z1
                            subst z0
                            subst z1
                            refine xr_ws (ws' := mw yI g u t 0 K ++ (sw yI u (kMark K) aw wh V)) rfl ?_
                            refine xr_i2l F dX3_digest_130 (v := (m_tellP K V b w).toInt64) rfl ?_
                            refine xr_ladd F dX3_digest_131 ?_
                            refine xr_lstore_n F [(1, .long ((d * (31)) + ((m_tellP K V b w).toInt64))), (4, .int (nI w)), (3, .int (nI b)), (0, .ref (g 0))] dX3_digest_132 rfl (by decide) rfl ?_
                            refine xr_iinc F (nI (w + 1)) [(4, .int (nI (w + 1))), (1, .long ((d * (31)) + ((m_tellP K V b w).toInt64))), (3, .int (nI b)), (0, .ref (g 0))] dX3_digest_133 1 rfl (nI_add w 1) (by decide) rfl ?_
                            refine xr_goto F 112 dX3_digest_136 (by decide) ?_
                            refine xr_lv (lv' := [(4, .int (nI (w + 1))), (3, .int (nI b)), (1, .long ((d * (31)) + ((m_tellP K V b w).toInt64))), (0, .ref (g 0))]) [0, 2, 1, 3] rfl ?_
                            exact ih (w + 1) ((d * (31)) + ((m_tellP K V b w).toInt64)) (by omega) (by rw [← hi4j]; simp only [dgL])
                      refine xr_lv (lv' := [(4, .int 0), (3, .int (nI b)), (1, .long d), (0, .ref (g 0))]) [0, 1, 2, 3] rfl ?_
                      exact lp4j 4 0 d rfl hi4
                refine xr_lv (lv' := [(3, .int 0), (1, .long d), (0, .ref (g 0))]) [0, 2, 3] rfl ?_
                exact lp4 6 0 d rfl (by rw [show d = dgL (kSpr K) 8 0 (dgL (m_tellW K V aw) 10 0 1453 * 31 + (if kDry K = 0 then (0 : Int32) else 1).toInt64) from hi3])
              · exact (xk_ge (a := 8) (b := b) (by omega) (by omega) c76).elim
            | succ i ih =>
              intro b d hb hi3
              refine xr_iload F dX3_digest_72 0 rfl ?_
              refine xr_iload F dX3_digest_74 3 rfl ?_
              refine xr_icmp_ge F 101 dX3_digest_76 (by decide) (fun c76 => ?_) (fun c76 => ?_)
              · exact (xk_nlt (a := b) (b := 8) (by omega) (by omega) (by omega) c76).elim
              · skip
                refine xr_aload_n F dX3_digest_79 rfl 4 rfl ?_
                refine xr_iload F dX3_digest_80 0 rfl ?_
                refine xr_iald F 2 0 rfl rfl (b) rfl (by omega) (by decide) dX3_digest_82 ?_
                refine xr_istore F [(6, .int ((kSpr K) b)), (5, .int (nI b)), (1, .long d), (0, .ref (g 0)), (4, .int 8), (3, .ref (g 2))] dX3_digest_83 (by decide) rfl ?_
                refine xr_lload_n F dX3_digest_85 rfl 2 rfl ?_
                refine xr_ldc2 F dX3_digest_86 (v := (31)) (List.mem_of_getElem? (i := 3) rfl) ?_
                refine xr_lmul F dX3_digest_89 ?_
                refine xr_iload F dX3_digest_90 0 rfl ?_
                refine xr_i2l F dX3_digest_92 (v := ((kSpr K) b).toInt64) rfl ?_
                refine xr_ladd F dX3_digest_93 ?_
                refine xr_lstore_n F [(1, .long ((d * (31)) + (((kSpr K) b).toInt64))), (6, .int ((kSpr K) b)), (5, .int (nI b)), (0, .ref (g 0)), (4, .int 8), (3, .ref (g 2))] dX3_digest_94 rfl (by decide) rfl ?_
                refine xr_iinc F (nI (b + 1)) [(5, .int (nI (b + 1))), (1, .long ((d * (31)) + (((kSpr K) b).toInt64))), (6, .int ((kSpr K) b)), (0, .ref (g 0)), (4, .int 8), (3, .ref (g 2))] dX3_digest_95 2 rfl (nI_add b 1) (by decide) rfl ?_
                refine xr_goto F 72 dX3_digest_98 (by decide) ?_
                refine xr_lv (lv' := [(5, .int (nI (b + 1))), (1, .long ((d * (31)) + (((kSpr K) b).toInt64))), (0, .ref (g 0)), (4, .int 8), (3, .ref (g 2))]) [0, 1, 3, 4, 5] rfl ?_
                exact ih (b + 1) ((d * (31)) + (((kSpr K) b).toInt64)) (by omega) (by rw [← hi3]; simp only [dgL])
          refine xr_lv (lv' := [(5, .int 0), (1, .long ((d * (31)) + ((if kDry K = 0 then (0 : Int32) else 1).toInt64))), (0, .ref (g 0)), (4, .int 8), (3, .ref (g 2))]) [0, 3, 4, 1, 2] rfl ?_
          exact lp3 8 0 ((d * (31)) + ((if kDry K = 0 then (0 : Int32) else 1).toInt64)) rfl (by rw [show d = dgL (m_tellW K V aw) 10 0 1453 from hi1])
        · skip
          refine xr_iconst F dX3_digest_52 (v := 1) (by decide) ?_
          refine xr_goto F 57 dX3_digest_53 (by decide) ?_
          refine xr_i2l F dX3_digest_57 (v := (if kDry K = 0 then (0 : Int32) else 1).toInt64) (by rw [if_neg c49]) ?_
          refine xr_ladd F dX3_digest_58 ?_
          refine xr_lstore_n F [(1, .long ((d * (31)) + ((if kDry K = 0 then (0 : Int32) else 1).toInt64))), (3, .int (nI b)), (0, .ref (g 0))] dX3_digest_59 rfl (by decide) rfl ?_
          refine xr_aload_n F dX3_digest_60 rfl 2 rfl ?_
          refine xr_get F hin3 0 rfl rfl 3 (by decide) (List.mem_of_getElem? (i := 6) rfl) (v := .ref (g 2)) rfl dX3_digest_61 ?_
          refine xr_astore_n F [(3, .ref (g 2)), (1, .long ((d * (31)) + ((if kDry K = 0 then (0 : Int32) else 1).toInt64))), (0, .ref (g 0))] dX3_digest_64 rfl (by decide) rfl ?_
          refine xr_aload_n F dX3_digest_65 rfl 0 rfl ?_
          refine xr_alen F 2 0 rfl rfl (v := 8) rfl dX3_digest_66 ?_
          refine xr_istore F [(4, .int 8), (3, .ref (g 2)), (1, .long ((d * (31)) + ((if kDry K = 0 then (0 : Int32) else 1).toInt64))), (0, .ref (g 0))] dX3_digest_67 (by decide) rfl ?_
          refine xr_iconst F dX3_digest_69 (v := 0) (by decide) ?_
          refine xr_istore F [(5, .int 0), (4, .int 8), (3, .ref (g 2)), (1, .long ((d * (31)) + ((if kDry K = 0 then (0 : Int32) else 1).toInt64))), (0, .ref (g 0))] dX3_digest_70 (by decide) rfl ?_
          have lp3 : ∀ (i : Nat) (b : Nat) (d : Int64), i + b = 8 → dgL (kSpr K) i b d = dgL (kSpr K) 8 0 (dgL (m_tellW K V aw) 10 0 1453 * 31 + (if kDry K = 0 then (0 : Int32) else 1).toInt64) → AW p l e rm_X3_digest s m args below meth c 7 D A 0 0 Q (mw yI g u t 0 K ++ (sw yI u (kMark K) aw wh V)) [(5, .int (nI b)), (1, .long d), (0, .ref (g 0)), (4, .int 8), (3, .ref (g 2))] 72 [] := by
            intro i
            induction i with
            | zero =>
              intro b d hb hi3
              refine xr_iload F dX3_digest_72 0 rfl ?_
              refine xr_iload F dX3_digest_74 3 rfl ?_
              refine xr_icmp_ge F 101 dX3_digest_76 (by decide) (fun c76 => ?_) (fun c76 => ?_)
              · skip
                refine xr_iconst F dX3_digest_101 (v := 0) (by decide) ?_
                refine xr_istore_n F [(3, .int 0), (5, .int (nI b)), (1, .long d), (0, .ref (g 0)), (4, .int 8)] dX3_digest_102 rfl (by decide) rfl ?_
                have lp4 : ∀ (i : Nat) (b : Nat) (d : Int64), i + b = 6 → dgN (m_tellP K V) 4 i b d = dgN (m_tellP K V) 4 6 0 (dgL (kSpr K) 8 0 (dgL (m_tellW K V aw) 10 0 1453 * 31 + (if kDry K = 0 then (0 : Int32) else 1).toInt64)) → AW p l e rm_X3_digest s m args below meth c 7 D A 0 0 Q (mw yI g u t 0 K ++ (sw yI u (kMark K) aw wh V)) [(3, .int (nI b)), (1, .long d), (0, .ref (g 0))] 103 [] := by
                  intro i
                  induction i with
                  | zero =>
                    intro b d hb hi4
                    refine xr_iload_n F dX3_digest_103 rfl 0 rfl ?_
                    refine xr_bipush F dX3_digest_104 (v := 6) (by decide) ?_
                    refine xr_icmp_ge F 145 dX3_digest_106 (by decide) (fun c106 => ?_) (fun c106 => ?_)
                    · skip
                      refine xr_iconst F dX3_digest_145 (v := 0) (by decide) ?_
                      refine xr_istore_n F [(3, .int 0), (1, .long d), (0, .ref (g 0))] dX3_digest_146 rfl (by decide) rfl ?_
                      have lp5 : ∀ (i : Nat) (b : Nat) (d : Int64), i + b = 5 → dgN (m_tellL K V wh) 5 i b d = dgN (m_tellL K V wh) 5 5 0 (dgN (m_tellP K V) 4 6 0 (dgL (kSpr K) 8 0 (dgL (m_tellW K V aw) 10 0 1453 * 31 + (if kDry K = 0 then (0 : Int32) else 1).toInt64))) → AW p l e rm_X3_digest s m args below meth c 7 D A 0 0 Q (mw yI g u t 0 K ++ (sw yI u (kMark K) aw wh V)) [(3, .int (nI b)), (1, .long d), (0, .ref (g 0))] 147 [] := by
                        intro i
                        induction i with
                        | zero =>
                          intro b d hb hi5
                          refine xr_iload_n F dX3_digest_147 rfl 0 rfl ?_
                          refine xr_iconst F dX3_digest_148 (v := 5) (by decide) ?_
                          refine xr_icmp_ge F 188 dX3_digest_149 (by decide) (fun c149 => ?_) (fun c149 => ?_)
                          · skip
                            refine xr_iconst F dX3_digest_188 (v := 0) (by decide) ?_
                            refine xr_istore_n F [(3, .int 0), (1, .long d), (0, .ref (g 0))] dX3_digest_189 rfl (by decide) rfl ?_
                            have lp6 : ∀ (i : Nat) (b : Nat) (d : Int64), i + b = kNb K → dgN (m_tellB K V) 5 i b d = dgN (m_tellB K V) 5 (kNb K) 0 (dgN (m_tellL K V wh) 5 5 0 (dgN (m_tellP K V) 4 6 0 (dgL (kSpr K) 8 0 (dgL (m_tellW K V aw) 10 0 1453 * 31 + (if kDry K = 0 then (0 : Int32) else 1).toInt64)))) → AW p l e rm_X3_digest s m args below meth c 7 D A 0 0 Q (mw yI g u t 0 K ++ (sw yI u (kMark K) aw wh V)) [(3, .int (nI b)), (1, .long d), (0, .ref (g 0))] 190 [] := by
                              intro i
                              induction i with
                              | zero =>
                                intro b d hb hi6
                                refine xr_iload_n F dX3_digest_190 rfl 0 rfl ?_
                                refine xr_aload_n F dX3_digest_191 rfl 2 rfl ?_
                                refine xr_get F hin3 0 rfl rfl 1 (by decide) (List.mem_of_getElem? (i := 7) rfl) (v := .int (nI (kNb K))) rfl dX3_digest_192 ?_
                                refine xr_icmp_ge F 234 dX3_digest_195 (by decide) (fun c195 => ?_) (fun c195 => ?_)
                                · skip
                                  refine xr_lload_n F dX3_digest_234 rfl 1 rfl ?_
                                  exact ret _ _ _ _ dX3_digest_235 ⟨hi6, rfl⟩
                                · exact (xk_ge (a := kNb K) (b := b) (by omega) (by omega) c195).elim
                              | succ i ih =>
                                intro b d hb hi6
                                refine xr_iload_n F dX3_digest_190 rfl 0 rfl ?_
                                refine xr_aload_n F dX3_digest_191 rfl 2 rfl ?_
                                refine xr_get F hin3 0 rfl rfl 1 (by decide) (List.mem_of_getElem? (i := 7) rfl) (v := .int (nI (kNb K))) rfl dX3_digest_192 ?_
                                refine xr_icmp_ge F 234 dX3_digest_195 (by decide) (fun c195 => ?_) (fun c195 => ?_)
                                · exact (xk_nlt (a := b) (b := kNb K) (by omega) (by omega) (by omega) c195).elim
                                · skip
                                  refine xr_iconst F dX3_digest_198 (v := 0) (by decide) ?_
                                  refine xr_istore F [(4, .int 0), (3, .int (nI b)), (1, .long d), (0, .ref (g 0))] dX3_digest_199 (by decide) rfl ?_
                                  have lp6j : ∀ (j : Nat) (w : Nat) (d : Int64), j + w = 5 → dgN (m_tellB K V) 5 i (b + 1) (dgL (m_tellB K V b) j w d) = dgN (m_tellB K V) 5 (kNb K) 0 (dgN (m_tellL K V wh) 5 5 0 (dgN (m_tellP K V) 4 6 0 (dgL (kSpr K) 8 0 (dgL (m_tellW K V aw) 10 0 1453 * 31 + (if kDry K = 0 then (0 : Int32) else 1).toInt64)))) → AW p l e rm_X3_digest s m args below meth c 7 D A 0 0 Q (mw yI g u t 0 K ++ (sw yI u (kMark K) aw wh V)) [(4, .int (nI w)), (3, .int (nI b)), (1, .long d), (0, .ref (g 0))] 201 [] := by
                                    intro j
                                    induction j with
                                    | zero =>
                                      intro w d hbj hi6j
                                      refine xr_iload F dX3_digest_201 0 rfl ?_
                                      refine xr_iconst F dX3_digest_203 (v := 4) (by decide) ?_
                                      refine xr_icmp_gt F 228 dX3_digest_204 (by decide) (fun c204 => ?_) (fun c204 => ?_)
                                      · skip
                                        refine xr_iinc F (nI (b + 1)) [(3, .int (nI (b + 1))), (4, .int (nI w)), (1, .long d), (0, .ref (g 0))] dX3_digest_228 1 rfl (nI_add b 1) (by decide) rfl ?_
                                        refine xr_goto F 190 dX3_digest_231 (by decide) ?_
                                        refine xr_lv (lv' := [(3, .int (nI (b + 1))), (1, .long d), (0, .ref (g 0))]) [0, 2, 3] rfl ?_
                                        exact ih (b + 1) d (by omega) hi6j
                                      · exact absurd (nI_lt (a := 4) (by omega) (by omega)) c204
                                    | succ j ih =>
                                      intro w d hbj hi6j
                                      refine xr_iload F dX3_digest_201 0 rfl ?_
                                      refine xr_iconst F dX3_digest_203 (v := 4) (by decide) ?_
                                      refine xr_icmp_gt F 228 dX3_digest_204 (by decide) (fun c204 => ?_) (fun c204 => ?_)
                                      · exact absurd c204 (nI_nlt (a := 4) (by omega) (by omega))
                                      · skip
                                        refine xr_lload_n F dX3_digest_207 rfl 2 rfl ?_
                                        refine xr_ldc2 F dX3_digest_208 (v := (31)) (List.mem_of_getElem? (i := 3) rfl) ?_
                                        refine xr_lmul F dX3_digest_211 ?_
                                        refine xr_aload_n F dX3_digest_212 rfl 3 rfl ?_
                                        refine xr_iload_n F dX3_digest_213 rfl 1 rfl ?_
                                        refine xr_iload F dX3_digest_214 0 rfl ?_
                                        refine xr_callVi F (wr := ([] : va_W)) (rest := [.long (d * (31))]) (As := [.int (nI b), .int (nI w)]) (k_X3_bargeTold l D yI yZ yL g u t 0 K aw wh V b w (by omega) (by omega)) (cwV 2 F.hts gX3_digest_X3_bargeTold rfl rfl rfl (by decide +kernel) ⟨Nat.le_of_ble_eq_true rfl, Nat.le_of_ble_eq_true rfl⟩) (q0 := 0) rfl rfl [0, 1, 2, 3, 4, 5, 6, 7, 8, 9, 10, 11, 12, 13] [] rfl rfl (by decide) (by decide) (by decide) rfl rfl (Nat.le_of_ble_eq_true rfl) dX3_digest_216 ⟨Nat.le_of_ble_eq_true rfl, Nat.le_of_ble_eq_true rfl⟩ (fun r1 W1 z1 => ?_)
                                        obtain ⟨z0, z1⟩ := z1
                                        subst z0
                                        subst z1
                                        refine xr_ws (ws' := mw yI g u t 0 K ++ (sw yI u (kMark K) aw wh V)) rfl ?_
                                        refine xr_i2l F dX3_digest_219 (v := (m_tellB K V b w).toInt64) rfl ?_
                                        refine xr_ladd F dX3_digest_220 ?_
                                        refine xr_lstore_n F [(1, .long ((d * (31)) + ((m_tellB K V b w).toInt64))), (4, .int (nI w)), (3, .int (nI b)), (0, .ref (g 0))] dX3_digest_221 rfl (by decide) rfl ?_
                                        refine xr_iinc F (nI (w + 1)) [(4, .int (nI (w + 1))), (1, .long ((d * (31)) + ((m_tellB K V b w).toInt64))), (3, .int (nI b)), (0, .ref (g 0))] dX3_digest_222 1 rfl (nI_add w 1) (by decide) rfl ?_
                                        refine xr_goto F 201 dX3_digest_225 (by decide) ?_
                                        refine xr_lv (lv' := [(4, .int (nI (w + 1))), (3, .int (nI b)), (1, .long ((d * (31)) + ((m_tellB K V b w).toInt64))), (0, .ref (g 0))]) [0, 2, 1, 3] rfl ?_
                                        exact ih (w + 1) ((d * (31)) + ((m_tellB K V b w).toInt64)) (by omega) (by rw [← hi6j]; simp only [dgL])
                                  refine xr_lv (lv' := [(4, .int 0), (3, .int (nI b)), (1, .long d), (0, .ref (g 0))]) [0, 1, 2, 3] rfl ?_
                                  exact lp6j 5 0 d rfl hi6
                            refine xr_lv (lv' := [(3, .int 0), (1, .long d), (0, .ref (g 0))]) [0, 1, 2] rfl ?_
                            exact lp6 (kNb K) 0 d rfl (by rw [show d = dgN (m_tellL K V wh) 5 5 0 (dgN (m_tellP K V) 4 6 0 (dgL (kSpr K) 8 0 (dgL (m_tellW K V aw) 10 0 1453 * 31 + (if kDry K = 0 then (0 : Int32) else 1).toInt64))) from hi5])
                          · exact (xk_ge (a := 5) (b := b) (by omega) (by omega) c149).elim
                        | succ i ih =>
                          intro b d hb hi5
                          refine xr_iload_n F dX3_digest_147 rfl 0 rfl ?_
                          refine xr_iconst F dX3_digest_148 (v := 5) (by decide) ?_
                          refine xr_icmp_ge F 188 dX3_digest_149 (by decide) (fun c149 => ?_) (fun c149 => ?_)
                          · exact (xk_nlt (a := b) (b := 5) (by omega) (by omega) (by omega) c149).elim
                          · skip
                            refine xr_iconst F dX3_digest_152 (v := 0) (by decide) ?_
                            refine xr_istore F [(4, .int 0), (3, .int (nI b)), (1, .long d), (0, .ref (g 0))] dX3_digest_153 (by decide) rfl ?_
                            have lp5j : ∀ (j : Nat) (w : Nat) (d : Int64), j + w = 5 → dgN (m_tellL K V wh) 5 i (b + 1) (dgL (m_tellL K V wh b) j w d) = dgN (m_tellL K V wh) 5 5 0 (dgN (m_tellP K V) 4 6 0 (dgL (kSpr K) 8 0 (dgL (m_tellW K V aw) 10 0 1453 * 31 + (if kDry K = 0 then (0 : Int32) else 1).toInt64))) → AW p l e rm_X3_digest s m args below meth c 7 D A 0 0 Q (mw yI g u t 0 K ++ (sw yI u (kMark K) aw wh V)) [(4, .int (nI w)), (3, .int (nI b)), (1, .long d), (0, .ref (g 0))] 155 [] := by
                              intro j
                              induction j with
                              | zero =>
                                intro w d hbj hi5j
                                refine xr_iload F dX3_digest_155 0 rfl ?_
                                refine xr_iconst F dX3_digest_157 (v := 4) (by decide) ?_
                                refine xr_icmp_gt F 182 dX3_digest_158 (by decide) (fun c158 => ?_) (fun c158 => ?_)
                                · skip
                                  refine xr_iinc F (nI (b + 1)) [(3, .int (nI (b + 1))), (4, .int (nI w)), (1, .long d), (0, .ref (g 0))] dX3_digest_182 1 rfl (nI_add b 1) (by decide) rfl ?_
                                  refine xr_goto F 147 dX3_digest_185 (by decide) ?_
                                  refine xr_lv (lv' := [(3, .int (nI (b + 1))), (1, .long d), (0, .ref (g 0))]) [0, 2, 3] rfl ?_
                                  exact ih (b + 1) d (by omega) hi5j
                                · exact absurd (nI_lt (a := 4) (by omega) (by omega)) c158
                              | succ j ih =>
                                intro w d hbj hi5j
                                refine xr_iload F dX3_digest_155 0 rfl ?_
                                refine xr_iconst F dX3_digest_157 (v := 4) (by decide) ?_
                                refine xr_icmp_gt F 182 dX3_digest_158 (by decide) (fun c158 => ?_) (fun c158 => ?_)
                                · exact absurd c158 (nI_nlt (a := 4) (by omega) (by omega))
                                · skip
                                  refine xr_lload_n F dX3_digest_161 rfl 2 rfl ?_
                                  refine xr_ldc2 F dX3_digest_162 (v := (31)) (List.mem_of_getElem? (i := 3) rfl) ?_
                                  refine xr_lmul F dX3_digest_165 ?_
                                  refine xr_aload_n F dX3_digest_166 rfl 3 rfl ?_
                                  refine xr_iload_n F dX3_digest_167 rfl 1 rfl ?_
                                  refine xr_iload F dX3_digest_168 0 rfl ?_
                                  refine xr_callVi F (wr := ([] : va_W)) (rest := [.long (d * (31))]) (As := [.int (nI b), .int (nI w)]) (k_X3_lockTold l D yI yZ yL g u t 0 K aw wh V b w (by omega) (by omega) (by assumption)) (cwV 2 F.hts gX3_digest_X3_lockTold rfl rfl rfl (by decide +kernel) ⟨Nat.le_of_ble_eq_true rfl, Nat.le_of_ble_eq_true rfl⟩) (q0 := 0) rfl rfl [0, 1, 2, 3, 4, 5, 6, 7, 8, 9, 10, 11, 12, 13] [] rfl rfl (by decide) (by decide) (by decide) rfl rfl (Nat.le_of_ble_eq_true rfl) dX3_digest_170 ⟨Nat.le_of_ble_eq_true rfl, Nat.le_of_ble_eq_true rfl⟩ (fun r1 W1 z1 => ?_)
                                  obtain ⟨z0, z1⟩ := z1
                                  subst z0
                                  subst z1
                                  refine xr_ws (ws' := mw yI g u t 0 K ++ (sw yI u (kMark K) aw wh V)) rfl ?_
                                  refine xr_i2l F dX3_digest_173 (v := (m_tellL K V wh b w).toInt64) rfl ?_
                                  refine xr_ladd F dX3_digest_174 ?_
                                  refine xr_lstore_n F [(1, .long ((d * (31)) + ((m_tellL K V wh b w).toInt64))), (4, .int (nI w)), (3, .int (nI b)), (0, .ref (g 0))] dX3_digest_175 rfl (by decide) rfl ?_
                                  refine xr_iinc F (nI (w + 1)) [(4, .int (nI (w + 1))), (1, .long ((d * (31)) + ((m_tellL K V wh b w).toInt64))), (3, .int (nI b)), (0, .ref (g 0))] dX3_digest_176 1 rfl (nI_add w 1) (by decide) rfl ?_
                                  refine xr_goto F 155 dX3_digest_179 (by decide) ?_
                                  refine xr_lv (lv' := [(4, .int (nI (w + 1))), (3, .int (nI b)), (1, .long ((d * (31)) + ((m_tellL K V wh b w).toInt64))), (0, .ref (g 0))]) [0, 2, 1, 3] rfl ?_
                                  exact ih (w + 1) ((d * (31)) + ((m_tellL K V wh b w).toInt64)) (by omega) (by rw [← hi5j]; simp only [dgL])
                            refine xr_lv (lv' := [(4, .int 0), (3, .int (nI b)), (1, .long d), (0, .ref (g 0))]) [0, 1, 2, 3] rfl ?_
                            exact lp5j 5 0 d rfl hi5
                      refine xr_lv (lv' := [(3, .int 0), (1, .long d), (0, .ref (g 0))]) [0, 1, 2] rfl ?_
                      exact lp5 5 0 d rfl (by rw [show d = dgN (m_tellP K V) 4 6 0 (dgL (kSpr K) 8 0 (dgL (m_tellW K V aw) 10 0 1453 * 31 + (if kDry K = 0 then (0 : Int32) else 1).toInt64)) from hi4])
                    · exact (xk_ge (a := 6) (b := b) (by omega) (by omega) c106).elim
                  | succ i ih =>
                    intro b d hb hi4
                    refine xr_iload_n F dX3_digest_103 rfl 0 rfl ?_
                    refine xr_bipush F dX3_digest_104 (v := 6) (by decide) ?_
                    refine xr_icmp_ge F 145 dX3_digest_106 (by decide) (fun c106 => ?_) (fun c106 => ?_)
                    · exact (xk_nlt (a := b) (b := 6) (by omega) (by omega) (by omega) c106).elim
                    · skip
                      refine xr_iconst F dX3_digest_109 (v := 0) (by decide) ?_
                      refine xr_istore F [(4, .int 0), (3, .int (nI b)), (1, .long d), (0, .ref (g 0))] dX3_digest_110 (by decide) rfl ?_
                      have lp4j : ∀ (j : Nat) (w : Nat) (d : Int64), j + w = 4 → dgN (m_tellP K V) 4 i (b + 1) (dgL (m_tellP K V b) j w d) = dgN (m_tellP K V) 4 6 0 (dgL (kSpr K) 8 0 (dgL (m_tellW K V aw) 10 0 1453 * 31 + (if kDry K = 0 then (0 : Int32) else 1).toInt64)) → AW p l e rm_X3_digest s m args below meth c 7 D A 0 0 Q (mw yI g u t 0 K ++ (sw yI u (kMark K) aw wh V)) [(4, .int (nI w)), (3, .int (nI b)), (1, .long d), (0, .ref (g 0))] 112 [] := by
                        intro j
                        induction j with
                        | zero =>
                          intro w d hbj hi4j
                          refine xr_iload F dX3_digest_112 0 rfl ?_
                          refine xr_iconst F dX3_digest_114 (v := 3) (by decide) ?_
                          refine xr_icmp_gt F 139 dX3_digest_115 (by decide) (fun c115 => ?_) (fun c115 => ?_)
                          · skip
                            refine xr_iinc F (nI (b + 1)) [(3, .int (nI (b + 1))), (4, .int (nI w)), (1, .long d), (0, .ref (g 0))] dX3_digest_139 1 rfl (nI_add b 1) (by decide) rfl ?_
                            refine xr_goto F 103 dX3_digest_142 (by decide) ?_
                            refine xr_lv (lv' := [(3, .int (nI (b + 1))), (1, .long d), (0, .ref (g 0))]) [0, 2, 3] rfl ?_
                            exact ih (b + 1) d (by omega) hi4j
                          · exact absurd (nI_lt (a := 3) (by omega) (by omega)) c115
                        | succ j ih =>
                          intro w d hbj hi4j
                          refine xr_iload F dX3_digest_112 0 rfl ?_
                          refine xr_iconst F dX3_digest_114 (v := 3) (by decide) ?_
                          refine xr_icmp_gt F 139 dX3_digest_115 (by decide) (fun c115 => ?_) (fun c115 => ?_)
                          · exact absurd c115 (nI_nlt (a := 3) (by omega) (by omega))
                          · skip
                            refine xr_lload_n F dX3_digest_118 rfl 2 rfl ?_
                            refine xr_ldc2 F dX3_digest_119 (v := (31)) (List.mem_of_getElem? (i := 3) rfl) ?_
                            refine xr_lmul F dX3_digest_122 ?_
                            refine xr_aload_n F dX3_digest_123 rfl 3 rfl ?_
                            refine xr_iload_n F dX3_digest_124 rfl 1 rfl ?_
                            refine xr_iload F dX3_digest_125 0 rfl ?_
                            refine xr_callVi F (wr := ([] : va_W)) (rest := [.long (d * (31))]) (As := [.int (nI b), .int (nI w)]) (k_X3_poundTold l D yI yZ yL g u t 0 K aw wh V b w (by omega) (by omega) (by assumption)) (cwV 2 F.hts gX3_digest_X3_poundTold rfl rfl rfl (by decide +kernel) ⟨Nat.le_of_ble_eq_true rfl, Nat.le_of_ble_eq_true rfl⟩) (q0 := 0) rfl rfl [0, 1, 2, 3, 4, 5, 6, 7, 8, 9, 10, 11, 12, 13] [] rfl rfl (by decide) (by decide) (by decide) rfl rfl (Nat.le_of_ble_eq_true rfl) dX3_digest_127 ⟨Nat.le_of_ble_eq_true rfl, Nat.le_of_ble_eq_true rfl⟩ (fun r1 W1 z1 => ?_)
                            obtain ⟨z0, z1⟩ := z1
                            subst z0
                            subst z1
                            refine xr_ws (ws' := mw yI g u t 0 K ++ (sw yI u (kMark K) aw wh V)) rfl ?_
                            refine xr_i2l F dX3_digest_130 (v := (m_tellP K V b w).toInt64) rfl ?_
                            refine xr_ladd F dX3_digest_131 ?_
                            refine xr_lstore_n F [(1, .long ((d * (31)) + ((m_tellP K V b w).toInt64))), (4, .int (nI w)), (3, .int (nI b)), (0, .ref (g 0))] dX3_digest_132 rfl (by decide) rfl ?_
                            refine xr_iinc F (nI (w + 1)) [(4, .int (nI (w + 1))), (1, .long ((d * (31)) + ((m_tellP K V b w).toInt64))), (3, .int (nI b)), (0, .ref (g 0))] dX3_digest_133 1 rfl (nI_add w 1) (by decide) rfl ?_
                            refine xr_goto F 112 dX3_digest_136 (by decide) ?_
                            refine xr_lv (lv' := [(4, .int (nI (w + 1))), (3, .int (nI b)), (1, .long ((d * (31)) + ((m_tellP K V b w).toInt64))), (0, .ref (g 0))]) [0, 2, 1, 3] rfl ?_
                            exact ih (w + 1) ((d * (31)) + ((m_tellP K V b w).toInt64)) (by omega) (by rw [← hi4j]; simp only [dgL])
                      refine xr_lv (lv' := [(4, .int 0), (3, .int (nI b)), (1, .long d), (0, .ref (g 0))]) [0, 1, 2, 3] rfl ?_
                      exact lp4j 4 0 d rfl hi4
                refine xr_lv (lv' := [(3, .int 0), (1, .long d), (0, .ref (g 0))]) [0, 2, 3] rfl ?_
                exact lp4 6 0 d rfl (by rw [show d = dgL (kSpr K) 8 0 (dgL (m_tellW K V aw) 10 0 1453 * 31 + (if kDry K = 0 then (0 : Int32) else 1).toInt64) from hi3])
              · exact (xk_ge (a := 8) (b := b) (by omega) (by omega) c76).elim
            | succ i ih =>
              intro b d hb hi3
              refine xr_iload F dX3_digest_72 0 rfl ?_
              refine xr_iload F dX3_digest_74 3 rfl ?_
              refine xr_icmp_ge F 101 dX3_digest_76 (by decide) (fun c76 => ?_) (fun c76 => ?_)
              · exact (xk_nlt (a := b) (b := 8) (by omega) (by omega) (by omega) c76).elim
              · skip
                refine xr_aload_n F dX3_digest_79 rfl 4 rfl ?_
                refine xr_iload F dX3_digest_80 0 rfl ?_
                refine xr_iald F 2 0 rfl rfl (b) rfl (by omega) (by decide) dX3_digest_82 ?_
                refine xr_istore F [(6, .int ((kSpr K) b)), (5, .int (nI b)), (1, .long d), (0, .ref (g 0)), (4, .int 8), (3, .ref (g 2))] dX3_digest_83 (by decide) rfl ?_
                refine xr_lload_n F dX3_digest_85 rfl 2 rfl ?_
                refine xr_ldc2 F dX3_digest_86 (v := (31)) (List.mem_of_getElem? (i := 3) rfl) ?_
                refine xr_lmul F dX3_digest_89 ?_
                refine xr_iload F dX3_digest_90 0 rfl ?_
                refine xr_i2l F dX3_digest_92 (v := ((kSpr K) b).toInt64) rfl ?_
                refine xr_ladd F dX3_digest_93 ?_
                refine xr_lstore_n F [(1, .long ((d * (31)) + (((kSpr K) b).toInt64))), (6, .int ((kSpr K) b)), (5, .int (nI b)), (0, .ref (g 0)), (4, .int 8), (3, .ref (g 2))] dX3_digest_94 rfl (by decide) rfl ?_
                refine xr_iinc F (nI (b + 1)) [(5, .int (nI (b + 1))), (1, .long ((d * (31)) + (((kSpr K) b).toInt64))), (6, .int ((kSpr K) b)), (0, .ref (g 0)), (4, .int 8), (3, .ref (g 2))] dX3_digest_95 2 rfl (nI_add b 1) (by decide) rfl ?_
                refine xr_goto F 72 dX3_digest_98 (by decide) ?_
                refine xr_lv (lv' := [(5, .int (nI (b + 1))), (1, .long ((d * (31)) + (((kSpr K) b).toInt64))), (0, .ref (g 0)), (4, .int 8), (3, .ref (g 2))]) [0, 1, 3, 4, 5] rfl ?_
                exact ih (b + 1) ((d * (31)) + (((kSpr K) b).toInt64)) (by omega) (by rw [← hi3]; simp only [dgL])
          refine xr_lv (lv' := [(5, .int 0), (1, .long ((d * (31)) + ((if kDry K = 0 then (0 : Int32) else 1).toInt64))), (0, .ref (g 0)), (4, .int 8), (3, .ref (g 2))]) [0, 3, 4, 1, 2] rfl ?_
          exact lp3 8 0 ((d * (31)) + ((if kDry K = 0 then (0 : Int32) else 1).toInt64)) rfl (by rw [show d = dgL (m_tellW K V aw) 10 0 1453 from hi1])
      · exact absurd (nI_lt (a := 9) (by omega) (by omega)) c14
    | succ i ih =>
      intro b d hb hi1
      refine xr_iload_n F dX3_digest_11 rfl 0 rfl ?_
      refine xr_bipush F dX3_digest_12 (v := 9) (by decide) ?_
      refine xr_icmp_gt F 40 dX3_digest_14 (by decide) (fun c14 => ?_) (fun c14 => ?_)
      · exact absurd c14 (nI_nlt (a := 9) (by omega) (by omega))
      · skip
        refine xr_lload_n F dX3_digest_17 rfl 1 rfl ?_
        refine xr_ldc2 F dX3_digest_18 (v := (31)) (List.mem_of_getElem? (i := 3) rfl) ?_
        refine xr_lmul F dX3_digest_21 ?_
        refine xr_aload_n F dX3_digest_22 rfl 2 rfl ?_
        refine xr_aload_n F dX3_digest_23 rfl 2 rfl ?_
        refine xr_get F hin3 0 rfl rfl 7 (by decide) (List.mem_of_getElem? (i := 4) rfl) (v := .ref (u 0)) rfl dX3_digest_24 ?_
        refine xr_iload_n F dX3_digest_27 rfl 0 rfl ?_
        refine xr_callVi F (wr := ([] : va_W)) (rest := [.long (d * (31))]) (As := [.ref (u 0), .int (nI b)]) (k_X3_counted l D yI yZ yL g u t u 0 K aw wh V b (by omega) (by assumption)) (cwV 2 F.hts gX3_digest_X3_counted rfl rfl rfl (by decide +kernel) ⟨Nat.le_of_ble_eq_true rfl, Nat.le_of_ble_eq_true rfl⟩) (q0 := 0) rfl rfl [0, 1, 2, 3, 4, 5, 6, 7, 8, 9, 10, 11, 12, 13] [] rfl rfl (by decide) (by decide) (by decide) rfl rfl (Nat.le_of_ble_eq_true rfl) dX3_digest_28 ⟨Nat.le_of_ble_eq_true rfl, Nat.le_of_ble_eq_true rfl⟩ (fun r1 W1 z1 => ?_)
        obtain ⟨z0, z1⟩ := z1
        subst z0
        subst z1
        refine xr_ws (ws' := mw yI g u t 0 K ++ (sw yI u (kMark K) aw wh V)) rfl ?_
        refine xr_i2l F dX3_digest_31 (v := (m_tellW K V aw b).toInt64) rfl ?_
        refine xr_ladd F dX3_digest_32 ?_
        refine xr_lstore_n F [(1, .long ((d * (31)) + ((m_tellW K V aw b).toInt64))), (3, .int (nI b)), (0, .ref (g 0))] dX3_digest_33 rfl (by decide) rfl ?_
        refine xr_iinc F (nI (b + 1)) [(3, .int (nI (b + 1))), (1, .long ((d * (31)) + ((m_tellW K V aw b).toInt64))), (0, .ref (g 0))] dX3_digest_34 1 rfl (nI_add b 1) (by decide) rfl ?_
        refine xr_goto F 11 dX3_digest_37 (by decide) ?_
        refine xr_lv (lv' := [(3, .int (nI (b + 1))), (1, .long ((d * (31)) + ((m_tellW K V aw b).toInt64))), (0, .ref (g 0))]) [0, 1, 2] rfl ?_
        exact ih (b + 1) ((d * (31)) + ((m_tellW K V aw b).toInt64)) (by omega) (by rw [← hi1]; simp only [dgL])
  refine xr_lv (lv' := [(3, .int 0), (1, .long ((1453))), (0, .ref (g 0))]) [0, 1, 2] rfl ?_
  exact lp1 10 0 1453 rfl rfl
