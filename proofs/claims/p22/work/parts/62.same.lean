def rm_X2_isSame : Room := { frames := 8, cells := 200, slots := 1200, locals := 135 }
set_option maxHeartbeats 4000000 in
set_option maxRecDepth 100000 in
/-- isSame -/
theorem k_X2_isSame (l : Launch) (D : va_G) (yI yZ yL : ClassId) (hst : l.stackTraces = false) (h : Nat) (a t : Nat → Nat) (o : Nat → Nat) (ba : Nat) (pa la ra : Nat → Nat) (K : CK) (V : CD) (Kt : CK) (Vt : CD) (N : Nat) (hK : okK K) (hV : okV K V N) : xXi l yX2_isSame wsX2_isSame rm_X2_isSame D (tysG yI yZ yL) (bw h a t ++ (cw yI yZ a K V ++ (cw yI yZ t Kt Vt ++ (zw yI yL o ba pa la ra K V (zA V))))) [.ref (o 0), .ref h] 200 1200 (fun (r : Int32) (W1 : va_W) => r = 1 ∧ W1 = bw h a t ++ (cw yI yZ a K V ++ (cw yI yZ t Kt Vt ++ (zw yI yL o ba pa la ra K V (zA V))))) (fun _ _ => False) := by
  have k1 : kNb K ≤ 10 := hK.1
  refine xEX_z (cc := cX2_isSame) (nL := 10) hst (by decide) rfl (Nat.le_of_ble_eq_true rfl) ?_
  intro p e s m args below meth c A Q F G ret out thr
  have hin2 : ∀ w ∈ u_ws RX2 TX2 11, w ∈ wsX2_isSame := by decide +kernel
  show AW p l e rm_X2_isSame s m args below meth c 10 D A 0 0 Q (bw h a t ++ (cw yI yZ a K V ++ (cw yI yZ t Kt Vt ++ (zw yI yL o ba pa la ra K V (zA V))))) [(0, .ref (o 0)), (1, .ref h)] 0 []
  refine xr_aload_n F dX2_isSame_0 rfl 0 rfl ?_
  refine xr_ws (ws' := bw h a t ++ (cw yI yZ a K V ++ (cw yI yZ t Kt Vt)) ++ ((zw yI yL o ba pa la ra K V (zA V)) ++ (([] : va_W)))) (by first | (simp only [List.append_assoc, List.append_nil, List.nil_append]; done) | rfl | (simp only [List.append_assoc, List.append_nil, List.nil_append]; rfl)) ?_
  refine xr_mcVr (wr := []) F (rest := []) (As := []) (k_X2_counts l D yI yZ yL o ba pa la ra K V (zA V) hK.1) (cwV 0 F.hts gX2_isSame_X2_counts rfl rfl rfl (by decide +kernel) ⟨Nat.le_of_ble_eq_true rfl, Nat.le_of_ble_eq_true rfl⟩) (q0 := 0) rfl rfl (bw h a t ++ (cw yI yZ a K V ++ (cw yI yZ t Kt Vt))) (([] : va_W)) rfl rfl rfl (Nat.le_of_ble_eq_true rfl) dX2_isSame_1 ⟨(by show _ ≤ (200 : Nat); omega), (by show _ ≤ (1200 : Nat); omega)⟩ (fun dq W1 z1 => ?_)
  subst z1
  refine xr_ws (ws' := bw h a t ++ (cw yI yZ a K V ++ (cw yI yZ t Kt Vt ++ (zw yI yL o ba pa la ra K V (zA V) ++ (([(dq, .inl (yI, 10, .inl (z_counts K V (zA V))))] : va_W)))))) (by first | (simp only [List.append_assoc, List.append_nil, List.nil_append]; done) | rfl | (simp only [List.append_assoc, List.append_nil, List.nil_append]; rfl)) ?_
  refine xr_astore_n F [(2, .ref dq), (0, .ref (o 0)), (1, .ref h)] dX2_isSame_4 rfl (by decide) rfl ?_
  refine xr_iconst F dX2_isSame_5 (v := 0) (by decide) ?_
  refine xr_istore_n F [(3, .int 0), (2, .ref dq), (0, .ref (o 0)), (1, .ref h)] dX2_isSame_6 rfl (by decide) rfl ?_
  have lp1 : ∀ (i : Nat) (b : Nat), i + b = 10 → AW p l e rm_X2_isSame s m args below meth c 10 D A (1 + b) (10 + 6 * b) Q (bw h a t ++ (cw yI yZ a K V ++ (cw yI yZ t Kt Vt ++ (zw yI yL o ba pa la ra K V (zA V) ++ (([(dq, .inl (yI, 10, .inl (z_counts K V (zA V))))] : va_W)))))) [(3, .int (nI b)), (0, .ref (o 0)), (1, .ref h), (2, .ref dq)] 7 [] := by
    intro i
    induction i with
    | zero =>
      intro b hb
      refine xr_iload_n F dX2_isSame_7 rfl 0 rfl ?_
      refine xr_bipush F dX2_isSame_8 (v := 10) (by decide) ?_
      refine xr_icmp_ge F 32 dX2_isSame_10 (by decide) (fun c10 => ?_) (fun c10 => ?_)
      · skip
        refine xr_iconst F dX2_isSame_32 (v := 0) (by decide) ?_
        refine xr_istore_n F [(3, .int 0), (0, .ref (o 0)), (1, .ref h), (2, .ref dq)] dX2_isSame_33 rfl (by decide) rfl ?_
        have lp2 : ∀ (i : Nat) (b : Nat), i + b = 6 → AW p l e rm_X2_isSame s m args below meth c 10 D A (20 + 4 * b) (100 + 24 * b) Q (bw h a t ++ (cw yI yZ a K V ++ (cw yI yZ t Kt Vt ++ (zw yI yL o ba pa la ra K V (zA V) ++ (([(dq, .inl (yI, 10, .inl (z_counts K V (zA V))))] : va_W)))))) [(3, .int (nI b)), (0, .ref (o 0)), (1, .ref h), (2, .ref dq)] 34 [] := by
          intro i
          induction i with
          | zero =>
            intro b hb
            refine xr_iload_n F dX2_isSame_34 rfl 0 rfl ?_
            refine xr_bipush F dX2_isSame_35 (v := 6) (by decide) ?_
            refine xr_icmp_ge F 165 dX2_isSame_37 (by decide) (fun c37 => ?_) (fun c37 => ?_)
            · skip
              refine xr_aload_n F dX2_isSame_165 rfl 1 rfl ?_
              refine xr_get F hin2 (25) rfl rfl 10 (by decide) (List.mem_of_getElem? (i := 1) rfl) (v := .ref ba) rfl dX2_isSame_166 ?_
              refine xr_alen F (29) 2 rfl rfl (v := nI (kNb K)) rfl dX2_isSame_169 ?_
              refine xr_newa F 1 (ty := .boolean) rfl (fun _ h => h) (List.mem_of_getElem? (i := 3) rfl) rfl (kNb K) rfl (by omega) (kNb K, .inl (fun _ => 0)) (fun _ => rfl) (by show kNb K * 1 ≤ 536870912; omega) (by show _ ≤ (200 : Nat); omega) (by show _ ≤ (1200 : Nat); omega) dX2_isSame_170 (fun q1 => ?_)
              refine xr_ws (ws' := bw h a t ++ (cw yI yZ a K V ++ (cw yI yZ t Kt Vt ++ (zw yI yL o ba pa la ra K V (zA V) ++ (([(dq, .inl (yI, 10, .inl (z_counts K V (zA V))))] : va_W) ++ (([(q1, .inl (yZ, (kNb K), .inl (fun _ => 0)))] : va_W))))))) (by first | (simp only [List.append_assoc, List.append_nil, List.nil_append]; done) | rfl | (simp only [List.append_assoc, List.append_nil, List.nil_append]; rfl)) ?_
              refine xr_perm (ws' := bw h a t ++ (cw yI yZ a K V ++ (cw yI yZ t Kt Vt ++ (zw yI yL o ba pa la ra K V (zA V) ++ (([(q1, .inl (yZ, (kNb K), .inl (fun _ => 0)))] : va_W) ++ (([(dq, .inl (yI, 10, .inl (z_counts K V (zA V))))] : va_W))))))) (((((List.perm_append_comm).append_left _).append_left _).append_left _).append_left _) ?_
              refine xr_astore_n F [(3, .ref q1), (0, .ref (o 0)), (1, .ref h), (2, .ref dq)] dX2_isSame_172 rfl (by decide) rfl ?_
              refine xr_iconst F dX2_isSame_173 (v := 0) (by decide) ?_
              refine xr_istore F [(4, .int 0), (3, .ref q1), (0, .ref (o 0)), (1, .ref h), (2, .ref dq)] dX2_isSame_174 (by decide) rfl ?_
              have lp3 : ∀ (i : Nat) (b : Nat), i + b = 5 → AW p l e rm_X2_isSame s m args below meth c 10 D A (60 + 5 * b) (300 + 30 * b) Q (bw h a t ++ (cw yI yZ a K V ++ (cw yI yZ t Kt Vt ++ (zw yI yL o ba pa la ra K V (zA V) ++ (([(q1, .inl (yZ, (kNb K), .inl (fun _ => 0)))] : va_W) ++ (([(dq, .inl (yI, 10, .inl (z_counts K V (zA V))))] : va_W))))))) [(4, .int (nI b)), (3, .ref q1), (0, .ref (o 0)), (1, .ref h), (2, .ref dq)] 176 [] := by
                intro i
                induction i with
                | zero =>
                  intro b hb
                  refine xr_iload F dX2_isSame_176 0 rfl ?_
                  refine xr_iconst F dX2_isSame_178 (v := 5) (by decide) ?_
                  refine xr_icmp_ge F 334 dX2_isSame_179 (by decide) (fun c179 => ?_) (fun c179 => ?_)
                  · skip
                    refine xr_iconst F dX2_isSame_334 (v := 0) (by decide) ?_
                    refine xr_istore F [(4, .int 0), (3, .ref q1), (0, .ref (o 0)), (1, .ref h), (2, .ref dq)] dX2_isSame_335 (by decide) rfl ?_
                    have lp4 : ∀ (i : Nat) (b : Nat), i + b = kNb K → AW p l e rm_X2_isSame s m args below meth c 10 D A (100 + 5 * b) (600 + 30 * b) Q (bw h a t ++ (cw yI yZ a K V ++ (cw yI yZ t Kt Vt ++ (zw yI yL o ba pa la ra K V (zA V) ++ (([(q1, .inl (yZ, (kNb K), .inl (fun _ => 0)))] : va_W) ++ (([(dq, .inl (yI, 10, .inl (z_counts K V (zA V))))] : va_W))))))) [(4, .int (nI b)), (3, .ref q1), (0, .ref (o 0)), (1, .ref h), (2, .ref dq)] 337 [] := by
                      intro i
                      induction i with
                      | zero =>
                        intro b hb
                        refine xr_iload F dX2_isSame_337 0 rfl ?_
                        refine xr_aload_n F dX2_isSame_339 rfl 2 rfl ?_
                        refine xr_get F hin2 (25) rfl rfl 10 (by decide) (List.mem_of_getElem? (i := 1) rfl) (v := .ref ba) rfl dX2_isSame_340 ?_
                        refine xr_alen F (29) 2 rfl rfl (v := nI (kNb K)) rfl dX2_isSame_343 ?_
                        refine xr_icmp_ge F 414 dX2_isSame_344 (by decide) (fun c344 => ?_) (fun c344 => ?_)
                        · skip
                          refine xr_aload_n F dX2_isSame_414 rfl 3 rfl ?_
                          refine xr_ws (ws' := ([] : va_W) ++ ((bw h a t ++ (cw yI yZ a K V)) ++ (cw yI yZ t Kt Vt ++ (zw yI yL o ba pa la ra K V (zA V) ++ (([(q1, .inl (yZ, (kNb K), .inl (fun _ => 0)))] : va_W) ++ (([(dq, .inl (yI, 10, .inl (z_counts K V (zA V))))] : va_W))))))) (by first | (simp only [List.append_assoc, List.append_nil, List.nil_append]; done) | rfl | (simp only [List.append_assoc, List.append_nil, List.nil_append]; rfl)) ?_
                          refine xr_mcVd F (rest := []) (As := []) (k_X1_mean l D yI yZ yL h a t K V  (mean_n hV.1).1) (cwV 0 F.hts gX2_isSame_X1_mean rfl rfl rfl (by decide +kernel) ⟨Nat.le_of_ble_eq_true rfl, Nat.le_of_ble_eq_true rfl⟩) (q0 := 0) rfl rfl (([] : va_W)) (cw yI yZ t Kt Vt ++ (zw yI yL o ba pa la ra K V (zA V) ++ (([(q1, .inl (yZ, (kNb K), .inl (fun _ => 0)))] : va_W) ++ (([(dq, .inl (yI, 10, .inl (z_counts K V (zA V))))] : va_W))))) rfl rfl rfl (Nat.le_of_ble_eq_true rfl) dX2_isSame_415 ⟨(by show _ ≤ (200 : Nat); omega), (by show _ ≤ (1200 : Nat); omega)⟩ (fun r1 W1 z1 => ?_)
                          obtain ⟨z0, z1⟩ := z1
                          subst z0
                          subst z1
                          refine xr_ws (ws' := bw h a t ++ (cw yI yZ a K V ++ (cw yI yZ t Kt Vt ++ (zw yI yL o ba pa la ra K V (zA V) ++ (([(q1, .inl (yZ, (kNb K), .inl (fun _ => 0)))] : va_W) ++ (([(dq, .inl (yI, 10, .inl (z_counts K V (zA V))))] : va_W))))))) (by first | (simp only [List.append_assoc, List.append_nil, List.nil_append]; done) | rfl | (simp only [List.append_assoc, List.append_nil, List.nil_append]; rfl)) ?_
                          refine xr_aload_n F dX2_isSame_418 rfl 4 rfl ?_
                          refine xr_iconst F dX2_isSame_419 (v := 4) (by decide) ?_
                          refine xr_iald F (1 + (12 + (12 + (16 + (kNb K) + (1 + (0)))))) 0 (w_skip (1) rfl (w_skip (12) rfl (w_skip (12) rfl (w_skip (16 + (kNb K)) (zw_len _ _ _ _ _ _ _ _ _ _) (w_skip (1) rfl rfl))))) rfl (4) rfl (by decide) (by decide) dX2_isSame_420 ?_
                          refine xr_top (y := c_water V) rfl ?_
                          refine xr_i2d F dX2_isSame_421 ?_
                          refine xr_ldc2d F dX2_isSame_422 (v := (4618441417868443648)) (List.mem_of_getElem? (i := 5) rfl) ?_
                          refine xr_ddiv F dX2_isSame_425 (mean_n hV.1).1 ?_
                          refine xr_dcmp F dX2_isSame_426 ?_
                          refine xr_if_ne F 434 dX2_isSame_427 (by decide) (fun c427 => ?_) (fun c427 => ?_)
                          · exact absurd (mean_n hV.1).2 c427
                          · skip
                            refine xr_iconst F dX2_isSame_430 (v := 1) (by decide) ?_
                            refine xr_goto F 435 dX2_isSame_431 (by decide) ?_
                            refine xr_ws (ws' := (bw h a t ++ (cw yI yZ a K V ++ (cw yI yZ t Kt Vt ++ (zw yI yL o ba pa la ra K V (zA V))))) ++ (([(q1, .inl (yZ, (kNb K), .inl (fun _ => 0)))] : va_W) ++ (([(dq, .inl (yI, 10, .inl (z_counts K V (zA V))))] : va_W)))) (by first | (simp only [List.append_assoc, List.append_nil, List.nil_append]; done) | rfl | (simp only [List.append_assoc, List.append_nil, List.nil_append]; rfl)) ?_
                            refine xr_drop (bw h a t ++ (cw yI yZ a K V ++ (cw yI yZ t Kt Vt ++ (zw yI yL o ba pa la ra K V (zA V))))) (([(q1, .inl (yZ, (kNb K), .inl (fun _ => 0)))] : va_W) ++ (([(dq, .inl (yI, 10, .inl (z_counts K V (zA V))))] : va_W))) rfl ?_
                            refine xr_widen (k := 200) (n := 1200) (by omega) (by omega) ?_
                            exact ret _ _ _ _ dX2_isSame_435 rfl ⟨rfl, rfl⟩
                        · exact (xk_ge (a := kNb K) (b := b) (by omega) (by omega) c344).elim
                      | succ i ih =>
                        intro b hb
                        refine xr_iload F dX2_isSame_337 0 rfl ?_
                        refine xr_aload_n F dX2_isSame_339 rfl 2 rfl ?_
                        refine xr_get F hin2 (25) rfl rfl 10 (by decide) (List.mem_of_getElem? (i := 1) rfl) (v := .ref ba) rfl dX2_isSame_340 ?_
                        refine xr_alen F (29) 2 rfl rfl (v := nI (kNb K)) rfl dX2_isSame_343 ?_
                        refine xr_icmp_ge F 414 dX2_isSame_344 (by decide) (fun c344 => ?_) (fun c344 => ?_)
                        · exact (xk_nlt (a := b) (b := kNb K) (by omega) (by omega) (by omega) c344).elim
                        · skip
                          refine xr_iconst F dX2_isSame_347 (v := 0) (by decide) ?_
                          refine xr_istore F [(5, .int 0), (4, .int (nI b)), (3, .ref q1), (0, .ref (o 0)), (1, .ref h), (2, .ref dq)] dX2_isSame_348 (by decide) rfl ?_
                          have lp4j : ∀ (j : Nat) (e9 : Nat), j + e9 = 4 → AW p l e rm_X2_isSame s m args below meth c 10 D A (100 + 5 * b + e9) (600 + 30 * b + 6 * e9) Q (bw h a t ++ (cw yI yZ a K V ++ (cw yI yZ t Kt Vt ++ (zw yI yL o ba pa la ra K V (zA V) ++ (([(q1, .inl (yZ, (kNb K), .inl (fun _ => 0)))] : va_W) ++ (([(dq, .inl (yI, 10, .inl (z_counts K V (zA V))))] : va_W))))))) [(5, .int (nI e9)), (4, .int (nI b)), (3, .ref q1), (0, .ref (o 0)), (1, .ref h), (2, .ref dq)] 350 [] := by
                            intro j
                            induction j with
                            | zero =>
                              intro e9 he
                              refine xr_iload F dX2_isSame_350 0 rfl ?_
                              refine xr_iconst F dX2_isSame_352 (v := 4) (by decide) ?_
                              refine xr_icmp_ge F 385 dX2_isSame_353 (by decide) (fun c353 => ?_) (fun c353 => ?_)
                              · skip
                                refine xr_aload_n F dX2_isSame_385 rfl 4 rfl ?_
                                refine xr_iload F dX2_isSame_386 1 rfl ?_
                                refine xr_iconst F dX2_isSame_388 (v := 4) (by decide) ?_
                                refine xr_ws (ws' := ([] : va_W) ++ ((bw h a t ++ (cw yI yZ a K V)) ++ (cw yI yZ t Kt Vt ++ (zw yI yL o ba pa la ra K V (zA V) ++ (([(q1, .inl (yZ, (kNb K), .inl (fun _ => 0)))] : va_W) ++ (([(dq, .inl (yI, 10, .inl (z_counts K V (zA V))))] : va_W))))))) (by first | (simp only [List.append_assoc, List.append_nil, List.nil_append]; done) | rfl | (simp only [List.append_assoc, List.append_nil, List.nil_append]; rfl)) ?_
                                have q389 : q_told K (nI b) 4 = 0 := (q_told_v (j := b) (w := 4) hK.1 (by omega) (by decide))
                                refine xr_mcXVi F G (rest := []) (As := [.int (nI b), .int 4]) (k_X1_told l D yI yZ yL hst h a t K V (nI b) 4 hK.1) (cwV 2 F.hts gX2_isSame_X1_told rfl rfl rfl (by decide +kernel) ⟨Nat.le_of_ble_eq_true rfl, Nat.le_of_ble_eq_true rfl⟩) (q0 := 0) rfl rfl (([] : va_W)) (cw yI yZ t Kt Vt ++ (zw yI yL o ba pa la ra K V (zA V) ++ (([(q1, .inl (yZ, (kNb K), .inl (fun _ => 0)))] : va_W) ++ (([(dq, .inl (yI, 10, .inl (z_counts K V (zA V))))] : va_W))))) rfl rfl rfl (Nat.le_of_ble_eq_true rfl) dX2_isSame_389 ⟨(by show _ ≤ (200 : Nat); omega), (by show _ ≤ (1200 : Nat); omega)⟩ (fun E1 W1 z1 => ?_) (fun r1 W1 z1 => ?_)
                                · skip
                                  exact absurd (q389.symm.trans z1.1.1) (by decide)
                                · skip
                                  obtain ⟨-, z0, z1⟩ := z1
                                  subst z0
                                  subst z1
                                  refine xr_ws (ws' := bw h a t ++ (cw yI yZ a K V ++ (cw yI yZ t Kt Vt ++ (zw yI yL o ba pa la ra K V (zA V) ++ (([(q1, .inl (yZ, (kNb K), .inl (fun _ => 0)))] : va_W) ++ (([(dq, .inl (yI, 10, .inl (z_counts K V (zA V))))] : va_W))))))) (by first | (simp only [List.append_assoc, List.append_nil, List.nil_append]; done) | rfl | (simp only [List.append_assoc, List.append_nil, List.nil_append]; rfl)) ?_
                                  refine xr_top (y := c_tellB K V b 4) (by rw [ix_nI (n := b) (by omega), show ix 4 = 4 from by decide]) ?_
                                  refine xr_top (y := c_waits K V b) rfl ?_
                                  refine xr_aload_n F dX2_isSame_392 rfl 3 rfl ?_
                                  refine xr_aload_n F dX2_isSame_393 rfl 3 rfl ?_
                                  refine xr_get F hin2 (25) rfl rfl 10 (by decide) (List.mem_of_getElem? (i := 1) rfl) (v := .ref ba) rfl dX2_isSame_394 ?_
                                  refine xr_iload F dX2_isSame_397 1 rfl ?_
                                  refine xr_aald F (29) 2 rfl rfl rfl (b) rfl (by omega) (by omega) dX2_isSame_399 ?_
                                  refine xr_ws (ws' := bw h a t ++ (cw yI yZ a K V ++ (cw yI yZ t Kt Vt)) ++ ((zw yI yL o ba pa la ra K V (zA V)) ++ (([(q1, .inl (yZ, (kNb K), .inl (fun _ => 0)))] : va_W) ++ (([(dq, .inl (yI, 10, .inl (z_counts K V (zA V))))] : va_W))))) (by first | (simp only [List.append_assoc, List.append_nil, List.nil_append]; done) | rfl | (simp only [List.append_assoc, List.append_nil, List.nil_append]; rfl)) ?_
                                  refine xr_mcVi F (rest := [.int (c_waits K V b)]) (As := [.ref (ra b)]) (k_X2_lockOf l D yI yZ yL o ba pa la ra K V (zA V) b (by omega)) (cwV 1 F.hts gX2_isSame_X2_lockOf rfl rfl rfl (by decide +kernel) ⟨Nat.le_of_ble_eq_true rfl, Nat.le_of_ble_eq_true rfl⟩) (q0 := 0) rfl rfl (bw h a t ++ (cw yI yZ a K V ++ (cw yI yZ t Kt Vt))) (([(q1, .inl (yZ, (kNb K), .inl (fun _ => 0)))] : va_W) ++ (([(dq, .inl (yI, 10, .inl (z_counts K V (zA V))))] : va_W))) rfl rfl rfl (Nat.le_of_ble_eq_true rfl) dX2_isSame_400 ⟨(by show _ ≤ (200 : Nat); omega), (by show _ ≤ (1200 : Nat); omega)⟩ (fun r1 W1 z1 => ?_)
                                  obtain ⟨z0, z1⟩ := z1
                                  subst z0
                                  subst z1
                                  refine xr_ws (ws' := bw h a t ++ (cw yI yZ a K V ++ (cw yI yZ t Kt Vt ++ (zw yI yL o ba pa la ra K V (zA V) ++ (([(q1, .inl (yZ, (kNb K), .inl (fun _ => 0)))] : va_W) ++ (([(dq, .inl (yI, 10, .inl (z_counts K V (zA V))))] : va_W))))))) (by first | (simp only [List.append_assoc, List.append_nil, List.nil_append]; done) | rfl | (simp only [List.append_assoc, List.append_nil, List.nil_append]; rfl)) ?_
                                  refine xr_icmp_eq F 408 dX2_isSame_403 (by decide) (fun c403 => ?_) (fun c403 => ?_)
                                  · skip
                                    refine xr_iinc F (nI (b + 1)) [(4, .int (nI (b + 1))), (5, .int (nI e9)), (3, .ref q1), (0, .ref (o 0)), (1, .ref h), (2, .ref dq)] dX2_isSame_408 1 rfl (nI_add b 1) (by decide) rfl ?_
                                    refine xr_goto F 337 dX2_isSame_411 (by decide) ?_
                                    refine xr_lv (lv' := [(4, .int (nI (b + 1))), (3, .ref q1), (0, .ref (o 0)), (1, .ref h), (2, .ref dq)]) [0, 2, 3, 4, 5] rfl ?_
                                    refine xr_widen (k := 100 + 5 * (b + 1)) (n := 600 + 30 * (b + 1)) (by omega) (by omega) ?_
                                    exact ih (b + 1) (by omega)
                                  · exact absurd (lock_eq K V b).symm c403
                              · exact (xk_ge (a := 4) (b := e9) (by omega) (by omega) c353).elim
                            | succ j ih =>
                              intro e9 he
                              refine xr_iload F dX2_isSame_350 0 rfl ?_
                              refine xr_iconst F dX2_isSame_352 (v := 4) (by decide) ?_
                              refine xr_icmp_ge F 385 dX2_isSame_353 (by decide) (fun c353 => ?_) (fun c353 => ?_)
                              · exact (xk_nlt (a := e9) (b := 4) (by omega) (by omega) (by omega) c353).elim
                              · skip
                                refine xr_aload_n F dX2_isSame_356 rfl 4 rfl ?_
                                refine xr_iload F dX2_isSame_357 1 rfl ?_
                                refine xr_iload F dX2_isSame_359 0 rfl ?_
                                refine xr_ws (ws' := ([] : va_W) ++ ((bw h a t ++ (cw yI yZ a K V)) ++ (cw yI yZ t Kt Vt ++ (zw yI yL o ba pa la ra K V (zA V) ++ (([(q1, .inl (yZ, (kNb K), .inl (fun _ => 0)))] : va_W) ++ (([(dq, .inl (yI, 10, .inl (z_counts K V (zA V))))] : va_W))))))) (by first | (simp only [List.append_assoc, List.append_nil, List.nil_append]; done) | rfl | (simp only [List.append_assoc, List.append_nil, List.nil_append]; rfl)) ?_
                                have q361 : q_told K (nI b) (nI e9) = 0 := (q_told_v (j := b) (w := e9) hK.1 (by omega) (by omega))
                                refine xr_mcXVi F G (rest := []) (As := [.int (nI b), .int (nI e9)]) (k_X1_told l D yI yZ yL hst h a t K V (nI b) (nI e9) hK.1) (cwV 2 F.hts gX2_isSame_X1_told rfl rfl rfl (by decide +kernel) ⟨Nat.le_of_ble_eq_true rfl, Nat.le_of_ble_eq_true rfl⟩) (q0 := 0) rfl rfl (([] : va_W)) (cw yI yZ t Kt Vt ++ (zw yI yL o ba pa la ra K V (zA V) ++ (([(q1, .inl (yZ, (kNb K), .inl (fun _ => 0)))] : va_W) ++ (([(dq, .inl (yI, 10, .inl (z_counts K V (zA V))))] : va_W))))) rfl rfl rfl (Nat.le_of_ble_eq_true rfl) dX2_isSame_361 ⟨(by show _ ≤ (200 : Nat); omega), (by show _ ≤ (1200 : Nat); omega)⟩ (fun E1 W1 z1 => ?_) (fun r1 W1 z1 => ?_)
                                · skip
                                  exact absurd (q361.symm.trans z1.1.1) (by decide)
                                · skip
                                  obtain ⟨-, z0, z1⟩ := z1
                                  subst z0
                                  subst z1
                                  refine xr_ws (ws' := bw h a t ++ (cw yI yZ a K V ++ (cw yI yZ t Kt Vt ++ (zw yI yL o ba pa la ra K V (zA V) ++ (([(q1, .inl (yZ, (kNb K), .inl (fun _ => 0)))] : va_W) ++ (([(dq, .inl (yI, 10, .inl (z_counts K V (zA V))))] : va_W))))))) (by first | (simp only [List.append_assoc, List.append_nil, List.nil_append]; done) | rfl | (simp only [List.append_assoc, List.append_nil, List.nil_append]; rfl)) ?_
                                  refine xr_top (y := c_tellB K V b e9) (by rw [ix_nI (n := b) (by omega), ix_nI (n := e9) (by omega)]) ?_
                                  refine xr_aload_n F dX2_isSame_364 rfl 3 rfl ?_
                                  refine xr_get F hin2 (25) rfl rfl 10 (by decide) (List.mem_of_getElem? (i := 1) rfl) (v := .ref ba) rfl dX2_isSame_365 ?_
                                  refine xr_iload F dX2_isSame_368 1 rfl ?_
                                  refine xr_aald F (29) 2 rfl rfl rfl (b) rfl (by omega) (by omega) dX2_isSame_370 ?_
                                  refine xr_iload F dX2_isSame_371 0 rfl ?_
                                  refine xr_iald F (1 + (12 + (12 + (16 + b)))) 0 (w_skip (1) rfl (w_skip (12) rfl (w_skip (12) rfl (w_left (zwx_r (by omega)))))) rfl (e9) rfl (by omega) (by decide) dX2_isSame_373 ?_
                                  refine xr_icmp_eq F 379 dX2_isSame_374 (by decide) (fun c374 => ?_) (fun c374 => ?_)
                                  · skip
                                    refine xr_iinc F (nI (e9 + 1)) [(5, .int (nI (e9 + 1))), (4, .int (nI b)), (3, .ref q1), (0, .ref (o 0)), (1, .ref h), (2, .ref dq)] dX2_isSame_379 0 rfl (nI_add e9 1) (by decide) rfl ?_
                                    refine xr_goto F 350 dX2_isSame_382 (by decide) ?_
                                    refine xr_lv (lv' := [(5, .int (nI (e9 + 1))), (4, .int (nI b)), (3, .ref q1), (0, .ref (o 0)), (1, .ref h), (2, .ref dq)]) [0, 1, 2, 3, 4, 5] rfl ?_
                                    refine xr_widen (k := 100 + 5 * b + (e9 + 1)) (n := 600 + 30 * b + 6 * (e9 + 1)) (by omega) (by omega) ?_
                                    exact ih (e9 + 1) (by omega)
                                  · exact absurd (tellB_eq K V b e9 (by omega)) c374
                          refine xr_lv (lv' := [(5, .int 0), (4, .int (nI b)), (3, .ref q1), (0, .ref (o 0)), (1, .ref h), (2, .ref dq)]) [0, 1, 2, 3, 4, 5] rfl ?_
                          refine xr_widen (k := 100 + 5 * b + 0) (n := 600 + 30 * b + 6 * 0) (by omega) (by omega) ?_
                          exact lp4j 4 0 (by omega)
                    refine xr_lv (lv' := [(4, .int 0), (3, .ref q1), (0, .ref (o 0)), (1, .ref h), (2, .ref dq)]) [0, 1, 2, 3, 4] rfl ?_
                    refine xr_widen (k := 100 + 5 * 0) (n := 600 + 30 * 0) (by omega) (by omega) ?_
                    exact lp4 (kNb K) 0 (by omega)
                  · exact (xk_ge (a := 5) (b := b) (by omega) (by omega) c179).elim
                | succ i ih =>
                  intro b hb
                  refine xr_iload F dX2_isSame_176 0 rfl ?_
                  refine xr_iconst F dX2_isSame_178 (v := 5) (by decide) ?_
                  refine xr_icmp_ge F 334 dX2_isSame_179 (by decide) (fun c179 => ?_) (fun c179 => ?_)
                  · exact (xk_nlt (a := b) (b := 5) (by omega) (by omega) (by omega) c179).elim
                  · skip
                    refine xr_iconst F dX2_isSame_182 (v := 0) (by decide) ?_
                    refine xr_istore F [(5, .int 0), (4, .int (nI b)), (3, .ref q1), (0, .ref (o 0)), (1, .ref h), (2, .ref dq)] dX2_isSame_183 (by decide) rfl ?_
                    refine xr_aload_n F dX2_isSame_185 rfl 3 rfl ?_
                    refine xr_get F hin2 (25) rfl rfl 10 (by decide) (List.mem_of_getElem? (i := 1) rfl) (v := .ref ba) rfl dX2_isSame_186 ?_
                    refine xr_astore F [(6, .ref ba), (5, .int 0), (4, .int (nI b)), (3, .ref q1), (0, .ref (o 0)), (1, .ref h), (2, .ref dq)] dX2_isSame_189 (by decide) rfl ?_
                    refine xr_aload F dX2_isSame_191 0 rfl ?_
                    refine xr_alen F (29) 2 rfl rfl (v := nI (kNb K)) rfl dX2_isSame_193 ?_
                    refine xr_istore F [(7, .int (nI (kNb K))), (6, .ref ba), (5, .int 0), (4, .int (nI b)), (3, .ref q1), (0, .ref (o 0)), (1, .ref h), (2, .ref dq)] dX2_isSame_194 (by decide) rfl ?_
                    refine xr_iconst F dX2_isSame_196 (v := 0) (by decide) ?_
                    refine xr_istore F [(8, .int 0), (7, .int (nI (kNb K))), (6, .ref ba), (5, .int 0), (4, .int (nI b)), (3, .ref q1), (0, .ref (o 0)), (1, .ref h), (2, .ref dq)] dX2_isSame_197 (by decide) rfl ?_
                    have lp3j : ∀ (j : Nat) (e9 : Nat) (r : Int32), j + e9 = kNb K → c_cntL (z_lock K V) (nI b) j e9 r = c_waitN K V (nI b) → AW p l e rm_X2_isSame s m args below meth c 10 D A (60 + 5 * b) (300 + 30 * b) Q (bw h a t ++ (cw yI yZ a K V ++ (cw yI yZ t Kt Vt ++ (zw yI yL o ba pa la ra K V (zA V) ++ (([(q1, .inl (yZ, (kNb K), .inl (fun _ => 0)))] : va_W) ++ (([(dq, .inl (yI, 10, .inl (z_counts K V (zA V))))] : va_W))))))) [(8, .int (nI e9)), (7, .int (nI (kNb K))), (6, .ref ba), (5, .int r), (4, .int (nI b)), (3, .ref q1), (0, .ref (o 0)), (1, .ref h), (2, .ref dq)] 199 [] := by
                      intro j
                      induction j with
                      | zero =>
                        intro e9 r he h2
                        refine xr_iload F dX2_isSame_199 0 rfl ?_
                        refine xr_iload F dX2_isSame_201 1 rfl ?_
                        refine xr_icmp_ge F 240 dX2_isSame_203 (by decide) (fun c203 => ?_) (fun c203 => ?_)
                        · skip
                          refine xr_aload_n F dX2_isSame_240 rfl 7 rfl ?_
                          refine xr_iload F dX2_isSame_241 4 rfl ?_
                          refine xr_iconst F dX2_isSame_243 (v := 0) (by decide) ?_
                          refine xr_ws (ws' := ([] : va_W) ++ ((bw h a t ++ (cw yI yZ a K V)) ++ (cw yI yZ t Kt Vt ++ (zw yI yL o ba pa la ra K V (zA V) ++ (([(q1, .inl (yZ, (kNb K), .inl (fun _ => 0)))] : va_W) ++ (([(dq, .inl (yI, 10, .inl (z_counts K V (zA V))))] : va_W))))))) (by first | (simp only [List.append_assoc, List.append_nil, List.nil_append]; done) | rfl | (simp only [List.append_assoc, List.append_nil, List.nil_append]; rfl)) ?_
                          have q244 : q_in2 (nI b) 4 0 4 = 0 := (q_lock_v (j := b) (w := 0) (by omega) (by decide))
                          refine xr_mcXVi F G (rest := []) (As := [.int (nI b), .int 0]) (k_X1_lock l D yI yZ yL hst h a t K V (nI b) 0 hK.1) (cwV 2 F.hts gX2_isSame_X1_lock rfl rfl rfl (by decide +kernel) ⟨Nat.le_of_ble_eq_true rfl, Nat.le_of_ble_eq_true rfl⟩) (q0 := 0) rfl rfl (([] : va_W)) (cw yI yZ t Kt Vt ++ (zw yI yL o ba pa la ra K V (zA V) ++ (([(q1, .inl (yZ, (kNb K), .inl (fun _ => 0)))] : va_W) ++ (([(dq, .inl (yI, 10, .inl (z_counts K V (zA V))))] : va_W))))) rfl rfl rfl (Nat.le_of_ble_eq_true rfl) dX2_isSame_244 ⟨(by show _ ≤ (200 : Nat); omega), (by show _ ≤ (1200 : Nat); omega)⟩ (fun E1 W1 z1 => ?_) (fun r1 W1 z1 => ?_)
                          · skip
                            exact absurd (q244.symm.trans z1.1.1) (by decide)
                          · skip
                            obtain ⟨-, z0, z1⟩ := z1
                            subst z0
                            subst z1
                            refine xr_ws (ws' := bw h a t ++ (cw yI yZ a K V ++ (cw yI yZ t Kt Vt ++ (zw yI yL o ba pa la ra K V (zA V) ++ (([(q1, .inl (yZ, (kNb K), .inl (fun _ => 0)))] : va_W) ++ (([(dq, .inl (yI, 10, .inl (z_counts K V (zA V))))] : va_W))))))) (by first | (simp only [List.append_assoc, List.append_nil, List.nil_append]; done) | rfl | (simp only [List.append_assoc, List.append_nil, List.nil_append]; rfl)) ?_
                            refine xr_top (y := c_tellL K V b 0) (by rw [ix_nI (n := b) (by omega), show ix 0 = 0 from by decide]) ?_
                            refine xr_top (y := dFull V b) (tellL0 hV.2.1 (by omega)) ?_
                            refine xr_aload_n F dX2_isSame_247 rfl 6 rfl ?_
                            refine xr_get F hin2 (25) rfl rfl 4 (by decide) (List.mem_of_getElem? (i := 4) rfl) (v := .ref (o 3)) rfl dX2_isSame_248 ?_
                            refine xr_iload F dX2_isSame_251 4 rfl ?_
                            refine xr_aald F (28) 2 rfl rfl rfl (b) rfl (by omega) (by decide) dX2_isSame_253 ?_
                            refine xr_iconst F dX2_isSame_254 (v := 0) (by decide) ?_
                            refine xr_iald F (1 + (12 + (12 + (11 + b)))) 0 (w_skip (1) rfl (w_skip (12) rfl (w_skip (12) rfl (w_left (zwx_l (by omega)))))) rfl (0) rfl (by decide) (by decide) dX2_isSame_255 ?_
                            refine xr_top (y := (dFull V) b) rfl ?_
                            refine xr_icmp_ne F 326 dX2_isSame_256 (by decide) (fun c256 => ?_) (fun c256 => ?_)
                            · exact absurd rfl c256
                            · skip
                              refine xr_aload_n F dX2_isSame_259 rfl 7 rfl ?_
                              refine xr_iload F dX2_isSame_260 4 rfl ?_
                              refine xr_iconst F dX2_isSame_262 (v := 1) (by decide) ?_
                              refine xr_ws (ws' := ([] : va_W) ++ ((bw h a t ++ (cw yI yZ a K V)) ++ (cw yI yZ t Kt Vt ++ (zw yI yL o ba pa la ra K V (zA V) ++ (([(q1, .inl (yZ, (kNb K), .inl (fun _ => 0)))] : va_W) ++ (([(dq, .inl (yI, 10, .inl (z_counts K V (zA V))))] : va_W))))))) (by first | (simp only [List.append_assoc, List.append_nil, List.nil_append]; done) | rfl | (simp only [List.append_assoc, List.append_nil, List.nil_append]; rfl)) ?_
                              have q263 : q_in2 (nI b) 4 1 4 = 0 := (q_lock_v (j := b) (w := 1) (by omega) (by decide))
                              refine xr_mcXVi F G (rest := []) (As := [.int (nI b), .int 1]) (k_X1_lock l D yI yZ yL hst h a t K V (nI b) 1 hK.1) (cwV 2 F.hts gX2_isSame_X1_lock rfl rfl rfl (by decide +kernel) ⟨Nat.le_of_ble_eq_true rfl, Nat.le_of_ble_eq_true rfl⟩) (q0 := 0) rfl rfl (([] : va_W)) (cw yI yZ t Kt Vt ++ (zw yI yL o ba pa la ra K V (zA V) ++ (([(q1, .inl (yZ, (kNb K), .inl (fun _ => 0)))] : va_W) ++ (([(dq, .inl (yI, 10, .inl (z_counts K V (zA V))))] : va_W))))) rfl rfl rfl (Nat.le_of_ble_eq_true rfl) dX2_isSame_263 ⟨(by show _ ≤ (200 : Nat); omega), (by show _ ≤ (1200 : Nat); omega)⟩ (fun E1 W1 z1 => ?_) (fun r1 W1 z1 => ?_)
                              · skip
                                exact absurd (q263.symm.trans z1.1.1) (by decide)
                              · skip
                                obtain ⟨-, z0, z1⟩ := z1
                                subst z0
                                subst z1
                                refine xr_ws (ws' := bw h a t ++ (cw yI yZ a K V ++ (cw yI yZ t Kt Vt ++ (zw yI yL o ba pa la ra K V (zA V) ++ (([(q1, .inl (yZ, (kNb K), .inl (fun _ => 0)))] : va_W) ++ (([(dq, .inl (yI, 10, .inl (z_counts K V (zA V))))] : va_W))))))) (by first | (simp only [List.append_assoc, List.append_nil, List.nil_append]; done) | rfl | (simp only [List.append_assoc, List.append_nil, List.nil_append]; rfl)) ?_
                                refine xr_top (y := c_tellL K V b 1) (by rw [ix_nI (n := b) (by omega), show ix 1 = 1 from by decide]) ?_
                                refine xr_top (y := c_waitN K V (nI b)) rfl ?_
                                refine xr_iload F dX2_isSame_266 3 rfl ?_
                                refine xr_icmp_ne F 326 dX2_isSame_268 (by decide) (fun c268 => ?_) (fun c268 => ?_)
                                · exact absurd h2.symm c268
                                · skip
                                  refine xr_aload_n F dX2_isSame_271 rfl 7 rfl ?_
                                  refine xr_iload F dX2_isSame_272 4 rfl ?_
                                  refine xr_iconst F dX2_isSame_274 (v := 2) (by decide) ?_
                                  refine xr_ws (ws' := ([] : va_W) ++ ((bw h a t ++ (cw yI yZ a K V)) ++ (cw yI yZ t Kt Vt ++ (zw yI yL o ba pa la ra K V (zA V) ++ (([(q1, .inl (yZ, (kNb K), .inl (fun _ => 0)))] : va_W) ++ (([(dq, .inl (yI, 10, .inl (z_counts K V (zA V))))] : va_W))))))) (by first | (simp only [List.append_assoc, List.append_nil, List.nil_append]; done) | rfl | (simp only [List.append_assoc, List.append_nil, List.nil_append]; rfl)) ?_
                                  have q275 : q_in2 (nI b) 4 2 4 = 0 := (q_lock_v (j := b) (w := 2) (by omega) (by decide))
                                  refine xr_mcXVi F G (rest := []) (As := [.int (nI b), .int 2]) (k_X1_lock l D yI yZ yL hst h a t K V (nI b) 2 hK.1) (cwV 2 F.hts gX2_isSame_X1_lock rfl rfl rfl (by decide +kernel) ⟨Nat.le_of_ble_eq_true rfl, Nat.le_of_ble_eq_true rfl⟩) (q0 := 0) rfl rfl (([] : va_W)) (cw yI yZ t Kt Vt ++ (zw yI yL o ba pa la ra K V (zA V) ++ (([(q1, .inl (yZ, (kNb K), .inl (fun _ => 0)))] : va_W) ++ (([(dq, .inl (yI, 10, .inl (z_counts K V (zA V))))] : va_W))))) rfl rfl rfl (Nat.le_of_ble_eq_true rfl) dX2_isSame_275 ⟨(by show _ ≤ (200 : Nat); omega), (by show _ ≤ (1200 : Nat); omega)⟩ (fun E1 W1 z1 => ?_) (fun r1 W1 z1 => ?_)
                                  · skip
                                    exact absurd (q275.symm.trans z1.1.1) (by decide)
                                  · skip
                                    obtain ⟨-, z0, z1⟩ := z1
                                    subst z0
                                    subst z1
                                    refine xr_ws (ws' := bw h a t ++ (cw yI yZ a K V ++ (cw yI yZ t Kt Vt ++ (zw yI yL o ba pa la ra K V (zA V) ++ (([(q1, .inl (yZ, (kNb K), .inl (fun _ => 0)))] : va_W) ++ (([(dq, .inl (yI, 10, .inl (z_counts K V (zA V))))] : va_W))))))) (by first | (simp only [List.append_assoc, List.append_nil, List.nil_append]; done) | rfl | (simp only [List.append_assoc, List.append_nil, List.nil_append]; rfl)) ?_
                                    refine xr_top (y := c_tellL K V b 2) (by rw [ix_nI (n := b) (by omega), show ix 2 = 2 from by decide]) ?_
                                    refine xr_top (y := dLock V b) rfl ?_
                                    refine xr_aload_n F dX2_isSame_278 rfl 6 rfl ?_
                                    refine xr_get F hin2 (25) rfl rfl 4 (by decide) (List.mem_of_getElem? (i := 4) rfl) (v := .ref (o 3)) rfl dX2_isSame_279 ?_
                                    refine xr_iload F dX2_isSame_282 4 rfl ?_
                                    refine xr_aald F (28) 2 rfl rfl rfl (b) rfl (by omega) (by decide) dX2_isSame_284 ?_
                                    refine xr_iconst F dX2_isSame_285 (v := 1) (by decide) ?_
                                    refine xr_iald F (1 + (12 + (12 + (11 + b)))) 0 (w_skip (1) rfl (w_skip (12) rfl (w_skip (12) rfl (w_left (zwx_l (by omega)))))) rfl (1) rfl (by decide) (by decide) dX2_isSame_286 ?_
                                    refine xr_top (y := (dLock V) b) rfl ?_
                                    refine xr_icmp_ne F 326 dX2_isSame_287 (by decide) (fun c287 => ?_) (fun c287 => ?_)
                                    · exact absurd rfl c287
                                    · skip
                                      refine xr_aload_n F dX2_isSame_290 rfl 7 rfl ?_
                                      refine xr_iload F dX2_isSame_291 4 rfl ?_
                                      refine xr_iconst F dX2_isSame_293 (v := 3) (by decide) ?_
                                      refine xr_ws (ws' := ([] : va_W) ++ ((bw h a t ++ (cw yI yZ a K V)) ++ (cw yI yZ t Kt Vt ++ (zw yI yL o ba pa la ra K V (zA V) ++ (([(q1, .inl (yZ, (kNb K), .inl (fun _ => 0)))] : va_W) ++ (([(dq, .inl (yI, 10, .inl (z_counts K V (zA V))))] : va_W))))))) (by first | (simp only [List.append_assoc, List.append_nil, List.nil_append]; done) | rfl | (simp only [List.append_assoc, List.append_nil, List.nil_append]; rfl)) ?_
                                      have q294 : q_in2 (nI b) 4 3 4 = 0 := (q_lock_v (j := b) (w := 3) (by omega) (by decide))
                                      refine xr_mcXVi F G (rest := []) (As := [.int (nI b), .int 3]) (k_X1_lock l D yI yZ yL hst h a t K V (nI b) 3 hK.1) (cwV 2 F.hts gX2_isSame_X1_lock rfl rfl rfl (by decide +kernel) ⟨Nat.le_of_ble_eq_true rfl, Nat.le_of_ble_eq_true rfl⟩) (q0 := 0) rfl rfl (([] : va_W)) (cw yI yZ t Kt Vt ++ (zw yI yL o ba pa la ra K V (zA V) ++ (([(q1, .inl (yZ, (kNb K), .inl (fun _ => 0)))] : va_W) ++ (([(dq, .inl (yI, 10, .inl (z_counts K V (zA V))))] : va_W))))) rfl rfl rfl (Nat.le_of_ble_eq_true rfl) dX2_isSame_294 ⟨(by show _ ≤ (200 : Nat); omega), (by show _ ≤ (1200 : Nat); omega)⟩ (fun E1 W1 z1 => ?_) (fun r1 W1 z1 => ?_)
                                      · skip
                                        exact absurd (q294.symm.trans z1.1.1) (by decide)
                                      · skip
                                        obtain ⟨-, z0, z1⟩ := z1
                                        subst z0
                                        subst z1
                                        refine xr_ws (ws' := bw h a t ++ (cw yI yZ a K V ++ (cw yI yZ t Kt Vt ++ (zw yI yL o ba pa la ra K V (zA V) ++ (([(q1, .inl (yZ, (kNb K), .inl (fun _ => 0)))] : va_W) ++ (([(dq, .inl (yI, 10, .inl (z_counts K V (zA V))))] : va_W))))))) (by first | (simp only [List.append_assoc, List.append_nil, List.nil_append]; done) | rfl | (simp only [List.append_assoc, List.append_nil, List.nil_append]; rfl)) ?_
                                        refine xr_top (y := c_tellL K V b 3) (by rw [ix_nI (n := b) (by omega), show ix 3 = 3 from by decide]) ?_
                                        refine xr_top (y := dFill V b) rfl ?_
                                        refine xr_aload_n F dX2_isSame_297 rfl 6 rfl ?_
                                        refine xr_get F hin2 (25) rfl rfl 4 (by decide) (List.mem_of_getElem? (i := 4) rfl) (v := .ref (o 3)) rfl dX2_isSame_298 ?_
                                        refine xr_iload F dX2_isSame_301 4 rfl ?_
                                        refine xr_aald F (28) 2 rfl rfl rfl (b) rfl (by omega) (by decide) dX2_isSame_303 ?_
                                        refine xr_iconst F dX2_isSame_304 (v := 2) (by decide) ?_
                                        refine xr_iald F (1 + (12 + (12 + (11 + b)))) 0 (w_skip (1) rfl (w_skip (12) rfl (w_skip (12) rfl (w_left (zwx_l (by omega)))))) rfl (2) rfl (by decide) (by decide) dX2_isSame_305 ?_
                                        refine xr_top (y := (dFill V) b) rfl ?_
                                        refine xr_icmp_ne F 326 dX2_isSame_306 (by decide) (fun c306 => ?_) (fun c306 => ?_)
                                        · exact absurd rfl c306
                                        · skip
                                          refine xr_aload_n F dX2_isSame_309 rfl 7 rfl ?_
                                          refine xr_iload F dX2_isSame_310 4 rfl ?_
                                          refine xr_iconst F dX2_isSame_312 (v := 4) (by decide) ?_
                                          refine xr_ws (ws' := ([] : va_W) ++ ((bw h a t ++ (cw yI yZ a K V)) ++ (cw yI yZ t Kt Vt ++ (zw yI yL o ba pa la ra K V (zA V) ++ (([(q1, .inl (yZ, (kNb K), .inl (fun _ => 0)))] : va_W) ++ (([(dq, .inl (yI, 10, .inl (z_counts K V (zA V))))] : va_W))))))) (by first | (simp only [List.append_assoc, List.append_nil, List.nil_append]; done) | rfl | (simp only [List.append_assoc, List.append_nil, List.nil_append]; rfl)) ?_
                                          have q313 : q_in2 (nI b) 4 4 4 = 0 := (q_lock_v (j := b) (w := 4) (by omega) (by decide))
                                          refine xr_mcXVi F G (rest := []) (As := [.int (nI b), .int 4]) (k_X1_lock l D yI yZ yL hst h a t K V (nI b) 4 hK.1) (cwV 2 F.hts gX2_isSame_X1_lock rfl rfl rfl (by decide +kernel) ⟨Nat.le_of_ble_eq_true rfl, Nat.le_of_ble_eq_true rfl⟩) (q0 := 0) rfl rfl (([] : va_W)) (cw yI yZ t Kt Vt ++ (zw yI yL o ba pa la ra K V (zA V) ++ (([(q1, .inl (yZ, (kNb K), .inl (fun _ => 0)))] : va_W) ++ (([(dq, .inl (yI, 10, .inl (z_counts K V (zA V))))] : va_W))))) rfl rfl rfl (Nat.le_of_ble_eq_true rfl) dX2_isSame_313 ⟨(by show _ ≤ (200 : Nat); omega), (by show _ ≤ (1200 : Nat); omega)⟩ (fun E1 W1 z1 => ?_) (fun r1 W1 z1 => ?_)
                                          · skip
                                            exact absurd (q313.symm.trans z1.1.1) (by decide)
                                          · skip
                                            obtain ⟨-, z0, z1⟩ := z1
                                            subst z0
                                            subst z1
                                            refine xr_ws (ws' := bw h a t ++ (cw yI yZ a K V ++ (cw yI yZ t Kt Vt ++ (zw yI yL o ba pa la ra K V (zA V) ++ (([(q1, .inl (yZ, (kNb K), .inl (fun _ => 0)))] : va_W) ++ (([(dq, .inl (yI, 10, .inl (z_counts K V (zA V))))] : va_W))))))) (by first | (simp only [List.append_assoc, List.append_nil, List.nil_append]; done) | rfl | (simp only [List.append_assoc, List.append_nil, List.nil_append]; rfl)) ?_
                                            refine xr_top (y := c_tellL K V b 4) (by rw [ix_nI (n := b) (by omega), show ix 4 = 4 from by decide]) ?_
                                            refine xr_top (y := c_next K V b 0) rfl ?_
                                            refine xr_aload_n F dX2_isSame_316 rfl 6 rfl ?_
                                            refine xr_iload F dX2_isSame_317 4 rfl ?_
                                            refine xr_aload_n F dX2_isSame_319 rfl 5 rfl ?_
                                            refine xr_ws (ws' := bw h a t ++ (cw yI yZ a K V ++ (cw yI yZ t Kt Vt)) ++ ((zw yI yL o ba pa la ra K V (zA V) ++ (([(q1, .inl (yZ, (kNb K), .inl (fun _ => 0)))] : va_W))) ++ (([(dq, .inl (yI, 10, .inl (z_counts K V (zA V))))] : va_W)))) (by first | (simp only [List.append_assoc, List.append_nil, List.nil_append]; done) | rfl | (simp only [List.append_assoc, List.append_nil, List.nil_append]; rfl)) ?_
                                            refine xr_mcVi F (rest := [.int (c_next K V b 0)]) (As := [.int (nI b), .ref q1]) (k_X2_next l D yI yZ yL o ba pa la ra K V (zA V) b q1 (fun _ => 0) (by omega) (by assumption)) (cwV 2 F.hts gX2_isSame_X2_next rfl rfl rfl (by decide +kernel) ⟨Nat.le_of_ble_eq_true rfl, Nat.le_of_ble_eq_true rfl⟩) (q0 := 0) rfl rfl (bw h a t ++ (cw yI yZ a K V ++ (cw yI yZ t Kt Vt))) (([(dq, .inl (yI, 10, .inl (z_counts K V (zA V))))] : va_W)) rfl rfl rfl (Nat.le_of_ble_eq_true rfl) dX2_isSame_320 ⟨(by show _ ≤ (200 : Nat); omega), (by show _ ≤ (1200 : Nat); omega)⟩ (fun r1 W1 z1 => ?_)
                                            obtain ⟨z0, z1⟩ := z1
                                            subst z0
                                            subst z1
                                            refine xr_ws (ws' := bw h a t ++ (cw yI yZ a K V ++ (cw yI yZ t Kt Vt ++ (zw yI yL o ba pa la ra K V (zA V) ++ (([(q1, .inl (yZ, (kNb K), .inl (fun _ => 0)))] : va_W) ++ (([(dq, .inl (yI, 10, .inl (z_counts K V (zA V))))] : va_W))))))) (by first | (simp only [List.append_assoc, List.append_nil, List.nil_append]; done) | rfl | (simp only [List.append_assoc, List.append_nil, List.nil_append]; rfl)) ?_
                                            refine xr_icmp_eq F 328 dX2_isSame_323 (by decide) (fun c323 => ?_) (fun c323 => ?_)
                                            · skip
                                              refine xr_iinc F (nI (b + 1)) [(4, .int (nI (b + 1))), (8, .int (nI e9)), (7, .int (nI (kNb K))), (6, .ref ba), (5, .int r), (3, .ref q1), (0, .ref (o 0)), (1, .ref h), (2, .ref dq)] dX2_isSame_328 4 rfl (nI_add b 1) (by decide) rfl ?_
                                              refine xr_goto F 176 dX2_isSame_331 (by decide) ?_
                                              refine xr_lv (lv' := [(4, .int (nI (b + 1))), (3, .ref q1), (0, .ref (o 0)), (1, .ref h), (2, .ref dq)]) [0, 5, 6, 7, 8] rfl ?_
                                              refine xr_widen (k := 60 + 5 * (b + 1)) (n := 300 + 30 * (b + 1)) (by omega) (by omega) ?_
                                              exact ih (b + 1) (by omega)
                                            · exact absurd (next_0 hK hV (by omega)).symm c323
                        · exact (xk_ge (a := kNb K) (b := e9) (by omega) (by omega) c203).elim
                      | succ j ih =>
                        intro e9 r he h2
                        refine xr_iload F dX2_isSame_199 0 rfl ?_
                        refine xr_iload F dX2_isSame_201 1 rfl ?_
                        refine xr_icmp_ge F 240 dX2_isSame_203 (by decide) (fun c203 => ?_) (fun c203 => ?_)
                        · exact (xk_nlt (a := e9) (b := kNb K) (by omega) (by omega) (by omega) c203).elim
                        · skip
                          refine xr_aload F dX2_isSame_206 2 rfl ?_
                          refine xr_iload F dX2_isSame_208 0 rfl ?_
                          refine xr_aald F (29) 2 rfl rfl rfl (e9) rfl (by omega) (by omega) dX2_isSame_210 ?_
                          refine xr_astore F [(9, .ref (ra e9)), (8, .int (nI e9)), (7, .int (nI (kNb K))), (6, .ref ba), (5, .int r), (4, .int (nI b)), (3, .ref q1), (0, .ref (o 0)), (1, .ref h), (2, .ref dq)] dX2_isSame_211 (by decide) rfl ?_
                          refine xr_iload F dX2_isSame_213 4 rfl ?_
                          refine xr_aload_n F dX2_isSame_215 rfl 7 rfl ?_
                          refine xr_aload F dX2_isSame_216 0 rfl ?_
                          refine xr_ws (ws' := bw h a t ++ (cw yI yZ a K V ++ (cw yI yZ t Kt Vt)) ++ ((zw yI yL o ba pa la ra K V (zA V)) ++ (([(q1, .inl (yZ, (kNb K), .inl (fun _ => 0)))] : va_W) ++ (([(dq, .inl (yI, 10, .inl (z_counts K V (zA V))))] : va_W))))) (by first | (simp only [List.append_assoc, List.append_nil, List.nil_append]; done) | rfl | (simp only [List.append_assoc, List.append_nil, List.nil_append]; rfl)) ?_
                          refine xr_mcVi F (rest := [.int r]) (As := [.ref (ra e9)]) (k_X2_lockOf l D yI yZ yL o ba pa la ra K V (zA V) e9 (by omega)) (cwV 1 F.hts gX2_isSame_X2_lockOf rfl rfl rfl (by decide +kernel) ⟨Nat.le_of_ble_eq_true rfl, Nat.le_of_ble_eq_true rfl⟩) (q0 := 0) rfl rfl (bw h a t ++ (cw yI yZ a K V ++ (cw yI yZ t Kt Vt))) (([(q1, .inl (yZ, (kNb K), .inl (fun _ => 0)))] : va_W) ++ (([(dq, .inl (yI, 10, .inl (z_counts K V (zA V))))] : va_W))) rfl rfl rfl (Nat.le_of_ble_eq_true rfl) dX2_isSame_218 ⟨(by show _ ≤ (200 : Nat); omega), (by show _ ≤ (1200 : Nat); omega)⟩ (fun r1 W1 z1 => ?_)
                          obtain ⟨z0, z1⟩ := z1
                          subst z0
                          subst z1
                          refine xr_ws (ws' := bw h a t ++ (cw yI yZ a K V ++ (cw yI yZ t Kt Vt ++ (zw yI yL o ba pa la ra K V (zA V) ++ (([(q1, .inl (yZ, (kNb K), .inl (fun _ => 0)))] : va_W) ++ (([(dq, .inl (yI, 10, .inl (z_counts K V (zA V))))] : va_W))))))) (by first | (simp only [List.append_assoc, List.append_nil, List.nil_append]; done) | rfl | (simp only [List.append_assoc, List.append_nil, List.nil_append]; rfl)) ?_
                          refine xr_iload F dX2_isSame_221 5 rfl ?_
                          refine xr_icmp_ne F 230 dX2_isSame_223 (by decide) (fun c223 => ?_) (fun c223 => ?_)
                          · skip
                            refine xr_iconst F dX2_isSame_230 (v := 0) (by decide) ?_
                            refine xr_iadd F (r + 0) dX2_isSame_231 rfl ?_
                            refine xr_istore F [(5, .int (r + 0)), (9, .ref (ra e9)), (8, .int (nI e9)), (7, .int (nI (kNb K))), (6, .ref ba), (4, .int (nI b)), (3, .ref q1), (0, .ref (o 0)), (1, .ref h), (2, .ref dq)] dX2_isSame_232 (by decide) rfl ?_
                            refine xr_iinc F (nI (e9 + 1)) [(8, .int (nI (e9 + 1))), (5, .int (r + 0)), (9, .ref (ra e9)), (7, .int (nI (kNb K))), (6, .ref ba), (4, .int (nI b)), (3, .ref q1), (0, .ref (o 0)), (1, .ref h), (2, .ref dq)] dX2_isSame_234 2 rfl (nI_add e9 1) (by decide) rfl ?_
                            refine xr_goto F 199 dX2_isSame_237 (by decide) ?_
                            refine xr_lv (lv' := [(8, .int (nI (e9 + 1))), (7, .int (nI (kNb K))), (6, .ref ba), (5, .int (r + 0)), (4, .int (nI b)), (3, .ref q1), (0, .ref (o 0)), (1, .ref h), (2, .ref dq)]) [0, 3, 4, 1, 5, 6, 7, 8, 9] rfl ?_
                            refine xr_widen (k := 60 + 5 * b) (n := 300 + 30 * b) (by omega) (by omega) ?_
                            exact ih (e9 + 1) (r + 0) (by omega) (by rw [← h2]; simp only [c_cntL, c223, ↓reduceIte])
                          · skip
                            refine xr_iconst F dX2_isSame_226 (v := 1) (by decide) ?_
                            refine xr_goto F 231 dX2_isSame_227 (by decide) ?_
                            refine xr_iadd F (r + 1) dX2_isSame_231 rfl ?_
                            refine xr_istore F [(5, .int (r + 1)), (9, .ref (ra e9)), (8, .int (nI e9)), (7, .int (nI (kNb K))), (6, .ref ba), (4, .int (nI b)), (3, .ref q1), (0, .ref (o 0)), (1, .ref h), (2, .ref dq)] dX2_isSame_232 (by decide) rfl ?_
                            refine xr_iinc F (nI (e9 + 1)) [(8, .int (nI (e9 + 1))), (5, .int (r + 1)), (9, .ref (ra e9)), (7, .int (nI (kNb K))), (6, .ref ba), (4, .int (nI b)), (3, .ref q1), (0, .ref (o 0)), (1, .ref h), (2, .ref dq)] dX2_isSame_234 2 rfl (nI_add e9 1) (by decide) rfl ?_
                            refine xr_goto F 199 dX2_isSame_237 (by decide) ?_
                            refine xr_lv (lv' := [(8, .int (nI (e9 + 1))), (7, .int (nI (kNb K))), (6, .ref ba), (5, .int (r + 1)), (4, .int (nI b)), (3, .ref q1), (0, .ref (o 0)), (1, .ref h), (2, .ref dq)]) [0, 3, 4, 1, 5, 6, 7, 8, 9] rfl ?_
                            refine xr_widen (k := 60 + 5 * b) (n := 300 + 30 * b) (by omega) (by omega) ?_
                            exact ih (e9 + 1) (r + 1) (by omega) (by rw [← h2]; simp only [c_cntL, c223, ↓reduceIte])
                    refine xr_lv (lv' := [(8, .int 0), (7, .int (nI (kNb K))), (6, .ref ba), (5, .int 0), (4, .int (nI b)), (3, .ref q1), (0, .ref (o 0)), (1, .ref h), (2, .ref dq)]) [0, 1, 2, 3, 4, 5, 6, 7, 8] rfl ?_
                    refine xr_widen (k := 60 + 5 * b) (n := 300 + 30 * b) (by omega) (by omega) ?_
                    exact lp3j (kNb K) 0 0 (by omega) (waitN_eq K V (nI b))
              refine xr_lv (lv' := [(4, .int 0), (3, .ref q1), (0, .ref (o 0)), (1, .ref h), (2, .ref dq)]) [0, 1, 2, 3, 4] rfl ?_
              refine xr_widen (k := 60 + 5 * 0) (n := 300 + 30 * 0) (by omega) (by omega) ?_
              exact lp3 5 0 (by omega)
            · exact (xk_ge (a := 6) (b := b) (by omega) (by omega) c37).elim
          | succ i ih =>
            intro b hb
            refine xr_iload_n F dX2_isSame_34 rfl 0 rfl ?_
            refine xr_bipush F dX2_isSame_35 (v := 6) (by decide) ?_
            refine xr_icmp_ge F 165 dX2_isSame_37 (by decide) (fun c37 => ?_) (fun c37 => ?_)
            · exact (xk_nlt (a := b) (b := 6) (by omega) (by omega) (by omega) c37).elim
            · skip
              refine xr_iconst F dX2_isSame_40 (v := 0) (by decide) ?_
              refine xr_istore F [(4, .int 0), (3, .int (nI b)), (0, .ref (o 0)), (1, .ref h), (2, .ref dq)] dX2_isSame_41 (by decide) rfl ?_
              refine xr_aload_n F dX2_isSame_43 rfl 2 rfl ?_
              refine xr_get F hin2 (25) rfl rfl 10 (by decide) (List.mem_of_getElem? (i := 1) rfl) (v := .ref ba) rfl dX2_isSame_44 ?_
              refine xr_astore F [(5, .ref ba), (4, .int 0), (3, .int (nI b)), (0, .ref (o 0)), (1, .ref h), (2, .ref dq)] dX2_isSame_47 (by decide) rfl ?_
              refine xr_aload F dX2_isSame_49 0 rfl ?_
              refine xr_alen F (29) 2 rfl rfl (v := nI (kNb K)) rfl dX2_isSame_51 ?_
              refine xr_istore F [(6, .int (nI (kNb K))), (5, .ref ba), (4, .int 0), (3, .int (nI b)), (0, .ref (o 0)), (1, .ref h), (2, .ref dq)] dX2_isSame_52 (by decide) rfl ?_
              refine xr_iconst F dX2_isSame_54 (v := 0) (by decide) ?_
              refine xr_istore F [(7, .int 0), (6, .int (nI (kNb K))), (5, .ref ba), (4, .int 0), (3, .int (nI b)), (0, .ref (o 0)), (1, .ref h), (2, .ref dq)] dX2_isSame_55 (by decide) rfl ?_
              have lp2j : ∀ (j : Nat) (e9 : Nat) (r : Int32), j + e9 = kNb K → c_cntL (dAt V) (nI b) j e9 r = c_atN K V (nI b) → AW p l e rm_X2_isSame s m args below meth c 10 D A (20 + 4 * b) (100 + 24 * b) Q (bw h a t ++ (cw yI yZ a K V ++ (cw yI yZ t Kt Vt ++ (zw yI yL o ba pa la ra K V (zA V) ++ (([(dq, .inl (yI, 10, .inl (z_counts K V (zA V))))] : va_W)))))) [(7, .int (nI e9)), (6, .int (nI (kNb K))), (5, .ref ba), (4, .int r), (3, .int (nI b)), (0, .ref (o 0)), (1, .ref h), (2, .ref dq)] 57 [] := by
                intro j
                induction j with
                | zero =>
                  intro e9 r he h2
                  refine xr_iload F dX2_isSame_57 0 rfl ?_
                  refine xr_iload F dX2_isSame_59 1 rfl ?_
                  refine xr_icmp_ge F 95 dX2_isSame_61 (by decide) (fun c61 => ?_) (fun c61 => ?_)
                  · skip
                    refine xr_aload_n F dX2_isSame_95 rfl 6 rfl ?_
                    refine xr_iload_n F dX2_isSame_96 rfl 4 rfl ?_
                    refine xr_iconst F dX2_isSame_97 (v := 0) (by decide) ?_
                    refine xr_ws (ws' := ([] : va_W) ++ ((bw h a t ++ (cw yI yZ a K V)) ++ (cw yI yZ t Kt Vt ++ (zw yI yL o ba pa la ra K V (zA V) ++ (([(dq, .inl (yI, 10, .inl (z_counts K V (zA V))))] : va_W)))))) (by first | (simp only [List.append_assoc, List.append_nil, List.nil_append]; done) | rfl | (simp only [List.append_assoc, List.append_nil, List.nil_append]; rfl)) ?_
                    have q98 : q_in2 (nI b) 5 0 3 = 0 := (q_pound_v (j := b) (w := 0) (by omega) (by decide))
                    refine xr_mcXVi F G (rest := []) (As := [.int (nI b), .int 0]) (k_X1_pound l D yI yZ yL hst h a t K V (nI b) 0 hK.1) (cwV 2 F.hts gX2_isSame_X1_pound rfl rfl rfl (by decide +kernel) ⟨Nat.le_of_ble_eq_true rfl, Nat.le_of_ble_eq_true rfl⟩) (q0 := 0) rfl rfl (([] : va_W)) (cw yI yZ t Kt Vt ++ (zw yI yL o ba pa la ra K V (zA V) ++ (([(dq, .inl (yI, 10, .inl (z_counts K V (zA V))))] : va_W)))) rfl rfl rfl (Nat.le_of_ble_eq_true rfl) dX2_isSame_98 ⟨(by show _ ≤ (200 : Nat); omega), (by show _ ≤ (1200 : Nat); omega)⟩ (fun E1 W1 z1 => ?_) (fun r1 W1 z1 => ?_)
                    · skip
                      exact absurd (q98.symm.trans z1.1.1) (by decide)
                    · skip
                      obtain ⟨-, z0, z1⟩ := z1
                      subst z0
                      subst z1
                      refine xr_ws (ws' := bw h a t ++ (cw yI yZ a K V ++ (cw yI yZ t Kt Vt ++ (zw yI yL o ba pa la ra K V (zA V) ++ (([(dq, .inl (yI, 10, .inl (z_counts K V (zA V))))] : va_W)))))) (by first | (simp only [List.append_assoc, List.append_nil, List.nil_append]; done) | rfl | (simp only [List.append_assoc, List.append_nil, List.nil_append]; rfl)) ?_
                      refine xr_top (y := c_tellP K V b 0) (by rw [ix_nI (n := b) (by omega), show ix 0 = 0 from by decide]) ?_
                      refine xr_top (y := dLev V b) rfl ?_
                      refine xr_aload_n F dX2_isSame_101 rfl 5 rfl ?_
                      refine xr_get F hin2 (25) rfl rfl 2 (by decide) (List.mem_of_getElem? (i := 2) rfl) (v := .ref (o 2)) rfl dX2_isSame_102 ?_
                      refine xr_iload_n F dX2_isSame_105 rfl 4 rfl ?_
                      refine xr_aald F (27) 2 rfl rfl rfl (b) rfl (by omega) (by decide) dX2_isSame_106 ?_
                      refine xr_iconst F dX2_isSame_107 (v := 0) (by decide) ?_
                      refine xr_iald F (1 + (12 + (12 + (5 + b)))) 0 (w_skip (1) rfl (w_skip (12) rfl (w_skip (12) rfl (w_left (zwx_p (by omega)))))) rfl (0) rfl (by decide) (by decide) dX2_isSame_108 ?_
                      refine xr_top (y := (dLev V) b) rfl ?_
                      refine xr_icmp_ne F 157 dX2_isSame_109 (by decide) (fun c109 => ?_) (fun c109 => ?_)
                      · exact absurd rfl c109
                      · skip
                        refine xr_aload_n F dX2_isSame_112 rfl 6 rfl ?_
                        refine xr_iload_n F dX2_isSame_113 rfl 4 rfl ?_
                        refine xr_iconst F dX2_isSame_114 (v := 1) (by decide) ?_
                        refine xr_ws (ws' := ([] : va_W) ++ ((bw h a t ++ (cw yI yZ a K V)) ++ (cw yI yZ t Kt Vt ++ (zw yI yL o ba pa la ra K V (zA V) ++ (([(dq, .inl (yI, 10, .inl (z_counts K V (zA V))))] : va_W)))))) (by first | (simp only [List.append_assoc, List.append_nil, List.nil_append]; done) | rfl | (simp only [List.append_assoc, List.append_nil, List.nil_append]; rfl)) ?_
                        have q115 : q_in2 (nI b) 5 1 3 = 0 := (q_pound_v (j := b) (w := 1) (by omega) (by decide))
                        refine xr_mcXVi F G (rest := []) (As := [.int (nI b), .int 1]) (k_X1_pound l D yI yZ yL hst h a t K V (nI b) 1 hK.1) (cwV 2 F.hts gX2_isSame_X1_pound rfl rfl rfl (by decide +kernel) ⟨Nat.le_of_ble_eq_true rfl, Nat.le_of_ble_eq_true rfl⟩) (q0 := 0) rfl rfl (([] : va_W)) (cw yI yZ t Kt Vt ++ (zw yI yL o ba pa la ra K V (zA V) ++ (([(dq, .inl (yI, 10, .inl (z_counts K V (zA V))))] : va_W)))) rfl rfl rfl (Nat.le_of_ble_eq_true rfl) dX2_isSame_115 ⟨(by show _ ≤ (200 : Nat); omega), (by show _ ≤ (1200 : Nat); omega)⟩ (fun E1 W1 z1 => ?_) (fun r1 W1 z1 => ?_)
                        · skip
                          exact absurd (q115.symm.trans z1.1.1) (by decide)
                        · skip
                          obtain ⟨-, z0, z1⟩ := z1
                          subst z0
                          subst z1
                          refine xr_ws (ws' := bw h a t ++ (cw yI yZ a K V ++ (cw yI yZ t Kt Vt ++ (zw yI yL o ba pa la ra K V (zA V) ++ (([(dq, .inl (yI, 10, .inl (z_counts K V (zA V))))] : va_W)))))) (by first | (simp only [List.append_assoc, List.append_nil, List.nil_append]; done) | rfl | (simp only [List.append_assoc, List.append_nil, List.nil_append]; rfl)) ?_
                          refine xr_top (y := c_tellP K V b 1) (by rw [ix_nI (n := b) (by omega), show ix 1 = 1 from by decide]) ?_
                          refine xr_top (y := c_atN K V (nI b)) rfl ?_
                          refine xr_iload F dX2_isSame_118 3 rfl ?_
                          refine xr_icmp_ne F 157 dX2_isSame_120 (by decide) (fun c120 => ?_) (fun c120 => ?_)
                          · exact absurd h2.symm c120
                          · skip
                            refine xr_aload_n F dX2_isSame_123 rfl 6 rfl ?_
                            refine xr_iload_n F dX2_isSame_124 rfl 4 rfl ?_
                            refine xr_iconst F dX2_isSame_125 (v := 2) (by decide) ?_
                            refine xr_ws (ws' := ([] : va_W) ++ ((bw h a t ++ (cw yI yZ a K V)) ++ (cw yI yZ t Kt Vt ++ (zw yI yL o ba pa la ra K V (zA V) ++ (([(dq, .inl (yI, 10, .inl (z_counts K V (zA V))))] : va_W)))))) (by first | (simp only [List.append_assoc, List.append_nil, List.nil_append]; done) | rfl | (simp only [List.append_assoc, List.append_nil, List.nil_append]; rfl)) ?_
                            have q126 : q_in2 (nI b) 5 2 3 = 0 := (q_pound_v (j := b) (w := 2) (by omega) (by decide))
                            refine xr_mcXVi F G (rest := []) (As := [.int (nI b), .int 2]) (k_X1_pound l D yI yZ yL hst h a t K V (nI b) 2 hK.1) (cwV 2 F.hts gX2_isSame_X1_pound rfl rfl rfl (by decide +kernel) ⟨Nat.le_of_ble_eq_true rfl, Nat.le_of_ble_eq_true rfl⟩) (q0 := 0) rfl rfl (([] : va_W)) (cw yI yZ t Kt Vt ++ (zw yI yL o ba pa la ra K V (zA V) ++ (([(dq, .inl (yI, 10, .inl (z_counts K V (zA V))))] : va_W)))) rfl rfl rfl (Nat.le_of_ble_eq_true rfl) dX2_isSame_126 ⟨(by show _ ≤ (200 : Nat); omega), (by show _ ≤ (1200 : Nat); omega)⟩ (fun E1 W1 z1 => ?_) (fun r1 W1 z1 => ?_)
                            · skip
                              exact absurd (q126.symm.trans z1.1.1) (by decide)
                            · skip
                              obtain ⟨-, z0, z1⟩ := z1
                              subst z0
                              subst z1
                              refine xr_ws (ws' := bw h a t ++ (cw yI yZ a K V ++ (cw yI yZ t Kt Vt ++ (zw yI yL o ba pa la ra K V (zA V) ++ (([(dq, .inl (yI, 10, .inl (z_counts K V (zA V))))] : va_W)))))) (by first | (simp only [List.append_assoc, List.append_nil, List.nil_append]; done) | rfl | (simp only [List.append_assoc, List.append_nil, List.nil_append]; rfl)) ?_
                              refine xr_top (y := c_tellP K V b 2) (by rw [ix_nI (n := b) (by omega), show ix 2 = 2 from by decide]) ?_
                              refine xr_top (y := dOver V b) rfl ?_
                              refine xr_aload_n F dX2_isSame_129 rfl 5 rfl ?_
                              refine xr_get F hin2 (25) rfl rfl 2 (by decide) (List.mem_of_getElem? (i := 2) rfl) (v := .ref (o 2)) rfl dX2_isSame_130 ?_
                              refine xr_iload_n F dX2_isSame_133 rfl 4 rfl ?_
                              refine xr_aald F (27) 2 rfl rfl rfl (b) rfl (by omega) (by decide) dX2_isSame_134 ?_
                              refine xr_iconst F dX2_isSame_135 (v := 1) (by decide) ?_
                              refine xr_iald F (1 + (12 + (12 + (5 + b)))) 0 (w_skip (1) rfl (w_skip (12) rfl (w_skip (12) rfl (w_left (zwx_p (by omega)))))) rfl (1) rfl (by decide) (by decide) dX2_isSame_136 ?_
                              refine xr_top (y := (dOver V) b) rfl ?_
                              refine xr_icmp_ne F 157 dX2_isSame_137 (by decide) (fun c137 => ?_) (fun c137 => ?_)
                              · exact absurd rfl c137
                              · skip
                                refine xr_aload_n F dX2_isSame_140 rfl 6 rfl ?_
                                refine xr_iload_n F dX2_isSame_141 rfl 4 rfl ?_
                                refine xr_iconst F dX2_isSame_142 (v := 3) (by decide) ?_
                                refine xr_ws (ws' := ([] : va_W) ++ ((bw h a t ++ (cw yI yZ a K V)) ++ (cw yI yZ t Kt Vt ++ (zw yI yL o ba pa la ra K V (zA V) ++ (([(dq, .inl (yI, 10, .inl (z_counts K V (zA V))))] : va_W)))))) (by first | (simp only [List.append_assoc, List.append_nil, List.nil_append]; done) | rfl | (simp only [List.append_assoc, List.append_nil, List.nil_append]; rfl)) ?_
                                have q143 : q_in2 (nI b) 5 3 3 = 0 := (q_pound_v (j := b) (w := 3) (by omega) (by decide))
                                refine xr_mcXVi F G (rest := []) (As := [.int (nI b), .int 3]) (k_X1_pound l D yI yZ yL hst h a t K V (nI b) 3 hK.1) (cwV 2 F.hts gX2_isSame_X1_pound rfl rfl rfl (by decide +kernel) ⟨Nat.le_of_ble_eq_true rfl, Nat.le_of_ble_eq_true rfl⟩) (q0 := 0) rfl rfl (([] : va_W)) (cw yI yZ t Kt Vt ++ (zw yI yL o ba pa la ra K V (zA V) ++ (([(dq, .inl (yI, 10, .inl (z_counts K V (zA V))))] : va_W)))) rfl rfl rfl (Nat.le_of_ble_eq_true rfl) dX2_isSame_143 ⟨(by show _ ≤ (200 : Nat); omega), (by show _ ≤ (1200 : Nat); omega)⟩ (fun E1 W1 z1 => ?_) (fun r1 W1 z1 => ?_)
                                · skip
                                  exact absurd (q143.symm.trans z1.1.1) (by decide)
                                · skip
                                  obtain ⟨-, z0, z1⟩ := z1
                                  subst z0
                                  subst z1
                                  refine xr_ws (ws' := bw h a t ++ (cw yI yZ a K V ++ (cw yI yZ t Kt Vt ++ (zw yI yL o ba pa la ra K V (zA V) ++ (([(dq, .inl (yI, 10, .inl (z_counts K V (zA V))))] : va_W)))))) (by first | (simp only [List.append_assoc, List.append_nil, List.nil_append]; done) | rfl | (simp only [List.append_assoc, List.append_nil, List.nil_append]; rfl)) ?_
                                  refine xr_top (y := c_tellP K V b 3) (by rw [ix_nI (n := b) (by omega), show ix 3 = 3 from by decide]) ?_
                                  refine xr_top (y := dDrawn V b) rfl ?_
                                  refine xr_aload_n F dX2_isSame_146 rfl 5 rfl ?_
                                  refine xr_get F hin2 (25) rfl rfl 2 (by decide) (List.mem_of_getElem? (i := 2) rfl) (v := .ref (o 2)) rfl dX2_isSame_147 ?_
                                  refine xr_iload_n F dX2_isSame_150 rfl 4 rfl ?_
                                  refine xr_aald F (27) 2 rfl rfl rfl (b) rfl (by omega) (by decide) dX2_isSame_151 ?_
                                  refine xr_iconst F dX2_isSame_152 (v := 2) (by decide) ?_
                                  refine xr_iald F (1 + (12 + (12 + (5 + b)))) 0 (w_skip (1) rfl (w_skip (12) rfl (w_skip (12) rfl (w_left (zwx_p (by omega)))))) rfl (2) rfl (by decide) (by decide) dX2_isSame_153 ?_
                                  refine xr_top (y := (dDrawn V) b) rfl ?_
                                  refine xr_icmp_eq F 159 dX2_isSame_154 (by decide) (fun c154 => ?_) (fun c154 => ?_)
                                  · skip
                                    refine xr_iinc F (nI (b + 1)) [(3, .int (nI (b + 1))), (7, .int (nI e9)), (6, .int (nI (kNb K))), (5, .ref ba), (4, .int r), (0, .ref (o 0)), (1, .ref h), (2, .ref dq)] dX2_isSame_159 4 rfl (nI_add b 1) (by decide) rfl ?_
                                    refine xr_goto F 34 dX2_isSame_162 (by decide) ?_
                                    refine xr_lv (lv' := [(3, .int (nI (b + 1))), (0, .ref (o 0)), (1, .ref h), (2, .ref dq)]) [0, 5, 6, 7] rfl ?_
                                    refine xr_widen (k := 20 + 4 * (b + 1)) (n := 100 + 24 * (b + 1)) (by omega) (by omega) ?_
                                    exact ih (b + 1) (by omega)
                                  · exact absurd rfl c154
                  · exact (xk_ge (a := kNb K) (b := e9) (by omega) (by omega) c61).elim
                | succ j ih =>
                  intro e9 r he h2
                  refine xr_iload F dX2_isSame_57 0 rfl ?_
                  refine xr_iload F dX2_isSame_59 1 rfl ?_
                  refine xr_icmp_ge F 95 dX2_isSame_61 (by decide) (fun c61 => ?_) (fun c61 => ?_)
                  · exact (xk_nlt (a := e9) (b := kNb K) (by omega) (by omega) (by omega) c61).elim
                  · skip
                    refine xr_aload F dX2_isSame_64 2 rfl ?_
                    refine xr_iload F dX2_isSame_66 0 rfl ?_
                    refine xr_aald F (29) 2 rfl rfl rfl (e9) rfl (by omega) (by omega) dX2_isSame_68 ?_
                    refine xr_astore F [(8, .ref (ra e9)), (7, .int (nI e9)), (6, .int (nI (kNb K))), (5, .ref ba), (4, .int r), (3, .int (nI b)), (0, .ref (o 0)), (1, .ref h), (2, .ref dq)] dX2_isSame_69 (by decide) rfl ?_
                    refine xr_iload F dX2_isSame_71 4 rfl ?_
                    refine xr_aload F dX2_isSame_73 0 rfl ?_
                    refine xr_iconst F dX2_isSame_75 (v := 0) (by decide) ?_
                    refine xr_iald F (1 + (12 + (12 + (16 + e9)))) 0 (w_skip (1) rfl (w_skip (12) rfl (w_skip (12) rfl (w_left (zwx_r (by omega)))))) rfl (0) rfl (by decide) (by decide) dX2_isSame_76 ?_
                    refine xr_top (y := (dAt V) e9) rfl ?_
                    refine xr_iload_n F dX2_isSame_77 rfl 5 rfl ?_
                    refine xr_icmp_ne F 85 dX2_isSame_78 (by decide) (fun c78 => ?_) (fun c78 => ?_)
                    · skip
                      refine xr_iconst F dX2_isSame_85 (v := 0) (by decide) ?_
                      refine xr_iadd F (r + 0) dX2_isSame_86 rfl ?_
                      refine xr_istore F [(4, .int (r + 0)), (8, .ref (ra e9)), (7, .int (nI e9)), (6, .int (nI (kNb K))), (5, .ref ba), (3, .int (nI b)), (0, .ref (o 0)), (1, .ref h), (2, .ref dq)] dX2_isSame_87 (by decide) rfl ?_
                      refine xr_iinc F (nI (e9 + 1)) [(7, .int (nI (e9 + 1))), (4, .int (r + 0)), (8, .ref (ra e9)), (6, .int (nI (kNb K))), (5, .ref ba), (3, .int (nI b)), (0, .ref (o 0)), (1, .ref h), (2, .ref dq)] dX2_isSame_89 2 rfl (nI_add e9 1) (by decide) rfl ?_
                      refine xr_goto F 57 dX2_isSame_92 (by decide) ?_
                      refine xr_lv (lv' := [(7, .int (nI (e9 + 1))), (6, .int (nI (kNb K))), (5, .ref ba), (4, .int (r + 0)), (3, .int (nI b)), (0, .ref (o 0)), (1, .ref h), (2, .ref dq)]) [0, 3, 4, 1, 5, 6, 7, 8] rfl ?_
                      refine xr_widen (k := 20 + 4 * b) (n := 100 + 24 * b) (by omega) (by omega) ?_
                      exact ih (e9 + 1) (r + 0) (by omega) (by rw [← h2]; simp only [c_cntL, c78, ↓reduceIte])
                    · skip
                      refine xr_iconst F dX2_isSame_81 (v := 1) (by decide) ?_
                      refine xr_goto F 86 dX2_isSame_82 (by decide) ?_
                      refine xr_iadd F (r + 1) dX2_isSame_86 rfl ?_
                      refine xr_istore F [(4, .int (r + 1)), (8, .ref (ra e9)), (7, .int (nI e9)), (6, .int (nI (kNb K))), (5, .ref ba), (3, .int (nI b)), (0, .ref (o 0)), (1, .ref h), (2, .ref dq)] dX2_isSame_87 (by decide) rfl ?_
                      refine xr_iinc F (nI (e9 + 1)) [(7, .int (nI (e9 + 1))), (4, .int (r + 1)), (8, .ref (ra e9)), (6, .int (nI (kNb K))), (5, .ref ba), (3, .int (nI b)), (0, .ref (o 0)), (1, .ref h), (2, .ref dq)] dX2_isSame_89 2 rfl (nI_add e9 1) (by decide) rfl ?_
                      refine xr_goto F 57 dX2_isSame_92 (by decide) ?_
                      refine xr_lv (lv' := [(7, .int (nI (e9 + 1))), (6, .int (nI (kNb K))), (5, .ref ba), (4, .int (r + 1)), (3, .int (nI b)), (0, .ref (o 0)), (1, .ref h), (2, .ref dq)]) [0, 3, 4, 1, 5, 6, 7, 8] rfl ?_
                      refine xr_widen (k := 20 + 4 * b) (n := 100 + 24 * b) (by omega) (by omega) ?_
                      exact ih (e9 + 1) (r + 1) (by omega) (by rw [← h2]; simp only [c_cntL, c78, ↓reduceIte])
              refine xr_lv (lv' := [(7, .int 0), (6, .int (nI (kNb K))), (5, .ref ba), (4, .int 0), (3, .int (nI b)), (0, .ref (o 0)), (1, .ref h), (2, .ref dq)]) [0, 1, 2, 3, 4, 5, 6, 7] rfl ?_
              refine xr_widen (k := 20 + 4 * b) (n := 100 + 24 * b) (by omega) (by omega) ?_
              exact lp2j (kNb K) 0 0 (by omega) rfl
        refine xr_lv (lv' := [(3, .int 0), (0, .ref (o 0)), (1, .ref h), (2, .ref dq)]) [0, 1, 2, 3] rfl ?_
        refine xr_widen (k := 20 + 4 * 0) (n := 100 + 24 * 0) (by omega) (by omega) ?_
        exact lp2 6 0 (by omega)
      · exact (xk_ge (a := 10) (b := b) (by omega) (by omega) c10).elim
    | succ i ih =>
      intro b hb
      refine xr_iload_n F dX2_isSame_7 rfl 0 rfl ?_
      refine xr_bipush F dX2_isSame_8 (v := 10) (by decide) ?_
      refine xr_icmp_ge F 32 dX2_isSame_10 (by decide) (fun c10 => ?_) (fun c10 => ?_)
      · exact (xk_nlt (a := b) (b := 10) (by omega) (by omega) (by omega) c10).elim
      · skip
        refine xr_aload_n F dX2_isSame_13 rfl 2 rfl ?_
        refine xr_iload_n F dX2_isSame_14 rfl 0 rfl ?_
        refine xr_ws (ws' := ([] : va_W) ++ ((bw h a t ++ (cw yI yZ a K V)) ++ (cw yI yZ t Kt Vt ++ (zw yI yL o ba pa la ra K V (zA V) ++ (([(dq, .inl (yI, 10, .inl (z_counts K V (zA V))))] : va_W)))))) (by first | (simp only [List.append_assoc, List.append_nil, List.nil_append]; done) | rfl | (simp only [List.append_assoc, List.append_nil, List.nil_append]; rfl)) ?_
        have q15 : q_count (nI b) = 0 := (q_count_v (j := b) (by omega))
        refine xr_mcXVi F G (rest := []) (As := [.int (nI b)]) (k_X1_count l D yI yZ yL hst h a t K V (nI b) hK.1) (cwV 1 F.hts gX2_isSame_X1_count rfl rfl rfl (by decide +kernel) ⟨Nat.le_of_ble_eq_true rfl, Nat.le_of_ble_eq_true rfl⟩) (q0 := 0) rfl rfl (([] : va_W)) (cw yI yZ t Kt Vt ++ (zw yI yL o ba pa la ra K V (zA V) ++ (([(dq, .inl (yI, 10, .inl (z_counts K V (zA V))))] : va_W)))) rfl rfl rfl (Nat.le_of_ble_eq_true rfl) dX2_isSame_15 ⟨(by show _ ≤ (200 : Nat); omega), (by show _ ≤ (1200 : Nat); omega)⟩ (fun E1 W1 z1 => ?_) (fun r1 W1 z1 => ?_)
        · skip
          exact absurd (q15.symm.trans z1.1.1) (by decide)
        · skip
          obtain ⟨-, z0, z1⟩ := z1
          subst z0
          subst z1
          refine xr_ws (ws' := bw h a t ++ (cw yI yZ a K V ++ (cw yI yZ t Kt Vt ++ (zw yI yL o ba pa la ra K V (zA V) ++ (([(dq, .inl (yI, 10, .inl (z_counts K V (zA V))))] : va_W)))))) (by first | (simp only [List.append_assoc, List.append_nil, List.nil_append]; done) | rfl | (simp only [List.append_assoc, List.append_nil, List.nil_append]; rfl)) ?_
          refine xr_top (y := c_tellW K V b) (by rw [ix_nI (n := b) (by omega)]) ?_
          refine xr_aload_n F dX2_isSame_18 rfl 3 rfl ?_
          refine xr_iload_n F dX2_isSame_19 rfl 0 rfl ?_
          refine xr_iald F (1 + (12 + (12 + (16 + (kNb K) + (0))))) 0 (w_skip (1) rfl (w_skip (12) rfl (w_skip (12) rfl (w_skip (16 + (kNb K)) (zw_len _ _ _ _ _ _ _ _ _ _) rfl)))) rfl (b) rfl (by omega) (by decide) dX2_isSame_20 ?_
          refine xr_icmp_eq F 26 dX2_isSame_21 (by decide) (fun c21 => ?_) (fun c21 => ?_)
          · skip
            refine xr_iinc F (nI (b + 1)) [(3, .int (nI (b + 1))), (0, .ref (o 0)), (1, .ref h), (2, .ref dq)] dX2_isSame_26 0 rfl (nI_add b 1) (by decide) rfl ?_
            refine xr_goto F 7 dX2_isSame_29 (by decide) ?_
            refine xr_lv (lv' := [(3, .int (nI (b + 1))), (0, .ref (o 0)), (1, .ref h), (2, .ref dq)]) [0, 1, 2, 3] rfl ?_
            refine xr_widen (k := 1 + (b + 1)) (n := 10 + 6 * (b + 1)) (by omega) (by omega) ?_
            exact ih (b + 1) (by omega)
          · exact absurd (tellW_eq hV.2.1 b (by omega)) c21
  refine xr_lv (lv' := [(3, .int 0), (0, .ref (o 0)), (1, .ref h), (2, .ref dq)]) [0, 2, 3, 1] rfl ?_
  refine xr_widen (k := 1 + 0) (n := 10 + 6 * 0) (by omega) (by omega) ?_
  exact lp1 10 0 (by omega)
