set_option maxHeartbeats 4000000 in
set_option maxRecDepth 100000 in
/-- the pounds: 328 to 412 -/
theorem law_S3 {p : Program} {e : Env} {s : State} {m : MethodId} {below : List Frame} {meth : Method} {c : Code} {l : Launch} (hst : l.stackTraces = false) {b L : Nat} {xs : Nat → Int32} (hL : L ≤ 260) {D : va_G} {yI yZ yL : ClassId} {A : Nat → Prop} {Q : State → Prop} (F : XF p s m #[Value.ref b] c cL_law 32 wsL_law R_law D (tysG yI yZ yL) A) (G : XG l s meth A) (hX : va_X b L xs s s.heap) (hbl : b < s.heap.size) (hbA : ¬ A b) {h : Nat} {a t o : Nat → Nat} {ba : Nat} {pa la ra : Nat → Nat} {K : CK} {V : CD} {Kt : CK} {Vt : CD} {N tm : Nat} (htm : tm < 45) (hN : N < 50000) (hK : okK K) (hV : okV K V N) (hh : dHour V ≤ 100) {x : Int32} {qB qL qN : Nat} {rb rl : Nat → Nat} {FB FL : Nat → Nat → Int32} {NX : Nat → Int32} (cl sl : Nat) (hcl : cl + 100 ≤ 610331) (hsl : sl + 1000 ≤ 7270474) (kk : ∀ (wa an : Int32) (hw : wa = c_water V) (ha : an = nI (kNb K)), AW p l e room_1 s m #[Value.ref b] below meth c 32 D A (cl + 100) (sl + 1000) Q (bw h a t ++ (cw yI yZ a K V ++ (cw yI yZ t Kt Vt ++ (zw yI yL o ba pa la ra K V (zA V) ++ (([(qB, .inl (yL, refs (kNb K) rb))] : va_W) ++ (rowsW yI rb 5 (kNb K) FB ++ (([(qL, .inl (yL, refs 5 rl))] : va_W) ++ (rowsW yI rl 5 5 FL ++ (([(qN, .inl (yI, 5, .inl NX))] : va_W)))))))))) [(12, .int an), (11, .int wa), (10, .int (c_comeN K V)), (9, .ref qN), (8, .ref qL), (7, .ref qB), (6, .int (wat V)), (5, .int (nI (kNb K))), (4, .int x), (3, .int (nI tm)), (0, .ref b), (1, .ref h), (2, .ref (o 0))] 412 []) : AW p l e room_1 s m #[Value.ref b] below meth c 32 D A cl sl Q (bw h a t ++ (cw yI yZ a K V ++ (cw yI yZ t Kt Vt ++ (zw yI yL o ba pa la ra K V (zA V) ++ (([(qB, .inl (yL, refs (kNb K) rb))] : va_W) ++ (rowsW yI rb 5 (kNb K) FB ++ (([(qL, .inl (yL, refs 5 rl))] : va_W) ++ (rowsW yI rl 5 5 FL ++ (([(qN, .inl (yI, 5, .inl NX))] : va_W)))))))))) [(10, .int (c_comeN K V)), (9, .ref qN), (8, .ref qL), (7, .ref qB), (6, .int (wat V)), (5, .int (nI (kNb K))), (4, .int x), (3, .int (nI tm)), (0, .ref b), (1, .ref h), (2, .ref (o 0))] 328 [] := by
  have k1 : kNb K ≤ 10 := hK.1
  show AW p l e room_1 s m #[Value.ref b] below meth c 32 D A cl sl Q (bw h a t ++ (cw yI yZ a K V ++ (cw yI yZ t Kt Vt ++ (zw yI yL o ba pa la ra K V (zA V) ++ (([(qB, .inl (yL, refs (kNb K) rb))] : va_W) ++ (rowsW yI rb 5 (kNb K) FB ++ (([(qL, .inl (yL, refs 5 rl))] : va_W) ++ (rowsW yI rl 5 5 FL ++ (([(qN, .inl (yI, 5, .inl NX))] : va_W)))))))))) [(10, .int (c_comeN K V)), (9, .ref qN), (8, .ref qL), (7, .ref qB), (6, .int (wat V)), (5, .int (nI (kNb K))), (4, .int x), (3, .int (nI tm)), (0, .ref b), (1, .ref h), (2, .ref (o 0))] 328 []
  refine xr_iconst F dL_law_328 (v := 0) (by decide) ?_
  refine xr_istore F [(11, .int 0), (10, .int (c_comeN K V)), (9, .ref qN), (8, .ref qL), (7, .ref qB), (6, .int (wat V)), (5, .int (nI (kNb K))), (4, .int x), (3, .int (nI tm)), (0, .ref b), (1, .ref h), (2, .ref (o 0))] dL_law_329 (by decide) rfl ?_
  refine xr_iconst F dL_law_331 (v := 0) (by decide) ?_
  refine xr_istore F [(12, .int 0), (11, .int 0), (10, .int (c_comeN K V)), (9, .ref qN), (8, .ref qL), (7, .ref qB), (6, .int (wat V)), (5, .int (nI (kNb K))), (4, .int x), (3, .int (nI tm)), (0, .ref b), (1, .ref h), (2, .ref (o 0))] dL_law_332 (by decide) rfl ?_
  refine xr_iconst F dL_law_334 (v := 0) (by decide) ?_
  refine xr_istore F [(13, .int 0), (12, .int 0), (11, .int 0), (10, .int (c_comeN K V)), (9, .ref qN), (8, .ref qL), (7, .ref qB), (6, .int (wat V)), (5, .int (nI (kNb K))), (4, .int x), (3, .int (nI tm)), (0, .ref b), (1, .ref h), (2, .ref (o 0))] dL_law_335 (by decide) rfl ?_
  have lp : ∀ (i : Nat) (e9 : Nat) (wa : Int32) (an : Int32), i + e9 = 6 → c_sumL (dLev V) i e9 wa = c_water V → c_sumL (fun p9 => c_atN K V (nI p9)) i e9 an = nI (kNb K) → AW p l e room_1 s m #[Value.ref b] below meth c 32 D A (cl + 4 * e9) (sl + 24 * e9) Q (bw h a t ++ (cw yI yZ a K V ++ (cw yI yZ t Kt Vt ++ (zw yI yL o ba pa la ra K V (zA V) ++ (([(qB, .inl (yL, refs (kNb K) rb))] : va_W) ++ (rowsW yI rb 5 (kNb K) FB ++ (([(qL, .inl (yL, refs 5 rl))] : va_W) ++ (rowsW yI rl 5 5 FL ++ (([(qN, .inl (yI, 5, .inl NX))] : va_W)))))))))) [(13, .int (nI e9)), (12, .int an), (11, .int wa), (10, .int (c_comeN K V)), (9, .ref qN), (8, .ref qL), (7, .ref qB), (6, .int (wat V)), (5, .int (nI (kNb K))), (4, .int x), (3, .int (nI tm)), (0, .ref b), (1, .ref h), (2, .ref (o 0))] 337 [] := by
    intro i
    induction i with
    | zero =>
      intro e9 wa an hb hw ha
      refine xr_iload F dL_law_337 0 rfl ?_
      refine xr_bipush F dL_law_339 (v := 6) (by decide) ?_
      refine xr_icmp_ge F 412 dL_law_341 (by decide) (fun c341 => ?_) (fun c341 => ?_)
      · skip
        refine xr_lv (lv' := [(12, .int an), (11, .int wa), (10, .int (c_comeN K V)), (9, .ref qN), (8, .ref qL), (7, .ref qB), (6, .int (wat V)), (5, .int (nI (kNb K))), (4, .int x), (3, .int (nI tm)), (0, .ref b), (1, .ref h), (2, .ref (o 0))]) [1, 2, 3, 4, 5, 6, 7, 8, 9, 10, 11, 12, 13] rfl ?_
        refine xr_widen (k := cl + 100) (n := sl + 1000) (by omega) (by omega) ?_
        exact kk wa an hw ha
      · exact (xk_ge (a := 6) (b := e9) (by omega) (by omega) c341).elim
    | succ i ih =>
      intro e9 wa an hb hw ha
      refine xr_iload F dL_law_337 0 rfl ?_
      refine xr_bipush F dL_law_339 (v := 6) (by decide) ?_
      refine xr_icmp_ge F 412 dL_law_341 (by decide) (fun c341 => ?_) (fun c341 => ?_)
      · exact (xk_nlt (a := e9) (b := 6) (by omega) (by omega) (by omega) c341).elim
      · skip
        refine xr_aload_n F dL_law_344 rfl 12 rfl ?_
        refine xr_iload F dL_law_345 0 rfl ?_
        refine xr_iconst F dL_law_347 (v := 0) (by decide) ?_
        refine xr_ws (ws' := ([] : va_W) ++ ((bw h a t ++ (cw yI yZ a K V)) ++ (cw yI yZ t Kt Vt ++ (zw yI yL o ba pa la ra K V (zA V) ++ (([(qB, .inl (yL, refs (kNb K) rb))] : va_W) ++ (rowsW yI rb 5 (kNb K) FB ++ (([(qL, .inl (yL, refs 5 rl))] : va_W) ++ (rowsW yI rl 5 5 FL ++ (([(qN, .inl (yI, 5, .inl NX))] : va_W)))))))))) (by first | (simp only [List.append_assoc, List.append_nil, List.nil_append]; done) | rfl | (simp only [List.append_assoc, List.append_nil, List.nil_append]; rfl)) ?_
        have q348 : q_in2 (nI e9) 5 0 3 = 0 := (q_pound_v (j := e9) (w := 0) (by omega) (by decide))
        refine xr_mcXVi F G (rest := []) (As := [.int (nI e9), .int 0]) (k_X1_pound l D yI yZ yL hst h a t K V (nI e9) 0 hK.1) (cwV 2 F.hts gL_law_X1_pound rfl rfl rfl (by decide +kernel) ⟨Nat.le_of_ble_eq_true rfl, Nat.le_of_ble_eq_true rfl⟩) (q0 := 0) rfl rfl (([] : va_W)) (cw yI yZ t Kt Vt ++ (zw yI yL o ba pa la ra K V (zA V) ++ (([(qB, .inl (yL, refs (kNb K) rb))] : va_W) ++ (rowsW yI rb 5 (kNb K) FB ++ (([(qL, .inl (yL, refs 5 rl))] : va_W) ++ (rowsW yI rl 5 5 FL ++ (([(qN, .inl (yI, 5, .inl NX))] : va_W)))))))) rfl rfl rfl (Nat.le_of_ble_eq_true rfl) dL_law_348 ⟨(by show _ ≤ (610331 : Nat); omega), (by show _ ≤ (7270474 : Nat); omega)⟩ (fun E1 W1 z1 => ?_) (fun r1 W1 z1 => ?_)
        · skip
          exact absurd (q348.symm.trans z1.1.1) (by decide)
        · skip
          obtain ⟨-, z0, z1⟩ := z1
          subst z0
          subst z1
          refine xr_ws (ws' := bw h a t ++ (cw yI yZ a K V ++ (cw yI yZ t Kt Vt ++ (zw yI yL o ba pa la ra K V (zA V) ++ (([(qB, .inl (yL, refs (kNb K) rb))] : va_W) ++ (rowsW yI rb 5 (kNb K) FB ++ (([(qL, .inl (yL, refs 5 rl))] : va_W) ++ (rowsW yI rl 5 5 FL ++ (([(qN, .inl (yI, 5, .inl NX))] : va_W)))))))))) (by first | (simp only [List.append_assoc, List.append_nil, List.nil_append]; done) | rfl | (simp only [List.append_assoc, List.append_nil, List.nil_append]; rfl)) ?_
          refine xr_top (y := c_tellP K V e9 0) (by rw [ix_nI (n := e9) (by omega), show ix 0 = 0 from by decide]) ?_
          refine xr_top (y := dLev V e9) rfl ?_
          obtain ⟨p1, p2, p3, p4⟩ := pound_facts (by omega) hV (show e9 < 6 by omega)
          refine xr_istore F [(14, .int (dLev V e9)), (13, .int (nI e9)), (12, .int an), (11, .int wa), (10, .int (c_comeN K V)), (9, .ref qN), (8, .ref qL), (7, .ref qB), (6, .int (wat V)), (5, .int (nI (kNb K))), (4, .int x), (3, .int (nI tm)), (0, .ref b), (1, .ref h), (2, .ref (o 0))] dL_law_351 (by decide) rfl ?_
          refine xr_iload F dL_law_353 3 rfl ?_
          refine xr_iload F dL_law_355 0 rfl ?_
          refine xr_iadd F (wa + (dLev V e9)) dL_law_357 rfl ?_
          refine xr_istore F [(11, .int (wa + (dLev V e9))), (14, .int (dLev V e9)), (13, .int (nI e9)), (12, .int an), (10, .int (c_comeN K V)), (9, .ref qN), (8, .ref qL), (7, .ref qB), (6, .int (wat V)), (5, .int (nI (kNb K))), (4, .int x), (3, .int (nI tm)), (0, .ref b), (1, .ref h), (2, .ref (o 0))] dL_law_358 (by decide) rfl ?_
          refine xr_iload F dL_law_360 3 rfl ?_
          refine xr_aload_n F dL_law_362 rfl 13 rfl ?_
          refine xr_iload F dL_law_363 2 rfl ?_
          refine xr_iconst F dL_law_365 (v := 1) (by decide) ?_
          refine xr_ws (ws' := ([] : va_W) ++ ((bw h a t ++ (cw yI yZ a K V)) ++ (cw yI yZ t Kt Vt ++ (zw yI yL o ba pa la ra K V (zA V) ++ (([(qB, .inl (yL, refs (kNb K) rb))] : va_W) ++ (rowsW yI rb 5 (kNb K) FB ++ (([(qL, .inl (yL, refs 5 rl))] : va_W) ++ (rowsW yI rl 5 5 FL ++ (([(qN, .inl (yI, 5, .inl NX))] : va_W)))))))))) (by first | (simp only [List.append_assoc, List.append_nil, List.nil_append]; done) | rfl | (simp only [List.append_assoc, List.append_nil, List.nil_append]; rfl)) ?_
          have q366 : q_in2 (nI e9) 5 1 3 = 0 := (q_pound_v (j := e9) (w := 1) (by omega) (by decide))
          refine xr_mcXVi F G (rest := [.int an]) (As := [.int (nI e9), .int 1]) (k_X1_pound l D yI yZ yL hst h a t K V (nI e9) 1 hK.1) (cwV 2 F.hts gL_law_X1_pound rfl rfl rfl (by decide +kernel) ⟨Nat.le_of_ble_eq_true rfl, Nat.le_of_ble_eq_true rfl⟩) (q0 := 0) rfl rfl (([] : va_W)) (cw yI yZ t Kt Vt ++ (zw yI yL o ba pa la ra K V (zA V) ++ (([(qB, .inl (yL, refs (kNb K) rb))] : va_W) ++ (rowsW yI rb 5 (kNb K) FB ++ (([(qL, .inl (yL, refs 5 rl))] : va_W) ++ (rowsW yI rl 5 5 FL ++ (([(qN, .inl (yI, 5, .inl NX))] : va_W)))))))) rfl rfl rfl (Nat.le_of_ble_eq_true rfl) dL_law_366 ⟨(by show _ ≤ (610331 : Nat); omega), (by show _ ≤ (7270474 : Nat); omega)⟩ (fun E1 W1 z1 => ?_) (fun r1 W1 z1 => ?_)
          · skip
            exact absurd (q366.symm.trans z1.1.1) (by decide)
          · skip
            obtain ⟨-, z0, z1⟩ := z1
            subst z0
            subst z1
            refine xr_ws (ws' := bw h a t ++ (cw yI yZ a K V ++ (cw yI yZ t Kt Vt ++ (zw yI yL o ba pa la ra K V (zA V) ++ (([(qB, .inl (yL, refs (kNb K) rb))] : va_W) ++ (rowsW yI rb 5 (kNb K) FB ++ (([(qL, .inl (yL, refs 5 rl))] : va_W) ++ (rowsW yI rl 5 5 FL ++ (([(qN, .inl (yI, 5, .inl NX))] : va_W)))))))))) (by first | (simp only [List.append_assoc, List.append_nil, List.nil_append]; done) | rfl | (simp only [List.append_assoc, List.append_nil, List.nil_append]; rfl)) ?_
            refine xr_top (y := c_tellP K V e9 1) (by rw [ix_nI (n := e9) (by omega), show ix 1 = 1 from by decide]) ?_
            refine xr_top (y := c_atN K V (nI e9)) rfl ?_
            refine xr_iadd F (an + (c_atN K V (nI e9))) dL_law_369 rfl ?_
            refine xr_istore F [(12, .int (an + (c_atN K V (nI e9)))), (11, .int (wa + (dLev V e9))), (14, .int (dLev V e9)), (13, .int (nI e9)), (10, .int (c_comeN K V)), (9, .ref qN), (8, .ref qL), (7, .ref qB), (6, .int (wat V)), (5, .int (nI (kNb K))), (4, .int x), (3, .int (nI tm)), (0, .ref b), (1, .ref h), (2, .ref (o 0))] dL_law_370 (by decide) rfl ?_
            refine xr_iload F dL_law_372 2 rfl ?_
            refine xr_if_lt F 404 dL_law_374 (by decide) (fun c374 => ?_) (fun c374 => ?_)
            · exact absurd c374 p1
            · skip
              refine xr_iload F dL_law_377 2 rfl ?_
              refine xr_bipush F dL_law_379 (v := 100) (by decide) ?_
              refine xr_icmp_gt F 404 dL_law_381 (by decide) (fun c381 => ?_) (fun c381 => ?_)
              · exact absurd c381 p2
              · skip
                refine xr_aload_n F dL_law_384 rfl 13 rfl ?_
                refine xr_iload F dL_law_385 3 rfl ?_
                refine xr_iconst F dL_law_387 (v := 2) (by decide) ?_
                refine xr_ws (ws' := ([] : va_W) ++ ((bw h a t ++ (cw yI yZ a K V)) ++ (cw yI yZ t Kt Vt ++ (zw yI yL o ba pa la ra K V (zA V) ++ (([(qB, .inl (yL, refs (kNb K) rb))] : va_W) ++ (rowsW yI rb 5 (kNb K) FB ++ (([(qL, .inl (yL, refs 5 rl))] : va_W) ++ (rowsW yI rl 5 5 FL ++ (([(qN, .inl (yI, 5, .inl NX))] : va_W)))))))))) (by first | (simp only [List.append_assoc, List.append_nil, List.nil_append]; done) | rfl | (simp only [List.append_assoc, List.append_nil, List.nil_append]; rfl)) ?_
                have q388 : q_in2 (nI e9) 5 2 3 = 0 := (q_pound_v (j := e9) (w := 2) (by omega) (by decide))
                refine xr_mcXVi F G (rest := []) (As := [.int (nI e9), .int 2]) (k_X1_pound l D yI yZ yL hst h a t K V (nI e9) 2 hK.1) (cwV 2 F.hts gL_law_X1_pound rfl rfl rfl (by decide +kernel) ⟨Nat.le_of_ble_eq_true rfl, Nat.le_of_ble_eq_true rfl⟩) (q0 := 0) rfl rfl (([] : va_W)) (cw yI yZ t Kt Vt ++ (zw yI yL o ba pa la ra K V (zA V) ++ (([(qB, .inl (yL, refs (kNb K) rb))] : va_W) ++ (rowsW yI rb 5 (kNb K) FB ++ (([(qL, .inl (yL, refs 5 rl))] : va_W) ++ (rowsW yI rl 5 5 FL ++ (([(qN, .inl (yI, 5, .inl NX))] : va_W)))))))) rfl rfl rfl (Nat.le_of_ble_eq_true rfl) dL_law_388 ⟨(by show _ ≤ (610331 : Nat); omega), (by show _ ≤ (7270474 : Nat); omega)⟩ (fun E1 W1 z1 => ?_) (fun r1 W1 z1 => ?_)
                · skip
                  exact absurd (q388.symm.trans z1.1.1) (by decide)
                · skip
                  obtain ⟨-, z0, z1⟩ := z1
                  subst z0
                  subst z1
                  refine xr_ws (ws' := bw h a t ++ (cw yI yZ a K V ++ (cw yI yZ t Kt Vt ++ (zw yI yL o ba pa la ra K V (zA V) ++ (([(qB, .inl (yL, refs (kNb K) rb))] : va_W) ++ (rowsW yI rb 5 (kNb K) FB ++ (([(qL, .inl (yL, refs 5 rl))] : va_W) ++ (rowsW yI rl 5 5 FL ++ (([(qN, .inl (yI, 5, .inl NX))] : va_W)))))))))) (by first | (simp only [List.append_assoc, List.append_nil, List.nil_append]; done) | rfl | (simp only [List.append_assoc, List.append_nil, List.nil_append]; rfl)) ?_
                  refine xr_top (y := c_tellP K V e9 2) (by rw [ix_nI (n := e9) (by omega), show ix 2 = 2 from by decide]) ?_
                  refine xr_top (y := dOver V e9) rfl ?_
                  refine xr_if_lt F 404 dL_law_391 (by decide) (fun c391 => ?_) (fun c391 => ?_)
                  · exact absurd c391 p3
                  · skip
                    refine xr_aload_n F dL_law_394 rfl 13 rfl ?_
                    refine xr_iload F dL_law_395 3 rfl ?_
                    refine xr_iconst F dL_law_397 (v := 3) (by decide) ?_
                    refine xr_ws (ws' := ([] : va_W) ++ ((bw h a t ++ (cw yI yZ a K V)) ++ (cw yI yZ t Kt Vt ++ (zw yI yL o ba pa la ra K V (zA V) ++ (([(qB, .inl (yL, refs (kNb K) rb))] : va_W) ++ (rowsW yI rb 5 (kNb K) FB ++ (([(qL, .inl (yL, refs 5 rl))] : va_W) ++ (rowsW yI rl 5 5 FL ++ (([(qN, .inl (yI, 5, .inl NX))] : va_W)))))))))) (by first | (simp only [List.append_assoc, List.append_nil, List.nil_append]; done) | rfl | (simp only [List.append_assoc, List.append_nil, List.nil_append]; rfl)) ?_
                    have q398 : q_in2 (nI e9) 5 3 3 = 0 := (q_pound_v (j := e9) (w := 3) (by omega) (by decide))
                    refine xr_mcXVi F G (rest := []) (As := [.int (nI e9), .int 3]) (k_X1_pound l D yI yZ yL hst h a t K V (nI e9) 3 hK.1) (cwV 2 F.hts gL_law_X1_pound rfl rfl rfl (by decide +kernel) ⟨Nat.le_of_ble_eq_true rfl, Nat.le_of_ble_eq_true rfl⟩) (q0 := 0) rfl rfl (([] : va_W)) (cw yI yZ t Kt Vt ++ (zw yI yL o ba pa la ra K V (zA V) ++ (([(qB, .inl (yL, refs (kNb K) rb))] : va_W) ++ (rowsW yI rb 5 (kNb K) FB ++ (([(qL, .inl (yL, refs 5 rl))] : va_W) ++ (rowsW yI rl 5 5 FL ++ (([(qN, .inl (yI, 5, .inl NX))] : va_W)))))))) rfl rfl rfl (Nat.le_of_ble_eq_true rfl) dL_law_398 ⟨(by show _ ≤ (610331 : Nat); omega), (by show _ ≤ (7270474 : Nat); omega)⟩ (fun E1 W1 z1 => ?_) (fun r1 W1 z1 => ?_)
                    · skip
                      exact absurd (q398.symm.trans z1.1.1) (by decide)
                    · skip
                      obtain ⟨-, z0, z1⟩ := z1
                      subst z0
                      subst z1
                      refine xr_ws (ws' := bw h a t ++ (cw yI yZ a K V ++ (cw yI yZ t Kt Vt ++ (zw yI yL o ba pa la ra K V (zA V) ++ (([(qB, .inl (yL, refs (kNb K) rb))] : va_W) ++ (rowsW yI rb 5 (kNb K) FB ++ (([(qL, .inl (yL, refs 5 rl))] : va_W) ++ (rowsW yI rl 5 5 FL ++ (([(qN, .inl (yI, 5, .inl NX))] : va_W)))))))))) (by first | (simp only [List.append_assoc, List.append_nil, List.nil_append]; done) | rfl | (simp only [List.append_assoc, List.append_nil, List.nil_append]; rfl)) ?_
                      refine xr_top (y := c_tellP K V e9 3) (by rw [ix_nI (n := e9) (by omega), show ix 3 = 3 from by decide]) ?_
                      refine xr_top (y := dDrawn V e9) rfl ?_
                      refine xr_if_ge F 406 dL_law_401 (by decide) (fun c401 => ?_) (fun c401 => ?_)
                      · skip
                        refine xr_iinc F (nI (e9 + 1)) [(13, .int (nI (e9 + 1))), (12, .int (an + (c_atN K V (nI e9)))), (11, .int (wa + (dLev V e9))), (14, .int (dLev V e9)), (10, .int (c_comeN K V)), (9, .ref qN), (8, .ref qL), (7, .ref qB), (6, .int (wat V)), (5, .int (nI (kNb K))), (4, .int x), (3, .int (nI tm)), (0, .ref b), (1, .ref h), (2, .ref (o 0))] dL_law_406 3 rfl (nI_add e9 1) (by decide) rfl ?_
                        refine xr_goto F 337 dL_law_409 (by decide) ?_
                        refine xr_lv (lv' := [(13, .int (nI (e9 + 1))), (12, .int (an + (c_atN K V (nI e9)))), (11, .int (wa + (dLev V e9))), (10, .int (c_comeN K V)), (9, .ref qN), (8, .ref qL), (7, .ref qB), (6, .int (wat V)), (5, .int (nI (kNb K))), (4, .int x), (3, .int (nI tm)), (0, .ref b), (1, .ref h), (2, .ref (o 0))]) [0, 1, 2, 4, 5, 6, 7, 8, 9, 10, 11, 12, 13, 14] rfl ?_
                        refine xr_widen (k := cl + 4 * (e9 + 1)) (n := sl + 24 * (e9 + 1)) (by omega) (by omega) ?_
                        exact ih (e9 + 1) (wa + (dLev V e9)) (an + (c_atN K V (nI e9))) (by omega) (sum_step hw rfl) (sum_step ha rfl)
                      · exact absurd (Int32.not_lt.mp p4) c401
  refine xr_lv (lv' := [(13, .int 0), (12, .int 0), (11, .int 0), (10, .int (c_comeN K V)), (9, .ref qN), (8, .ref qL), (7, .ref qB), (6, .int (wat V)), (5, .int (nI (kNb K))), (4, .int x), (3, .int (nI tm)), (0, .ref b), (1, .ref h), (2, .ref (o 0))]) [0, 1, 2, 3, 4, 5, 6, 7, 8, 9, 10, 11, 12, 13] rfl ?_
  refine xr_widen (k := cl + 4 * 0) (n := sl + 24 * 0) (by omega) (by omega) ?_
  exact lp 6 0 0 0 (by omega) rfl (at_sum hV)
