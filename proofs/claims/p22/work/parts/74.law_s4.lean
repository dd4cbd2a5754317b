set_option maxHeartbeats 4000000 in
set_option maxRecDepth 100000 in
/-- the locks: 412 to 578 -/
theorem law_S4 {p : Program} {e : Env} {s : State} {m : MethodId} {below : List Frame} {meth : Method} {c : Code} {l : Launch} (hst : l.stackTraces = false) {b L : Nat} {xs : Nat → Int32} (hL : L ≤ 260) {D : va_G} {yI yZ yL : ClassId} {A : Nat → Prop} {Q : State → Prop} (F : XF p s m #[Value.ref b] c cL_law 32 wsL_law R_law D (tysG yI yZ yL) A) (G : XG l s meth A) (hX : va_X b L xs s s.heap) (hbl : b < s.heap.size) (hbA : ¬ A b) {h : Nat} {a t o : Nat → Nat} {ba : Nat} {pa la ra : Nat → Nat} {K : CK} {V : CD} {Kt : CK} {Vt : CD} {N tm : Nat} (htm : tm < 45) (hN : N < 50000) (hK : okK K) (hV : okV K V N) (hh : dHour V ≤ 100) {x : Int32} {qB qL qN : Nat} {rb rl : Nat → Nat} {FB FL : Nat → Nat → Int32} {NX : Nat → Int32} (hFB : ∀ b9, b9 < kNb K → ∀ w9, w9 < 5 → FB b9 w9 = c_tellB K V b9 w9) (cl sl : Nat) (hcl : cl + 100 ≤ 610331) (hsl : sl + 1000 ≤ 7270474) (kk : ∀ (FL : Nat → Nat → Int32) (NX : Nat → Int32) (fu wt : Int32) (hf : fu = c_fullN V) (hwt : wt = nI (kNb K) - c_comeN K V) (hFL : ∀ b9, b9 < 5 → ∀ w9, w9 < 5 → FL b9 w9 = c_tellL K V b9 w9), AW p l e room_1 s m #[Value.ref b] below meth c 32 D A (cl + 100) (sl + 1000) Q (bw h a t ++ (cw yI yZ a K V ++ (cw yI yZ t Kt Vt ++ (zw yI yL o ba pa la ra K V (zA V) ++ (([(qB, .inl (yL, refs (kNb K) rb))] : va_W) ++ (rowsW yI rb 5 (kNb K) FB ++ (([(qL, .inl (yL, refs 5 rl))] : va_W) ++ (rowsW yI rl 5 5 FL ++ (([(qN, .inl (yI, 5, .inl NX))] : va_W)))))))))) [(14, .int wt), (13, .int fu), (12, .int (nI (kNb K))), (11, .int (c_water V)), (10, .int (c_comeN K V)), (8, .ref qL), (7, .ref qB), (6, .int (wat V)), (5, .int (nI (kNb K))), (4, .int x), (3, .int (nI tm)), (0, .ref b), (1, .ref h), (2, .ref (o 0))] 578 []) : AW p l e room_1 s m #[Value.ref b] below meth c 32 D A cl sl Q (bw h a t ++ (cw yI yZ a K V ++ (cw yI yZ t Kt Vt ++ (zw yI yL o ba pa la ra K V (zA V) ++ (([(qB, .inl (yL, refs (kNb K) rb))] : va_W) ++ (rowsW yI rb 5 (kNb K) FB ++ (([(qL, .inl (yL, refs 5 rl))] : va_W) ++ (rowsW yI rl 5 5 FL ++ (([(qN, .inl (yI, 5, .inl NX))] : va_W)))))))))) [(12, .int (nI (kNb K))), (11, .int (c_water V)), (10, .int (c_comeN K V)), (9, .ref qN), (8, .ref qL), (7, .ref qB), (6, .int (wat V)), (5, .int (nI (kNb K))), (4, .int x), (3, .int (nI tm)), (0, .ref b), (1, .ref h), (2, .ref (o 0))] 412 [] := by
  have k1 : kNb K ≤ 10 := hK.1
  show AW p l e room_1 s m #[Value.ref b] below meth c 32 D A cl sl Q (bw h a t ++ (cw yI yZ a K V ++ (cw yI yZ t Kt Vt ++ (zw yI yL o ba pa la ra K V (zA V) ++ (([(qB, .inl (yL, refs (kNb K) rb))] : va_W) ++ (rowsW yI rb 5 (kNb K) FB ++ (([(qL, .inl (yL, refs 5 rl))] : va_W) ++ (rowsW yI rl 5 5 FL ++ (([(qN, .inl (yI, 5, .inl NX))] : va_W)))))))))) [(12, .int (nI (kNb K))), (11, .int (c_water V)), (10, .int (c_comeN K V)), (9, .ref qN), (8, .ref qL), (7, .ref qB), (6, .int (wat V)), (5, .int (nI (kNb K))), (4, .int x), (3, .int (nI tm)), (0, .ref b), (1, .ref h), (2, .ref (o 0))] 412 []
  refine xr_iconst F dL_law_412 (v := 0) (by decide) ?_
  refine xr_istore F [(13, .int 0), (12, .int (nI (kNb K))), (11, .int (c_water V)), (10, .int (c_comeN K V)), (9, .ref qN), (8, .ref qL), (7, .ref qB), (6, .int (wat V)), (5, .int (nI (kNb K))), (4, .int x), (3, .int (nI tm)), (0, .ref b), (1, .ref h), (2, .ref (o 0))] dL_law_413 (by decide) rfl ?_
  refine xr_iconst F dL_law_415 (v := 0) (by decide) ?_
  refine xr_istore F [(14, .int 0), (13, .int 0), (12, .int (nI (kNb K))), (11, .int (c_water V)), (10, .int (c_comeN K V)), (9, .ref qN), (8, .ref qL), (7, .ref qB), (6, .int (wat V)), (5, .int (nI (kNb K))), (4, .int x), (3, .int (nI tm)), (0, .ref b), (1, .ref h), (2, .ref (o 0))] dL_law_416 (by decide) rfl ?_
  refine xr_iconst F dL_law_418 (v := 0) (by decide) ?_
  refine xr_istore F [(15, .int 0), (14, .int 0), (13, .int 0), (12, .int (nI (kNb K))), (11, .int (c_water V)), (10, .int (c_comeN K V)), (9, .ref qN), (8, .ref qL), (7, .ref qB), (6, .int (wat V)), (5, .int (nI (kNb K))), (4, .int x), (3, .int (nI tm)), (0, .ref b), (1, .ref h), (2, .ref (o 0))] dL_law_419 (by decide) rfl ?_
  have lp : ∀ (i : Nat) (e9 : Nat) (fu : Int32) (wt : Int32) (FL : Nat → Nat → Int32) (NX : Nat → Int32), i + e9 = 5 → (∀ b9, b9 < e9 → ∀ w9, w9 < 5 → FL b9 w9 = c_tellL K V b9 w9) → c_sumL (dFull V) i e9 fu = c_fullN V → c_sumL (fun k9 => c_waitN K V (nI k9)) i e9 wt = nI (kNb K) - c_comeN K V → AW p l e room_1 s m #[Value.ref b] below meth c 32 D A (cl + 6 * e9) (sl + 36 * e9) Q (bw h a t ++ (cw yI yZ a K V ++ (cw yI yZ t Kt Vt ++ (zw yI yL o ba pa la ra K V (zA V) ++ (([(qB, .inl (yL, refs (kNb K) rb))] : va_W) ++ (rowsW yI rb 5 (kNb K) FB ++ (([(qL, .inl (yL, refs 5 rl))] : va_W) ++ (rowsW yI rl 5 5 FL ++ (([(qN, .inl (yI, 5, .inl NX))] : va_W)))))))))) [(15, .int (nI e9)), (14, .int wt), (13, .int fu), (12, .int (nI (kNb K))), (11, .int (c_water V)), (10, .int (c_comeN K V)), (9, .ref qN), (8, .ref qL), (7, .ref qB), (6, .int (wat V)), (5, .int (nI (kNb K))), (4, .int x), (3, .int (nI tm)), (0, .ref b), (1, .ref h), (2, .ref (o 0))] 421 [] := by
    intro i
    induction i with
    | zero =>
      intro e9 fu wt FL NX hb hF hf hwt
      refine xr_iload F dL_law_421 0 rfl ?_
      refine xr_iconst F dL_law_423 (v := 5) (by decide) ?_
      refine xr_icmp_ge F 578 dL_law_424 (by decide) (fun c424 => ?_) (fun c424 => ?_)
      · skip
        refine xr_lv (lv' := [(14, .int wt), (13, .int fu), (12, .int (nI (kNb K))), (11, .int (c_water V)), (10, .int (c_comeN K V)), (8, .ref qL), (7, .ref qB), (6, .int (wat V)), (5, .int (nI (kNb K))), (4, .int x), (3, .int (nI tm)), (0, .ref b), (1, .ref h), (2, .ref (o 0))]) [1, 2, 3, 4, 5, 7, 8, 9, 10, 11, 12, 13, 14, 15] rfl ?_
        refine xr_widen (k := cl + 100) (n := sl + 1000) (by omega) (by omega) ?_
        exact kk FL NX fu wt hf hwt (fun b9 z9 => hF b9 (by omega))
      · exact (xk_ge (a := 5) (b := e9) (by omega) (by omega) c424).elim
    | succ i ih =>
      intro e9 fu wt FL NX hb hF hf hwt
      refine xr_iload F dL_law_421 0 rfl ?_
      refine xr_iconst F dL_law_423 (v := 5) (by decide) ?_
      refine xr_icmp_ge F 578 dL_law_424 (by decide) (fun c424 => ?_) (fun c424 => ?_)
      · exact (xk_nlt (a := e9) (b := 5) (by omega) (by omega) (by omega) c424).elim
      · skip
        refine xr_iconst F dL_law_427 (v := 0) (by decide) ?_
        refine xr_istore F [(16, .int 0), (15, .int (nI e9)), (14, .int wt), (13, .int fu), (12, .int (nI (kNb K))), (11, .int (c_water V)), (10, .int (c_comeN K V)), (9, .ref qN), (8, .ref qL), (7, .ref qB), (6, .int (wat V)), (5, .int (nI (kNb K))), (4, .int x), (3, .int (nI tm)), (0, .ref b), (1, .ref h), (2, .ref (o 0))] dL_law_428 (by decide) rfl ?_
        have lp2 : ∀ (j : Nat) (w9 : Nat) (FL : Nat → Nat → Int32), j + w9 = 5 → (∀ b9, b9 < e9 → ∀ w9, w9 < 5 → FL b9 w9 = c_tellL K V b9 w9) → (∀ w9', w9' < w9 → FL e9 w9' = c_tellL K V e9 w9') → AW p l e room_1 s m #[Value.ref b] below meth c 32 D A (cl + 6 * e9 + w9) (sl + 36 * e9 + 6 * w9) Q (bw h a t ++ (cw yI yZ a K V ++ (cw yI yZ t Kt Vt ++ (zw yI yL o ba pa la ra K V (zA V) ++ (([(qB, .inl (yL, refs (kNb K) rb))] : va_W) ++ (rowsW yI rb 5 (kNb K) FB ++ (([(qL, .inl (yL, refs 5 rl))] : va_W) ++ (rowsW yI rl 5 5 FL ++ (([(qN, .inl (yI, 5, .inl NX))] : va_W)))))))))) [(16, .int (nI w9)), (15, .int (nI e9)), (14, .int wt), (13, .int fu), (12, .int (nI (kNb K))), (11, .int (c_water V)), (10, .int (c_comeN K V)), (9, .ref qN), (8, .ref qL), (7, .ref qB), (6, .int (wat V)), (5, .int (nI (kNb K))), (4, .int x), (3, .int (nI tm)), (0, .ref b), (1, .ref h), (2, .ref (o 0))] 430 [] := by
          intro j
          induction j with
          | zero =>
            intro w9 FL hw hF hG
            refine xr_iload F dL_law_430 0 rfl ?_
            refine xr_iconst F dL_law_432 (v := 5) (by decide) ?_
            refine xr_icmp_ge F 458 dL_law_433 (by decide) (fun c433 => ?_) (fun c433 => ?_)
            · skip
              obtain ⟨f1, f2, f3⟩ := lock_facts (by omega) hV (show e9 < 5 by omega)
              refine xr_iload F dL_law_458 3 rfl ?_
              refine xr_aload F dL_law_460 8 rfl ?_
              refine xr_iload F dL_law_462 1 rfl ?_
              refine xr_aald F (1 + (12 + (12 + (16 + (kNb K) + (1 + (kNb K + (0))))))) 2 (w_skip (1) rfl (w_skip (12) rfl (w_skip (12) rfl (w_skip (16 + (kNb K)) (zw_len _ _ _ _ _ _ _ _ _ _) (w_skip (1) rfl (w_skip (kNb K) (rowsW_len _ _ _ _ _) (w_left rfl))))))) rfl rfl (e9) rfl (by omega) (by decide) dL_law_464 ?_
              refine xr_iconst F dL_law_465 (v := 0) (by decide) ?_
              refine xr_iald F (1 + (12 + (12 + (16 + (kNb K) + (1 + (kNb K + (1 + (e9)))))))) 0 (w_skip (1) rfl (w_skip (12) rfl (w_skip (12) rfl (w_skip (16 + (kNb K)) (zw_len _ _ _ _ _ _ _ _ _ _) (w_skip (1) rfl (w_skip (kNb K) (rowsW_len _ _ _ _ _) (w_skip (1) rfl (w_left (rowsW_get (by omega)))))))))) rfl (0) rfl (by decide) (by decide) dL_law_466 ?_
              refine xr_top (y := dFull V e9) ((hG 0 (by omega)).trans (tellL0 hV.2.1 (by omega))) ?_
              refine xr_iadd F (fu + (dFull V e9)) dL_law_467 rfl ?_
              refine xr_istore F [(13, .int (fu + (dFull V e9))), (16, .int (nI w9)), (15, .int (nI e9)), (14, .int wt), (12, .int (nI (kNb K))), (11, .int (c_water V)), (10, .int (c_comeN K V)), (9, .ref qN), (8, .ref qL), (7, .ref qB), (6, .int (wat V)), (5, .int (nI (kNb K))), (4, .int x), (3, .int (nI tm)), (0, .ref b), (1, .ref h), (2, .ref (o 0))] dL_law_468 (by decide) rfl ?_
              refine xr_iload F dL_law_470 3 rfl ?_
              refine xr_aload F dL_law_472 8 rfl ?_
              refine xr_iload F dL_law_474 2 rfl ?_
              refine xr_aald F (1 + (12 + (12 + (16 + (kNb K) + (1 + (kNb K + (0))))))) 2 (w_skip (1) rfl (w_skip (12) rfl (w_skip (12) rfl (w_skip (16 + (kNb K)) (zw_len _ _ _ _ _ _ _ _ _ _) (w_skip (1) rfl (w_skip (kNb K) (rowsW_len _ _ _ _ _) (w_left rfl))))))) rfl rfl (e9) rfl (by omega) (by decide) dL_law_476 ?_
              refine xr_iconst F dL_law_477 (v := 1) (by decide) ?_
              refine xr_iald F (1 + (12 + (12 + (16 + (kNb K) + (1 + (kNb K + (1 + (e9)))))))) 0 (w_skip (1) rfl (w_skip (12) rfl (w_skip (12) rfl (w_skip (16 + (kNb K)) (zw_len _ _ _ _ _ _ _ _ _ _) (w_skip (1) rfl (w_skip (kNb K) (rowsW_len _ _ _ _ _) (w_skip (1) rfl (w_left (rowsW_get (by omega)))))))))) rfl (1) rfl (by decide) (by decide) dL_law_478 ?_
              refine xr_top (y := c_waitN K V (nI e9)) (hG 1 (by omega)) ?_
              refine xr_iadd F (wt + (c_waitN K V (nI e9))) dL_law_479 rfl ?_
              refine xr_istore F [(14, .int (wt + (c_waitN K V (nI e9)))), (13, .int (fu + (dFull V e9))), (16, .int (nI w9)), (15, .int (nI e9)), (12, .int (nI (kNb K))), (11, .int (c_water V)), (10, .int (c_comeN K V)), (9, .ref qN), (8, .ref qL), (7, .ref qB), (6, .int (wat V)), (5, .int (nI (kNb K))), (4, .int x), (3, .int (nI tm)), (0, .ref b), (1, .ref h), (2, .ref (o 0))] dL_law_480 (by decide) rfl ?_
              refine xr_aload F dL_law_482 7 rfl ?_
              refine xr_iload F dL_law_484 3 rfl ?_
              refine xr_aload F dL_law_486 8 rfl ?_
              refine xr_iload F dL_law_488 3 rfl ?_
              refine xr_aald F (1 + (12 + (12 + (16 + (kNb K) + (1 + (kNb K + (0))))))) 2 (w_skip (1) rfl (w_skip (12) rfl (w_skip (12) rfl (w_skip (16 + (kNb K)) (zw_len _ _ _ _ _ _ _ _ _ _) (w_skip (1) rfl (w_skip (kNb K) (rowsW_len _ _ _ _ _) (w_left rfl))))))) rfl rfl (e9) rfl (by omega) (by decide) dL_law_490 ?_
              refine xr_iconst F dL_law_491 (v := 4) (by decide) ?_
              refine xr_iald F (1 + (12 + (12 + (16 + (kNb K) + (1 + (kNb K + (1 + (e9)))))))) 0 (w_skip (1) rfl (w_skip (12) rfl (w_skip (12) rfl (w_skip (16 + (kNb K)) (zw_len _ _ _ _ _ _ _ _ _ _) (w_skip (1) rfl (w_skip (kNb K) (rowsW_len _ _ _ _ _) (w_skip (1) rfl (w_left (rowsW_get (by omega)))))))))) rfl (4) rfl (by decide) (by decide) dL_law_492 ?_
              refine xr_top (y := c_next K V e9 0) (hG 4 (by omega)) ?_
              refine xr_iast F (1 + (12 + (12 + (16 + (kNb K) + (1 + (kNb K + (1 + (5 + (0))))))))) 0 (w_skip (1) rfl (w_skip (12) rfl (w_skip (12) rfl (w_skip (16 + (kNb K)) (zw_len _ _ _ _ _ _ _ _ _ _) (w_skip (1) rfl (w_skip (kNb K) (rowsW_len _ _ _ _ _) (w_skip (1) rfl (w_skip (5) (rowsW_len _ _ _ _ _) rfl)))))))) rfl (e9) rfl (by omega) (by decide) (bw h a t ++ (cw yI yZ a K V ++ (cw yI yZ t Kt Vt ++ (zw yI yL o ba pa la ra K V (zA V) ++ (([(qB, .inl (yL, refs (kNb K) rb))] : va_W) ++ (rowsW yI rb 5 (kNb K) FB ++ (([(qL, .inl (yL, refs 5 rl))] : va_W) ++ (rowsW yI rl 5 5 FL ++ (([(qN, .inl (yI, 5, .inl (upd NX e9 (c_next K V e9 0))))] : va_W)))))))))) (s_skip (1) rfl (s_skip (12) rfl (s_skip (12) rfl (s_skip (16 + (kNb K)) (zw_len _ _ _ _ _ _ _ _ _ _) (s_skip (1) rfl (s_skip (kNb K) (rowsW_len _ _ _ _ _) (s_skip (1) rfl (s_skip (5) (rowsW_len _ _ _ _ _) rfl)))))))) dL_law_493 ?_
              refine xr_aload F dL_law_494 8 rfl ?_
              refine xr_iload F dL_law_496 3 rfl ?_
              refine xr_aald F (1 + (12 + (12 + (16 + (kNb K) + (1 + (kNb K + (0))))))) 2 (w_skip (1) rfl (w_skip (12) rfl (w_skip (12) rfl (w_skip (16 + (kNb K)) (zw_len _ _ _ _ _ _ _ _ _ _) (w_skip (1) rfl (w_skip (kNb K) (rowsW_len _ _ _ _ _) (w_left rfl))))))) rfl rfl (e9) rfl (by omega) (by decide) dL_law_498 ?_
              refine xr_iconst F dL_law_499 (v := 0) (by decide) ?_
              refine xr_iald F (1 + (12 + (12 + (16 + (kNb K) + (1 + (kNb K + (1 + (e9)))))))) 0 (w_skip (1) rfl (w_skip (12) rfl (w_skip (12) rfl (w_skip (16 + (kNb K)) (zw_len _ _ _ _ _ _ _ _ _ _) (w_skip (1) rfl (w_skip (kNb K) (rowsW_len _ _ _ _ _) (w_skip (1) rfl (w_left (rowsW_get (by omega)))))))))) rfl (0) rfl (by decide) (by decide) dL_law_500 ?_
              refine xr_top (y := dFull V e9) ((hG 0 (by omega)).trans (tellL0 hV.2.1 (by omega))) ?_
              refine xr_if_lt F 570 dL_law_501 (by decide) (fun c501 => ?_) (fun c501 => ?_)
              · exact absurd c501 f1
              · skip
                refine xr_aload F dL_law_504 8 rfl ?_
                refine xr_iload F dL_law_506 3 rfl ?_
                refine xr_aald F (1 + (12 + (12 + (16 + (kNb K) + (1 + (kNb K + (0))))))) 2 (w_skip (1) rfl (w_skip (12) rfl (w_skip (12) rfl (w_skip (16 + (kNb K)) (zw_len _ _ _ _ _ _ _ _ _ _) (w_skip (1) rfl (w_skip (kNb K) (rowsW_len _ _ _ _ _) (w_left rfl))))))) rfl rfl (e9) rfl (by omega) (by decide) dL_law_508 ?_
                refine xr_iconst F dL_law_509 (v := 0) (by decide) ?_
                refine xr_iald F (1 + (12 + (12 + (16 + (kNb K) + (1 + (kNb K + (1 + (e9)))))))) 0 (w_skip (1) rfl (w_skip (12) rfl (w_skip (12) rfl (w_skip (16 + (kNb K)) (zw_len _ _ _ _ _ _ _ _ _ _) (w_skip (1) rfl (w_skip (kNb K) (rowsW_len _ _ _ _ _) (w_skip (1) rfl (w_left (rowsW_get (by omega)))))))))) rfl (0) rfl (by decide) (by decide) dL_law_510 ?_
                refine xr_top (y := dFull V e9) ((hG 0 (by omega)).trans (tellL0 hV.2.1 (by omega))) ?_
                refine xr_iconst F dL_law_511 (v := 1) (by decide) ?_
                refine xr_icmp_gt F 570 dL_law_512 (by decide) (fun c512 => ?_) (fun c512 => ?_)
                · exact absurd c512 f2
                · skip
                  refine xr_aload F dL_law_515 8 rfl ?_
                  refine xr_iload F dL_law_517 3 rfl ?_
                  refine xr_aald F (1 + (12 + (12 + (16 + (kNb K) + (1 + (kNb K + (0))))))) 2 (w_skip (1) rfl (w_skip (12) rfl (w_skip (12) rfl (w_skip (16 + (kNb K)) (zw_len _ _ _ _ _ _ _ _ _ _) (w_skip (1) rfl (w_skip (kNb K) (rowsW_len _ _ _ _ _) (w_left rfl))))))) rfl rfl (e9) rfl (by omega) (by decide) dL_law_519 ?_
                  refine xr_iconst F dL_law_520 (v := 3) (by decide) ?_
                  refine xr_iald F (1 + (12 + (12 + (16 + (kNb K) + (1 + (kNb K + (1 + (e9)))))))) 0 (w_skip (1) rfl (w_skip (12) rfl (w_skip (12) rfl (w_skip (16 + (kNb K)) (zw_len _ _ _ _ _ _ _ _ _ _) (w_skip (1) rfl (w_skip (kNb K) (rowsW_len _ _ _ _ _) (w_skip (1) rfl (w_left (rowsW_get (by omega)))))))))) rfl (3) rfl (by decide) (by decide) dL_law_521 ?_
                  refine xr_top (y := dFill V e9) (hG 3 (by omega)) ?_
                  refine xr_bipush F dL_law_522 (v := 12) (by decide) ?_
                  refine xr_irem F ((dFill V e9) - (dFill V e9) / 12 * 12) dL_law_524 (by decide) rfl ?_
                  refine xr_if_ne F 570 dL_law_525 (by decide) (fun c525 => ?_) (fun c525 => ?_)
                  · exact absurd f3 c525
                  · skip
                    refine xr_aload F dL_law_528 7 rfl ?_
                    refine xr_iload F dL_law_530 3 rfl ?_
                    refine xr_iald F (1 + (12 + (12 + (16 + (kNb K) + (1 + (kNb K + (1 + (5 + (0))))))))) 0 (w_skip (1) rfl (w_skip (12) rfl (w_skip (12) rfl (w_skip (16 + (kNb K)) (zw_len _ _ _ _ _ _ _ _ _ _) (w_skip (1) rfl (w_skip (kNb K) (rowsW_len _ _ _ _ _) (w_skip (1) rfl (w_skip (5) (rowsW_len _ _ _ _ _) rfl)))))))) rfl (e9) rfl (by omega) (by decide) dL_law_532 ?_
                    refine xr_top (y := c_next K V e9 0) pk_us ?_
                    refine xr_if_lt F 572 dL_law_533 (by decide) (fun c533 => ?_) (fun c533 => ?_)
                    · skip
                      refine xr_iinc F (nI (e9 + 1)) [(15, .int (nI (e9 + 1))), (14, .int (wt + (c_waitN K V (nI e9)))), (13, .int (fu + (dFull V e9))), (16, .int (nI w9)), (12, .int (nI (kNb K))), (11, .int (c_water V)), (10, .int (c_comeN K V)), (9, .ref qN), (8, .ref qL), (7, .ref qB), (6, .int (wat V)), (5, .int (nI (kNb K))), (4, .int x), (3, .int (nI tm)), (0, .ref b), (1, .ref h), (2, .ref (o 0))] dL_law_572 3 rfl (nI_add e9 1) (by decide) rfl ?_
                      refine xr_goto F 421 dL_law_575 (by decide) ?_
                      refine xr_lv (lv' := [(15, .int (nI (e9 + 1))), (14, .int (wt + (c_waitN K V (nI e9)))), (13, .int (fu + (dFull V e9))), (12, .int (nI (kNb K))), (11, .int (c_water V)), (10, .int (c_comeN K V)), (9, .ref qN), (8, .ref qL), (7, .ref qB), (6, .int (wat V)), (5, .int (nI (kNb K))), (4, .int x), (3, .int (nI tm)), (0, .ref b), (1, .ref h), (2, .ref (o 0))]) [0, 1, 2, 4, 5, 6, 7, 8, 9, 10, 11, 12, 13, 14, 15, 16] rfl ?_
                      refine xr_widen (k := cl + 6 * (e9 + 1)) (n := sl + 36 * (e9 + 1)) (by omega) (by omega) ?_
                      exact ih (e9 + 1) (fu + (dFull V e9)) (wt + (c_waitN K V (nI e9))) FL (upd NX e9 (c_next K V e9 0)) (by omega) (rw_next (by omega) hF hG) (sum_step hf rfl) (sum_step hwt rfl)
                    · skip
                      obtain ⟨q9, hq9, en9, ew9, ec9, -⟩ := next_P (show ¬ c_next K V e9 0 = -1 from fun z => c533 (by rw [z]; decide))
                      refine xr_aload F dL_law_536 9 rfl ?_
                      refine xr_aload F dL_law_538 7 rfl ?_
                      refine xr_iload F dL_law_540 3 rfl ?_
                      refine xr_iald F (1 + (12 + (12 + (16 + (kNb K) + (1 + (kNb K + (1 + (5 + (0))))))))) 0 (w_skip (1) rfl (w_skip (12) rfl (w_skip (12) rfl (w_skip (16 + (kNb K)) (zw_len _ _ _ _ _ _ _ _ _ _) (w_skip (1) rfl (w_skip (kNb K) (rowsW_len _ _ _ _ _) (w_skip (1) rfl (w_skip (5) (rowsW_len _ _ _ _ _) rfl)))))))) rfl (e9) rfl (by omega) (by decide) dL_law_542 ?_
                      refine xr_top (y := nI q9) (pk_us.trans en9) ?_
                      refine xr_aald F (1 + (12 + (12 + (16 + (kNb K) + (0))))) 2 (w_skip (1) rfl (w_skip (12) rfl (w_skip (12) rfl (w_skip (16 + (kNb K)) (zw_len _ _ _ _ _ _ _ _ _ _) (w_left rfl))))) rfl rfl (q9) rfl (by omega) (by omega) dL_law_543 ?_
                      refine xr_iconst F dL_law_544 (v := 4) (by decide) ?_
                      refine xr_iald F (1 + (12 + (12 + (16 + (kNb K) + (1 + (q9)))))) 0 (w_skip (1) rfl (w_skip (12) rfl (w_skip (12) rfl (w_skip (16 + (kNb K)) (zw_len _ _ _ _ _ _ _ _ _ _) (w_skip (1) rfl (w_left (rowsW_get (by omega)))))))) rfl (4) rfl (by decide) (by decide) dL_law_545 ?_
                      refine xr_top (y := c_waits K V q9) (hFB q9 hq9 4 (by omega)) ?_
                      refine xr_iload F dL_law_546 3 rfl ?_
                      refine xr_icmp_ne F 570 dL_law_548 (by decide) (fun c548 => ?_) (fun c548 => ?_)
                      · exact absurd ew9 c548
                      · skip
                        refine xr_aload F dL_law_551 9 rfl ?_
                        refine xr_aload F dL_law_553 7 rfl ?_
                        refine xr_iload F dL_law_555 3 rfl ?_
                        refine xr_iald F (1 + (12 + (12 + (16 + (kNb K) + (1 + (kNb K + (1 + (5 + (0))))))))) 0 (w_skip (1) rfl (w_skip (12) rfl (w_skip (12) rfl (w_skip (16 + (kNb K)) (zw_len _ _ _ _ _ _ _ _ _ _) (w_skip (1) rfl (w_skip (kNb K) (rowsW_len _ _ _ _ _) (w_skip (1) rfl (w_skip (5) (rowsW_len _ _ _ _ _) rfl)))))))) rfl (e9) rfl (by omega) (by decide) dL_law_557 ?_
                        refine xr_top (y := nI q9) (pk_us.trans en9) ?_
                        refine xr_aald F (1 + (12 + (12 + (16 + (kNb K) + (0))))) 2 (w_skip (1) rfl (w_skip (12) rfl (w_skip (12) rfl (w_skip (16 + (kNb K)) (zw_len _ _ _ _ _ _ _ _ _ _) (w_left rfl))))) rfl rfl (q9) rfl (by omega) (by omega) dL_law_558 ?_
                        refine xr_iconst F dL_law_559 (v := 2) (by decide) ?_
                        refine xr_iald F (1 + (12 + (12 + (16 + (kNb K) + (1 + (q9)))))) 0 (w_skip (1) rfl (w_skip (12) rfl (w_skip (12) rfl (w_skip (16 + (kNb K)) (zw_len _ _ _ _ _ _ _ _ _ _) (w_skip (1) rfl (w_left (rowsW_get (by omega)))))))) rfl (2) rfl (by decide) (by decide) dL_law_560 ?_
                        refine xr_top (y := dPur V q9) (hFB q9 hq9 2 (by omega)) ?_
                        refine xr_aload_n F dL_law_561 rfl 15 rfl ?_
                        refine xr_bipush F dL_law_562 (v := 7) (by decide) ?_
                        refine xr_ws (ws' := ([] : va_W) ++ ((bw h a t ++ (cw yI yZ a K V)) ++ (cw yI yZ t Kt Vt ++ (zw yI yL o ba pa la ra K V (zA V) ++ (([(qB, .inl (yL, refs (kNb K) rb))] : va_W) ++ (rowsW yI rb 5 (kNb K) FB ++ (([(qL, .inl (yL, refs 5 rl))] : va_W) ++ (rowsW yI rl 5 5 FL ++ (([(qN, .inl (yI, 5, .inl (upd NX e9 (c_next K V e9 0))))] : va_W)))))))))) (by first | (simp only [List.append_assoc, List.append_nil, List.nil_append]; done) | rfl | (simp only [List.append_assoc, List.append_nil, List.nil_append]; rfl)) ?_
                        have q564 : q_count 7 = 0 := (q_count_v (j := 7) (by decide))
                        refine xr_mcXVi F G (rest := [.int (dPur V q9)]) (As := [.int 7]) (k_X1_count l D yI yZ yL hst h a t K V 7 hK.1) (cwV 1 F.hts gL_law_X1_count rfl rfl rfl (by decide +kernel) ⟨Nat.le_of_ble_eq_true rfl, Nat.le_of_ble_eq_true rfl⟩) (q0 := 0) rfl rfl (([] : va_W)) (cw yI yZ t Kt Vt ++ (zw yI yL o ba pa la ra K V (zA V) ++ (([(qB, .inl (yL, refs (kNb K) rb))] : va_W) ++ (rowsW yI rb 5 (kNb K) FB ++ (([(qL, .inl (yL, refs 5 rl))] : va_W) ++ (rowsW yI rl 5 5 FL ++ (([(qN, .inl (yI, 5, .inl (upd NX e9 (c_next K V e9 0))))] : va_W)))))))) rfl rfl rfl (Nat.le_of_ble_eq_true rfl) dL_law_564 ⟨(by show _ ≤ (610331 : Nat); omega), (by show _ ≤ (7270474 : Nat); omega)⟩ (fun E1 W1 z1 => ?_) (fun r1 W1 z1 => ?_)
                        · skip
                          exact absurd (q564.symm.trans z1.1.1) (by decide)
                        · skip
                          obtain ⟨-, z0, z1⟩ := z1
                          subst z0
                          subst z1
                          refine xr_ws (ws' := bw h a t ++ (cw yI yZ a K V ++ (cw yI yZ t Kt Vt ++ (zw yI yL o ba pa la ra K V (zA V) ++ (([(qB, .inl (yL, refs (kNb K) rb))] : va_W) ++ (rowsW yI rb 5 (kNb K) FB ++ (([(qL, .inl (yL, refs 5 rl))] : va_W) ++ (rowsW yI rl 5 5 FL ++ (([(qN, .inl (yI, 5, .inl (upd NX e9 (c_next K V e9 0))))] : va_W)))))))))) (by first | (simp only [List.append_assoc, List.append_nil, List.nil_append]; done) | rfl | (simp only [List.append_assoc, List.append_nil, List.nil_append]; rfl)) ?_
                          refine xr_top (y := c_tellW K V 7) (by rw [show ix 7 = 7 from by decide]) ?_
                          refine xr_top (y := kFee K) rfl ?_
                          refine xr_icmp_ge F 572 dL_law_567 (by decide) (fun c567 => ?_) (fun c567 => ?_)
                          · skip
                            refine xr_iinc F (nI (e9 + 1)) [(15, .int (nI (e9 + 1))), (14, .int (wt + (c_waitN K V (nI e9)))), (13, .int (fu + (dFull V e9))), (16, .int (nI w9)), (12, .int (nI (kNb K))), (11, .int (c_water V)), (10, .int (c_comeN K V)), (9, .ref qN), (8, .ref qL), (7, .ref qB), (6, .int (wat V)), (5, .int (nI (kNb K))), (4, .int x), (3, .int (nI tm)), (0, .ref b), (1, .ref h), (2, .ref (o 0))] dL_law_572 3 rfl (nI_add e9 1) (by decide) rfl ?_
                            refine xr_goto F 421 dL_law_575 (by decide) ?_
                            refine xr_lv (lv' := [(15, .int (nI (e9 + 1))), (14, .int (wt + (c_waitN K V (nI e9)))), (13, .int (fu + (dFull V e9))), (12, .int (nI (kNb K))), (11, .int (c_water V)), (10, .int (c_comeN K V)), (9, .ref qN), (8, .ref qL), (7, .ref qB), (6, .int (wat V)), (5, .int (nI (kNb K))), (4, .int x), (3, .int (nI tm)), (0, .ref b), (1, .ref h), (2, .ref (o 0))]) [0, 1, 2, 4, 5, 6, 7, 8, 9, 10, 11, 12, 13, 14, 15, 16] rfl ?_
                            refine xr_widen (k := cl + 6 * (e9 + 1)) (n := sl + 36 * (e9 + 1)) (by omega) (by omega) ?_
                            exact ih (e9 + 1) (fu + (dFull V e9)) (wt + (c_waitN K V (nI e9))) FL (upd NX e9 (c_next K V e9 0)) (by omega) (rw_next (by omega) hF hG) (sum_step hf rfl) (sum_step hwt rfl)
                          · exact absurd (can_need ec9).1 c567
            · exact (xk_ge (a := 5) (b := w9) (by omega) (by omega) c433).elim
          | succ j ih =>
            intro w9 FL hw hF hG
            refine xr_iload F dL_law_430 0 rfl ?_
            refine xr_iconst F dL_law_432 (v := 5) (by decide) ?_
            refine xr_icmp_ge F 458 dL_law_433 (by decide) (fun c433 => ?_) (fun c433 => ?_)
            · exact (xk_nlt (a := w9) (b := 5) (by omega) (by omega) (by omega) c433).elim
            · skip
              refine xr_aload F dL_law_436 8 rfl ?_
              refine xr_iload F dL_law_438 1 rfl ?_
              refine xr_aald F (1 + (12 + (12 + (16 + (kNb K) + (1 + (kNb K + (0))))))) 2 (w_skip (1) rfl (w_skip (12) rfl (w_skip (12) rfl (w_skip (16 + (kNb K)) (zw_len _ _ _ _ _ _ _ _ _ _) (w_skip (1) rfl (w_skip (kNb K) (rowsW_len _ _ _ _ _) (w_left rfl))))))) rfl rfl (e9) rfl (by omega) (by decide) dL_law_440 ?_
              refine xr_iload F dL_law_441 0 rfl ?_
              refine xr_aload_n F dL_law_443 rfl 15 rfl ?_
              refine xr_iload F dL_law_444 1 rfl ?_
              refine xr_iload F dL_law_446 0 rfl ?_
              refine xr_ws (ws' := ([] : va_W) ++ ((bw h a t ++ (cw yI yZ a K V)) ++ (cw yI yZ t Kt Vt ++ (zw yI yL o ba pa la ra K V (zA V) ++ (([(qB, .inl (yL, refs (kNb K) rb))] : va_W) ++ (rowsW yI rb 5 (kNb K) FB ++ (([(qL, .inl (yL, refs 5 rl))] : va_W) ++ (rowsW yI rl 5 5 FL ++ (([(qN, .inl (yI, 5, .inl NX))] : va_W)))))))))) (by first | (simp only [List.append_assoc, List.append_nil, List.nil_append]; done) | rfl | (simp only [List.append_assoc, List.append_nil, List.nil_append]; rfl)) ?_
              have q448 : q_in2 (nI e9) 4 (nI w9) 4 = 0 := (q_lock_v (j := e9) (w := w9) (by omega) (by omega))
              refine xr_mcXVi F G (rest := [.int (nI w9), .ref (rl e9)]) (As := [.int (nI e9), .int (nI w9)]) (k_X1_lock l D yI yZ yL hst h a t K V (nI e9) (nI w9) hK.1) (cwV 2 F.hts gL_law_X1_lock rfl rfl rfl (by decide +kernel) ⟨Nat.le_of_ble_eq_true rfl, Nat.le_of_ble_eq_true rfl⟩) (q0 := 0) rfl rfl (([] : va_W)) (cw yI yZ t Kt Vt ++ (zw yI yL o ba pa la ra K V (zA V) ++ (([(qB, .inl (yL, refs (kNb K) rb))] : va_W) ++ (rowsW yI rb 5 (kNb K) FB ++ (([(qL, .inl (yL, refs 5 rl))] : va_W) ++ (rowsW yI rl 5 5 FL ++ (([(qN, .inl (yI, 5, .inl NX))] : va_W)))))))) rfl rfl rfl (Nat.le_of_ble_eq_true rfl) dL_law_448 ⟨(by show _ ≤ (610331 : Nat); omega), (by show _ ≤ (7270474 : Nat); omega)⟩ (fun E1 W1 z1 => ?_) (fun r1 W1 z1 => ?_)
              · skip
                exact absurd (q448.symm.trans z1.1.1) (by decide)
              · skip
                obtain ⟨-, z0, z1⟩ := z1
                subst z0
                subst z1
                refine xr_ws (ws' := bw h a t ++ (cw yI yZ a K V ++ (cw yI yZ t Kt Vt ++ (zw yI yL o ba pa la ra K V (zA V) ++ (([(qB, .inl (yL, refs (kNb K) rb))] : va_W) ++ (rowsW yI rb 5 (kNb K) FB ++ (([(qL, .inl (yL, refs 5 rl))] : va_W) ++ (rowsW yI rl 5 5 FL ++ (([(qN, .inl (yI, 5, .inl NX))] : va_W)))))))))) (by first | (simp only [List.append_assoc, List.append_nil, List.nil_append]; done) | rfl | (simp only [List.append_assoc, List.append_nil, List.nil_append]; rfl)) ?_
                refine xr_top (y := c_tellL K V e9 w9) (by rw [ix_nI (n := e9) (by omega), ix_nI (n := w9) (by omega)]) ?_
                refine xr_iast F (1 + (12 + (12 + (16 + (kNb K) + (1 + (kNb K + (1 + (e9)))))))) 0 (w_skip (1) rfl (w_skip (12) rfl (w_skip (12) rfl (w_skip (16 + (kNb K)) (zw_len _ _ _ _ _ _ _ _ _ _) (w_skip (1) rfl (w_skip (kNb K) (rowsW_len _ _ _ _ _) (w_skip (1) rfl (w_left (rowsW_get (by omega)))))))))) rfl (w9) rfl (by omega) (by decide) (bw h a t ++ (cw yI yZ a K V ++ (cw yI yZ t Kt Vt ++ (zw yI yL o ba pa la ra K V (zA V) ++ (([(qB, .inl (yL, refs (kNb K) rb))] : va_W) ++ (rowsW yI rb 5 (kNb K) FB ++ (([(qL, .inl (yL, refs 5 rl))] : va_W) ++ (rowsW yI rl 5 5 (upd2 FL e9 w9 (c_tellL K V e9 w9)) ++ (([(qN, .inl (yI, 5, .inl NX))] : va_W)))))))))) (s_skip (1) rfl (s_skip (12) rfl (s_skip (12) rfl (s_skip (16 + (kNb K)) (zw_len _ _ _ _ _ _ _ _ _ _) (s_skip (1) rfl (s_skip (kNb K) (rowsW_len _ _ _ _ _) (s_skip (1) rfl (s_left (by rw [rowsW_len]; omega) (rowsW_set (by omega)))))))))) dL_law_451 ?_
                refine xr_iinc F (nI (w9 + 1)) [(16, .int (nI (w9 + 1))), (15, .int (nI e9)), (14, .int wt), (13, .int fu), (12, .int (nI (kNb K))), (11, .int (c_water V)), (10, .int (c_comeN K V)), (9, .ref qN), (8, .ref qL), (7, .ref qB), (6, .int (wat V)), (5, .int (nI (kNb K))), (4, .int x), (3, .int (nI tm)), (0, .ref b), (1, .ref h), (2, .ref (o 0))] dL_law_452 0 rfl (nI_add w9 1) (by decide) rfl ?_
                refine xr_goto F 430 dL_law_455 (by decide) ?_
                refine xr_lv (lv' := [(16, .int (nI (w9 + 1))), (15, .int (nI e9)), (14, .int wt), (13, .int fu), (12, .int (nI (kNb K))), (11, .int (c_water V)), (10, .int (c_comeN K V)), (9, .ref qN), (8, .ref qL), (7, .ref qB), (6, .int (wat V)), (5, .int (nI (kNb K))), (4, .int x), (3, .int (nI tm)), (0, .ref b), (1, .ref h), (2, .ref (o 0))]) [0, 1, 2, 3, 4, 5, 6, 7, 8, 9, 10, 11, 12, 13, 14, 15, 16] rfl ?_
                refine xr_widen (k := cl + 6 * e9 + (w9 + 1)) (n := sl + 36 * e9 + 6 * (w9 + 1)) (by omega) (by omega) ?_
                exact ih (w9 + 1) (upd2 FL e9 w9 (c_tellL K V e9 w9)) (by omega) (rw_step hF hG).1 (rw_step hF hG).2
        refine xr_lv (lv' := [(16, .int 0), (15, .int (nI e9)), (14, .int wt), (13, .int fu), (12, .int (nI (kNb K))), (11, .int (c_water V)), (10, .int (c_comeN K V)), (9, .ref qN), (8, .ref qL), (7, .ref qB), (6, .int (wat V)), (5, .int (nI (kNb K))), (4, .int x), (3, .int (nI tm)), (0, .ref b), (1, .ref h), (2, .ref (o 0))]) [0, 1, 2, 3, 4, 5, 6, 7, 8, 9, 10, 11, 12, 13, 14, 15, 16] rfl ?_
        refine xr_widen (k := cl + 6 * e9 + 0) (n := sl + 36 * e9 + 6 * 0) (by omega) (by omega) ?_
        exact lp2 5 0 FL (by omega) hF (fun w9 z9 => absurd z9 (Nat.not_lt_zero _))
  refine xr_lv (lv' := [(15, .int 0), (14, .int 0), (13, .int 0), (12, .int (nI (kNb K))), (11, .int (c_water V)), (10, .int (c_comeN K V)), (9, .ref qN), (8, .ref qL), (7, .ref qB), (6, .int (wat V)), (5, .int (nI (kNb K))), (4, .int x), (3, .int (nI tm)), (0, .ref b), (1, .ref h), (2, .ref (o 0))]) [0, 1, 2, 3, 4, 5, 6, 7, 8, 9, 10, 11, 12, 13, 14, 15] rfl ?_
  refine xr_widen (k := cl + 6 * 0) (n := sl + 36 * 0) (by omega) (by omega) ?_
  exact lp 5 0 0 0 FL NX (by omega) (fun b9 z9 => absurd z9 (Nat.not_lt_zero _)) (comeL_sum 5 0 0 (fun j _ h => hV.2.1 j (by omega))) (wait_sum hV)
