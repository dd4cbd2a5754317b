set_option maxHeartbeats 4000000 in
set_option maxRecDepth 100000 in
/-- the barges: 974 to 1172 -/
theorem law_S10 {p : Program} {e : Env} {s : State} {m : MethodId} {below : List Frame} {meth : Method} {c : Code} {l : Launch} (hst : l.stackTraces = false) {b L : Nat} {xs : Nat → Int32} (hL : L ≤ 260) {D : va_G} {yI yZ yL : ClassId} {A : Nat → Prop} {Q : State → Prop} (F : XF p s m #[Value.ref b] c cL_law 32 wsL_law R_law D (tysG yI yZ yL) A) (G : XG l s meth A) (hX : va_X b L xs s s.heap) (hbl : b < s.heap.size) (hbA : ¬ A b) {h : Nat} {a t o : Nat → Nat} {ba : Nat} {pa la ra : Nat → Nat} {K : CK} {V : CD} {Kt : CK} {Vt : CD} {N tm : Nat} (htm : tm < 45) (hN : N < 50000) (hK : okK K) (hV : okV K V N) (hh : dHour V ≤ 100) {qB qL qN : Nat} {rb rl : Nat → Nat} {FB FL : Nat → Nat → Int32} {NX : Nat → Int32} {qT : Nat} {fT : Nat → Int32} {V2 : CD} {tS uS : Nat} (hA : hrAll K V V2 tS uS) (hV2 : okV K V2 (N + 1)) (hh2 : dHour V2 ≤ 101) (hFB : ∀ b9, b9 < kNb K → ∀ w9, w9 < 5 → FB b9 w9 = c_tellB K V b9 w9) (cl sl : Nat) (hcl : cl + 100 ≤ 610331) (hsl : sl + 1000 ≤ 7270474) (kk : ∀ (mn pd : Int32) (hm : mn = nI tS) (hp : pd = mn * kFee K), AW p l e room_1 s m #[Value.ref b] below meth c 32 D A (cl + 100) (sl + 1000) Q (bw h a t ++ (cw yI yZ a K V2 ++ (cw yI yZ t Kt Vt ++ (zw yI yL o ba pa la ra K V2 (zA V2) ++ (([(qB, .inl (yL, refs (kNb K) rb))] : va_W) ++ (rowsW yI rb 5 (kNb K) FB ++ (([(qL, .inl (yL, refs 5 rl))] : va_W) ++ (rowsW yI rl 5 5 FL ++ (([(qN, .inl (yI, 5, .inl NX))] : va_W) ++ (([(qT, .inl (yI, 7, .inl fT))] : va_W))))))))))) [(27, .int pd), (26, .int mn), (25, .int (nI tS)), (23, .int (dBank V)), (8, .ref qL), (3, .int (nI tm)), (0, .ref b), (1, .ref h), (2, .ref (o 0))] 1172 []) : AW p l e room_1 s m #[Value.ref b] below meth c 32 D A cl sl Q (bw h a t ++ (cw yI yZ a K V2 ++ (cw yI yZ t Kt Vt ++ (zw yI yL o ba pa la ra K V2 (zA V2) ++ (([(qB, .inl (yL, refs (kNb K) rb))] : va_W) ++ (rowsW yI rb 5 (kNb K) FB ++ (([(qL, .inl (yL, refs 5 rl))] : va_W) ++ (rowsW yI rl 5 5 FL ++ (([(qN, .inl (yI, 5, .inl NX))] : va_W) ++ (([(qT, .inl (yI, 7, .inl fT))] : va_W))))))))))) [(25, .int (nI tS)), (24, .int (kFee K)), (23, .int (dBank V)), (8, .ref qL), (7, .ref qB), (5, .int (nI (kNb K))), (3, .int (nI tm)), (0, .ref b), (1, .ref h), (2, .ref (o 0))] 974 [] := by
  have k1 : kNb K ≤ 10 := hK.1
  show AW p l e room_1 s m #[Value.ref b] below meth c 32 D A cl sl Q (bw h a t ++ (cw yI yZ a K V2 ++ (cw yI yZ t Kt Vt ++ (zw yI yL o ba pa la ra K V2 (zA V2) ++ (([(qB, .inl (yL, refs (kNb K) rb))] : va_W) ++ (rowsW yI rb 5 (kNb K) FB ++ (([(qL, .inl (yL, refs 5 rl))] : va_W) ++ (rowsW yI rl 5 5 FL ++ (([(qN, .inl (yI, 5, .inl NX))] : va_W) ++ (([(qT, .inl (yI, 7, .inl fT))] : va_W))))))))))) [(25, .int (nI tS)), (24, .int (kFee K)), (23, .int (dBank V)), (8, .ref qL), (7, .ref qB), (5, .int (nI (kNb K))), (3, .int (nI tm)), (0, .ref b), (1, .ref h), (2, .ref (o 0))] 974 []
  refine xr_iconst F dL_law_974 (v := 0) (by decide) ?_
  refine xr_istore F [(26, .int 0), (25, .int (nI tS)), (24, .int (kFee K)), (23, .int (dBank V)), (8, .ref qL), (7, .ref qB), (5, .int (nI (kNb K))), (3, .int (nI tm)), (0, .ref b), (1, .ref h), (2, .ref (o 0))] dL_law_975 (by decide) rfl ?_
  refine xr_iconst F dL_law_977 (v := 0) (by decide) ?_
  refine xr_istore F [(27, .int 0), (26, .int 0), (25, .int (nI tS)), (24, .int (kFee K)), (23, .int (dBank V)), (8, .ref qL), (7, .ref qB), (5, .int (nI (kNb K))), (3, .int (nI tm)), (0, .ref b), (1, .ref h), (2, .ref (o 0))] dL_law_978 (by decide) rfl ?_
  refine xr_iconst F dL_law_980 (v := 0) (by decide) ?_
  refine xr_istore F [(28, .int 0), (27, .int 0), (26, .int 0), (25, .int (nI tS)), (24, .int (kFee K)), (23, .int (dBank V)), (8, .ref qL), (7, .ref qB), (5, .int (nI (kNb K))), (3, .int (nI tm)), (0, .ref b), (1, .ref h), (2, .ref (o 0))] dL_law_981 (by decide) rfl ?_
  have lp : ∀ (i : Nat) (e9 : Nat) (mn : Int32) (pd : Int32), i + e9 = kNb K → c_sumL (fun b9 => dSer V2 b9 - dSer V b9) i e9 mn = nI tS → pd = mn * kFee K → AW p l e room_1 s m #[Value.ref b] below meth c 32 D A (cl + 5 * e9) (sl + 30 * e9) Q (bw h a t ++ (cw yI yZ a K V2 ++ (cw yI yZ t Kt Vt ++ (zw yI yL o ba pa la ra K V2 (zA V2) ++ (([(qB, .inl (yL, refs (kNb K) rb))] : va_W) ++ (rowsW yI rb 5 (kNb K) FB ++ (([(qL, .inl (yL, refs 5 rl))] : va_W) ++ (rowsW yI rl 5 5 FL ++ (([(qN, .inl (yI, 5, .inl NX))] : va_W) ++ (([(qT, .inl (yI, 7, .inl fT))] : va_W))))))))))) [(28, .int (nI e9)), (27, .int pd), (26, .int mn), (25, .int (nI tS)), (24, .int (kFee K)), (23, .int (dBank V)), (8, .ref qL), (7, .ref qB), (5, .int (nI (kNb K))), (3, .int (nI tm)), (0, .ref b), (1, .ref h), (2, .ref (o 0))] 983 [] := by
    intro i
    induction i with
    | zero =>
      intro e9 mn pd hb hm hp
      refine xr_iload F dL_law_983 0 rfl ?_
      refine xr_iload F dL_law_985 8 rfl ?_
      refine xr_icmp_ge F 1172 dL_law_987 (by decide) (fun c987 => ?_) (fun c987 => ?_)
      · skip
        refine xr_lv (lv' := [(27, .int pd), (26, .int mn), (25, .int (nI tS)), (23, .int (dBank V)), (8, .ref qL), (3, .int (nI tm)), (0, .ref b), (1, .ref h), (2, .ref (o 0))]) [1, 2, 3, 5, 6, 9, 10, 11, 12] rfl ?_
        refine xr_widen (k := cl + 100) (n := sl + 1000) (by omega) (by omega) ?_
        exact kk mn pd hm hp
      · exact (xk_ge (a := kNb K) (b := e9) (by omega) (by omega) c987).elim
    | succ i ih =>
      intro e9 mn pd hb hm hp
      refine xr_iload F dL_law_983 0 rfl ?_
      refine xr_iload F dL_law_985 8 rfl ?_
      refine xr_icmp_ge F 1172 dL_law_987 (by decide) (fun c987 => ?_) (fun c987 => ?_)
      · exact (xk_nlt (a := e9) (b := kNb K) (by omega) (by omega) (by omega) c987).elim
      · skip
        refine xr_aload F dL_law_990 7 rfl ?_
        refine xr_iload F dL_law_992 0 rfl ?_
        refine xr_aald F (1 + (12 + (12 + (16 + (kNb K) + (0))))) 2 (w_skip (1) rfl (w_skip (12) rfl (w_skip (12) rfl (w_skip (16 + (kNb K)) (zw_len _ _ _ _ _ _ _ _ _ _) (w_left rfl))))) rfl rfl (e9) rfl (by omega) (by omega) dL_law_994 ?_
        refine xr_astore F [(29, .ref (rb e9)), (28, .int (nI e9)), (27, .int pd), (26, .int mn), (25, .int (nI tS)), (24, .int (kFee K)), (23, .int (dBank V)), (8, .ref qL), (7, .ref qB), (5, .int (nI (kNb K))), (3, .int (nI tm)), (0, .ref b), (1, .ref h), (2, .ref (o 0))] dL_law_995 (by decide) rfl ?_
        refine xr_aload_n F dL_law_997 rfl 12 rfl ?_
        refine xr_iload F dL_law_998 1 rfl ?_
        refine xr_iconst F dL_law_1000 (v := 3) (by decide) ?_
        refine xr_ws (ws' := ([] : va_W) ++ ((bw h a t ++ (cw yI yZ a K V2)) ++ (cw yI yZ t Kt Vt ++ (zw yI yL o ba pa la ra K V2 (zA V2) ++ (([(qB, .inl (yL, refs (kNb K) rb))] : va_W) ++ (rowsW yI rb 5 (kNb K) FB ++ (([(qL, .inl (yL, refs 5 rl))] : va_W) ++ (rowsW yI rl 5 5 FL ++ (([(qN, .inl (yI, 5, .inl NX))] : va_W) ++ (([(qT, .inl (yI, 7, .inl fT))] : va_W))))))))))) (by first | (simp only [List.append_assoc, List.append_nil, List.nil_append]; done) | rfl | (simp only [List.append_assoc, List.append_nil, List.nil_append]; rfl)) ?_
        have q1001 : q_told K (nI e9) 3 = 0 := (q_told_v (j := e9) (w := 3) hK.1 (by omega) (by decide))
        refine xr_mcXVi F G (rest := []) (As := [.int (nI e9), .int 3]) (k_X1_told l D yI yZ yL hst h a t K V2 (nI e9) 3 hK.1) (cwV 2 F.hts gL_law_X1_told rfl rfl rfl (by decide +kernel) ⟨Nat.le_of_ble_eq_true rfl, Nat.le_of_ble_eq_true rfl⟩) (q0 := 0) rfl rfl (([] : va_W)) (cw yI yZ t Kt Vt ++ (zw yI yL o ba pa la ra K V2 (zA V2) ++ (([(qB, .inl (yL, refs (kNb K) rb))] : va_W) ++ (rowsW yI rb 5 (kNb K) FB ++ (([(qL, .inl (yL, refs 5 rl))] : va_W) ++ (rowsW yI rl 5 5 FL ++ (([(qN, .inl (yI, 5, .inl NX))] : va_W) ++ (([(qT, .inl (yI, 7, .inl fT))] : va_W))))))))) rfl rfl rfl (Nat.le_of_ble_eq_true rfl) dL_law_1001 ⟨(by show _ ≤ (610331 : Nat); omega), (by show _ ≤ (7270474 : Nat); omega)⟩ (fun E1 W1 z1 => ?_) (fun r1 W1 z1 => ?_)
        · skip
          exact absurd (q1001.symm.trans z1.1.1) (by decide)
        · skip
          obtain ⟨-, z0, z1⟩ := z1
          subst z0
          subst z1
          refine xr_ws (ws' := bw h a t ++ (cw yI yZ a K V2 ++ (cw yI yZ t Kt Vt ++ (zw yI yL o ba pa la ra K V2 (zA V2) ++ (([(qB, .inl (yL, refs (kNb K) rb))] : va_W) ++ (rowsW yI rb 5 (kNb K) FB ++ (([(qL, .inl (yL, refs 5 rl))] : va_W) ++ (rowsW yI rl 5 5 FL ++ (([(qN, .inl (yI, 5, .inl NX))] : va_W) ++ (([(qT, .inl (yI, 7, .inl fT))] : va_W))))))))))) (by first | (simp only [List.append_assoc, List.append_nil, List.nil_append]; done) | rfl | (simp only [List.append_assoc, List.append_nil, List.nil_append]; rfl)) ?_
          refine xr_top (y := c_tellB K V2 e9 3) (by rw [ix_nI (n := e9) (by omega), show ix 3 = 3 from by decide]) ?_
          refine xr_top (y := dSer V2 e9) rfl ?_
          refine xr_aload F dL_law_1004 0 rfl ?_
          refine xr_iconst F dL_law_1006 (v := 3) (by decide) ?_
          refine xr_iald F (1 + (12 + (12 + (16 + (kNb K) + (1 + (e9)))))) 0 (w_skip (1) rfl (w_skip (12) rfl (w_skip (12) rfl (w_skip (16 + (kNb K)) (zw_len _ _ _ _ _ _ _ _ _ _) (w_skip (1) rfl (w_left (rowsW_get (by omega)))))))) rfl (3) rfl (by decide) (by decide) dL_law_1007 ?_
          refine xr_top (y := dSer V e9) (hFB e9 (by omega) 3 (by omega)) ?_
          refine xr_isub F ((dSer V2 e9) - (dSer V e9)) dL_law_1008 rfl ?_
          rcases hA.2.2.2.2.2.2.2.2.1 e9 with ⟨s1, s2, s3⟩ | ⟨r1, r2, r3, r4, k9, hk9, r5, r6, r7⟩
          · skip
            refine xr_top (y := 0) (i_sub0 s3) ?_
            refine xr_istore F [(30, .int 0), (29, .ref (rb e9)), (28, .int (nI e9)), (27, .int pd), (26, .int mn), (25, .int (nI tS)), (24, .int (kFee K)), (23, .int (dBank V)), (8, .ref qL), (7, .ref qB), (5, .int (nI (kNb K))), (3, .int (nI tm)), (0, .ref b), (1, .ref h), (2, .ref (o 0))] dL_law_1009 (by decide) rfl ?_
            refine xr_aload F dL_law_1011 1 rfl ?_
            refine xr_iconst F dL_law_1013 (v := 0) (by decide) ?_
            refine xr_iald F (1 + (12 + (12 + (16 + (kNb K) + (1 + (e9)))))) 0 (w_skip (1) rfl (w_skip (12) rfl (w_skip (12) rfl (w_skip (16 + (kNb K)) (zw_len _ _ _ _ _ _ _ _ _ _) (w_skip (1) rfl (w_left (rowsW_get (by omega)))))))) rfl (0) rfl (by decide) (by decide) dL_law_1014 ?_
            refine xr_top (y := dAt V e9) (hFB e9 (by omega) 0 (by omega)) ?_
            refine xr_iload F dL_law_1015 0 rfl ?_
            refine xr_if_ne F 1024 dL_law_1017 (by decide) (fun c1017 => ?_) (fun c1017 => ?_)
            · exact absurd rfl c1017
            · skip
              refine xr_iconst F dL_law_1020 (v := 0) (by decide) ?_
              refine xr_goto F 1040 dL_law_1021 (by decide) ?_
              refine xr_iadd F ((dAt V e9) + 0) dL_law_1040 rfl ?_
              refine xr_istore F [(31, .int ((dAt V e9) + 0)), (30, .int 0), (29, .ref (rb e9)), (28, .int (nI e9)), (27, .int pd), (26, .int mn), (25, .int (nI tS)), (24, .int (kFee K)), (23, .int (dBank V)), (8, .ref qL), (7, .ref qB), (5, .int (nI (kNb K))), (3, .int (nI tm)), (0, .ref b), (1, .ref h), (2, .ref (o 0))] dL_law_1041 (by decide) rfl ?_
              refine xr_iload F dL_law_1043 1 rfl ?_
              refine xr_if_lt F 1113 dL_law_1045 (by decide) (fun c1045 => ?_) (fun c1045 => ?_)
              · exact absurd c1045 (by decide)
              · skip
                refine xr_iload F dL_law_1048 1 rfl ?_
                refine xr_iconst F dL_law_1050 (v := 1) (by decide) ?_
                refine xr_icmp_gt F 1113 dL_law_1051 (by decide) (fun c1051 => ?_) (fun c1051 => ?_)
                · exact absurd c1051 (by decide)
                · skip
                  refine xr_iload F dL_law_1054 1 rfl ?_
                  refine xr_iconst F dL_law_1056 (v := 1) (by decide) ?_
                  refine xr_icmp_ne F 1067 dL_law_1057 (by decide) (fun c1057 => ?_) (fun c1057 => ?_)
                  · skip
                    refine xr_aload_n F dL_law_1067 rfl 14 rfl ?_
                    refine xr_iload F dL_law_1068 3 rfl ?_
                    refine xr_iconst F dL_law_1070 (v := 0) (by decide) ?_
                    refine xr_ws (ws' := ([] : va_W) ++ ((bw h a t ++ (cw yI yZ a K V2)) ++ (cw yI yZ t Kt Vt ++ (zw yI yL o ba pa la ra K V2 (zA V2) ++ (([(qB, .inl (yL, refs (kNb K) rb))] : va_W) ++ (rowsW yI rb 5 (kNb K) FB ++ (([(qL, .inl (yL, refs 5 rl))] : va_W) ++ (rowsW yI rl 5 5 FL ++ (([(qN, .inl (yI, 5, .inl NX))] : va_W) ++ (([(qT, .inl (yI, 7, .inl fT))] : va_W))))))))))) (by first | (simp only [List.append_assoc, List.append_nil, List.nil_append]; done) | rfl | (simp only [List.append_assoc, List.append_nil, List.nil_append]; rfl)) ?_
                    have q1071 : q_told K (nI e9) 0 = 0 := (q_told_v (j := e9) (w := 0) hK.1 (by omega) (by decide))
                    refine xr_mcXVi F G (rest := []) (As := [.int (nI e9), .int 0]) (k_X1_told l D yI yZ yL hst h a t K V2 (nI e9) 0 hK.1) (cwV 2 F.hts gL_law_X1_told rfl rfl rfl (by decide +kernel) ⟨Nat.le_of_ble_eq_true rfl, Nat.le_of_ble_eq_true rfl⟩) (q0 := 0) rfl rfl (([] : va_W)) (cw yI yZ t Kt Vt ++ (zw yI yL o ba pa la ra K V2 (zA V2) ++ (([(qB, .inl (yL, refs (kNb K) rb))] : va_W) ++ (rowsW yI rb 5 (kNb K) FB ++ (([(qL, .inl (yL, refs 5 rl))] : va_W) ++ (rowsW yI rl 5 5 FL ++ (([(qN, .inl (yI, 5, .inl NX))] : va_W) ++ (([(qT, .inl (yI, 7, .inl fT))] : va_W))))))))) rfl rfl rfl (Nat.le_of_ble_eq_true rfl) dL_law_1071 ⟨(by show _ ≤ (610331 : Nat); omega), (by show _ ≤ (7270474 : Nat); omega)⟩ (fun E1 W1 z1 => ?_) (fun r1 W1 z1 => ?_)
                    · skip
                      exact absurd (q1071.symm.trans z1.1.1) (by decide)
                    · skip
                      obtain ⟨-, z0, z1⟩ := z1
                      subst z0
                      subst z1
                      refine xr_ws (ws' := bw h a t ++ (cw yI yZ a K V2 ++ (cw yI yZ t Kt Vt ++ (zw yI yL o ba pa la ra K V2 (zA V2) ++ (([(qB, .inl (yL, refs (kNb K) rb))] : va_W) ++ (rowsW yI rb 5 (kNb K) FB ++ (([(qL, .inl (yL, refs 5 rl))] : va_W) ++ (rowsW yI rl 5 5 FL ++ (([(qN, .inl (yI, 5, .inl NX))] : va_W) ++ (([(qT, .inl (yI, 7, .inl fT))] : va_W))))))))))) (by first | (simp only [List.append_assoc, List.append_nil, List.nil_append]; done) | rfl | (simp only [List.append_assoc, List.append_nil, List.nil_append]; rfl)) ?_
                      refine xr_top (y := c_tellB K V2 e9 0) (by rw [ix_nI (n := e9) (by omega), show ix 0 = 0 from by decide]) ?_
                      refine xr_top (y := dAt V2 e9) rfl ?_
                      refine xr_iload F dL_law_1074 0 rfl ?_
                      refine xr_icmp_ne F 1113 dL_law_1076 (by decide) (fun c1076 => ?_) (fun c1076 => ?_)
                      · exact absurd (by rw [s1, Int32.add_zero]) c1076
                      · skip
                        refine xr_aload_n F dL_law_1079 rfl 14 rfl ?_
                        refine xr_iload F dL_law_1080 3 rfl ?_
                        refine xr_iconst F dL_law_1082 (v := 1) (by decide) ?_
                        refine xr_ws (ws' := ([] : va_W) ++ ((bw h a t ++ (cw yI yZ a K V2)) ++ (cw yI yZ t Kt Vt ++ (zw yI yL o ba pa la ra K V2 (zA V2) ++ (([(qB, .inl (yL, refs (kNb K) rb))] : va_W) ++ (rowsW yI rb 5 (kNb K) FB ++ (([(qL, .inl (yL, refs 5 rl))] : va_W) ++ (rowsW yI rl 5 5 FL ++ (([(qN, .inl (yI, 5, .inl NX))] : va_W) ++ (([(qT, .inl (yI, 7, .inl fT))] : va_W))))))))))) (by first | (simp only [List.append_assoc, List.append_nil, List.nil_append]; done) | rfl | (simp only [List.append_assoc, List.append_nil, List.nil_append]; rfl)) ?_
                        have q1083 : q_told K (nI e9) 1 = 0 := (q_told_v (j := e9) (w := 1) hK.1 (by omega) (by decide))
                        refine xr_mcXVi F G (rest := []) (As := [.int (nI e9), .int 1]) (k_X1_told l D yI yZ yL hst h a t K V2 (nI e9) 1 hK.1) (cwV 2 F.hts gL_law_X1_told rfl rfl rfl (by decide +kernel) ⟨Nat.le_of_ble_eq_true rfl, Nat.le_of_ble_eq_true rfl⟩) (q0 := 0) rfl rfl (([] : va_W)) (cw yI yZ t Kt Vt ++ (zw yI yL o ba pa la ra K V2 (zA V2) ++ (([(qB, .inl (yL, refs (kNb K) rb))] : va_W) ++ (rowsW yI rb 5 (kNb K) FB ++ (([(qL, .inl (yL, refs 5 rl))] : va_W) ++ (rowsW yI rl 5 5 FL ++ (([(qN, .inl (yI, 5, .inl NX))] : va_W) ++ (([(qT, .inl (yI, 7, .inl fT))] : va_W))))))))) rfl rfl rfl (Nat.le_of_ble_eq_true rfl) dL_law_1083 ⟨(by show _ ≤ (610331 : Nat); omega), (by show _ ≤ (7270474 : Nat); omega)⟩ (fun E1 W1 z1 => ?_) (fun r1 W1 z1 => ?_)
                        · skip
                          exact absurd (q1083.symm.trans z1.1.1) (by decide)
                        · skip
                          obtain ⟨-, z0, z1⟩ := z1
                          subst z0
                          subst z1
                          refine xr_ws (ws' := bw h a t ++ (cw yI yZ a K V2 ++ (cw yI yZ t Kt Vt ++ (zw yI yL o ba pa la ra K V2 (zA V2) ++ (([(qB, .inl (yL, refs (kNb K) rb))] : va_W) ++ (rowsW yI rb 5 (kNb K) FB ++ (([(qL, .inl (yL, refs 5 rl))] : va_W) ++ (rowsW yI rl 5 5 FL ++ (([(qN, .inl (yI, 5, .inl NX))] : va_W) ++ (([(qT, .inl (yI, 7, .inl fT))] : va_W))))))))))) (by first | (simp only [List.append_assoc, List.append_nil, List.nil_append]; done) | rfl | (simp only [List.append_assoc, List.append_nil, List.nil_append]; rfl)) ?_
                          refine xr_top (y := c_tellB K V2 e9 1) (by rw [ix_nI (n := e9) (by omega), show ix 1 = 1 from by decide]) ?_
                          refine xr_top (y := kGoal K e9) rfl ?_
                          refine xr_aload F dL_law_1086 2 rfl ?_
                          refine xr_iconst F dL_law_1088 (v := 1) (by decide) ?_
                          refine xr_iald F (1 + (12 + (12 + (16 + (kNb K) + (1 + (e9)))))) 0 (w_skip (1) rfl (w_skip (12) rfl (w_skip (12) rfl (w_skip (16 + (kNb K)) (zw_len _ _ _ _ _ _ _ _ _ _) (w_skip (1) rfl (w_left (rowsW_get (by omega)))))))) rfl (1) rfl (by decide) (by decide) dL_law_1089 ?_
                          refine xr_top (y := kGoal K e9) (hFB e9 (by omega) 1 (by omega)) ?_
                          refine xr_icmp_ne F 1113 dL_law_1090 (by decide) (fun c1090 => ?_) (fun c1090 => ?_)
                          · exact absurd rfl c1090
                          · skip
                            refine xr_aload_n F dL_law_1093 rfl 14 rfl ?_
                            refine xr_iload F dL_law_1094 3 rfl ?_
                            refine xr_iconst F dL_law_1096 (v := 2) (by decide) ?_
                            refine xr_ws (ws' := ([] : va_W) ++ ((bw h a t ++ (cw yI yZ a K V2)) ++ (cw yI yZ t Kt Vt ++ (zw yI yL o ba pa la ra K V2 (zA V2) ++ (([(qB, .inl (yL, refs (kNb K) rb))] : va_W) ++ (rowsW yI rb 5 (kNb K) FB ++ (([(qL, .inl (yL, refs 5 rl))] : va_W) ++ (rowsW yI rl 5 5 FL ++ (([(qN, .inl (yI, 5, .inl NX))] : va_W) ++ (([(qT, .inl (yI, 7, .inl fT))] : va_W))))))))))) (by first | (simp only [List.append_assoc, List.append_nil, List.nil_append]; done) | rfl | (simp only [List.append_assoc, List.append_nil, List.nil_append]; rfl)) ?_
                            have q1097 : q_told K (nI e9) 2 = 0 := (q_told_v (j := e9) (w := 2) hK.1 (by omega) (by decide))
                            refine xr_mcXVi F G (rest := []) (As := [.int (nI e9), .int 2]) (k_X1_told l D yI yZ yL hst h a t K V2 (nI e9) 2 hK.1) (cwV 2 F.hts gL_law_X1_told rfl rfl rfl (by decide +kernel) ⟨Nat.le_of_ble_eq_true rfl, Nat.le_of_ble_eq_true rfl⟩) (q0 := 0) rfl rfl (([] : va_W)) (cw yI yZ t Kt Vt ++ (zw yI yL o ba pa la ra K V2 (zA V2) ++ (([(qB, .inl (yL, refs (kNb K) rb))] : va_W) ++ (rowsW yI rb 5 (kNb K) FB ++ (([(qL, .inl (yL, refs 5 rl))] : va_W) ++ (rowsW yI rl 5 5 FL ++ (([(qN, .inl (yI, 5, .inl NX))] : va_W) ++ (([(qT, .inl (yI, 7, .inl fT))] : va_W))))))))) rfl rfl rfl (Nat.le_of_ble_eq_true rfl) dL_law_1097 ⟨(by show _ ≤ (610331 : Nat); omega), (by show _ ≤ (7270474 : Nat); omega)⟩ (fun E1 W1 z1 => ?_) (fun r1 W1 z1 => ?_)
                            · skip
                              exact absurd (q1097.symm.trans z1.1.1) (by decide)
                            · skip
                              obtain ⟨-, z0, z1⟩ := z1
                              subst z0
                              subst z1
                              refine xr_ws (ws' := bw h a t ++ (cw yI yZ a K V2 ++ (cw yI yZ t Kt Vt ++ (zw yI yL o ba pa la ra K V2 (zA V2) ++ (([(qB, .inl (yL, refs (kNb K) rb))] : va_W) ++ (rowsW yI rb 5 (kNb K) FB ++ (([(qL, .inl (yL, refs 5 rl))] : va_W) ++ (rowsW yI rl 5 5 FL ++ (([(qN, .inl (yI, 5, .inl NX))] : va_W) ++ (([(qT, .inl (yI, 7, .inl fT))] : va_W))))))))))) (by first | (simp only [List.append_assoc, List.append_nil, List.nil_append]; done) | rfl | (simp only [List.append_assoc, List.append_nil, List.nil_append]; rfl)) ?_
                              refine xr_top (y := c_tellB K V2 e9 2) (by rw [ix_nI (n := e9) (by omega), show ix 2 = 2 from by decide]) ?_
                              refine xr_top (y := dPur V2 e9) rfl ?_
                              refine xr_aload F dL_law_1100 2 rfl ?_
                              refine xr_iconst F dL_law_1102 (v := 2) (by decide) ?_
                              refine xr_iald F (1 + (12 + (12 + (16 + (kNb K) + (1 + (e9)))))) 0 (w_skip (1) rfl (w_skip (12) rfl (w_skip (12) rfl (w_skip (16 + (kNb K)) (zw_len _ _ _ _ _ _ _ _ _ _) (w_skip (1) rfl (w_left (rowsW_get (by omega)))))))) rfl (2) rfl (by decide) (by decide) dL_law_1103 ?_
                              refine xr_top (y := dPur V e9) (hFB e9 (by omega) 2 (by omega)) ?_
                              refine xr_iload F dL_law_1104 1 rfl ?_
                              refine xr_iload F dL_law_1106 7 rfl ?_
                              refine xr_imul F (0 * (kFee K)) dL_law_1108 rfl ?_
                              refine xr_isub F ((dPur V e9) - (0 * (kFee K))) dL_law_1109 rfl ?_
                              refine xr_icmp_eq F 1115 dL_law_1110 (by decide) (fun c1110 => ?_) (fun c1110 => ?_)
                              · skip
                                refine xr_iload F dL_law_1115 1 rfl ?_
                                refine xr_iconst F dL_law_1117 (v := 1) (by decide) ?_
                                refine xr_icmp_ne F 1149 dL_law_1118 (by decide) (fun c1118 => ?_) (fun c1118 => ?_)
                                · skip
                                  refine xr_iload F dL_law_1149 5 rfl ?_
                                  refine xr_iload F dL_law_1151 1 rfl ?_
                                  refine xr_iadd F (mn + 0) dL_law_1153 rfl ?_
                                  refine xr_istore F [(26, .int (mn + 0)), (31, .int ((dAt V e9) + 0)), (30, .int 0), (29, .ref (rb e9)), (28, .int (nI e9)), (27, .int pd), (25, .int (nI tS)), (24, .int (kFee K)), (23, .int (dBank V)), (8, .ref qL), (7, .ref qB), (5, .int (nI (kNb K))), (3, .int (nI tm)), (0, .ref b), (1, .ref h), (2, .ref (o 0))] dL_law_1154 (by decide) rfl ?_
                                  refine xr_iload F dL_law_1156 5 rfl ?_
                                  refine xr_iload F dL_law_1158 2 rfl ?_
                                  refine xr_iload F dL_law_1160 7 rfl ?_
                                  refine xr_imul F (0 * (kFee K)) dL_law_1162 rfl ?_
                                  refine xr_iadd F (pd + (0 * (kFee K))) dL_law_1163 rfl ?_
                                  refine xr_istore F [(27, .int (pd + (0 * (kFee K)))), (26, .int (mn + 0)), (31, .int ((dAt V e9) + 0)), (30, .int 0), (29, .ref (rb e9)), (28, .int (nI e9)), (25, .int (nI tS)), (24, .int (kFee K)), (23, .int (dBank V)), (8, .ref qL), (7, .ref qB), (5, .int (nI (kNb K))), (3, .int (nI tm)), (0, .ref b), (1, .ref h), (2, .ref (o 0))] dL_law_1164 (by decide) rfl ?_
                                  refine xr_iinc F (nI (e9 + 1)) [(28, .int (nI (e9 + 1))), (27, .int (pd + (0 * (kFee K)))), (26, .int (mn + 0)), (31, .int ((dAt V e9) + 0)), (30, .int 0), (29, .ref (rb e9)), (25, .int (nI tS)), (24, .int (kFee K)), (23, .int (dBank V)), (8, .ref qL), (7, .ref qB), (5, .int (nI (kNb K))), (3, .int (nI tm)), (0, .ref b), (1, .ref h), (2, .ref (o 0))] dL_law_1166 5 rfl (nI_add e9 1) (by decide) rfl ?_
                                  refine xr_goto F 983 dL_law_1169 (by decide) ?_
                                  refine xr_lv (lv' := [(28, .int (nI (e9 + 1))), (27, .int (pd + (0 * (kFee K)))), (26, .int (mn + 0)), (25, .int (nI tS)), (24, .int (kFee K)), (23, .int (dBank V)), (8, .ref qL), (7, .ref qB), (5, .int (nI (kNb K))), (3, .int (nI tm)), (0, .ref b), (1, .ref h), (2, .ref (o 0))]) [0, 1, 2, 6, 7, 8, 9, 10, 11, 12, 13, 14, 15] rfl ?_
                                  refine xr_widen (k := cl + 5 * (e9 + 1)) (n := sl + 30 * (e9 + 1)) (by omega) (by omega) ?_
                                  exact ih (e9 + 1) (mn + 0) (pd + (0 * (kFee K))) (by omega) (sum_step hm (i_sub0 s3)) (by rw [hp]; grind)
                                · exact absurd c1118 (by decide)
                              · exact absurd (by rw [s2]; grind) c1110
                  · exact absurd c1057 (by decide)
          · skip
            refine xr_top (y := 1) (i_sub1 r1) ?_
            refine xr_istore F [(30, .int 1), (29, .ref (rb e9)), (28, .int (nI e9)), (27, .int pd), (26, .int mn), (25, .int (nI tS)), (24, .int (kFee K)), (23, .int (dBank V)), (8, .ref qL), (7, .ref qB), (5, .int (nI (kNb K))), (3, .int (nI tm)), (0, .ref b), (1, .ref h), (2, .ref (o 0))] dL_law_1009 (by decide) rfl ?_
            refine xr_aload F dL_law_1011 1 rfl ?_
            refine xr_iconst F dL_law_1013 (v := 0) (by decide) ?_
            refine xr_iald F (1 + (12 + (12 + (16 + (kNb K) + (1 + (e9)))))) 0 (w_skip (1) rfl (w_skip (12) rfl (w_skip (12) rfl (w_skip (16 + (kNb K)) (zw_len _ _ _ _ _ _ _ _ _ _) (w_skip (1) rfl (w_left (rowsW_get (by omega)))))))) rfl (0) rfl (by decide) (by decide) dL_law_1014 ?_
            refine xr_top (y := dAt V e9) (hFB e9 (by omega) 0 (by omega)) ?_
            refine xr_iload F dL_law_1015 0 rfl ?_
            refine xr_if_ne F 1024 dL_law_1017 (by decide) (fun c1017 => ?_) (fun c1017 => ?_)
            · skip
              refine xr_aload F dL_law_1024 1 rfl ?_
              refine xr_iconst F dL_law_1026 (v := 1) (by decide) ?_
              refine xr_iald F (1 + (12 + (12 + (16 + (kNb K) + (1 + (e9)))))) 0 (w_skip (1) rfl (w_skip (12) rfl (w_skip (12) rfl (w_skip (16 + (kNb K)) (zw_len _ _ _ _ _ _ _ _ _ _) (w_skip (1) rfl (w_left (rowsW_get (by omega)))))))) rfl (1) rfl (by decide) (by decide) dL_law_1027 ?_
              refine xr_top (y := kGoal K e9) (hFB e9 (by omega) 1 (by omega)) ?_
              refine xr_aload F dL_law_1028 1 rfl ?_
              refine xr_iconst F dL_law_1030 (v := 0) (by decide) ?_
              refine xr_iald F (1 + (12 + (12 + (16 + (kNb K) + (1 + (e9)))))) 0 (w_skip (1) rfl (w_skip (12) rfl (w_skip (12) rfl (w_skip (16 + (kNb K)) (zw_len _ _ _ _ _ _ _ _ _ _) (w_skip (1) rfl (w_left (rowsW_get (by omega)))))))) rfl (0) rfl (by decide) (by decide) dL_law_1031 ?_
              refine xr_top (y := dAt V e9) (hFB e9 (by omega) 0 (by omega)) ?_
              refine xr_icmp_ge F 1039 dL_law_1032 (by decide) (fun c1032 => ?_) (fun c1032 => ?_)
              · skip
                refine xr_iconst F dL_law_1039 (v := 1) (by decide) ?_
                refine xr_iadd F ((dAt V e9) + 1) dL_law_1040 rfl ?_
                refine xr_istore F [(31, .int ((dAt V e9) + 1)), (30, .int 1), (29, .ref (rb e9)), (28, .int (nI e9)), (27, .int pd), (26, .int mn), (25, .int (nI tS)), (24, .int (kFee K)), (23, .int (dBank V)), (8, .ref qL), (7, .ref qB), (5, .int (nI (kNb K))), (3, .int (nI tm)), (0, .ref b), (1, .ref h), (2, .ref (o 0))] dL_law_1041 (by decide) rfl ?_
                refine xr_iload F dL_law_1043 1 rfl ?_
                refine xr_if_lt F 1113 dL_law_1045 (by decide) (fun c1045 => ?_) (fun c1045 => ?_)
                · exact absurd c1045 (by decide)
                · skip
                  refine xr_iload F dL_law_1048 1 rfl ?_
                  refine xr_iconst F dL_law_1050 (v := 1) (by decide) ?_
                  refine xr_icmp_gt F 1113 dL_law_1051 (by decide) (fun c1051 => ?_) (fun c1051 => ?_)
                  · exact absurd c1051 (by decide)
                  · skip
                    refine xr_iload F dL_law_1054 1 rfl ?_
                    refine xr_iconst F dL_law_1056 (v := 1) (by decide) ?_
                    refine xr_icmp_ne F 1067 dL_law_1057 (by decide) (fun c1057 => ?_) (fun c1057 => ?_)
                    · exact absurd rfl c1057
                    · skip
                      refine xr_aload F dL_law_1060 2 rfl ?_
                      refine xr_iconst F dL_law_1062 (v := 4) (by decide) ?_
                      refine xr_iald F (1 + (12 + (12 + (16 + (kNb K) + (1 + (e9)))))) 0 (w_skip (1) rfl (w_skip (12) rfl (w_skip (12) rfl (w_skip (16 + (kNb K)) (zw_len _ _ _ _ _ _ _ _ _ _) (w_skip (1) rfl (w_left (rowsW_get (by omega)))))))) rfl (4) rfl (by decide) (by decide) dL_law_1063 ?_
                      refine xr_top (y := c_waits K V e9) (hFB e9 (by omega) 4 (by omega)) ?_
                      refine xr_if_lt F 1113 dL_law_1064 (by decide) (fun c1064 => ?_) (fun c1064 => ?_)
                      · exact absurd c1064 (by rw [r5]; exact nI_pos (by omega))
                      · skip
                        refine xr_aload_n F dL_law_1067 rfl 14 rfl ?_
                        refine xr_iload F dL_law_1068 3 rfl ?_
                        refine xr_iconst F dL_law_1070 (v := 0) (by decide) ?_
                        refine xr_ws (ws' := ([] : va_W) ++ ((bw h a t ++ (cw yI yZ a K V2)) ++ (cw yI yZ t Kt Vt ++ (zw yI yL o ba pa la ra K V2 (zA V2) ++ (([(qB, .inl (yL, refs (kNb K) rb))] : va_W) ++ (rowsW yI rb 5 (kNb K) FB ++ (([(qL, .inl (yL, refs 5 rl))] : va_W) ++ (rowsW yI rl 5 5 FL ++ (([(qN, .inl (yI, 5, .inl NX))] : va_W) ++ (([(qT, .inl (yI, 7, .inl fT))] : va_W))))))))))) (by first | (simp only [List.append_assoc, List.append_nil, List.nil_append]; done) | rfl | (simp only [List.append_assoc, List.append_nil, List.nil_append]; rfl)) ?_
                        have q1071 : q_told K (nI e9) 0 = 0 := (q_told_v (j := e9) (w := 0) hK.1 (by omega) (by decide))
                        refine xr_mcXVi F G (rest := []) (As := [.int (nI e9), .int 0]) (k_X1_told l D yI yZ yL hst h a t K V2 (nI e9) 0 hK.1) (cwV 2 F.hts gL_law_X1_told rfl rfl rfl (by decide +kernel) ⟨Nat.le_of_ble_eq_true rfl, Nat.le_of_ble_eq_true rfl⟩) (q0 := 0) rfl rfl (([] : va_W)) (cw yI yZ t Kt Vt ++ (zw yI yL o ba pa la ra K V2 (zA V2) ++ (([(qB, .inl (yL, refs (kNb K) rb))] : va_W) ++ (rowsW yI rb 5 (kNb K) FB ++ (([(qL, .inl (yL, refs 5 rl))] : va_W) ++ (rowsW yI rl 5 5 FL ++ (([(qN, .inl (yI, 5, .inl NX))] : va_W) ++ (([(qT, .inl (yI, 7, .inl fT))] : va_W))))))))) rfl rfl rfl (Nat.le_of_ble_eq_true rfl) dL_law_1071 ⟨(by show _ ≤ (610331 : Nat); omega), (by show _ ≤ (7270474 : Nat); omega)⟩ (fun E1 W1 z1 => ?_) (fun r1 W1 z1 => ?_)
                        · skip
                          exact absurd (q1071.symm.trans z1.1.1) (by decide)
                        · skip
                          obtain ⟨-, z0, z1⟩ := z1
                          subst z0
                          subst z1
                          refine xr_ws (ws' := bw h a t ++ (cw yI yZ a K V2 ++ (cw yI yZ t Kt Vt ++ (zw yI yL o ba pa la ra K V2 (zA V2) ++ (([(qB, .inl (yL, refs (kNb K) rb))] : va_W) ++ (rowsW yI rb 5 (kNb K) FB ++ (([(qL, .inl (yL, refs 5 rl))] : va_W) ++ (rowsW yI rl 5 5 FL ++ (([(qN, .inl (yI, 5, .inl NX))] : va_W) ++ (([(qT, .inl (yI, 7, .inl fT))] : va_W))))))))))) (by first | (simp only [List.append_assoc, List.append_nil, List.nil_append]; done) | rfl | (simp only [List.append_assoc, List.append_nil, List.nil_append]; rfl)) ?_
                          refine xr_top (y := c_tellB K V2 e9 0) (by rw [ix_nI (n := e9) (by omega), show ix 0 = 0 from by decide]) ?_
                          refine xr_top (y := dAt V2 e9) rfl ?_
                          refine xr_iload F dL_law_1074 0 rfl ?_
                          obtain ⟨b1, b2, b3⟩ := up_facts hk9 r5 r6 r7 c1032
                          refine xr_icmp_ne F 1113 dL_law_1076 (by decide) (fun c1076 => ?_) (fun c1076 => ?_)
                          · exact absurd b1 c1076
                          · skip
                            refine xr_aload_n F dL_law_1079 rfl 14 rfl ?_
                            refine xr_iload F dL_law_1080 3 rfl ?_
                            refine xr_iconst F dL_law_1082 (v := 1) (by decide) ?_
                            refine xr_ws (ws' := ([] : va_W) ++ ((bw h a t ++ (cw yI yZ a K V2)) ++ (cw yI yZ t Kt Vt ++ (zw yI yL o ba pa la ra K V2 (zA V2) ++ (([(qB, .inl (yL, refs (kNb K) rb))] : va_W) ++ (rowsW yI rb 5 (kNb K) FB ++ (([(qL, .inl (yL, refs 5 rl))] : va_W) ++ (rowsW yI rl 5 5 FL ++ (([(qN, .inl (yI, 5, .inl NX))] : va_W) ++ (([(qT, .inl (yI, 7, .inl fT))] : va_W))))))))))) (by first | (simp only [List.append_assoc, List.append_nil, List.nil_append]; done) | rfl | (simp only [List.append_assoc, List.append_nil, List.nil_append]; rfl)) ?_
                            have q1083 : q_told K (nI e9) 1 = 0 := (q_told_v (j := e9) (w := 1) hK.1 (by omega) (by decide))
                            refine xr_mcXVi F G (rest := []) (As := [.int (nI e9), .int 1]) (k_X1_told l D yI yZ yL hst h a t K V2 (nI e9) 1 hK.1) (cwV 2 F.hts gL_law_X1_told rfl rfl rfl (by decide +kernel) ⟨Nat.le_of_ble_eq_true rfl, Nat.le_of_ble_eq_true rfl⟩) (q0 := 0) rfl rfl (([] : va_W)) (cw yI yZ t Kt Vt ++ (zw yI yL o ba pa la ra K V2 (zA V2) ++ (([(qB, .inl (yL, refs (kNb K) rb))] : va_W) ++ (rowsW yI rb 5 (kNb K) FB ++ (([(qL, .inl (yL, refs 5 rl))] : va_W) ++ (rowsW yI rl 5 5 FL ++ (([(qN, .inl (yI, 5, .inl NX))] : va_W) ++ (([(qT, .inl (yI, 7, .inl fT))] : va_W))))))))) rfl rfl rfl (Nat.le_of_ble_eq_true rfl) dL_law_1083 ⟨(by show _ ≤ (610331 : Nat); omega), (by show _ ≤ (7270474 : Nat); omega)⟩ (fun E1 W1 z1 => ?_) (fun r1 W1 z1 => ?_)
                            · skip
                              exact absurd (q1083.symm.trans z1.1.1) (by decide)
                            · skip
                              obtain ⟨-, z0, z1⟩ := z1
                              subst z0
                              subst z1
                              refine xr_ws (ws' := bw h a t ++ (cw yI yZ a K V2 ++ (cw yI yZ t Kt Vt ++ (zw yI yL o ba pa la ra K V2 (zA V2) ++ (([(qB, .inl (yL, refs (kNb K) rb))] : va_W) ++ (rowsW yI rb 5 (kNb K) FB ++ (([(qL, .inl (yL, refs 5 rl))] : va_W) ++ (rowsW yI rl 5 5 FL ++ (([(qN, .inl (yI, 5, .inl NX))] : va_W) ++ (([(qT, .inl (yI, 7, .inl fT))] : va_W))))))))))) (by first | (simp only [List.append_assoc, List.append_nil, List.nil_append]; done) | rfl | (simp only [List.append_assoc, List.append_nil, List.nil_append]; rfl)) ?_
                              refine xr_top (y := c_tellB K V2 e9 1) (by rw [ix_nI (n := e9) (by omega), show ix 1 = 1 from by decide]) ?_
                              refine xr_top (y := kGoal K e9) rfl ?_
                              refine xr_aload F dL_law_1086 2 rfl ?_
                              refine xr_iconst F dL_law_1088 (v := 1) (by decide) ?_
                              refine xr_iald F (1 + (12 + (12 + (16 + (kNb K) + (1 + (e9)))))) 0 (w_skip (1) rfl (w_skip (12) rfl (w_skip (12) rfl (w_skip (16 + (kNb K)) (zw_len _ _ _ _ _ _ _ _ _ _) (w_skip (1) rfl (w_left (rowsW_get (by omega)))))))) rfl (1) rfl (by decide) (by decide) dL_law_1089 ?_
                              refine xr_top (y := kGoal K e9) (hFB e9 (by omega) 1 (by omega)) ?_
                              refine xr_icmp_ne F 1113 dL_law_1090 (by decide) (fun c1090 => ?_) (fun c1090 => ?_)
                              · exact absurd rfl c1090
                              · skip
                                refine xr_aload_n F dL_law_1093 rfl 14 rfl ?_
                                refine xr_iload F dL_law_1094 3 rfl ?_
                                refine xr_iconst F dL_law_1096 (v := 2) (by decide) ?_
                                refine xr_ws (ws' := ([] : va_W) ++ ((bw h a t ++ (cw yI yZ a K V2)) ++ (cw yI yZ t Kt Vt ++ (zw yI yL o ba pa la ra K V2 (zA V2) ++ (([(qB, .inl (yL, refs (kNb K) rb))] : va_W) ++ (rowsW yI rb 5 (kNb K) FB ++ (([(qL, .inl (yL, refs 5 rl))] : va_W) ++ (rowsW yI rl 5 5 FL ++ (([(qN, .inl (yI, 5, .inl NX))] : va_W) ++ (([(qT, .inl (yI, 7, .inl fT))] : va_W))))))))))) (by first | (simp only [List.append_assoc, List.append_nil, List.nil_append]; done) | rfl | (simp only [List.append_assoc, List.append_nil, List.nil_append]; rfl)) ?_
                                have q1097 : q_told K (nI e9) 2 = 0 := (q_told_v (j := e9) (w := 2) hK.1 (by omega) (by decide))
                                refine xr_mcXVi F G (rest := []) (As := [.int (nI e9), .int 2]) (k_X1_told l D yI yZ yL hst h a t K V2 (nI e9) 2 hK.1) (cwV 2 F.hts gL_law_X1_told rfl rfl rfl (by decide +kernel) ⟨Nat.le_of_ble_eq_true rfl, Nat.le_of_ble_eq_true rfl⟩) (q0 := 0) rfl rfl (([] : va_W)) (cw yI yZ t Kt Vt ++ (zw yI yL o ba pa la ra K V2 (zA V2) ++ (([(qB, .inl (yL, refs (kNb K) rb))] : va_W) ++ (rowsW yI rb 5 (kNb K) FB ++ (([(qL, .inl (yL, refs 5 rl))] : va_W) ++ (rowsW yI rl 5 5 FL ++ (([(qN, .inl (yI, 5, .inl NX))] : va_W) ++ (([(qT, .inl (yI, 7, .inl fT))] : va_W))))))))) rfl rfl rfl (Nat.le_of_ble_eq_true rfl) dL_law_1097 ⟨(by show _ ≤ (610331 : Nat); omega), (by show _ ≤ (7270474 : Nat); omega)⟩ (fun E1 W1 z1 => ?_) (fun r1 W1 z1 => ?_)
                                · skip
                                  exact absurd (q1097.symm.trans z1.1.1) (by decide)
                                · skip
                                  obtain ⟨-, z0, z1⟩ := z1
                                  subst z0
                                  subst z1
                                  refine xr_ws (ws' := bw h a t ++ (cw yI yZ a K V2 ++ (cw yI yZ t Kt Vt ++ (zw yI yL o ba pa la ra K V2 (zA V2) ++ (([(qB, .inl (yL, refs (kNb K) rb))] : va_W) ++ (rowsW yI rb 5 (kNb K) FB ++ (([(qL, .inl (yL, refs 5 rl))] : va_W) ++ (rowsW yI rl 5 5 FL ++ (([(qN, .inl (yI, 5, .inl NX))] : va_W) ++ (([(qT, .inl (yI, 7, .inl fT))] : va_W))))))))))) (by first | (simp only [List.append_assoc, List.append_nil, List.nil_append]; done) | rfl | (simp only [List.append_assoc, List.append_nil, List.nil_append]; rfl)) ?_
                                  refine xr_top (y := c_tellB K V2 e9 2) (by rw [ix_nI (n := e9) (by omega), show ix 2 = 2 from by decide]) ?_
                                  refine xr_top (y := dPur V2 e9) rfl ?_
                                  refine xr_aload F dL_law_1100 2 rfl ?_
                                  refine xr_iconst F dL_law_1102 (v := 2) (by decide) ?_
                                  refine xr_iald F (1 + (12 + (12 + (16 + (kNb K) + (1 + (e9)))))) 0 (w_skip (1) rfl (w_skip (12) rfl (w_skip (12) rfl (w_skip (16 + (kNb K)) (zw_len _ _ _ _ _ _ _ _ _ _) (w_skip (1) rfl (w_left (rowsW_get (by omega)))))))) rfl (2) rfl (by decide) (by decide) dL_law_1103 ?_
                                  refine xr_top (y := dPur V e9) (hFB e9 (by omega) 2 (by omega)) ?_
                                  refine xr_iload F dL_law_1104 1 rfl ?_
                                  refine xr_iload F dL_law_1106 7 rfl ?_
                                  refine xr_imul F (1 * (kFee K)) dL_law_1108 rfl ?_
                                  refine xr_isub F ((dPur V e9) - (1 * (kFee K))) dL_law_1109 rfl ?_
                                  refine xr_icmp_eq F 1115 dL_law_1110 (by decide) (fun c1110 => ?_) (fun c1110 => ?_)
                                  · skip
                                    refine xr_iload F dL_law_1115 1 rfl ?_
                                    refine xr_iconst F dL_law_1117 (v := 1) (by decide) ?_
                                    refine xr_icmp_ne F 1149 dL_law_1118 (by decide) (fun c1118 => ?_) (fun c1118 => ?_)
                                    · exact absurd rfl c1118
                                    · skip
                                      refine xr_aload_n F dL_law_1121 rfl 14 rfl ?_
                                      refine xr_aload F dL_law_1122 2 rfl ?_
                                      refine xr_iconst F dL_law_1124 (v := 4) (by decide) ?_
                                      refine xr_iald F (1 + (12 + (12 + (16 + (kNb K) + (1 + (e9)))))) 0 (w_skip (1) rfl (w_skip (12) rfl (w_skip (12) rfl (w_skip (16 + (kNb K)) (zw_len _ _ _ _ _ _ _ _ _ _) (w_skip (1) rfl (w_left (rowsW_get (by omega)))))))) rfl (4) rfl (by decide) (by decide) dL_law_1125 ?_
                                      refine xr_top (y := nI k9) ((hFB e9 (by omega) 4 (by omega)).trans r5) ?_
                                      refine xr_iconst F dL_law_1126 (v := 0) (by decide) ?_
                                      refine xr_ws (ws' := ([] : va_W) ++ ((bw h a t ++ (cw yI yZ a K V2)) ++ (cw yI yZ t Kt Vt ++ (zw yI yL o ba pa la ra K V2 (zA V2) ++ (([(qB, .inl (yL, refs (kNb K) rb))] : va_W) ++ (rowsW yI rb 5 (kNb K) FB ++ (([(qL, .inl (yL, refs 5 rl))] : va_W) ++ (rowsW yI rl 5 5 FL ++ (([(qN, .inl (yI, 5, .inl NX))] : va_W) ++ (([(qT, .inl (yI, 7, .inl fT))] : va_W))))))))))) (by first | (simp only [List.append_assoc, List.append_nil, List.nil_append]; done) | rfl | (simp only [List.append_assoc, List.append_nil, List.nil_append]; rfl)) ?_
                                      have q1127 : q_in2 (nI k9) 4 0 4 = 0 := (q_lock_v (j := k9) (w := 0) (by omega) (by decide))
                                      refine xr_mcXVi F G (rest := []) (As := [.int (nI k9), .int 0]) (k_X1_lock l D yI yZ yL hst h a t K V2 (nI k9) 0 hK.1) (cwV 2 F.hts gL_law_X1_lock rfl rfl rfl (by decide +kernel) ⟨Nat.le_of_ble_eq_true rfl, Nat.le_of_ble_eq_true rfl⟩) (q0 := 0) rfl rfl (([] : va_W)) (cw yI yZ t Kt Vt ++ (zw yI yL o ba pa la ra K V2 (zA V2) ++ (([(qB, .inl (yL, refs (kNb K) rb))] : va_W) ++ (rowsW yI rb 5 (kNb K) FB ++ (([(qL, .inl (yL, refs 5 rl))] : va_W) ++ (rowsW yI rl 5 5 FL ++ (([(qN, .inl (yI, 5, .inl NX))] : va_W) ++ (([(qT, .inl (yI, 7, .inl fT))] : va_W))))))))) rfl rfl rfl (Nat.le_of_ble_eq_true rfl) dL_law_1127 ⟨(by show _ ≤ (610331 : Nat); omega), (by show _ ≤ (7270474 : Nat); omega)⟩ (fun E1 W1 z1 => ?_) (fun r1 W1 z1 => ?_)
                                      · skip
                                        exact absurd (q1127.symm.trans z1.1.1) (by decide)
                                      · skip
                                        obtain ⟨-, z0, z1⟩ := z1
                                        subst z0
                                        subst z1
                                        refine xr_ws (ws' := bw h a t ++ (cw yI yZ a K V2 ++ (cw yI yZ t Kt Vt ++ (zw yI yL o ba pa la ra K V2 (zA V2) ++ (([(qB, .inl (yL, refs (kNb K) rb))] : va_W) ++ (rowsW yI rb 5 (kNb K) FB ++ (([(qL, .inl (yL, refs 5 rl))] : va_W) ++ (rowsW yI rl 5 5 FL ++ (([(qN, .inl (yI, 5, .inl NX))] : va_W) ++ (([(qT, .inl (yI, 7, .inl fT))] : va_W))))))))))) (by first | (simp only [List.append_assoc, List.append_nil, List.nil_append]; done) | rfl | (simp only [List.append_assoc, List.append_nil, List.nil_append]; rfl)) ?_
                                        refine xr_top (y := c_tellL K V2 k9 0) (by rw [ix_nI (n := k9) (by omega), show ix 0 = 0 from by decide]) ?_
                                        refine xr_top (y := dFull V2 k9) (tellL0 hV2.2.1 (by omega)) ?_
                                        refine xr_iload F dL_law_1130 0 rfl ?_
                                        refine xr_aload F dL_law_1132 2 rfl ?_
                                        refine xr_iconst F dL_law_1134 (v := 0) (by decide) ?_
                                        refine xr_iald F (1 + (12 + (12 + (16 + (kNb K) + (1 + (e9)))))) 0 (w_skip (1) rfl (w_skip (12) rfl (w_skip (12) rfl (w_skip (16 + (kNb K)) (zw_len _ _ _ _ _ _ _ _ _ _) (w_skip (1) rfl (w_left (rowsW_get (by omega)))))))) rfl (0) rfl (by decide) (by decide) dL_law_1135 ?_
                                        refine xr_top (y := dAt V e9) (hFB e9 (by omega) 0 (by omega)) ?_
                                        refine xr_icmp_ge F 1143 dL_law_1136 (by decide) (fun c1136 => ?_) (fun c1136 => ?_)
                                        · skip
                                          refine xr_iconst F dL_law_1143 (v := 1) (by decide) ?_
                                          refine xr_icmp_eq F 1149 dL_law_1144 (by decide) (fun c1144 => ?_) (fun c1144 => ?_)
                                          · skip
                                            refine xr_iload F dL_law_1149 5 rfl ?_
                                            refine xr_iload F dL_law_1151 1 rfl ?_
                                            refine xr_iadd F (mn + 1) dL_law_1153 rfl ?_
                                            refine xr_istore F [(26, .int (mn + 1)), (31, .int ((dAt V e9) + 1)), (30, .int 1), (29, .ref (rb e9)), (28, .int (nI e9)), (27, .int pd), (25, .int (nI tS)), (24, .int (kFee K)), (23, .int (dBank V)), (8, .ref qL), (7, .ref qB), (5, .int (nI (kNb K))), (3, .int (nI tm)), (0, .ref b), (1, .ref h), (2, .ref (o 0))] dL_law_1154 (by decide) rfl ?_
                                            refine xr_iload F dL_law_1156 5 rfl ?_
                                            refine xr_iload F dL_law_1158 2 rfl ?_
                                            refine xr_iload F dL_law_1160 7 rfl ?_
                                            refine xr_imul F (1 * (kFee K)) dL_law_1162 rfl ?_
                                            refine xr_iadd F (pd + (1 * (kFee K))) dL_law_1163 rfl ?_
                                            refine xr_istore F [(27, .int (pd + (1 * (kFee K)))), (26, .int (mn + 1)), (31, .int ((dAt V e9) + 1)), (30, .int 1), (29, .ref (rb e9)), (28, .int (nI e9)), (25, .int (nI tS)), (24, .int (kFee K)), (23, .int (dBank V)), (8, .ref qL), (7, .ref qB), (5, .int (nI (kNb K))), (3, .int (nI tm)), (0, .ref b), (1, .ref h), (2, .ref (o 0))] dL_law_1164 (by decide) rfl ?_
                                            refine xr_iinc F (nI (e9 + 1)) [(28, .int (nI (e9 + 1))), (27, .int (pd + (1 * (kFee K)))), (26, .int (mn + 1)), (31, .int ((dAt V e9) + 1)), (30, .int 1), (29, .ref (rb e9)), (25, .int (nI tS)), (24, .int (kFee K)), (23, .int (dBank V)), (8, .ref qL), (7, .ref qB), (5, .int (nI (kNb K))), (3, .int (nI tm)), (0, .ref b), (1, .ref h), (2, .ref (o 0))] dL_law_1166 5 rfl (nI_add e9 1) (by decide) rfl ?_
                                            refine xr_goto F 983 dL_law_1169 (by decide) ?_
                                            refine xr_lv (lv' := [(28, .int (nI (e9 + 1))), (27, .int (pd + (1 * (kFee K)))), (26, .int (mn + 1)), (25, .int (nI tS)), (24, .int (kFee K)), (23, .int (dBank V)), (8, .ref qL), (7, .ref qB), (5, .int (nI (kNb K))), (3, .int (nI tm)), (0, .ref b), (1, .ref h), (2, .ref (o 0))]) [0, 1, 2, 6, 7, 8, 9, 10, 11, 12, 13, 14, 15] rfl ?_
                                            refine xr_widen (k := cl + 5 * (e9 + 1)) (n := sl + 30 * (e9 + 1)) (by omega) (by omega) ?_
                                            exact ih (e9 + 1) (mn + 1) (pd + (1 * (kFee K))) (by omega) (sum_step hm (i_sub1 r1)) (by rw [hp]; grind)
                                          · exact absurd b2 c1144
                                        · exact absurd b3 c1136
                                  · exact absurd (by rw [r2]; grind) c1110
              · skip
                refine xr_iconst F dL_law_1035 (v := (-1)) (by decide) ?_
                refine xr_goto F 1040 dL_law_1036 (by decide) ?_
                refine xr_iadd F ((dAt V e9) + (-1)) dL_law_1040 rfl ?_
                refine xr_istore F [(31, .int ((dAt V e9) + (-1))), (30, .int 1), (29, .ref (rb e9)), (28, .int (nI e9)), (27, .int pd), (26, .int mn), (25, .int (nI tS)), (24, .int (kFee K)), (23, .int (dBank V)), (8, .ref qL), (7, .ref qB), (5, .int (nI (kNb K))), (3, .int (nI tm)), (0, .ref b), (1, .ref h), (2, .ref (o 0))] dL_law_1041 (by decide) rfl ?_
                refine xr_iload F dL_law_1043 1 rfl ?_
                refine xr_if_lt F 1113 dL_law_1045 (by decide) (fun c1045 => ?_) (fun c1045 => ?_)
                · exact absurd c1045 (by decide)
                · skip
                  refine xr_iload F dL_law_1048 1 rfl ?_
                  refine xr_iconst F dL_law_1050 (v := 1) (by decide) ?_
                  refine xr_icmp_gt F 1113 dL_law_1051 (by decide) (fun c1051 => ?_) (fun c1051 => ?_)
                  · exact absurd c1051 (by decide)
                  · skip
                    refine xr_iload F dL_law_1054 1 rfl ?_
                    refine xr_iconst F dL_law_1056 (v := 1) (by decide) ?_
                    refine xr_icmp_ne F 1067 dL_law_1057 (by decide) (fun c1057 => ?_) (fun c1057 => ?_)
                    · exact absurd rfl c1057
                    · skip
                      refine xr_aload F dL_law_1060 2 rfl ?_
                      refine xr_iconst F dL_law_1062 (v := 4) (by decide) ?_
                      refine xr_iald F (1 + (12 + (12 + (16 + (kNb K) + (1 + (e9)))))) 0 (w_skip (1) rfl (w_skip (12) rfl (w_skip (12) rfl (w_skip (16 + (kNb K)) (zw_len _ _ _ _ _ _ _ _ _ _) (w_skip (1) rfl (w_left (rowsW_get (by omega)))))))) rfl (4) rfl (by decide) (by decide) dL_law_1063 ?_
                      refine xr_top (y := c_waits K V e9) (hFB e9 (by omega) 4 (by omega)) ?_
                      refine xr_if_lt F 1113 dL_law_1064 (by decide) (fun c1064 => ?_) (fun c1064 => ?_)
                      · exact absurd c1064 (by rw [r5]; exact nI_pos (by omega))
                      · skip
                        refine xr_aload_n F dL_law_1067 rfl 14 rfl ?_
                        refine xr_iload F dL_law_1068 3 rfl ?_
                        refine xr_iconst F dL_law_1070 (v := 0) (by decide) ?_
                        refine xr_ws (ws' := ([] : va_W) ++ ((bw h a t ++ (cw yI yZ a K V2)) ++ (cw yI yZ t Kt Vt ++ (zw yI yL o ba pa la ra K V2 (zA V2) ++ (([(qB, .inl (yL, refs (kNb K) rb))] : va_W) ++ (rowsW yI rb 5 (kNb K) FB ++ (([(qL, .inl (yL, refs 5 rl))] : va_W) ++ (rowsW yI rl 5 5 FL ++ (([(qN, .inl (yI, 5, .inl NX))] : va_W) ++ (([(qT, .inl (yI, 7, .inl fT))] : va_W))))))))))) (by first | (simp only [List.append_assoc, List.append_nil, List.nil_append]; done) | rfl | (simp only [List.append_assoc, List.append_nil, List.nil_append]; rfl)) ?_
                        have q1071 : q_told K (nI e9) 0 = 0 := (q_told_v (j := e9) (w := 0) hK.1 (by omega) (by decide))
                        refine xr_mcXVi F G (rest := []) (As := [.int (nI e9), .int 0]) (k_X1_told l D yI yZ yL hst h a t K V2 (nI e9) 0 hK.1) (cwV 2 F.hts gL_law_X1_told rfl rfl rfl (by decide +kernel) ⟨Nat.le_of_ble_eq_true rfl, Nat.le_of_ble_eq_true rfl⟩) (q0 := 0) rfl rfl (([] : va_W)) (cw yI yZ t Kt Vt ++ (zw yI yL o ba pa la ra K V2 (zA V2) ++ (([(qB, .inl (yL, refs (kNb K) rb))] : va_W) ++ (rowsW yI rb 5 (kNb K) FB ++ (([(qL, .inl (yL, refs 5 rl))] : va_W) ++ (rowsW yI rl 5 5 FL ++ (([(qN, .inl (yI, 5, .inl NX))] : va_W) ++ (([(qT, .inl (yI, 7, .inl fT))] : va_W))))))))) rfl rfl rfl (Nat.le_of_ble_eq_true rfl) dL_law_1071 ⟨(by show _ ≤ (610331 : Nat); omega), (by show _ ≤ (7270474 : Nat); omega)⟩ (fun E1 W1 z1 => ?_) (fun r1 W1 z1 => ?_)
                        · skip
                          exact absurd (q1071.symm.trans z1.1.1) (by decide)
                        · skip
                          obtain ⟨-, z0, z1⟩ := z1
                          subst z0
                          subst z1
                          refine xr_ws (ws' := bw h a t ++ (cw yI yZ a K V2 ++ (cw yI yZ t Kt Vt ++ (zw yI yL o ba pa la ra K V2 (zA V2) ++ (([(qB, .inl (yL, refs (kNb K) rb))] : va_W) ++ (rowsW yI rb 5 (kNb K) FB ++ (([(qL, .inl (yL, refs 5 rl))] : va_W) ++ (rowsW yI rl 5 5 FL ++ (([(qN, .inl (yI, 5, .inl NX))] : va_W) ++ (([(qT, .inl (yI, 7, .inl fT))] : va_W))))))))))) (by first | (simp only [List.append_assoc, List.append_nil, List.nil_append]; done) | rfl | (simp only [List.append_assoc, List.append_nil, List.nil_append]; rfl)) ?_
                          refine xr_top (y := c_tellB K V2 e9 0) (by rw [ix_nI (n := e9) (by omega), show ix 0 = 0 from by decide]) ?_
                          refine xr_top (y := dAt V2 e9) rfl ?_
                          refine xr_iload F dL_law_1074 0 rfl ?_
                          obtain ⟨b1, b2, b3⟩ := dn_facts hk9 r5 r6 r7 c1032
                          refine xr_icmp_ne F 1113 dL_law_1076 (by decide) (fun c1076 => ?_) (fun c1076 => ?_)
                          · exact absurd b1 c1076
                          · skip
                            refine xr_aload_n F dL_law_1079 rfl 14 rfl ?_
                            refine xr_iload F dL_law_1080 3 rfl ?_
                            refine xr_iconst F dL_law_1082 (v := 1) (by decide) ?_
                            refine xr_ws (ws' := ([] : va_W) ++ ((bw h a t ++ (cw yI yZ a K V2)) ++ (cw yI yZ t Kt Vt ++ (zw yI yL o ba pa la ra K V2 (zA V2) ++ (([(qB, .inl (yL, refs (kNb K) rb))] : va_W) ++ (rowsW yI rb 5 (kNb K) FB ++ (([(qL, .inl (yL, refs 5 rl))] : va_W) ++ (rowsW yI rl 5 5 FL ++ (([(qN, .inl (yI, 5, .inl NX))] : va_W) ++ (([(qT, .inl (yI, 7, .inl fT))] : va_W))))))))))) (by first | (simp only [List.append_assoc, List.append_nil, List.nil_append]; done) | rfl | (simp only [List.append_assoc, List.append_nil, List.nil_append]; rfl)) ?_
                            have q1083 : q_told K (nI e9) 1 = 0 := (q_told_v (j := e9) (w := 1) hK.1 (by omega) (by decide))
                            refine xr_mcXVi F G (rest := []) (As := [.int (nI e9), .int 1]) (k_X1_told l D yI yZ yL hst h a t K V2 (nI e9) 1 hK.1) (cwV 2 F.hts gL_law_X1_told rfl rfl rfl (by decide +kernel) ⟨Nat.le_of_ble_eq_true rfl, Nat.le_of_ble_eq_true rfl⟩) (q0 := 0) rfl rfl (([] : va_W)) (cw yI yZ t Kt Vt ++ (zw yI yL o ba pa la ra K V2 (zA V2) ++ (([(qB, .inl (yL, refs (kNb K) rb))] : va_W) ++ (rowsW yI rb 5 (kNb K) FB ++ (([(qL, .inl (yL, refs 5 rl))] : va_W) ++ (rowsW yI rl 5 5 FL ++ (([(qN, .inl (yI, 5, .inl NX))] : va_W) ++ (([(qT, .inl (yI, 7, .inl fT))] : va_W))))))))) rfl rfl rfl (Nat.le_of_ble_eq_true rfl) dL_law_1083 ⟨(by show _ ≤ (610331 : Nat); omega), (by show _ ≤ (7270474 : Nat); omega)⟩ (fun E1 W1 z1 => ?_) (fun r1 W1 z1 => ?_)
                            · skip
                              exact absurd (q1083.symm.trans z1.1.1) (by decide)
                            · skip
                              obtain ⟨-, z0, z1⟩ := z1
                              subst z0
                              subst z1
                              refine xr_ws (ws' := bw h a t ++ (cw yI yZ a K V2 ++ (cw yI yZ t Kt Vt ++ (zw yI yL o ba pa la ra K V2 (zA V2) ++ (([(qB, .inl (yL, refs (kNb K) rb))] : va_W) ++ (rowsW yI rb 5 (kNb K) FB ++ (([(qL, .inl (yL, refs 5 rl))] : va_W) ++ (rowsW yI rl 5 5 FL ++ (([(qN, .inl (yI, 5, .inl NX))] : va_W) ++ (([(qT, .inl (yI, 7, .inl fT))] : va_W))))))))))) (by first | (simp only [List.append_assoc, List.append_nil, List.nil_append]; done) | rfl | (simp only [List.append_assoc, List.append_nil, List.nil_append]; rfl)) ?_
                              refine xr_top (y := c_tellB K V2 e9 1) (by rw [ix_nI (n := e9) (by omega), show ix 1 = 1 from by decide]) ?_
                              refine xr_top (y := kGoal K e9) rfl ?_
                              refine xr_aload F dL_law_1086 2 rfl ?_
                              refine xr_iconst F dL_law_1088 (v := 1) (by decide) ?_
                              refine xr_iald F (1 + (12 + (12 + (16 + (kNb K) + (1 + (e9)))))) 0 (w_skip (1) rfl (w_skip (12) rfl (w_skip (12) rfl (w_skip (16 + (kNb K)) (zw_len _ _ _ _ _ _ _ _ _ _) (w_skip (1) rfl (w_left (rowsW_get (by omega)))))))) rfl (1) rfl (by decide) (by decide) dL_law_1089 ?_
                              refine xr_top (y := kGoal K e9) (hFB e9 (by omega) 1 (by omega)) ?_
                              refine xr_icmp_ne F 1113 dL_law_1090 (by decide) (fun c1090 => ?_) (fun c1090 => ?_)
                              · exact absurd rfl c1090
                              · skip
                                refine xr_aload_n F dL_law_1093 rfl 14 rfl ?_
                                refine xr_iload F dL_law_1094 3 rfl ?_
                                refine xr_iconst F dL_law_1096 (v := 2) (by decide) ?_
                                refine xr_ws (ws' := ([] : va_W) ++ ((bw h a t ++ (cw yI yZ a K V2)) ++ (cw yI yZ t Kt Vt ++ (zw yI yL o ba pa la ra K V2 (zA V2) ++ (([(qB, .inl (yL, refs (kNb K) rb))] : va_W) ++ (rowsW yI rb 5 (kNb K) FB ++ (([(qL, .inl (yL, refs 5 rl))] : va_W) ++ (rowsW yI rl 5 5 FL ++ (([(qN, .inl (yI, 5, .inl NX))] : va_W) ++ (([(qT, .inl (yI, 7, .inl fT))] : va_W))))))))))) (by first | (simp only [List.append_assoc, List.append_nil, List.nil_append]; done) | rfl | (simp only [List.append_assoc, List.append_nil, List.nil_append]; rfl)) ?_
                                have q1097 : q_told K (nI e9) 2 = 0 := (q_told_v (j := e9) (w := 2) hK.1 (by omega) (by decide))
                                refine xr_mcXVi F G (rest := []) (As := [.int (nI e9), .int 2]) (k_X1_told l D yI yZ yL hst h a t K V2 (nI e9) 2 hK.1) (cwV 2 F.hts gL_law_X1_told rfl rfl rfl (by decide +kernel) ⟨Nat.le_of_ble_eq_true rfl, Nat.le_of_ble_eq_true rfl⟩) (q0 := 0) rfl rfl (([] : va_W)) (cw yI yZ t Kt Vt ++ (zw yI yL o ba pa la ra K V2 (zA V2) ++ (([(qB, .inl (yL, refs (kNb K) rb))] : va_W) ++ (rowsW yI rb 5 (kNb K) FB ++ (([(qL, .inl (yL, refs 5 rl))] : va_W) ++ (rowsW yI rl 5 5 FL ++ (([(qN, .inl (yI, 5, .inl NX))] : va_W) ++ (([(qT, .inl (yI, 7, .inl fT))] : va_W))))))))) rfl rfl rfl (Nat.le_of_ble_eq_true rfl) dL_law_1097 ⟨(by show _ ≤ (610331 : Nat); omega), (by show _ ≤ (7270474 : Nat); omega)⟩ (fun E1 W1 z1 => ?_) (fun r1 W1 z1 => ?_)
                                · skip
                                  exact absurd (q1097.symm.trans z1.1.1) (by decide)
                                · skip
                                  obtain ⟨-, z0, z1⟩ := z1
                                  subst z0
                                  subst z1
                                  refine xr_ws (ws' := bw h a t ++ (cw yI yZ a K V2 ++ (cw yI yZ t Kt Vt ++ (zw yI yL o ba pa la ra K V2 (zA V2) ++ (([(qB, .inl (yL, refs (kNb K) rb))] : va_W) ++ (rowsW yI rb 5 (kNb K) FB ++ (([(qL, .inl (yL, refs 5 rl))] : va_W) ++ (rowsW yI rl 5 5 FL ++ (([(qN, .inl (yI, 5, .inl NX))] : va_W) ++ (([(qT, .inl (yI, 7, .inl fT))] : va_W))))))))))) (by first | (simp only [List.append_assoc, List.append_nil, List.nil_append]; done) | rfl | (simp only [List.append_assoc, List.append_nil, List.nil_append]; rfl)) ?_
                                  refine xr_top (y := c_tellB K V2 e9 2) (by rw [ix_nI (n := e9) (by omega), show ix 2 = 2 from by decide]) ?_
                                  refine xr_top (y := dPur V2 e9) rfl ?_
                                  refine xr_aload F dL_law_1100 2 rfl ?_
                                  refine xr_iconst F dL_law_1102 (v := 2) (by decide) ?_
                                  refine xr_iald F (1 + (12 + (12 + (16 + (kNb K) + (1 + (e9)))))) 0 (w_skip (1) rfl (w_skip (12) rfl (w_skip (12) rfl (w_skip (16 + (kNb K)) (zw_len _ _ _ _ _ _ _ _ _ _) (w_skip (1) rfl (w_left (rowsW_get (by omega)))))))) rfl (2) rfl (by decide) (by decide) dL_law_1103 ?_
                                  refine xr_top (y := dPur V e9) (hFB e9 (by omega) 2 (by omega)) ?_
                                  refine xr_iload F dL_law_1104 1 rfl ?_
                                  refine xr_iload F dL_law_1106 7 rfl ?_
                                  refine xr_imul F (1 * (kFee K)) dL_law_1108 rfl ?_
                                  refine xr_isub F ((dPur V e9) - (1 * (kFee K))) dL_law_1109 rfl ?_
                                  refine xr_icmp_eq F 1115 dL_law_1110 (by decide) (fun c1110 => ?_) (fun c1110 => ?_)
                                  · skip
                                    refine xr_iload F dL_law_1115 1 rfl ?_
                                    refine xr_iconst F dL_law_1117 (v := 1) (by decide) ?_
                                    refine xr_icmp_ne F 1149 dL_law_1118 (by decide) (fun c1118 => ?_) (fun c1118 => ?_)
                                    · exact absurd rfl c1118
                                    · skip
                                      refine xr_aload_n F dL_law_1121 rfl 14 rfl ?_
                                      refine xr_aload F dL_law_1122 2 rfl ?_
                                      refine xr_iconst F dL_law_1124 (v := 4) (by decide) ?_
                                      refine xr_iald F (1 + (12 + (12 + (16 + (kNb K) + (1 + (e9)))))) 0 (w_skip (1) rfl (w_skip (12) rfl (w_skip (12) rfl (w_skip (16 + (kNb K)) (zw_len _ _ _ _ _ _ _ _ _ _) (w_skip (1) rfl (w_left (rowsW_get (by omega)))))))) rfl (4) rfl (by decide) (by decide) dL_law_1125 ?_
                                      refine xr_top (y := nI k9) ((hFB e9 (by omega) 4 (by omega)).trans r5) ?_
                                      refine xr_iconst F dL_law_1126 (v := 0) (by decide) ?_
                                      refine xr_ws (ws' := ([] : va_W) ++ ((bw h a t ++ (cw yI yZ a K V2)) ++ (cw yI yZ t Kt Vt ++ (zw yI yL o ba pa la ra K V2 (zA V2) ++ (([(qB, .inl (yL, refs (kNb K) rb))] : va_W) ++ (rowsW yI rb 5 (kNb K) FB ++ (([(qL, .inl (yL, refs 5 rl))] : va_W) ++ (rowsW yI rl 5 5 FL ++ (([(qN, .inl (yI, 5, .inl NX))] : va_W) ++ (([(qT, .inl (yI, 7, .inl fT))] : va_W))))))))))) (by first | (simp only [List.append_assoc, List.append_nil, List.nil_append]; done) | rfl | (simp only [List.append_assoc, List.append_nil, List.nil_append]; rfl)) ?_
                                      have q1127 : q_in2 (nI k9) 4 0 4 = 0 := (q_lock_v (j := k9) (w := 0) (by omega) (by decide))
                                      refine xr_mcXVi F G (rest := []) (As := [.int (nI k9), .int 0]) (k_X1_lock l D yI yZ yL hst h a t K V2 (nI k9) 0 hK.1) (cwV 2 F.hts gL_law_X1_lock rfl rfl rfl (by decide +kernel) ⟨Nat.le_of_ble_eq_true rfl, Nat.le_of_ble_eq_true rfl⟩) (q0 := 0) rfl rfl (([] : va_W)) (cw yI yZ t Kt Vt ++ (zw yI yL o ba pa la ra K V2 (zA V2) ++ (([(qB, .inl (yL, refs (kNb K) rb))] : va_W) ++ (rowsW yI rb 5 (kNb K) FB ++ (([(qL, .inl (yL, refs 5 rl))] : va_W) ++ (rowsW yI rl 5 5 FL ++ (([(qN, .inl (yI, 5, .inl NX))] : va_W) ++ (([(qT, .inl (yI, 7, .inl fT))] : va_W))))))))) rfl rfl rfl (Nat.le_of_ble_eq_true rfl) dL_law_1127 ⟨(by show _ ≤ (610331 : Nat); omega), (by show _ ≤ (7270474 : Nat); omega)⟩ (fun E1 W1 z1 => ?_) (fun r1 W1 z1 => ?_)
                                      · skip
                                        exact absurd (q1127.symm.trans z1.1.1) (by decide)
                                      · skip
                                        obtain ⟨-, z0, z1⟩ := z1
                                        subst z0
                                        subst z1
                                        refine xr_ws (ws' := bw h a t ++ (cw yI yZ a K V2 ++ (cw yI yZ t Kt Vt ++ (zw yI yL o ba pa la ra K V2 (zA V2) ++ (([(qB, .inl (yL, refs (kNb K) rb))] : va_W) ++ (rowsW yI rb 5 (kNb K) FB ++ (([(qL, .inl (yL, refs 5 rl))] : va_W) ++ (rowsW yI rl 5 5 FL ++ (([(qN, .inl (yI, 5, .inl NX))] : va_W) ++ (([(qT, .inl (yI, 7, .inl fT))] : va_W))))))))))) (by first | (simp only [List.append_assoc, List.append_nil, List.nil_append]; done) | rfl | (simp only [List.append_assoc, List.append_nil, List.nil_append]; rfl)) ?_
                                        refine xr_top (y := c_tellL K V2 k9 0) (by rw [ix_nI (n := k9) (by omega), show ix 0 = 0 from by decide]) ?_
                                        refine xr_top (y := dFull V2 k9) (tellL0 hV2.2.1 (by omega)) ?_
                                        refine xr_iload F dL_law_1130 0 rfl ?_
                                        refine xr_aload F dL_law_1132 2 rfl ?_
                                        refine xr_iconst F dL_law_1134 (v := 0) (by decide) ?_
                                        refine xr_iald F (1 + (12 + (12 + (16 + (kNb K) + (1 + (e9)))))) 0 (w_skip (1) rfl (w_skip (12) rfl (w_skip (12) rfl (w_skip (16 + (kNb K)) (zw_len _ _ _ _ _ _ _ _ _ _) (w_skip (1) rfl (w_left (rowsW_get (by omega)))))))) rfl (0) rfl (by decide) (by decide) dL_law_1135 ?_
                                        refine xr_top (y := dAt V e9) (hFB e9 (by omega) 0 (by omega)) ?_
                                        refine xr_icmp_ge F 1143 dL_law_1136 (by decide) (fun c1136 => ?_) (fun c1136 => ?_)
                                        · exact absurd c1136 b3
                                        · skip
                                          refine xr_iconst F dL_law_1139 (v := 0) (by decide) ?_
                                          refine xr_goto F 1144 dL_law_1140 (by decide) ?_
                                          refine xr_icmp_eq F 1149 dL_law_1144 (by decide) (fun c1144 => ?_) (fun c1144 => ?_)
                                          · skip
                                            refine xr_iload F dL_law_1149 5 rfl ?_
                                            refine xr_iload F dL_law_1151 1 rfl ?_
                                            refine xr_iadd F (mn + 1) dL_law_1153 rfl ?_
                                            refine xr_istore F [(26, .int (mn + 1)), (31, .int ((dAt V e9) + (-1))), (30, .int 1), (29, .ref (rb e9)), (28, .int (nI e9)), (27, .int pd), (25, .int (nI tS)), (24, .int (kFee K)), (23, .int (dBank V)), (8, .ref qL), (7, .ref qB), (5, .int (nI (kNb K))), (3, .int (nI tm)), (0, .ref b), (1, .ref h), (2, .ref (o 0))] dL_law_1154 (by decide) rfl ?_
                                            refine xr_iload F dL_law_1156 5 rfl ?_
                                            refine xr_iload F dL_law_1158 2 rfl ?_
                                            refine xr_iload F dL_law_1160 7 rfl ?_
                                            refine xr_imul F (1 * (kFee K)) dL_law_1162 rfl ?_
                                            refine xr_iadd F (pd + (1 * (kFee K))) dL_law_1163 rfl ?_
                                            refine xr_istore F [(27, .int (pd + (1 * (kFee K)))), (26, .int (mn + 1)), (31, .int ((dAt V e9) + (-1))), (30, .int 1), (29, .ref (rb e9)), (28, .int (nI e9)), (25, .int (nI tS)), (24, .int (kFee K)), (23, .int (dBank V)), (8, .ref qL), (7, .ref qB), (5, .int (nI (kNb K))), (3, .int (nI tm)), (0, .ref b), (1, .ref h), (2, .ref (o 0))] dL_law_1164 (by decide) rfl ?_
                                            refine xr_iinc F (nI (e9 + 1)) [(28, .int (nI (e9 + 1))), (27, .int (pd + (1 * (kFee K)))), (26, .int (mn + 1)), (31, .int ((dAt V e9) + (-1))), (30, .int 1), (29, .ref (rb e9)), (25, .int (nI tS)), (24, .int (kFee K)), (23, .int (dBank V)), (8, .ref qL), (7, .ref qB), (5, .int (nI (kNb K))), (3, .int (nI tm)), (0, .ref b), (1, .ref h), (2, .ref (o 0))] dL_law_1166 5 rfl (nI_add e9 1) (by decide) rfl ?_
                                            refine xr_goto F 983 dL_law_1169 (by decide) ?_
                                            refine xr_lv (lv' := [(28, .int (nI (e9 + 1))), (27, .int (pd + (1 * (kFee K)))), (26, .int (mn + 1)), (25, .int (nI tS)), (24, .int (kFee K)), (23, .int (dBank V)), (8, .ref qL), (7, .ref qB), (5, .int (nI (kNb K))), (3, .int (nI tm)), (0, .ref b), (1, .ref h), (2, .ref (o 0))]) [0, 1, 2, 6, 7, 8, 9, 10, 11, 12, 13, 14, 15] rfl ?_
                                            refine xr_widen (k := cl + 5 * (e9 + 1)) (n := sl + 30 * (e9 + 1)) (by omega) (by omega) ?_
                                            exact ih (e9 + 1) (mn + 1) (pd + (1 * (kFee K))) (by omega) (sum_step hm (i_sub1 r1)) (by rw [hp]; grind)
                                          · exact absurd b2 c1144
                                  · exact absurd (by rw [r2]; grind) c1110
            · exact absurd c1017 (by decide)
  refine xr_lv (lv' := [(28, .int 0), (27, .int 0), (26, .int 0), (25, .int (nI tS)), (24, .int (kFee K)), (23, .int (dBank V)), (8, .ref qL), (7, .ref qB), (5, .int (nI (kNb K))), (3, .int (nI tm)), (0, .ref b), (1, .ref h), (2, .ref (o 0))]) [0, 1, 2, 3, 4, 5, 6, 7, 8, 9, 10, 11, 12] rfl ?_
  refine xr_widen (k := cl + 5 * 0) (n := sl + 30 * 0) (by omega) (by omega) ?_
  exact lp (kNb K) 0 0 0 (by omega) (ser_sum hA) (by grind)
