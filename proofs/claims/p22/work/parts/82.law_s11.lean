set_option maxHeartbeats 4000000 in
set_option maxRecDepth 100000 in
/-- the locks: 1172 to 1303 -/
theorem law_S11 {p : Program} {e : Env} {s : State} {m : MethodId} {below : List Frame} {meth : Method} {c : Code} {l : Launch} (hst : l.stackTraces = false) {b L : Nat} {xs : Nat → Int32} (hL : L ≤ 260) {D : va_G} {yI yZ yL : ClassId} {A : Nat → Prop} {Q : State → Prop} (F : XF p s m #[Value.ref b] c cL_law 32 wsL_law R_law D (tysG yI yZ yL) A) (G : XG l s meth A) (hX : va_X b L xs s s.heap) (hbl : b < s.heap.size) (hbA : ¬ A b) {h : Nat} {a t o : Nat → Nat} {ba : Nat} {pa la ra : Nat → Nat} {K : CK} {V : CD} {Kt : CK} {Vt : CD} {N tm : Nat} (htm : tm < 45) (hN : N < 50000) (hK : okK K) (hV : okV K V N) (hh : dHour V ≤ 100) {qB qL qN : Nat} {rb rl : Nat → Nat} {FB FL : Nat → Nat → Int32} {NX : Nat → Int32} {qT : Nat} {fT : Nat → Int32} {V2 : CD} {tS uS : Nat} (hA : hrAll K V V2 tS uS) (hV2 : okV K V2 (N + 1)) (hh2 : dHour V2 ≤ 101) (hFL : ∀ b9, b9 < 5 → ∀ w9, w9 < 5 → FL b9 w9 = c_tellL K V b9 w9) (cl sl : Nat) (hcl : cl + 100 ≤ 610331) (hsl : sl + 1000 ≤ 7270474) (kk : ∀ (by9 : Int32) (hm : by9 = nI tS), AW p l e room_1 s m #[Value.ref b] below meth c 32 D A (cl + 100) (sl + 1000) Q (bw h a t ++ (cw yI yZ a K V2 ++ (cw yI yZ t Kt Vt ++ (zw yI yL o ba pa la ra K V2 (zA V2) ++ (([(qB, .inl (yL, refs (kNb K) rb))] : va_W) ++ (rowsW yI rb 5 (kNb K) FB ++ (([(qL, .inl (yL, refs 5 rl))] : va_W) ++ (rowsW yI rl 5 5 FL ++ (([(qN, .inl (yI, 5, .inl NX))] : va_W) ++ (([(qT, .inl (yI, 7, .inl fT))] : va_W))))))))))) [(28, .int by9), (27, .int (nI tS * kFee K)), (26, .int (nI tS)), (25, .int (nI tS)), (23, .int (dBank V)), (3, .int (nI tm)), (0, .ref b), (1, .ref h), (2, .ref (o 0))] 1303 []) : AW p l e room_1 s m #[Value.ref b] below meth c 32 D A cl sl Q (bw h a t ++ (cw yI yZ a K V2 ++ (cw yI yZ t Kt Vt ++ (zw yI yL o ba pa la ra K V2 (zA V2) ++ (([(qB, .inl (yL, refs (kNb K) rb))] : va_W) ++ (rowsW yI rb 5 (kNb K) FB ++ (([(qL, .inl (yL, refs 5 rl))] : va_W) ++ (rowsW yI rl 5 5 FL ++ (([(qN, .inl (yI, 5, .inl NX))] : va_W) ++ (([(qT, .inl (yI, 7, .inl fT))] : va_W))))))))))) [(27, .int (nI tS * kFee K)), (26, .int (nI tS)), (25, .int (nI tS)), (23, .int (dBank V)), (8, .ref qL), (3, .int (nI tm)), (0, .ref b), (1, .ref h), (2, .ref (o 0))] 1172 [] := by
  have k1 : kNb K ≤ 10 := hK.1
  show AW p l e room_1 s m #[Value.ref b] below meth c 32 D A cl sl Q (bw h a t ++ (cw yI yZ a K V2 ++ (cw yI yZ t Kt Vt ++ (zw yI yL o ba pa la ra K V2 (zA V2) ++ (([(qB, .inl (yL, refs (kNb K) rb))] : va_W) ++ (rowsW yI rb 5 (kNb K) FB ++ (([(qL, .inl (yL, refs 5 rl))] : va_W) ++ (rowsW yI rl 5 5 FL ++ (([(qN, .inl (yI, 5, .inl NX))] : va_W) ++ (([(qT, .inl (yI, 7, .inl fT))] : va_W))))))))))) [(27, .int (nI tS * kFee K)), (26, .int (nI tS)), (25, .int (nI tS)), (23, .int (dBank V)), (8, .ref qL), (3, .int (nI tm)), (0, .ref b), (1, .ref h), (2, .ref (o 0))] 1172 []
  refine xr_iconst F dL_law_1172 (v := 0) (by decide) ?_
  refine xr_istore F [(28, .int 0), (27, .int (nI tS * kFee K)), (26, .int (nI tS)), (25, .int (nI tS)), (23, .int (dBank V)), (8, .ref qL), (3, .int (nI tm)), (0, .ref b), (1, .ref h), (2, .ref (o 0))] dL_law_1173 (by decide) rfl ?_
  refine xr_iconst F dL_law_1175 (v := 0) (by decide) ?_
  refine xr_istore F [(29, .int 0), (28, .int 0), (27, .int (nI tS * kFee K)), (26, .int (nI tS)), (25, .int (nI tS)), (23, .int (dBank V)), (8, .ref qL), (3, .int (nI tm)), (0, .ref b), (1, .ref h), (2, .ref (o 0))] dL_law_1176 (by decide) rfl ?_
  have lp : ∀ (i : Nat) (e9 : Nat) (by9 : Int32), i + e9 = 5 → c_sumL (fun b9 => dLock V2 b9 - dLock V b9) i e9 by9 = nI tS → AW p l e room_1 s m #[Value.ref b] below meth c 32 D A (cl + 5 * e9) (sl + 30 * e9) Q (bw h a t ++ (cw yI yZ a K V2 ++ (cw yI yZ t Kt Vt ++ (zw yI yL o ba pa la ra K V2 (zA V2) ++ (([(qB, .inl (yL, refs (kNb K) rb))] : va_W) ++ (rowsW yI rb 5 (kNb K) FB ++ (([(qL, .inl (yL, refs 5 rl))] : va_W) ++ (rowsW yI rl 5 5 FL ++ (([(qN, .inl (yI, 5, .inl NX))] : va_W) ++ (([(qT, .inl (yI, 7, .inl fT))] : va_W))))))))))) [(29, .int (nI e9)), (28, .int by9), (27, .int (nI tS * kFee K)), (26, .int (nI tS)), (25, .int (nI tS)), (23, .int (dBank V)), (8, .ref qL), (3, .int (nI tm)), (0, .ref b), (1, .ref h), (2, .ref (o 0))] 1178 [] := by
    intro i
    induction i with
    | zero =>
      intro e9 by9 hb hm
      refine xr_iload F dL_law_1178 0 rfl ?_
      refine xr_iconst F dL_law_1180 (v := 5) (by decide) ?_
      refine xr_icmp_ge F 1303 dL_law_1181 (by decide) (fun c1181 => ?_) (fun c1181 => ?_)
      · skip
        refine xr_lv (lv' := [(28, .int by9), (27, .int (nI tS * kFee K)), (26, .int (nI tS)), (25, .int (nI tS)), (23, .int (dBank V)), (3, .int (nI tm)), (0, .ref b), (1, .ref h), (2, .ref (o 0))]) [1, 2, 3, 4, 5, 7, 8, 9, 10] rfl ?_
        refine xr_widen (k := cl + 100) (n := sl + 1000) (by omega) (by omega) ?_
        exact kk by9 hm
      · exact (xk_ge (a := 5) (b := e9) (by omega) (by omega) c1181).elim
    | succ i ih =>
      intro e9 by9 hb hm
      refine xr_iload F dL_law_1178 0 rfl ?_
      refine xr_iconst F dL_law_1180 (v := 5) (by decide) ?_
      refine xr_icmp_ge F 1303 dL_law_1181 (by decide) (fun c1181 => ?_) (fun c1181 => ?_)
      · exact (xk_nlt (a := e9) (b := 5) (by omega) (by omega) (by omega) c1181).elim
      · skip
        refine xr_aload_n F dL_law_1184 rfl 9 rfl ?_
        refine xr_iload F dL_law_1185 0 rfl ?_
        refine xr_iconst F dL_law_1187 (v := 2) (by decide) ?_
        refine xr_ws (ws' := ([] : va_W) ++ ((bw h a t ++ (cw yI yZ a K V2)) ++ (cw yI yZ t Kt Vt ++ (zw yI yL o ba pa la ra K V2 (zA V2) ++ (([(qB, .inl (yL, refs (kNb K) rb))] : va_W) ++ (rowsW yI rb 5 (kNb K) FB ++ (([(qL, .inl (yL, refs 5 rl))] : va_W) ++ (rowsW yI rl 5 5 FL ++ (([(qN, .inl (yI, 5, .inl NX))] : va_W) ++ (([(qT, .inl (yI, 7, .inl fT))] : va_W))))))))))) (by first | (simp only [List.append_assoc, List.append_nil, List.nil_append]; done) | rfl | (simp only [List.append_assoc, List.append_nil, List.nil_append]; rfl)) ?_
        have q1188 : q_in2 (nI e9) 4 2 4 = 0 := (q_lock_v (j := e9) (w := 2) (by omega) (by decide))
        refine xr_mcXVi F G (rest := []) (As := [.int (nI e9), .int 2]) (k_X1_lock l D yI yZ yL hst h a t K V2 (nI e9) 2 hK.1) (cwV 2 F.hts gL_law_X1_lock rfl rfl rfl (by decide +kernel) ⟨Nat.le_of_ble_eq_true rfl, Nat.le_of_ble_eq_true rfl⟩) (q0 := 0) rfl rfl (([] : va_W)) (cw yI yZ t Kt Vt ++ (zw yI yL o ba pa la ra K V2 (zA V2) ++ (([(qB, .inl (yL, refs (kNb K) rb))] : va_W) ++ (rowsW yI rb 5 (kNb K) FB ++ (([(qL, .inl (yL, refs 5 rl))] : va_W) ++ (rowsW yI rl 5 5 FL ++ (([(qN, .inl (yI, 5, .inl NX))] : va_W) ++ (([(qT, .inl (yI, 7, .inl fT))] : va_W))))))))) rfl rfl rfl (Nat.le_of_ble_eq_true rfl) dL_law_1188 ⟨(by show _ ≤ (610331 : Nat); omega), (by show _ ≤ (7270474 : Nat); omega)⟩ (fun E1 W1 z1 => ?_) (fun r1 W1 z1 => ?_)
        · skip
          exact absurd (q1188.symm.trans z1.1.1) (by decide)
        · skip
          obtain ⟨-, z0, z1⟩ := z1
          subst z0
          subst z1
          refine xr_ws (ws' := bw h a t ++ (cw yI yZ a K V2 ++ (cw yI yZ t Kt Vt ++ (zw yI yL o ba pa la ra K V2 (zA V2) ++ (([(qB, .inl (yL, refs (kNb K) rb))] : va_W) ++ (rowsW yI rb 5 (kNb K) FB ++ (([(qL, .inl (yL, refs 5 rl))] : va_W) ++ (rowsW yI rl 5 5 FL ++ (([(qN, .inl (yI, 5, .inl NX))] : va_W) ++ (([(qT, .inl (yI, 7, .inl fT))] : va_W))))))))))) (by first | (simp only [List.append_assoc, List.append_nil, List.nil_append]; done) | rfl | (simp only [List.append_assoc, List.append_nil, List.nil_append]; rfl)) ?_
          refine xr_top (y := c_tellL K V2 e9 2) (by rw [ix_nI (n := e9) (by omega), show ix 2 = 2 from by decide]) ?_
          refine xr_top (y := dLock V2 e9) rfl ?_
          refine xr_aload F dL_law_1191 6 rfl ?_
          refine xr_iload F dL_law_1193 0 rfl ?_
          refine xr_aald F (1 + (12 + (12 + (16 + (kNb K) + (1 + (kNb K + (0))))))) 2 (w_skip (1) rfl (w_skip (12) rfl (w_skip (12) rfl (w_skip (16 + (kNb K)) (zw_len _ _ _ _ _ _ _ _ _ _) (w_skip (1) rfl (w_skip (kNb K) (rowsW_len _ _ _ _ _) (w_left rfl))))))) rfl rfl (e9) rfl (by omega) (by decide) dL_law_1195 ?_
          refine xr_iconst F dL_law_1196 (v := 2) (by decide) ?_
          refine xr_iald F (1 + (12 + (12 + (16 + (kNb K) + (1 + (kNb K + (1 + (e9)))))))) 0 (w_skip (1) rfl (w_skip (12) rfl (w_skip (12) rfl (w_skip (16 + (kNb K)) (zw_len _ _ _ _ _ _ _ _ _ _) (w_skip (1) rfl (w_skip (kNb K) (rowsW_len _ _ _ _ _) (w_skip (1) rfl (w_left (rowsW_get (by omega)))))))))) rfl (2) rfl (by decide) (by decide) dL_law_1197 ?_
          refine xr_top (y := dLock V e9) (hFL e9 (by omega) 2 (by omega)) ?_
          refine xr_isub F ((dLock V2 e9) - (dLock V e9)) dL_law_1198 rfl ?_
          rcases hA.2.2.2.2.2.2.1 e9 (by omega) with ⟨l1, l2, l3⟩ | ⟨l1, l2⟩
          · skip
            obtain ⟨f1, f2⟩ := fill_facts (by omega) hV (show e9 < 5 by omega) (Or.inl l3)
            refine xr_top (y := 0) (i_sub0 l1) ?_
            refine xr_istore F [(30, .int 0), (29, .int (nI e9)), (28, .int by9), (27, .int (nI tS * kFee K)), (26, .int (nI tS)), (25, .int (nI tS)), (23, .int (dBank V)), (8, .ref qL), (3, .int (nI tm)), (0, .ref b), (1, .ref h), (2, .ref (o 0))] dL_law_1199 (by decide) rfl ?_
            refine xr_iload F dL_law_1201 0 rfl ?_
            refine xr_if_lt F 1288 dL_law_1203 (by decide) (fun c1203 => ?_) (fun c1203 => ?_)
            · exact absurd c1203 (by decide)
            · skip
              refine xr_iload F dL_law_1206 0 rfl ?_
              refine xr_iconst F dL_law_1208 (v := 1) (by decide) ?_
              refine xr_icmp_gt F 1288 dL_law_1209 (by decide) (fun c1209 => ?_) (fun c1209 => ?_)
              · exact absurd c1209 (by decide)
              · skip
                refine xr_iload F dL_law_1212 0 rfl ?_
                refine xr_if_ne F 1251 dL_law_1214 (by decide) (fun c1214 => ?_) (fun c1214 => ?_)
                · exact absurd rfl c1214
                · skip
                  refine xr_aload_n F dL_law_1217 rfl 10 rfl ?_
                  refine xr_iload F dL_law_1218 1 rfl ?_
                  refine xr_iconst F dL_law_1220 (v := 0) (by decide) ?_
                  refine xr_ws (ws' := ([] : va_W) ++ ((bw h a t ++ (cw yI yZ a K V2)) ++ (cw yI yZ t Kt Vt ++ (zw yI yL o ba pa la ra K V2 (zA V2) ++ (([(qB, .inl (yL, refs (kNb K) rb))] : va_W) ++ (rowsW yI rb 5 (kNb K) FB ++ (([(qL, .inl (yL, refs 5 rl))] : va_W) ++ (rowsW yI rl 5 5 FL ++ (([(qN, .inl (yI, 5, .inl NX))] : va_W) ++ (([(qT, .inl (yI, 7, .inl fT))] : va_W))))))))))) (by first | (simp only [List.append_assoc, List.append_nil, List.nil_append]; done) | rfl | (simp only [List.append_assoc, List.append_nil, List.nil_append]; rfl)) ?_
                  have q1221 : q_in2 (nI e9) 4 0 4 = 0 := (q_lock_v (j := e9) (w := 0) (by omega) (by decide))
                  refine xr_mcXVi F G (rest := []) (As := [.int (nI e9), .int 0]) (k_X1_lock l D yI yZ yL hst h a t K V2 (nI e9) 0 hK.1) (cwV 2 F.hts gL_law_X1_lock rfl rfl rfl (by decide +kernel) ⟨Nat.le_of_ble_eq_true rfl, Nat.le_of_ble_eq_true rfl⟩) (q0 := 0) rfl rfl (([] : va_W)) (cw yI yZ t Kt Vt ++ (zw yI yL o ba pa la ra K V2 (zA V2) ++ (([(qB, .inl (yL, refs (kNb K) rb))] : va_W) ++ (rowsW yI rb 5 (kNb K) FB ++ (([(qL, .inl (yL, refs 5 rl))] : va_W) ++ (rowsW yI rl 5 5 FL ++ (([(qN, .inl (yI, 5, .inl NX))] : va_W) ++ (([(qT, .inl (yI, 7, .inl fT))] : va_W))))))))) rfl rfl rfl (Nat.le_of_ble_eq_true rfl) dL_law_1221 ⟨(by show _ ≤ (610331 : Nat); omega), (by show _ ≤ (7270474 : Nat); omega)⟩ (fun E1 W1 z1 => ?_) (fun r1 W1 z1 => ?_)
                  · skip
                    exact absurd (q1221.symm.trans z1.1.1) (by decide)
                  · skip
                    obtain ⟨-, z0, z1⟩ := z1
                    subst z0
                    subst z1
                    refine xr_ws (ws' := bw h a t ++ (cw yI yZ a K V2 ++ (cw yI yZ t Kt Vt ++ (zw yI yL o ba pa la ra K V2 (zA V2) ++ (([(qB, .inl (yL, refs (kNb K) rb))] : va_W) ++ (rowsW yI rb 5 (kNb K) FB ++ (([(qL, .inl (yL, refs 5 rl))] : va_W) ++ (rowsW yI rl 5 5 FL ++ (([(qN, .inl (yI, 5, .inl NX))] : va_W) ++ (([(qT, .inl (yI, 7, .inl fT))] : va_W))))))))))) (by first | (simp only [List.append_assoc, List.append_nil, List.nil_append]; done) | rfl | (simp only [List.append_assoc, List.append_nil, List.nil_append]; rfl)) ?_
                    refine xr_top (y := c_tellL K V2 e9 0) (by rw [ix_nI (n := e9) (by omega), show ix 0 = 0 from by decide]) ?_
                    refine xr_top (y := dFull V2 e9) (tellL0 hV2.2.1 (by omega)) ?_
                    refine xr_aload F dL_law_1224 7 rfl ?_
                    refine xr_iload F dL_law_1226 1 rfl ?_
                    refine xr_aald F (1 + (12 + (12 + (16 + (kNb K) + (1 + (kNb K + (0))))))) 2 (w_skip (1) rfl (w_skip (12) rfl (w_skip (12) rfl (w_skip (16 + (kNb K)) (zw_len _ _ _ _ _ _ _ _ _ _) (w_skip (1) rfl (w_skip (kNb K) (rowsW_len _ _ _ _ _) (w_left rfl))))))) rfl rfl (e9) rfl (by omega) (by decide) dL_law_1228 ?_
                    refine xr_iconst F dL_law_1229 (v := 0) (by decide) ?_
                    refine xr_iald F (1 + (12 + (12 + (16 + (kNb K) + (1 + (kNb K + (1 + (e9)))))))) 0 (w_skip (1) rfl (w_skip (12) rfl (w_skip (12) rfl (w_skip (16 + (kNb K)) (zw_len _ _ _ _ _ _ _ _ _ _) (w_skip (1) rfl (w_skip (kNb K) (rowsW_len _ _ _ _ _) (w_skip (1) rfl (w_left (rowsW_get (by omega)))))))))) rfl (0) rfl (by decide) (by decide) dL_law_1230 ?_
                    refine xr_top (y := dFull V e9) ((hFL e9 (by omega) 0 (by omega)).trans (tellL0 hV.2.1 (by omega))) ?_
                    refine xr_icmp_ne F 1288 dL_law_1231 (by decide) (fun c1231 => ?_) (fun c1231 => ?_)
                    · exact absurd l2 c1231
                    · skip
                      refine xr_aload_n F dL_law_1234 rfl 10 rfl ?_
                      refine xr_iload F dL_law_1235 1 rfl ?_
                      refine xr_iconst F dL_law_1237 (v := 3) (by decide) ?_
                      refine xr_ws (ws' := ([] : va_W) ++ ((bw h a t ++ (cw yI yZ a K V2)) ++ (cw yI yZ t Kt Vt ++ (zw yI yL o ba pa la ra K V2 (zA V2) ++ (([(qB, .inl (yL, refs (kNb K) rb))] : va_W) ++ (rowsW yI rb 5 (kNb K) FB ++ (([(qL, .inl (yL, refs 5 rl))] : va_W) ++ (rowsW yI rl 5 5 FL ++ (([(qN, .inl (yI, 5, .inl NX))] : va_W) ++ (([(qT, .inl (yI, 7, .inl fT))] : va_W))))))))))) (by first | (simp only [List.append_assoc, List.append_nil, List.nil_append]; done) | rfl | (simp only [List.append_assoc, List.append_nil, List.nil_append]; rfl)) ?_
                      have q1238 : q_in2 (nI e9) 4 3 4 = 0 := (q_lock_v (j := e9) (w := 3) (by omega) (by decide))
                      refine xr_mcXVi F G (rest := []) (As := [.int (nI e9), .int 3]) (k_X1_lock l D yI yZ yL hst h a t K V2 (nI e9) 3 hK.1) (cwV 2 F.hts gL_law_X1_lock rfl rfl rfl (by decide +kernel) ⟨Nat.le_of_ble_eq_true rfl, Nat.le_of_ble_eq_true rfl⟩) (q0 := 0) rfl rfl (([] : va_W)) (cw yI yZ t Kt Vt ++ (zw yI yL o ba pa la ra K V2 (zA V2) ++ (([(qB, .inl (yL, refs (kNb K) rb))] : va_W) ++ (rowsW yI rb 5 (kNb K) FB ++ (([(qL, .inl (yL, refs 5 rl))] : va_W) ++ (rowsW yI rl 5 5 FL ++ (([(qN, .inl (yI, 5, .inl NX))] : va_W) ++ (([(qT, .inl (yI, 7, .inl fT))] : va_W))))))))) rfl rfl rfl (Nat.le_of_ble_eq_true rfl) dL_law_1238 ⟨(by show _ ≤ (610331 : Nat); omega), (by show _ ≤ (7270474 : Nat); omega)⟩ (fun E1 W1 z1 => ?_) (fun r1 W1 z1 => ?_)
                      · skip
                        exact absurd (q1238.symm.trans z1.1.1) (by decide)
                      · skip
                        obtain ⟨-, z0, z1⟩ := z1
                        subst z0
                        subst z1
                        refine xr_ws (ws' := bw h a t ++ (cw yI yZ a K V2 ++ (cw yI yZ t Kt Vt ++ (zw yI yL o ba pa la ra K V2 (zA V2) ++ (([(qB, .inl (yL, refs (kNb K) rb))] : va_W) ++ (rowsW yI rb 5 (kNb K) FB ++ (([(qL, .inl (yL, refs 5 rl))] : va_W) ++ (rowsW yI rl 5 5 FL ++ (([(qN, .inl (yI, 5, .inl NX))] : va_W) ++ (([(qT, .inl (yI, 7, .inl fT))] : va_W))))))))))) (by first | (simp only [List.append_assoc, List.append_nil, List.nil_append]; done) | rfl | (simp only [List.append_assoc, List.append_nil, List.nil_append]; rfl)) ?_
                        refine xr_top (y := c_tellL K V2 e9 3) (by rw [ix_nI (n := e9) (by omega), show ix 3 = 3 from by decide]) ?_
                        refine xr_top (y := dFill V2 e9) rfl ?_
                        refine xr_aload F dL_law_1241 7 rfl ?_
                        refine xr_iload F dL_law_1243 1 rfl ?_
                        refine xr_aald F (1 + (12 + (12 + (16 + (kNb K) + (1 + (kNb K + (0))))))) 2 (w_skip (1) rfl (w_skip (12) rfl (w_skip (12) rfl (w_skip (16 + (kNb K)) (zw_len _ _ _ _ _ _ _ _ _ _) (w_skip (1) rfl (w_skip (kNb K) (rowsW_len _ _ _ _ _) (w_left rfl))))))) rfl rfl (e9) rfl (by omega) (by decide) dL_law_1245 ?_
                        refine xr_iconst F dL_law_1246 (v := 3) (by decide) ?_
                        refine xr_iald F (1 + (12 + (12 + (16 + (kNb K) + (1 + (kNb K + (1 + (e9)))))))) 0 (w_skip (1) rfl (w_skip (12) rfl (w_skip (12) rfl (w_skip (16 + (kNb K)) (zw_len _ _ _ _ _ _ _ _ _ _) (w_skip (1) rfl (w_skip (kNb K) (rowsW_len _ _ _ _ _) (w_skip (1) rfl (w_left (rowsW_get (by omega)))))))))) rfl (3) rfl (by decide) (by decide) dL_law_1247 ?_
                        refine xr_top (y := dFill V e9) (hFL e9 (by omega) 3 (by omega)) ?_
                        refine xr_icmp_ne F 1288 dL_law_1248 (by decide) (fun c1248 => ?_) (fun c1248 => ?_)
                        · exact absurd l3 c1248
                        · skip
                          refine xr_aload_n F dL_law_1251 rfl 10 rfl ?_
                          refine xr_iload F dL_law_1252 1 rfl ?_
                          refine xr_iconst F dL_law_1254 (v := 3) (by decide) ?_
                          refine xr_ws (ws' := ([] : va_W) ++ ((bw h a t ++ (cw yI yZ a K V2)) ++ (cw yI yZ t Kt Vt ++ (zw yI yL o ba pa la ra K V2 (zA V2) ++ (([(qB, .inl (yL, refs (kNb K) rb))] : va_W) ++ (rowsW yI rb 5 (kNb K) FB ++ (([(qL, .inl (yL, refs 5 rl))] : va_W) ++ (rowsW yI rl 5 5 FL ++ (([(qN, .inl (yI, 5, .inl NX))] : va_W) ++ (([(qT, .inl (yI, 7, .inl fT))] : va_W))))))))))) (by first | (simp only [List.append_assoc, List.append_nil, List.nil_append]; done) | rfl | (simp only [List.append_assoc, List.append_nil, List.nil_append]; rfl)) ?_
                          have q1255 : q_in2 (nI e9) 4 3 4 = 0 := (q_lock_v (j := e9) (w := 3) (by omega) (by decide))
                          refine xr_mcXVi F G (rest := []) (As := [.int (nI e9), .int 3]) (k_X1_lock l D yI yZ yL hst h a t K V2 (nI e9) 3 hK.1) (cwV 2 F.hts gL_law_X1_lock rfl rfl rfl (by decide +kernel) ⟨Nat.le_of_ble_eq_true rfl, Nat.le_of_ble_eq_true rfl⟩) (q0 := 0) rfl rfl (([] : va_W)) (cw yI yZ t Kt Vt ++ (zw yI yL o ba pa la ra K V2 (zA V2) ++ (([(qB, .inl (yL, refs (kNb K) rb))] : va_W) ++ (rowsW yI rb 5 (kNb K) FB ++ (([(qL, .inl (yL, refs 5 rl))] : va_W) ++ (rowsW yI rl 5 5 FL ++ (([(qN, .inl (yI, 5, .inl NX))] : va_W) ++ (([(qT, .inl (yI, 7, .inl fT))] : va_W))))))))) rfl rfl rfl (Nat.le_of_ble_eq_true rfl) dL_law_1255 ⟨(by show _ ≤ (610331 : Nat); omega), (by show _ ≤ (7270474 : Nat); omega)⟩ (fun E1 W1 z1 => ?_) (fun r1 W1 z1 => ?_)
                          · skip
                            exact absurd (q1255.symm.trans z1.1.1) (by decide)
                          · skip
                            obtain ⟨-, z0, z1⟩ := z1
                            subst z0
                            subst z1
                            refine xr_ws (ws' := bw h a t ++ (cw yI yZ a K V2 ++ (cw yI yZ t Kt Vt ++ (zw yI yL o ba pa la ra K V2 (zA V2) ++ (([(qB, .inl (yL, refs (kNb K) rb))] : va_W) ++ (rowsW yI rb 5 (kNb K) FB ++ (([(qL, .inl (yL, refs 5 rl))] : va_W) ++ (rowsW yI rl 5 5 FL ++ (([(qN, .inl (yI, 5, .inl NX))] : va_W) ++ (([(qT, .inl (yI, 7, .inl fT))] : va_W))))))))))) (by first | (simp only [List.append_assoc, List.append_nil, List.nil_append]; done) | rfl | (simp only [List.append_assoc, List.append_nil, List.nil_append]; rfl)) ?_
                            refine xr_top (y := c_tellL K V2 e9 3) (by rw [ix_nI (n := e9) (by omega), show ix 3 = 3 from by decide]) ?_
                            refine xr_top (y := dFill V2 e9) rfl ?_
                            refine xr_aload F dL_law_1258 7 rfl ?_
                            refine xr_iload F dL_law_1260 1 rfl ?_
                            refine xr_aald F (1 + (12 + (12 + (16 + (kNb K) + (1 + (kNb K + (0))))))) 2 (w_skip (1) rfl (w_skip (12) rfl (w_skip (12) rfl (w_skip (16 + (kNb K)) (zw_len _ _ _ _ _ _ _ _ _ _) (w_skip (1) rfl (w_skip (kNb K) (rowsW_len _ _ _ _ _) (w_left rfl))))))) rfl rfl (e9) rfl (by omega) (by decide) dL_law_1262 ?_
                            refine xr_iconst F dL_law_1263 (v := 3) (by decide) ?_
                            refine xr_iald F (1 + (12 + (12 + (16 + (kNb K) + (1 + (kNb K + (1 + (e9)))))))) 0 (w_skip (1) rfl (w_skip (12) rfl (w_skip (12) rfl (w_skip (16 + (kNb K)) (zw_len _ _ _ _ _ _ _ _ _ _) (w_skip (1) rfl (w_skip (kNb K) (rowsW_len _ _ _ _ _) (w_skip (1) rfl (w_left (rowsW_get (by omega)))))))))) rfl (3) rfl (by decide) (by decide) dL_law_1264 ?_
                            refine xr_top (y := dFill V e9) (hFL e9 (by omega) 3 (by omega)) ?_
                            refine xr_icmp_lt F 1288 dL_law_1265 (by decide) (fun c1265 => ?_) (fun c1265 => ?_)
                            · exact absurd c1265 f1
                            · skip
                              refine xr_aload_n F dL_law_1268 rfl 10 rfl ?_
                              refine xr_iload F dL_law_1269 1 rfl ?_
                              refine xr_iconst F dL_law_1271 (v := 3) (by decide) ?_
                              refine xr_ws (ws' := ([] : va_W) ++ ((bw h a t ++ (cw yI yZ a K V2)) ++ (cw yI yZ t Kt Vt ++ (zw yI yL o ba pa la ra K V2 (zA V2) ++ (([(qB, .inl (yL, refs (kNb K) rb))] : va_W) ++ (rowsW yI rb 5 (kNb K) FB ++ (([(qL, .inl (yL, refs 5 rl))] : va_W) ++ (rowsW yI rl 5 5 FL ++ (([(qN, .inl (yI, 5, .inl NX))] : va_W) ++ (([(qT, .inl (yI, 7, .inl fT))] : va_W))))))))))) (by first | (simp only [List.append_assoc, List.append_nil, List.nil_append]; done) | rfl | (simp only [List.append_assoc, List.append_nil, List.nil_append]; rfl)) ?_
                              have q1272 : q_in2 (nI e9) 4 3 4 = 0 := (q_lock_v (j := e9) (w := 3) (by omega) (by decide))
                              refine xr_mcXVi F G (rest := []) (As := [.int (nI e9), .int 3]) (k_X1_lock l D yI yZ yL hst h a t K V2 (nI e9) 3 hK.1) (cwV 2 F.hts gL_law_X1_lock rfl rfl rfl (by decide +kernel) ⟨Nat.le_of_ble_eq_true rfl, Nat.le_of_ble_eq_true rfl⟩) (q0 := 0) rfl rfl (([] : va_W)) (cw yI yZ t Kt Vt ++ (zw yI yL o ba pa la ra K V2 (zA V2) ++ (([(qB, .inl (yL, refs (kNb K) rb))] : va_W) ++ (rowsW yI rb 5 (kNb K) FB ++ (([(qL, .inl (yL, refs 5 rl))] : va_W) ++ (rowsW yI rl 5 5 FL ++ (([(qN, .inl (yI, 5, .inl NX))] : va_W) ++ (([(qT, .inl (yI, 7, .inl fT))] : va_W))))))))) rfl rfl rfl (Nat.le_of_ble_eq_true rfl) dL_law_1272 ⟨(by show _ ≤ (610331 : Nat); omega), (by show _ ≤ (7270474 : Nat); omega)⟩ (fun E1 W1 z1 => ?_) (fun r1 W1 z1 => ?_)
                              · skip
                                exact absurd (q1272.symm.trans z1.1.1) (by decide)
                              · skip
                                obtain ⟨-, z0, z1⟩ := z1
                                subst z0
                                subst z1
                                refine xr_ws (ws' := bw h a t ++ (cw yI yZ a K V2 ++ (cw yI yZ t Kt Vt ++ (zw yI yL o ba pa la ra K V2 (zA V2) ++ (([(qB, .inl (yL, refs (kNb K) rb))] : va_W) ++ (rowsW yI rb 5 (kNb K) FB ++ (([(qL, .inl (yL, refs 5 rl))] : va_W) ++ (rowsW yI rl 5 5 FL ++ (([(qN, .inl (yI, 5, .inl NX))] : va_W) ++ (([(qT, .inl (yI, 7, .inl fT))] : va_W))))))))))) (by first | (simp only [List.append_assoc, List.append_nil, List.nil_append]; done) | rfl | (simp only [List.append_assoc, List.append_nil, List.nil_append]; rfl)) ?_
                                refine xr_top (y := c_tellL K V2 e9 3) (by rw [ix_nI (n := e9) (by omega), show ix 3 = 3 from by decide]) ?_
                                refine xr_top (y := dFill V2 e9) rfl ?_
                                refine xr_aload F dL_law_1275 7 rfl ?_
                                refine xr_iload F dL_law_1277 1 rfl ?_
                                refine xr_aald F (1 + (12 + (12 + (16 + (kNb K) + (1 + (kNb K + (0))))))) 2 (w_skip (1) rfl (w_skip (12) rfl (w_skip (12) rfl (w_skip (16 + (kNb K)) (zw_len _ _ _ _ _ _ _ _ _ _) (w_skip (1) rfl (w_skip (kNb K) (rowsW_len _ _ _ _ _) (w_left rfl))))))) rfl rfl (e9) rfl (by omega) (by decide) dL_law_1279 ?_
                                refine xr_iconst F dL_law_1280 (v := 3) (by decide) ?_
                                refine xr_iald F (1 + (12 + (12 + (16 + (kNb K) + (1 + (kNb K + (1 + (e9)))))))) 0 (w_skip (1) rfl (w_skip (12) rfl (w_skip (12) rfl (w_skip (16 + (kNb K)) (zw_len _ _ _ _ _ _ _ _ _ _) (w_skip (1) rfl (w_skip (kNb K) (rowsW_len _ _ _ _ _) (w_skip (1) rfl (w_left (rowsW_get (by omega)))))))))) rfl (3) rfl (by decide) (by decide) dL_law_1281 ?_
                                refine xr_top (y := dFill V e9) (hFL e9 (by omega) 3 (by omega)) ?_
                                refine xr_bipush F dL_law_1282 (v := 12) (by decide) ?_
                                refine xr_iadd F ((dFill V e9) + 12) dL_law_1284 rfl ?_
                                refine xr_icmp_le F 1290 dL_law_1285 (by decide) (fun c1285 => ?_) (fun c1285 => ?_)
                                · skip
                                  refine xr_iload F dL_law_1290 2 rfl ?_
                                  refine xr_iload F dL_law_1292 0 rfl ?_
                                  refine xr_iadd F (by9 + 0) dL_law_1294 rfl ?_
                                  refine xr_istore F [(28, .int (by9 + 0)), (30, .int 0), (29, .int (nI e9)), (27, .int (nI tS * kFee K)), (26, .int (nI tS)), (25, .int (nI tS)), (23, .int (dBank V)), (8, .ref qL), (3, .int (nI tm)), (0, .ref b), (1, .ref h), (2, .ref (o 0))] dL_law_1295 (by decide) rfl ?_
                                  refine xr_iinc F (nI (e9 + 1)) [(29, .int (nI (e9 + 1))), (28, .int (by9 + 0)), (30, .int 0), (27, .int (nI tS * kFee K)), (26, .int (nI tS)), (25, .int (nI tS)), (23, .int (dBank V)), (8, .ref qL), (3, .int (nI tm)), (0, .ref b), (1, .ref h), (2, .ref (o 0))] dL_law_1297 2 rfl (nI_add e9 1) (by decide) rfl ?_
                                  refine xr_goto F 1178 dL_law_1300 (by decide) ?_
                                  refine xr_lv (lv' := [(29, .int (nI (e9 + 1))), (28, .int (by9 + 0)), (27, .int (nI tS * kFee K)), (26, .int (nI tS)), (25, .int (nI tS)), (23, .int (dBank V)), (8, .ref qL), (3, .int (nI tm)), (0, .ref b), (1, .ref h), (2, .ref (o 0))]) [0, 1, 3, 4, 5, 6, 7, 8, 9, 10, 11] rfl ?_
                                  refine xr_widen (k := cl + 5 * (e9 + 1)) (n := sl + 30 * (e9 + 1)) (by omega) (by omega) ?_
                                  exact ih (e9 + 1) (by9 + 0) (by omega) (sum_step hm (i_sub0 l1))
                                · exact absurd f2 c1285
          · skip
            obtain ⟨f1, f2⟩ := fill_facts (by omega) hV (show e9 < 5 by omega) l2
            refine xr_top (y := 1) (i_sub1 l1) ?_
            refine xr_istore F [(30, .int 1), (29, .int (nI e9)), (28, .int by9), (27, .int (nI tS * kFee K)), (26, .int (nI tS)), (25, .int (nI tS)), (23, .int (dBank V)), (8, .ref qL), (3, .int (nI tm)), (0, .ref b), (1, .ref h), (2, .ref (o 0))] dL_law_1199 (by decide) rfl ?_
            refine xr_iload F dL_law_1201 0 rfl ?_
            refine xr_if_lt F 1288 dL_law_1203 (by decide) (fun c1203 => ?_) (fun c1203 => ?_)
            · exact absurd c1203 (by decide)
            · skip
              refine xr_iload F dL_law_1206 0 rfl ?_
              refine xr_iconst F dL_law_1208 (v := 1) (by decide) ?_
              refine xr_icmp_gt F 1288 dL_law_1209 (by decide) (fun c1209 => ?_) (fun c1209 => ?_)
              · exact absurd c1209 (by decide)
              · skip
                refine xr_iload F dL_law_1212 0 rfl ?_
                refine xr_if_ne F 1251 dL_law_1214 (by decide) (fun c1214 => ?_) (fun c1214 => ?_)
                · skip
                  refine xr_aload_n F dL_law_1251 rfl 10 rfl ?_
                  refine xr_iload F dL_law_1252 1 rfl ?_
                  refine xr_iconst F dL_law_1254 (v := 3) (by decide) ?_
                  refine xr_ws (ws' := ([] : va_W) ++ ((bw h a t ++ (cw yI yZ a K V2)) ++ (cw yI yZ t Kt Vt ++ (zw yI yL o ba pa la ra K V2 (zA V2) ++ (([(qB, .inl (yL, refs (kNb K) rb))] : va_W) ++ (rowsW yI rb 5 (kNb K) FB ++ (([(qL, .inl (yL, refs 5 rl))] : va_W) ++ (rowsW yI rl 5 5 FL ++ (([(qN, .inl (yI, 5, .inl NX))] : va_W) ++ (([(qT, .inl (yI, 7, .inl fT))] : va_W))))))))))) (by first | (simp only [List.append_assoc, List.append_nil, List.nil_append]; done) | rfl | (simp only [List.append_assoc, List.append_nil, List.nil_append]; rfl)) ?_
                  have q1255 : q_in2 (nI e9) 4 3 4 = 0 := (q_lock_v (j := e9) (w := 3) (by omega) (by decide))
                  refine xr_mcXVi F G (rest := []) (As := [.int (nI e9), .int 3]) (k_X1_lock l D yI yZ yL hst h a t K V2 (nI e9) 3 hK.1) (cwV 2 F.hts gL_law_X1_lock rfl rfl rfl (by decide +kernel) ⟨Nat.le_of_ble_eq_true rfl, Nat.le_of_ble_eq_true rfl⟩) (q0 := 0) rfl rfl (([] : va_W)) (cw yI yZ t Kt Vt ++ (zw yI yL o ba pa la ra K V2 (zA V2) ++ (([(qB, .inl (yL, refs (kNb K) rb))] : va_W) ++ (rowsW yI rb 5 (kNb K) FB ++ (([(qL, .inl (yL, refs 5 rl))] : va_W) ++ (rowsW yI rl 5 5 FL ++ (([(qN, .inl (yI, 5, .inl NX))] : va_W) ++ (([(qT, .inl (yI, 7, .inl fT))] : va_W))))))))) rfl rfl rfl (Nat.le_of_ble_eq_true rfl) dL_law_1255 ⟨(by show _ ≤ (610331 : Nat); omega), (by show _ ≤ (7270474 : Nat); omega)⟩ (fun E1 W1 z1 => ?_) (fun r1 W1 z1 => ?_)
                  · skip
                    exact absurd (q1255.symm.trans z1.1.1) (by decide)
                  · skip
                    obtain ⟨-, z0, z1⟩ := z1
                    subst z0
                    subst z1
                    refine xr_ws (ws' := bw h a t ++ (cw yI yZ a K V2 ++ (cw yI yZ t Kt Vt ++ (zw yI yL o ba pa la ra K V2 (zA V2) ++ (([(qB, .inl (yL, refs (kNb K) rb))] : va_W) ++ (rowsW yI rb 5 (kNb K) FB ++ (([(qL, .inl (yL, refs 5 rl))] : va_W) ++ (rowsW yI rl 5 5 FL ++ (([(qN, .inl (yI, 5, .inl NX))] : va_W) ++ (([(qT, .inl (yI, 7, .inl fT))] : va_W))))))))))) (by first | (simp only [List.append_assoc, List.append_nil, List.nil_append]; done) | rfl | (simp only [List.append_assoc, List.append_nil, List.nil_append]; rfl)) ?_
                    refine xr_top (y := c_tellL K V2 e9 3) (by rw [ix_nI (n := e9) (by omega), show ix 3 = 3 from by decide]) ?_
                    refine xr_top (y := dFill V2 e9) rfl ?_
                    refine xr_aload F dL_law_1258 7 rfl ?_
                    refine xr_iload F dL_law_1260 1 rfl ?_
                    refine xr_aald F (1 + (12 + (12 + (16 + (kNb K) + (1 + (kNb K + (0))))))) 2 (w_skip (1) rfl (w_skip (12) rfl (w_skip (12) rfl (w_skip (16 + (kNb K)) (zw_len _ _ _ _ _ _ _ _ _ _) (w_skip (1) rfl (w_skip (kNb K) (rowsW_len _ _ _ _ _) (w_left rfl))))))) rfl rfl (e9) rfl (by omega) (by decide) dL_law_1262 ?_
                    refine xr_iconst F dL_law_1263 (v := 3) (by decide) ?_
                    refine xr_iald F (1 + (12 + (12 + (16 + (kNb K) + (1 + (kNb K + (1 + (e9)))))))) 0 (w_skip (1) rfl (w_skip (12) rfl (w_skip (12) rfl (w_skip (16 + (kNb K)) (zw_len _ _ _ _ _ _ _ _ _ _) (w_skip (1) rfl (w_skip (kNb K) (rowsW_len _ _ _ _ _) (w_skip (1) rfl (w_left (rowsW_get (by omega)))))))))) rfl (3) rfl (by decide) (by decide) dL_law_1264 ?_
                    refine xr_top (y := dFill V e9) (hFL e9 (by omega) 3 (by omega)) ?_
                    refine xr_icmp_lt F 1288 dL_law_1265 (by decide) (fun c1265 => ?_) (fun c1265 => ?_)
                    · exact absurd c1265 f1
                    · skip
                      refine xr_aload_n F dL_law_1268 rfl 10 rfl ?_
                      refine xr_iload F dL_law_1269 1 rfl ?_
                      refine xr_iconst F dL_law_1271 (v := 3) (by decide) ?_
                      refine xr_ws (ws' := ([] : va_W) ++ ((bw h a t ++ (cw yI yZ a K V2)) ++ (cw yI yZ t Kt Vt ++ (zw yI yL o ba pa la ra K V2 (zA V2) ++ (([(qB, .inl (yL, refs (kNb K) rb))] : va_W) ++ (rowsW yI rb 5 (kNb K) FB ++ (([(qL, .inl (yL, refs 5 rl))] : va_W) ++ (rowsW yI rl 5 5 FL ++ (([(qN, .inl (yI, 5, .inl NX))] : va_W) ++ (([(qT, .inl (yI, 7, .inl fT))] : va_W))))))))))) (by first | (simp only [List.append_assoc, List.append_nil, List.nil_append]; done) | rfl | (simp only [List.append_assoc, List.append_nil, List.nil_append]; rfl)) ?_
                      have q1272 : q_in2 (nI e9) 4 3 4 = 0 := (q_lock_v (j := e9) (w := 3) (by omega) (by decide))
                      refine xr_mcXVi F G (rest := []) (As := [.int (nI e9), .int 3]) (k_X1_lock l D yI yZ yL hst h a t K V2 (nI e9) 3 hK.1) (cwV 2 F.hts gL_law_X1_lock rfl rfl rfl (by decide +kernel) ⟨Nat.le_of_ble_eq_true rfl, Nat.le_of_ble_eq_true rfl⟩) (q0 := 0) rfl rfl (([] : va_W)) (cw yI yZ t Kt Vt ++ (zw yI yL o ba pa la ra K V2 (zA V2) ++ (([(qB, .inl (yL, refs (kNb K) rb))] : va_W) ++ (rowsW yI rb 5 (kNb K) FB ++ (([(qL, .inl (yL, refs 5 rl))] : va_W) ++ (rowsW yI rl 5 5 FL ++ (([(qN, .inl (yI, 5, .inl NX))] : va_W) ++ (([(qT, .inl (yI, 7, .inl fT))] : va_W))))))))) rfl rfl rfl (Nat.le_of_ble_eq_true rfl) dL_law_1272 ⟨(by show _ ≤ (610331 : Nat); omega), (by show _ ≤ (7270474 : Nat); omega)⟩ (fun E1 W1 z1 => ?_) (fun r1 W1 z1 => ?_)
                      · skip
                        exact absurd (q1272.symm.trans z1.1.1) (by decide)
                      · skip
                        obtain ⟨-, z0, z1⟩ := z1
                        subst z0
                        subst z1
                        refine xr_ws (ws' := bw h a t ++ (cw yI yZ a K V2 ++ (cw yI yZ t Kt Vt ++ (zw yI yL o ba pa la ra K V2 (zA V2) ++ (([(qB, .inl (yL, refs (kNb K) rb))] : va_W) ++ (rowsW yI rb 5 (kNb K) FB ++ (([(qL, .inl (yL, refs 5 rl))] : va_W) ++ (rowsW yI rl 5 5 FL ++ (([(qN, .inl (yI, 5, .inl NX))] : va_W) ++ (([(qT, .inl (yI, 7, .inl fT))] : va_W))))))))))) (by first | (simp only [List.append_assoc, List.append_nil, List.nil_append]; done) | rfl | (simp only [List.append_assoc, List.append_nil, List.nil_append]; rfl)) ?_
                        refine xr_top (y := c_tellL K V2 e9 3) (by rw [ix_nI (n := e9) (by omega), show ix 3 = 3 from by decide]) ?_
                        refine xr_top (y := dFill V2 e9) rfl ?_
                        refine xr_aload F dL_law_1275 7 rfl ?_
                        refine xr_iload F dL_law_1277 1 rfl ?_
                        refine xr_aald F (1 + (12 + (12 + (16 + (kNb K) + (1 + (kNb K + (0))))))) 2 (w_skip (1) rfl (w_skip (12) rfl (w_skip (12) rfl (w_skip (16 + (kNb K)) (zw_len _ _ _ _ _ _ _ _ _ _) (w_skip (1) rfl (w_skip (kNb K) (rowsW_len _ _ _ _ _) (w_left rfl))))))) rfl rfl (e9) rfl (by omega) (by decide) dL_law_1279 ?_
                        refine xr_iconst F dL_law_1280 (v := 3) (by decide) ?_
                        refine xr_iald F (1 + (12 + (12 + (16 + (kNb K) + (1 + (kNb K + (1 + (e9)))))))) 0 (w_skip (1) rfl (w_skip (12) rfl (w_skip (12) rfl (w_skip (16 + (kNb K)) (zw_len _ _ _ _ _ _ _ _ _ _) (w_skip (1) rfl (w_skip (kNb K) (rowsW_len _ _ _ _ _) (w_skip (1) rfl (w_left (rowsW_get (by omega)))))))))) rfl (3) rfl (by decide) (by decide) dL_law_1281 ?_
                        refine xr_top (y := dFill V e9) (hFL e9 (by omega) 3 (by omega)) ?_
                        refine xr_bipush F dL_law_1282 (v := 12) (by decide) ?_
                        refine xr_iadd F ((dFill V e9) + 12) dL_law_1284 rfl ?_
                        refine xr_icmp_le F 1290 dL_law_1285 (by decide) (fun c1285 => ?_) (fun c1285 => ?_)
                        · skip
                          refine xr_iload F dL_law_1290 2 rfl ?_
                          refine xr_iload F dL_law_1292 0 rfl ?_
                          refine xr_iadd F (by9 + 1) dL_law_1294 rfl ?_
                          refine xr_istore F [(28, .int (by9 + 1)), (30, .int 1), (29, .int (nI e9)), (27, .int (nI tS * kFee K)), (26, .int (nI tS)), (25, .int (nI tS)), (23, .int (dBank V)), (8, .ref qL), (3, .int (nI tm)), (0, .ref b), (1, .ref h), (2, .ref (o 0))] dL_law_1295 (by decide) rfl ?_
                          refine xr_iinc F (nI (e9 + 1)) [(29, .int (nI (e9 + 1))), (28, .int (by9 + 1)), (30, .int 1), (27, .int (nI tS * kFee K)), (26, .int (nI tS)), (25, .int (nI tS)), (23, .int (dBank V)), (8, .ref qL), (3, .int (nI tm)), (0, .ref b), (1, .ref h), (2, .ref (o 0))] dL_law_1297 2 rfl (nI_add e9 1) (by decide) rfl ?_
                          refine xr_goto F 1178 dL_law_1300 (by decide) ?_
                          refine xr_lv (lv' := [(29, .int (nI (e9 + 1))), (28, .int (by9 + 1)), (27, .int (nI tS * kFee K)), (26, .int (nI tS)), (25, .int (nI tS)), (23, .int (dBank V)), (8, .ref qL), (3, .int (nI tm)), (0, .ref b), (1, .ref h), (2, .ref (o 0))]) [0, 1, 3, 4, 5, 6, 7, 8, 9, 10, 11] rfl ?_
                          refine xr_widen (k := cl + 5 * (e9 + 1)) (n := sl + 30 * (e9 + 1)) (by omega) (by omega) ?_
                          exact ih (e9 + 1) (by9 + 1) (by omega) (sum_step hm (i_sub1 l1))
                        · exact absurd f2 c1285
                · exact absurd c1214 (by decide)
  refine xr_lv (lv' := [(29, .int 0), (28, .int 0), (27, .int (nI tS * kFee K)), (26, .int (nI tS)), (25, .int (nI tS)), (23, .int (dBank V)), (8, .ref qL), (3, .int (nI tm)), (0, .ref b), (1, .ref h), (2, .ref (o 0))]) [0, 1, 2, 3, 4, 5, 6, 7, 8, 9, 10] rfl ?_
  refine xr_widen (k := cl + 5 * 0) (n := sl + 30 * 0) (by omega) (by omega) ?_
  exact lp 5 0 0 (by omega) (lock_sum hA)
