set_option maxHeartbeats 4000000 in
set_option maxRecDepth 100000 in
/-- 1303 to 22 -/
theorem law_S12 {p : Program} {e : Env} {s : State} {m : MethodId} {below : List Frame} {meth : Method} {c : Code} {l : Launch} (hst : l.stackTraces = false) {b L : Nat} {xs : Nat → Int32} (hL : L ≤ 260) {D : va_G} {yI yZ yL : ClassId} {A : Nat → Prop} {Q : State → Prop} (F : XF p s m #[Value.ref b] c cL_law 32 wsL_law R_law D (tysG yI yZ yL) A) (G : XG l s meth A) (hX : va_X b L xs s s.heap) (hbl : b < s.heap.size) (hbA : ¬ A b) {h : Nat} {a t o : Nat → Nat} {ba : Nat} {pa la ra : Nat → Nat} {K : CK} {V : CD} {Kt : CK} {Vt : CD} {N tm : Nat} (htm : tm < 45) (hN : N < 50000) (hK : okK K) (hV : okV K V N) (hh : dHour V ≤ 100) {qB qL qN : Nat} {rb rl : Nat → Nat} {FB FL : Nat → Nat → Int32} {NX : Nat → Int32} {qT : Nat} {fT : Nat → Int32} {V2 : CD} {tS uS : Nat} (hA : hrAll K V V2 tS uS) (hV2 : okV K V2 (N + 1)) (hh2 : dHour V2 ≤ 101) (cl sl : Nat) (hcl : cl + 100 ≤ 610331) (hsl : sl + 1000 ≤ 7270474) (kk : AW p l e room_1 s m #[Value.ref b] below meth c 32 D A (cl + 100) (sl + 1000) Q (bw h a t ++ (cw yI yZ a K V2 ++ (cw yI yZ t Kt Vt ++ (zw yI yL o ba pa la ra K V2 (zA V2))))) [(3, .int (nI (tm + 1))), (0, .ref b), (1, .ref h), (2, .ref (o 0))] 22 []) : AW p l e room_1 s m #[Value.ref b] below meth c 32 D A cl sl Q (bw h a t ++ (cw yI yZ a K V2 ++ (cw yI yZ t Kt Vt ++ (zw yI yL o ba pa la ra K V2 (zA V2) ++ (([(qB, .inl (yL, refs (kNb K) rb))] : va_W) ++ (rowsW yI rb 5 (kNb K) FB ++ (([(qL, .inl (yL, refs 5 rl))] : va_W) ++ (rowsW yI rl 5 5 FL ++ (([(qN, .inl (yI, 5, .inl NX))] : va_W) ++ (([(qT, .inl (yI, 7, .inl fT))] : va_W))))))))))) [(28, .int (nI tS)), (27, .int (nI tS * kFee K)), (26, .int (nI tS)), (25, .int (nI tS)), (23, .int (dBank V)), (3, .int (nI tm)), (0, .ref b), (1, .ref h), (2, .ref (o 0))] 1303 [] := by
  have k1 : kNb K ≤ 10 := hK.1
  obtain ⟨n1, n2⟩ := bank_facts hK hA
  show AW p l e room_1 s m #[Value.ref b] below meth c 32 D A cl sl Q (bw h a t ++ (cw yI yZ a K V2 ++ (cw yI yZ t Kt Vt ++ (zw yI yL o ba pa la ra K V2 (zA V2) ++ (([(qB, .inl (yL, refs (kNb K) rb))] : va_W) ++ (rowsW yI rb 5 (kNb K) FB ++ (([(qL, .inl (yL, refs 5 rl))] : va_W) ++ (rowsW yI rl 5 5 FL ++ (([(qN, .inl (yI, 5, .inl NX))] : va_W) ++ (([(qT, .inl (yI, 7, .inl fT))] : va_W))))))))))) [(28, .int (nI tS)), (27, .int (nI tS * kFee K)), (26, .int (nI tS)), (25, .int (nI tS)), (23, .int (dBank V)), (3, .int (nI tm)), (0, .ref b), (1, .ref h), (2, .ref (o 0))] 1303 []
  refine xr_iload F dL_law_1303 2 rfl ?_
  refine xr_iload F dL_law_1305 3 rfl ?_
  refine xr_icmp_ne F 1345 dL_law_1307 (by decide) (fun c1307 => ?_) (fun c1307 => ?_)
  · exact absurd rfl c1307
  · skip
    refine xr_iload F dL_law_1310 0 rfl ?_
    refine xr_iload F dL_law_1312 3 rfl ?_
    refine xr_icmp_ne F 1345 dL_law_1314 (by decide) (fun c1314 => ?_) (fun c1314 => ?_)
    · exact absurd rfl c1314
    · skip
      refine xr_aload_n F dL_law_1317 rfl 7 rfl ?_
      refine xr_iconst F dL_law_1318 (v := 3) (by decide) ?_
      refine xr_ws (ws' := ([] : va_W) ++ ((bw h a t ++ (cw yI yZ a K V2)) ++ (cw yI yZ t Kt Vt ++ (zw yI yL o ba pa la ra K V2 (zA V2) ++ (([(qB, .inl (yL, refs (kNb K) rb))] : va_W) ++ (rowsW yI rb 5 (kNb K) FB ++ (([(qL, .inl (yL, refs 5 rl))] : va_W) ++ (rowsW yI rl 5 5 FL ++ (([(qN, .inl (yI, 5, .inl NX))] : va_W) ++ (([(qT, .inl (yI, 7, .inl fT))] : va_W))))))))))) (by first | (simp only [List.append_assoc, List.append_nil, List.nil_append]; done) | rfl | (simp only [List.append_assoc, List.append_nil, List.nil_append]; rfl)) ?_
      have q1319 : q_count 3 = 0 := (q_count_v (j := 3) (by decide))
      refine xr_mcXVi F G (rest := []) (As := [.int 3]) (k_X1_count l D yI yZ yL hst h a t K V2 3 hK.1) (cwV 1 F.hts gL_law_X1_count rfl rfl rfl (by decide +kernel) ⟨Nat.le_of_ble_eq_true rfl, Nat.le_of_ble_eq_true rfl⟩) (q0 := 0) rfl rfl (([] : va_W)) (cw yI yZ t Kt Vt ++ (zw yI yL o ba pa la ra K V2 (zA V2) ++ (([(qB, .inl (yL, refs (kNb K) rb))] : va_W) ++ (rowsW yI rb 5 (kNb K) FB ++ (([(qL, .inl (yL, refs 5 rl))] : va_W) ++ (rowsW yI rl 5 5 FL ++ (([(qN, .inl (yI, 5, .inl NX))] : va_W) ++ (([(qT, .inl (yI, 7, .inl fT))] : va_W))))))))) rfl rfl rfl (Nat.le_of_ble_eq_true rfl) dL_law_1319 ⟨(by show _ ≤ (610331 : Nat); omega), (by show _ ≤ (7270474 : Nat); omega)⟩ (fun E1 W1 z1 => ?_) (fun r1 W1 z1 => ?_)
      · skip
        exact absurd (q1319.symm.trans z1.1.1) (by decide)
      · skip
        obtain ⟨-, z0, z1⟩ := z1
        subst z0
        subst z1
        refine xr_ws (ws' := bw h a t ++ (cw yI yZ a K V2 ++ (cw yI yZ t Kt Vt ++ (zw yI yL o ba pa la ra K V2 (zA V2) ++ (([(qB, .inl (yL, refs (kNb K) rb))] : va_W) ++ (rowsW yI rb 5 (kNb K) FB ++ (([(qL, .inl (yL, refs 5 rl))] : va_W) ++ (rowsW yI rl 5 5 FL ++ (([(qN, .inl (yI, 5, .inl NX))] : va_W) ++ (([(qT, .inl (yI, 7, .inl fT))] : va_W))))))))))) (by first | (simp only [List.append_assoc, List.append_nil, List.nil_append]; done) | rfl | (simp only [List.append_assoc, List.append_nil, List.nil_append]; rfl)) ?_
        refine xr_top (y := c_tellW K V2 3) (by rw [show ix 3 = 3 from by decide]) ?_
        refine xr_top (y := dBank V2) rfl ?_
        refine xr_iload F dL_law_1322 4 rfl ?_
        refine xr_isub F ((dBank V2) - (dBank V)) dL_law_1324 rfl ?_
        refine xr_iload F dL_law_1325 1 rfl ?_
        refine xr_icmp_lt F 1345 dL_law_1327 (by decide) (fun c1327 => ?_) (fun c1327 => ?_)
        · exact absurd c1327 n1
        · skip
          refine xr_aload_n F dL_law_1330 rfl 7 rfl ?_
          refine xr_iconst F dL_law_1331 (v := 3) (by decide) ?_
          refine xr_ws (ws' := ([] : va_W) ++ ((bw h a t ++ (cw yI yZ a K V2)) ++ (cw yI yZ t Kt Vt ++ (zw yI yL o ba pa la ra K V2 (zA V2) ++ (([(qB, .inl (yL, refs (kNb K) rb))] : va_W) ++ (rowsW yI rb 5 (kNb K) FB ++ (([(qL, .inl (yL, refs 5 rl))] : va_W) ++ (rowsW yI rl 5 5 FL ++ (([(qN, .inl (yI, 5, .inl NX))] : va_W) ++ (([(qT, .inl (yI, 7, .inl fT))] : va_W))))))))))) (by first | (simp only [List.append_assoc, List.append_nil, List.nil_append]; done) | rfl | (simp only [List.append_assoc, List.append_nil, List.nil_append]; rfl)) ?_
          have q1332 : q_count 3 = 0 := (q_count_v (j := 3) (by decide))
          refine xr_mcXVi F G (rest := []) (As := [.int 3]) (k_X1_count l D yI yZ yL hst h a t K V2 3 hK.1) (cwV 1 F.hts gL_law_X1_count rfl rfl rfl (by decide +kernel) ⟨Nat.le_of_ble_eq_true rfl, Nat.le_of_ble_eq_true rfl⟩) (q0 := 0) rfl rfl (([] : va_W)) (cw yI yZ t Kt Vt ++ (zw yI yL o ba pa la ra K V2 (zA V2) ++ (([(qB, .inl (yL, refs (kNb K) rb))] : va_W) ++ (rowsW yI rb 5 (kNb K) FB ++ (([(qL, .inl (yL, refs 5 rl))] : va_W) ++ (rowsW yI rl 5 5 FL ++ (([(qN, .inl (yI, 5, .inl NX))] : va_W) ++ (([(qT, .inl (yI, 7, .inl fT))] : va_W))))))))) rfl rfl rfl (Nat.le_of_ble_eq_true rfl) dL_law_1332 ⟨(by show _ ≤ (610331 : Nat); omega), (by show _ ≤ (7270474 : Nat); omega)⟩ (fun E1 W1 z1 => ?_) (fun r1 W1 z1 => ?_)
          · skip
            exact absurd (q1332.symm.trans z1.1.1) (by decide)
          · skip
            obtain ⟨-, z0, z1⟩ := z1
            subst z0
            subst z1
            refine xr_ws (ws' := bw h a t ++ (cw yI yZ a K V2 ++ (cw yI yZ t Kt Vt ++ (zw yI yL o ba pa la ra K V2 (zA V2) ++ (([(qB, .inl (yL, refs (kNb K) rb))] : va_W) ++ (rowsW yI rb 5 (kNb K) FB ++ (([(qL, .inl (yL, refs 5 rl))] : va_W) ++ (rowsW yI rl 5 5 FL ++ (([(qN, .inl (yI, 5, .inl NX))] : va_W) ++ (([(qT, .inl (yI, 7, .inl fT))] : va_W))))))))))) (by first | (simp only [List.append_assoc, List.append_nil, List.nil_append]; done) | rfl | (simp only [List.append_assoc, List.append_nil, List.nil_append]; rfl)) ?_
            refine xr_top (y := c_tellW K V2 3) (by rw [show ix 3 = 3 from by decide]) ?_
            refine xr_top (y := dBank V2) rfl ?_
            refine xr_iload F dL_law_1335 4 rfl ?_
            refine xr_isub F ((dBank V2) - (dBank V)) dL_law_1337 rfl ?_
            refine xr_iload F dL_law_1338 1 rfl ?_
            refine xr_iconst F dL_law_1340 (v := 2) (by decide) ?_
            refine xr_iadd F ((nI tS * kFee K) + 2) dL_law_1341 rfl ?_
            refine xr_icmp_le F 1347 dL_law_1342 (by decide) (fun c1342 => ?_) (fun c1342 => ?_)
            · skip
              refine xr_iinc F (nI (tm + 1)) [(3, .int (nI (tm + 1))), (28, .int (nI tS)), (27, .int (nI tS * kFee K)), (26, .int (nI tS)), (25, .int (nI tS)), (23, .int (dBank V)), (0, .ref b), (1, .ref h), (2, .ref (o 0))] dL_law_1347 5 rfl (nI_add tm 1) (by decide) rfl ?_
              refine xr_goto F 22 dL_law_1350 (by decide) ?_
              refine xr_lv (lv' := [(3, .int (nI (tm + 1))), (0, .ref b), (1, .ref h), (2, .ref (o 0))]) [0, 6, 7, 8] rfl ?_
              refine xr_ws (ws' := (bw h a t ++ (cw yI yZ a K V2 ++ (cw yI yZ t Kt Vt ++ (zw yI yL o ba pa la ra K V2 (zA V2))))) ++ (([(qB, .inl (yL, refs (kNb K) rb))] : va_W) ++ (rowsW yI rb 5 (kNb K) FB ++ (([(qL, .inl (yL, refs 5 rl))] : va_W) ++ (rowsW yI rl 5 5 FL ++ (([(qN, .inl (yI, 5, .inl NX))] : va_W) ++ (([(qT, .inl (yI, 7, .inl fT))] : va_W)))))))) (by first | (simp only [List.append_assoc, List.append_nil, List.nil_append]; done) | rfl | (simp only [List.append_assoc, List.append_nil, List.nil_append]; rfl)) ?_
              refine xr_drop (bw h a t ++ (cw yI yZ a K V2 ++ (cw yI yZ t Kt Vt ++ (zw yI yL o ba pa la ra K V2 (zA V2))))) (([(qB, .inl (yL, refs (kNb K) rb))] : va_W) ++ (rowsW yI rb 5 (kNb K) FB ++ (([(qL, .inl (yL, refs 5 rl))] : va_W) ++ (rowsW yI rl 5 5 FL ++ (([(qN, .inl (yI, 5, .inl NX))] : va_W) ++ (([(qT, .inl (yI, 7, .inl fT))] : va_W))))))) rfl ?_
              refine xr_widen (k := cl + 100) (n := sl + 1000) (by omega) (by omega) ?_
              exact kk 
            · exact absurd n2 c1342
