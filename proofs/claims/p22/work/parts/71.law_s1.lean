set_option maxHeartbeats 4000000 in
set_option maxRecDepth 100000 in
/-- 73 to 145 -/
theorem law_S1 {p : Program} {e : Env} {s : State} {m : MethodId} {below : List Frame} {meth : Method} {c : Code} {l : Launch} (hst : l.stackTraces = false) {b L : Nat} {xs : Nat → Int32} (hL : L ≤ 260) {D : va_G} {yI yZ yL : ClassId} {A : Nat → Prop} {Q : State → Prop} (F : XF p s m #[Value.ref b] c cL_law 32 wsL_law R_law D (tysG yI yZ yL) A) (G : XG l s meth A) (hX : va_X b L xs s s.heap) (hbl : b < s.heap.size) (hbA : ¬ A b) {h : Nat} {a t o : Nat → Nat} {ba : Nat} {pa la ra : Nat → Nat} {K : CK} {V : CD} {Kt : CK} {Vt : CD} {N tm : Nat} (htm : tm < 45) (hN : N < 50000) (hK : okK K) (hV : okV K V N) (hh : dHour V ≤ 100) {x : Int32} (cl sl : Nat) (hcl : cl + 100 ≤ 610331) (hsl : sl + 1000 ≤ 7270474) (kk : ∀ (qB : Nat) (rb : Nat → Nat) (qL : Nat) (rl : Nat → Nat) (qN : Nat) (FB FL : Nat → Nat → Int32) (NX : Nat → Int32), AW p l e room_1 s m #[Value.ref b] below meth c 32 D A (cl + 100) (sl + 1000) Q (bw h a t ++ (cw yI yZ a K V ++ (cw yI yZ t Kt Vt ++ (zw yI yL o ba pa la ra K V (zA V) ++ (([(qB, .inl (yL, refs (kNb K) rb))] : va_W) ++ (rowsW yI rb 5 (kNb K) FB ++ (([(qL, .inl (yL, refs 5 rl))] : va_W) ++ (rowsW yI rl 5 5 FL ++ (([(qN, .inl (yI, 5, .inl NX))] : va_W)))))))))) [(9, .ref qN), (8, .ref qL), (7, .ref qB), (6, .int (wat V)), (5, .int (nI (kNb K))), (4, .int x), (3, .int (nI tm)), (0, .ref b), (1, .ref h), (2, .ref (o 0))] 145 []) : AW p l e room_1 s m #[Value.ref b] below meth c 32 D A cl sl Q (bw h a t ++ (cw yI yZ a K V ++ (cw yI yZ t Kt Vt ++ (zw yI yL o ba pa la ra K V (zA V))))) [(4, .int x), (3, .int (nI tm)), (0, .ref b), (1, .ref h), (2, .ref (o 0))] 73 [] := by
  have k1 : kNb K ≤ 10 := hK.1
  show AW p l e room_1 s m #[Value.ref b] below meth c 32 D A cl sl Q (bw h a t ++ (cw yI yZ a K V ++ (cw yI yZ t Kt Vt ++ (zw yI yL o ba pa la ra K V (zA V))))) [(4, .int x), (3, .int (nI tm)), (0, .ref b), (1, .ref h), (2, .ref (o 0))] 73 []
  refine xr_aload_n F dL_law_73 rfl 3 rfl ?_
  refine xr_iconst F dL_law_74 (v := 1) (by decide) ?_
  refine xr_ws (ws' := ([] : va_W) ++ ((bw h a t ++ (cw yI yZ a K V)) ++ (cw yI yZ t Kt Vt ++ (zw yI yL o ba pa la ra K V (zA V))))) (by first | (simp only [List.append_assoc, List.append_nil, List.nil_append]; done) | rfl | (simp only [List.append_assoc, List.append_nil, List.nil_append]; rfl)) ?_
  have q75 : q_count 1 = 0 := (q_count_v (j := 1) (by decide))
  refine xr_mcXVi F G (rest := []) (As := [.int 1]) (k_X1_count l D yI yZ yL hst h a t K V 1 hK.1) (cwV 1 F.hts gL_law_X1_count rfl rfl rfl (by decide +kernel) ⟨Nat.le_of_ble_eq_true rfl, Nat.le_of_ble_eq_true rfl⟩) (q0 := 0) rfl rfl (([] : va_W)) (cw yI yZ t Kt Vt ++ (zw yI yL o ba pa la ra K V (zA V))) rfl rfl rfl (Nat.le_of_ble_eq_true rfl) dL_law_75 ⟨(by show _ ≤ (610331 : Nat); omega), (by show _ ≤ (7270474 : Nat); omega)⟩ (fun E1 W1 z1 => ?_) (fun r1 W1 z1 => ?_)
  · skip
    exact absurd (q75.symm.trans z1.1.1) (by decide)
  · skip
    obtain ⟨-, z0, z1⟩ := z1
    subst z0
    subst z1
    refine xr_ws (ws' := bw h a t ++ (cw yI yZ a K V ++ (cw yI yZ t Kt Vt ++ (zw yI yL o ba pa la ra K V (zA V))))) (by first | (simp only [List.append_assoc, List.append_nil, List.nil_append]; done) | rfl | (simp only [List.append_assoc, List.append_nil, List.nil_append]; rfl)) ?_
    refine xr_top (y := c_tellW K V 1) (by rw [show ix 1 = 1 from by decide]) ?_
    refine xr_top (y := nI (kNb K)) rfl ?_
    refine xr_istore F [(5, .int (nI (kNb K))), (4, .int x), (3, .int (nI tm)), (0, .ref b), (1, .ref h), (2, .ref (o 0))] dL_law_78 (by decide) rfl ?_
    refine xr_aload_n F dL_law_80 rfl 4 rfl ?_
    refine xr_iconst F dL_law_81 (v := 4) (by decide) ?_
    refine xr_ws (ws' := ([] : va_W) ++ ((bw h a t ++ (cw yI yZ a K V)) ++ (cw yI yZ t Kt Vt ++ (zw yI yL o ba pa la ra K V (zA V))))) (by first | (simp only [List.append_assoc, List.append_nil, List.nil_append]; done) | rfl | (simp only [List.append_assoc, List.append_nil, List.nil_append]; rfl)) ?_
    have q82 : q_count 4 = 0 := (q_count_v (j := 4) (by decide))
    refine xr_mcXVi F G (rest := []) (As := [.int 4]) (k_X1_count l D yI yZ yL hst h a t K V 4 hK.1) (cwV 1 F.hts gL_law_X1_count rfl rfl rfl (by decide +kernel) ⟨Nat.le_of_ble_eq_true rfl, Nat.le_of_ble_eq_true rfl⟩) (q0 := 0) rfl rfl (([] : va_W)) (cw yI yZ t Kt Vt ++ (zw yI yL o ba pa la ra K V (zA V))) rfl rfl rfl (Nat.le_of_ble_eq_true rfl) dL_law_82 ⟨(by show _ ≤ (610331 : Nat); omega), (by show _ ≤ (7270474 : Nat); omega)⟩ (fun E1 W1 z1 => ?_) (fun r1 W1 z1 => ?_)
    · skip
      exact absurd (q82.symm.trans z1.1.1) (by decide)
    · skip
      obtain ⟨-, z0, z1⟩ := z1
      subst z0
      subst z1
      refine xr_ws (ws' := bw h a t ++ (cw yI yZ a K V ++ (cw yI yZ t Kt Vt ++ (zw yI yL o ba pa la ra K V (zA V))))) (by first | (simp only [List.append_assoc, List.append_nil, List.nil_append]; done) | rfl | (simp only [List.append_assoc, List.append_nil, List.nil_append]; rfl)) ?_
      refine xr_top (y := c_tellW K V 4) (by rw [show ix 4 = 4 from by decide]) ?_
      refine xr_top (y := c_water V) rfl ?_
      refine xr_bipush F dL_law_85 (v := 12) (by decide) ?_
      refine xr_aload_n F dL_law_87 rfl 4 rfl ?_
      refine xr_iconst F dL_law_88 (v := 5) (by decide) ?_
      refine xr_ws (ws' := ([] : va_W) ++ ((bw h a t ++ (cw yI yZ a K V)) ++ (cw yI yZ t Kt Vt ++ (zw yI yL o ba pa la ra K V (zA V))))) (by first | (simp only [List.append_assoc, List.append_nil, List.nil_append]; done) | rfl | (simp only [List.append_assoc, List.append_nil, List.nil_append]; rfl)) ?_
      have q89 : q_count 5 = 0 := (q_count_v (j := 5) (by decide))
      refine xr_mcXVi F G (rest := [.int 12, .int (c_water V)]) (As := [.int 5]) (k_X1_count l D yI yZ yL hst h a t K V 5 hK.1) (cwV 1 F.hts gL_law_X1_count rfl rfl rfl (by decide +kernel) ⟨Nat.le_of_ble_eq_true rfl, Nat.le_of_ble_eq_true rfl⟩) (q0 := 0) rfl rfl (([] : va_W)) (cw yI yZ t Kt Vt ++ (zw yI yL o ba pa la ra K V (zA V))) rfl rfl rfl (Nat.le_of_ble_eq_true rfl) dL_law_89 ⟨(by show _ ≤ (610331 : Nat); omega), (by show _ ≤ (7270474 : Nat); omega)⟩ (fun E1 W1 z1 => ?_) (fun r1 W1 z1 => ?_)
      · skip
        exact absurd (q89.symm.trans z1.1.1) (by decide)
      · skip
        obtain ⟨-, z0, z1⟩ := z1
        subst z0
        subst z1
        refine xr_ws (ws' := bw h a t ++ (cw yI yZ a K V ++ (cw yI yZ t Kt Vt ++ (zw yI yL o ba pa la ra K V (zA V))))) (by first | (simp only [List.append_assoc, List.append_nil, List.nil_append]; done) | rfl | (simp only [List.append_assoc, List.append_nil, List.nil_append]; rfl)) ?_
        refine xr_top (y := c_tellW K V 5) (by rw [show ix 5 = 5 from by decide]) ?_
        refine xr_top (y := c_fullN V) rfl ?_
        refine xr_imul F (12 * (c_fullN V)) dL_law_92 rfl ?_
        refine xr_iadd F ((c_water V) + (12 * (c_fullN V))) dL_law_93 rfl ?_
        refine xr_aload_n F dL_law_94 rfl 4 rfl ?_
        refine xr_bipush F dL_law_95 (v := 6) (by decide) ?_
        refine xr_ws (ws' := ([] : va_W) ++ ((bw h a t ++ (cw yI yZ a K V)) ++ (cw yI yZ t Kt Vt ++ (zw yI yL o ba pa la ra K V (zA V))))) (by first | (simp only [List.append_assoc, List.append_nil, List.nil_append]; done) | rfl | (simp only [List.append_assoc, List.append_nil, List.nil_append]; rfl)) ?_
        have q97 : q_count 6 = 0 := (q_count_v (j := 6) (by decide))
        refine xr_mcXVi F G (rest := [.int ((c_water V) + (12 * (c_fullN V)))]) (As := [.int 6]) (k_X1_count l D yI yZ yL hst h a t K V 6 hK.1) (cwV 1 F.hts gL_law_X1_count rfl rfl rfl (by decide +kernel) ⟨Nat.le_of_ble_eq_true rfl, Nat.le_of_ble_eq_true rfl⟩) (q0 := 0) rfl rfl (([] : va_W)) (cw yI yZ t Kt Vt ++ (zw yI yL o ba pa la ra K V (zA V))) rfl rfl rfl (Nat.le_of_ble_eq_true rfl) dL_law_97 ⟨(by show _ ≤ (610331 : Nat); omega), (by show _ ≤ (7270474 : Nat); omega)⟩ (fun E1 W1 z1 => ?_) (fun r1 W1 z1 => ?_)
        · skip
          exact absurd (q97.symm.trans z1.1.1) (by decide)
        · skip
          obtain ⟨-, z0, z1⟩ := z1
          subst z0
          subst z1
          refine xr_ws (ws' := bw h a t ++ (cw yI yZ a K V ++ (cw yI yZ t Kt Vt ++ (zw yI yL o ba pa la ra K V (zA V))))) (by first | (simp only [List.append_assoc, List.append_nil, List.nil_append]; done) | rfl | (simp only [List.append_assoc, List.append_nil, List.nil_append]; rfl)) ?_
          refine xr_top (y := c_tellW K V 6) (by rw [show ix 6 = 6 from by decide]) ?_
          refine xr_top (y := zA V) rfl ?_
          refine xr_iadd F (((c_water V) + (12 * (c_fullN V))) + (zA V)) dL_law_100 rfl ?_
          refine xr_top (y := wat V) (wat_eq hV.2.1).symm ?_
          refine xr_istore F [(6, .int (wat V)), (5, .int (nI (kNb K))), (4, .int x), (3, .int (nI tm)), (0, .ref b), (1, .ref h), (2, .ref (o 0))] dL_law_101 (by decide) rfl ?_
          refine xr_iload F dL_law_103 1 rfl ?_
          refine xr_iconst F dL_law_105 (v := 5) (by decide) ?_
          refine xr_mna F 0 2 rfl rfl (List.mem_of_getElem? (i := 3) rfl) (List.mem_of_getElem? (i := 4) rfl) (kNb K) (5) rfl rfl (by omega) (by decide) (by show _ ≤ (610331 : Nat); omega) (by show _ ≤ (7270474 : Nat); omega) dL_law_106 (fun q1 rb => ?_)
          refine xr_ws (ws' := bw h a t ++ (cw yI yZ a K V ++ (cw yI yZ t Kt Vt ++ (zw yI yL o ba pa la ra K V (zA V) ++ (([(q1, .inl (yL, refs (kNb K) rb))] : va_W) ++ (rowsW yI rb 5 (kNb K) (fun _ _ => 0))))))) (by first | (simp only [List.append_assoc, List.append_nil, List.nil_append]; done) | rfl | (simp only [List.append_assoc, List.append_nil, List.nil_append]; rfl)) ?_
          refine xr_astore F [(7, .ref q1), (6, .int (wat V)), (5, .int (nI (kNb K))), (4, .int x), (3, .int (nI tm)), (0, .ref b), (1, .ref h), (2, .ref (o 0))] dL_law_110 (by decide) rfl ?_
          refine xr_iconst F dL_law_112 (v := 5) (by decide) ?_
          refine xr_iconst F dL_law_113 (v := 5) (by decide) ?_
          refine xr_mna F 0 2 rfl rfl (List.mem_of_getElem? (i := 3) rfl) (List.mem_of_getElem? (i := 4) rfl) (5) (5) rfl rfl (by decide) (by decide) (by show _ ≤ (610331 : Nat); omega) (by show _ ≤ (7270474 : Nat); omega) dL_law_114 (fun q2 rl => ?_)
          refine xr_ws (ws' := bw h a t ++ (cw yI yZ a K V ++ (cw yI yZ t Kt Vt ++ (zw yI yL o ba pa la ra K V (zA V) ++ (([(q1, .inl (yL, refs (kNb K) rb))] : va_W) ++ (rowsW yI rb 5 (kNb K) (fun _ _ => 0) ++ (([(q2, .inl (yL, refs 5 rl))] : va_W) ++ (rowsW yI rl 5 5 (fun _ _ => 0))))))))) (by first | (simp only [List.append_assoc, List.append_nil, List.nil_append]; done) | rfl | (simp only [List.append_assoc, List.append_nil, List.nil_append]; rfl)) ?_
          refine xr_astore F [(8, .ref q2), (7, .ref q1), (6, .int (wat V)), (5, .int (nI (kNb K))), (4, .int x), (3, .int (nI tm)), (0, .ref b), (1, .ref h), (2, .ref (o 0))] dL_law_118 (by decide) rfl ?_
          refine xr_iconst F dL_law_120 (v := 5) (by decide) ?_
          refine xr_newa F 0 (ty := .int) rfl (fun _ h => h) (List.mem_of_getElem? (i := 4) rfl) rfl 5 rfl (by decide) (5, .inl (fun _ => 0)) (fun _ => rfl) (Nat.le_of_ble_eq_true rfl) (by show _ ≤ (610331 : Nat); omega) (by show _ ≤ (7270474 : Nat); omega) dL_law_121 (fun q3 => ?_)
          refine xr_ws (ws' := bw h a t ++ (cw yI yZ a K V ++ (cw yI yZ t Kt Vt ++ (zw yI yL o ba pa la ra K V (zA V) ++ (([(q1, .inl (yL, refs (kNb K) rb))] : va_W) ++ (rowsW yI rb 5 (kNb K) (fun _ _ => 0) ++ (([(q2, .inl (yL, refs 5 rl))] : va_W) ++ (rowsW yI rl 5 5 (fun _ _ => 0) ++ (([(q3, .inl (yI, 5, .inl (fun _ => 0)))] : va_W)))))))))) (by first | (simp only [List.append_assoc, List.append_nil, List.nil_append]; done) | rfl | (simp only [List.append_assoc, List.append_nil, List.nil_append]; rfl)) ?_
          refine xr_dup F dL_law_123 rfl ?_
          refine xr_iconst F dL_law_124 (v := 0) (by decide) ?_
          refine xr_iconst F dL_law_125 (v := (-1)) (by decide) ?_
          refine xr_iast F (1 + (12 + (12 + (16 + (kNb K) + (1 + (kNb K + (1 + (5 + (0))))))))) 0 (w_skip (1) rfl (w_skip (12) rfl (w_skip (12) rfl (w_skip (16 + (kNb K)) (zw_len _ _ _ _ _ _ _ _ _ _) (w_skip (1) rfl (w_skip (kNb K) (rowsW_len _ _ _ _ _) (w_skip (1) rfl (w_skip (5) (rowsW_len _ _ _ _ _) rfl)))))))) rfl (0) rfl (by decide) (by decide) (bw h a t ++ (cw yI yZ a K V ++ (cw yI yZ t Kt Vt ++ (zw yI yL o ba pa la ra K V (zA V) ++ (([(q1, .inl (yL, refs (kNb K) rb))] : va_W) ++ (rowsW yI rb 5 (kNb K) (fun _ _ => 0) ++ (([(q2, .inl (yL, refs 5 rl))] : va_W) ++ (rowsW yI rl 5 5 (fun _ _ => 0) ++ (([(q3, .inl (yI, 5, .inl (upd (fun _ => 0) 0 (-1))))] : va_W)))))))))) (s_skip (1) rfl (s_skip (12) rfl (s_skip (12) rfl (s_skip (16 + (kNb K)) (zw_len _ _ _ _ _ _ _ _ _ _) (s_skip (1) rfl (s_skip (kNb K) (rowsW_len _ _ _ _ _) (s_skip (1) rfl (s_skip (5) (rowsW_len _ _ _ _ _) rfl)))))))) dL_law_126 ?_
          refine xr_dup F dL_law_127 rfl ?_
          refine xr_iconst F dL_law_128 (v := 1) (by decide) ?_
          refine xr_iconst F dL_law_129 (v := (-1)) (by decide) ?_
          refine xr_iast F (1 + (12 + (12 + (16 + (kNb K) + (1 + (kNb K + (1 + (5 + (0))))))))) 0 (w_skip (1) rfl (w_skip (12) rfl (w_skip (12) rfl (w_skip (16 + (kNb K)) (zw_len _ _ _ _ _ _ _ _ _ _) (w_skip (1) rfl (w_skip (kNb K) (rowsW_len _ _ _ _ _) (w_skip (1) rfl (w_skip (5) (rowsW_len _ _ _ _ _) rfl)))))))) rfl (1) rfl (by decide) (by decide) (bw h a t ++ (cw yI yZ a K V ++ (cw yI yZ t Kt Vt ++ (zw yI yL o ba pa la ra K V (zA V) ++ (([(q1, .inl (yL, refs (kNb K) rb))] : va_W) ++ (rowsW yI rb 5 (kNb K) (fun _ _ => 0) ++ (([(q2, .inl (yL, refs 5 rl))] : va_W) ++ (rowsW yI rl 5 5 (fun _ _ => 0) ++ (([(q3, .inl (yI, 5, .inl (upd (upd (fun _ => 0) 0 (-1)) 1 (-1))))] : va_W)))))))))) (s_skip (1) rfl (s_skip (12) rfl (s_skip (12) rfl (s_skip (16 + (kNb K)) (zw_len _ _ _ _ _ _ _ _ _ _) (s_skip (1) rfl (s_skip (kNb K) (rowsW_len _ _ _ _ _) (s_skip (1) rfl (s_skip (5) (rowsW_len _ _ _ _ _) rfl)))))))) dL_law_130 ?_
          refine xr_dup F dL_law_131 rfl ?_
          refine xr_iconst F dL_law_132 (v := 2) (by decide) ?_
          refine xr_iconst F dL_law_133 (v := (-1)) (by decide) ?_
          refine xr_iast F (1 + (12 + (12 + (16 + (kNb K) + (1 + (kNb K + (1 + (5 + (0))))))))) 0 (w_skip (1) rfl (w_skip (12) rfl (w_skip (12) rfl (w_skip (16 + (kNb K)) (zw_len _ _ _ _ _ _ _ _ _ _) (w_skip (1) rfl (w_skip (kNb K) (rowsW_len _ _ _ _ _) (w_skip (1) rfl (w_skip (5) (rowsW_len _ _ _ _ _) rfl)))))))) rfl (2) rfl (by decide) (by decide) (bw h a t ++ (cw yI yZ a K V ++ (cw yI yZ t Kt Vt ++ (zw yI yL o ba pa la ra K V (zA V) ++ (([(q1, .inl (yL, refs (kNb K) rb))] : va_W) ++ (rowsW yI rb 5 (kNb K) (fun _ _ => 0) ++ (([(q2, .inl (yL, refs 5 rl))] : va_W) ++ (rowsW yI rl 5 5 (fun _ _ => 0) ++ (([(q3, .inl (yI, 5, .inl (upd (upd (upd (fun _ => 0) 0 (-1)) 1 (-1)) 2 (-1))))] : va_W)))))))))) (s_skip (1) rfl (s_skip (12) rfl (s_skip (12) rfl (s_skip (16 + (kNb K)) (zw_len _ _ _ _ _ _ _ _ _ _) (s_skip (1) rfl (s_skip (kNb K) (rowsW_len _ _ _ _ _) (s_skip (1) rfl (s_skip (5) (rowsW_len _ _ _ _ _) rfl)))))))) dL_law_134 ?_
          refine xr_dup F dL_law_135 rfl ?_
          refine xr_iconst F dL_law_136 (v := 3) (by decide) ?_
          refine xr_iconst F dL_law_137 (v := (-1)) (by decide) ?_
          refine xr_iast F (1 + (12 + (12 + (16 + (kNb K) + (1 + (kNb K + (1 + (5 + (0))))))))) 0 (w_skip (1) rfl (w_skip (12) rfl (w_skip (12) rfl (w_skip (16 + (kNb K)) (zw_len _ _ _ _ _ _ _ _ _ _) (w_skip (1) rfl (w_skip (kNb K) (rowsW_len _ _ _ _ _) (w_skip (1) rfl (w_skip (5) (rowsW_len _ _ _ _ _) rfl)))))))) rfl (3) rfl (by decide) (by decide) (bw h a t ++ (cw yI yZ a K V ++ (cw yI yZ t Kt Vt ++ (zw yI yL o ba pa la ra K V (zA V) ++ (([(q1, .inl (yL, refs (kNb K) rb))] : va_W) ++ (rowsW yI rb 5 (kNb K) (fun _ _ => 0) ++ (([(q2, .inl (yL, refs 5 rl))] : va_W) ++ (rowsW yI rl 5 5 (fun _ _ => 0) ++ (([(q3, .inl (yI, 5, .inl (upd (upd (upd (upd (fun _ => 0) 0 (-1)) 1 (-1)) 2 (-1)) 3 (-1))))] : va_W)))))))))) (s_skip (1) rfl (s_skip (12) rfl (s_skip (12) rfl (s_skip (16 + (kNb K)) (zw_len _ _ _ _ _ _ _ _ _ _) (s_skip (1) rfl (s_skip (kNb K) (rowsW_len _ _ _ _ _) (s_skip (1) rfl (s_skip (5) (rowsW_len _ _ _ _ _) rfl)))))))) dL_law_138 ?_
          refine xr_dup F dL_law_139 rfl ?_
          refine xr_iconst F dL_law_140 (v := 4) (by decide) ?_
          refine xr_iconst F dL_law_141 (v := (-1)) (by decide) ?_
          refine xr_iast F (1 + (12 + (12 + (16 + (kNb K) + (1 + (kNb K + (1 + (5 + (0))))))))) 0 (w_skip (1) rfl (w_skip (12) rfl (w_skip (12) rfl (w_skip (16 + (kNb K)) (zw_len _ _ _ _ _ _ _ _ _ _) (w_skip (1) rfl (w_skip (kNb K) (rowsW_len _ _ _ _ _) (w_skip (1) rfl (w_skip (5) (rowsW_len _ _ _ _ _) rfl)))))))) rfl (4) rfl (by decide) (by decide) (bw h a t ++ (cw yI yZ a K V ++ (cw yI yZ t Kt Vt ++ (zw yI yL o ba pa la ra K V (zA V) ++ (([(q1, .inl (yL, refs (kNb K) rb))] : va_W) ++ (rowsW yI rb 5 (kNb K) (fun _ _ => 0) ++ (([(q2, .inl (yL, refs 5 rl))] : va_W) ++ (rowsW yI rl 5 5 (fun _ _ => 0) ++ (([(q3, .inl (yI, 5, .inl (upd (upd (upd (upd (upd (fun _ => 0) 0 (-1)) 1 (-1)) 2 (-1)) 3 (-1)) 4 (-1))))] : va_W)))))))))) (s_skip (1) rfl (s_skip (12) rfl (s_skip (12) rfl (s_skip (16 + (kNb K)) (zw_len _ _ _ _ _ _ _ _ _ _) (s_skip (1) rfl (s_skip (kNb K) (rowsW_len _ _ _ _ _) (s_skip (1) rfl (s_skip (5) (rowsW_len _ _ _ _ _) rfl)))))))) dL_law_142 ?_
          refine xr_astore F [(9, .ref q3), (8, .ref q2), (7, .ref q1), (6, .int (wat V)), (5, .int (nI (kNb K))), (4, .int x), (3, .int (nI tm)), (0, .ref b), (1, .ref h), (2, .ref (o 0))] dL_law_143 (by decide) rfl ?_
          refine xr_lv (lv' := [(9, .ref q3), (8, .ref q2), (7, .ref q1), (6, .int (wat V)), (5, .int (nI (kNb K))), (4, .int x), (3, .int (nI tm)), (0, .ref b), (1, .ref h), (2, .ref (o 0))]) [0, 1, 2, 3, 4, 5, 6, 7, 8, 9] rfl ?_
          refine xr_widen (k := cl + 100) (n := sl + 1000) (by omega) (by omega) ?_
          exact kk q1 rb q2 rl q3 _ _ _
