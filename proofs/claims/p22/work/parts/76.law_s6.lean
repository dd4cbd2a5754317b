set_option maxHeartbeats 4000000 in
set_option maxRecDepth 100000 in
/-- 667 to 704 -/
theorem law_S6 {p : Program} {e : Env} {s : State} {m : MethodId} {below : List Frame} {meth : Method} {c : Code} {l : Launch} (hst : l.stackTraces = false) {b L : Nat} {xs : Nat → Int32} (hL : L ≤ 260) {D : va_G} {yI yZ yL : ClassId} {A : Nat → Prop} {Q : State → Prop} (F : XF p s m #[Value.ref b] c cL_law 32 wsL_law R_law D (tysG yI yZ yL) A) (G : XG l s meth A) (hX : va_X b L xs s s.heap) (hbl : b < s.heap.size) (hbA : ¬ A b) {h : Nat} {a t o : Nat → Nat} {ba : Nat} {pa la ra : Nat → Nat} {K : CK} {V : CD} {Kt : CK} {Vt : CD} {N tm : Nat} (htm : tm < 45) (hN : N < 50000) (hK : okK K) (hV : okV K V N) (hh : dHour V ≤ 100) {x : Int32} {dg : Int64} {qB qL qN : Nat} {rb rl : Nat → Nat} {FB FL : Nat → Nat → Int32} {NX : Nat → Int32} {qT : Nat} {fT : Nat → Int32} (cl sl : Nat) (hcl : cl + 100 ≤ 610331) (hsl : sl + 1000 ≤ 7270474) (kk : ∀ (b0 ar : Int32) (Kt : CK) (Vt : CD) (hb0 : (b0 = -1 ∧ ar = -1) ∨ ∃ j, j < kNb K ∧ b0 = nI j ∧ ar = c_arrL K j 120 0 V), AW p l e room_1 s m #[Value.ref b] below meth c 32 D A (cl + 100) (sl + 1000) Q (bw h a t ++ (cw yI yZ a K V ++ (cw yI yZ t Kt Vt ++ (zw yI yL o ba pa la ra K V (zA V) ++ (([(qB, .inl (yL, refs (kNb K) rb))] : va_W) ++ (rowsW yI rb 5 (kNb K) FB ++ (([(qL, .inl (yL, refs 5 rl))] : va_W) ++ (rowsW yI rl 5 5 FL ++ (([(qN, .inl (yI, 5, .inl NX))] : va_W) ++ (([(qT, .inl (yI, 7, .inl fT))] : va_W))))))))))) [(19, .int ar), (18, .int b0), (17, .ref qT), (15, .long dg), (8, .ref qL), (7, .ref qB), (6, .int (wat V)), (5, .int (nI (kNb K))), (4, .int x), (3, .int (nI tm)), (0, .ref b), (1, .ref h), (2, .ref (o 0))] 704 []) : AW p l e room_1 s m #[Value.ref b] below meth c 32 D A cl sl Q (bw h a t ++ (cw yI yZ a K V ++ (cw yI yZ t Kt Vt ++ (zw yI yL o ba pa la ra K V (zA V) ++ (([(qB, .inl (yL, refs (kNb K) rb))] : va_W) ++ (rowsW yI rb 5 (kNb K) FB ++ (([(qL, .inl (yL, refs 5 rl))] : va_W) ++ (rowsW yI rl 5 5 FL ++ (([(qN, .inl (yI, 5, .inl NX))] : va_W) ++ (([(qT, .inl (yI, 7, .inl fT))] : va_W))))))))))) [(17, .ref qT), (15, .long dg), (8, .ref qL), (7, .ref qB), (6, .int (wat V)), (5, .int (nI (kNb K))), (4, .int x), (3, .int (nI tm)), (0, .ref b), (1, .ref h), (2, .ref (o 0))] 667 [] := by
  have k1 : kNb K ≤ 10 := hK.1
  show AW p l e room_1 s m #[Value.ref b] below meth c 32 D A cl sl Q (bw h a t ++ (cw yI yZ a K V ++ (cw yI yZ t Kt Vt ++ (zw yI yL o ba pa la ra K V (zA V) ++ (([(qB, .inl (yL, refs (kNb K) rb))] : va_W) ++ (rowsW yI rb 5 (kNb K) FB ++ (([(qL, .inl (yL, refs 5 rl))] : va_W) ++ (rowsW yI rl 5 5 FL ++ (([(qN, .inl (yI, 5, .inl NX))] : va_W) ++ (([(qT, .inl (yI, 7, .inl fT))] : va_W))))))))))) [(17, .ref qT), (15, .long dg), (8, .ref qL), (7, .ref qB), (6, .int (wat V)), (5, .int (nI (kNb K))), (4, .int x), (3, .int (nI tm)), (0, .ref b), (1, .ref h), (2, .ref (o 0))] 667 []
  refine xr_iload F dL_law_667 5 rfl ?_
  refine xr_if_ne F 676 dL_law_669 (by decide) (fun c669 => ?_) (fun c669 => ?_)
  · skip
    have hpos : 0 < kNb K := Nat.pos_of_ne_zero (fun z => c669 (by rw [z]; rfl))
    refine xr_iload F dL_law_676 6 rfl ?_
    refine xr_iconst F dL_law_678 (v := 4) (by decide) ?_
    refine xr_ishr F (x >>> (4 &&& 31)) dL_law_679 rfl ?_
    refine xr_iload F dL_law_680 5 rfl ?_
    refine xr_ws (ws' := (bw h a t ++ (cw yI yZ a K V ++ (cw yI yZ t Kt Vt ++ (zw yI yL o ba pa la ra K V (zA V) ++ (([(qB, .inl (yL, refs (kNb K) rb))] : va_W) ++ (rowsW yI rb 5 (kNb K) FB ++ (([(qL, .inl (yL, refs 5 rl))] : va_W) ++ (rowsW yI rl 5 5 FL ++ (([(qN, .inl (yI, 5, .inl NX))] : va_W) ++ (([(qT, .inl (yI, 7, .inl fT))] : va_W))))))))))) ++ (([] : va_W) ++ ([] : va_W))) (by first | (simp only [List.append_assoc, List.append_nil, List.nil_append]; done) | rfl | (simp only [List.append_assoc, List.append_nil, List.nil_append]; rfl)) ?_
    refine xr_mcSi F (rest := []) (As := [.int (x >>> (4 &&& 31)), .int (nI (kNb K))]) (k_L_below l D yI yZ yL (x >>> (4 &&& 31)) (kNb K) (by omega) (by omega)) (va_cwS 2 F.hts gL_law_L_below rfl rfl rfl (by decide +kernel) ⟨Nat.le_of_ble_eq_true rfl, Nat.le_of_ble_eq_true rfl⟩) (bw h a t ++ (cw yI yZ a K V ++ (cw yI yZ t Kt Vt ++ (zw yI yL o ba pa la ra K V (zA V) ++ (([(qB, .inl (yL, refs (kNb K) rb))] : va_W) ++ (rowsW yI rb 5 (kNb K) FB ++ (([(qL, .inl (yL, refs 5 rl))] : va_W) ++ (rowsW yI rl 5 5 FL ++ (([(qN, .inl (yI, 5, .inl NX))] : va_W) ++ (([(qT, .inl (yI, 7, .inl fT))] : va_W))))))))))) ([] : va_W) rfl rfl rfl (Nat.le_of_ble_eq_true rfl) dL_law_682 ⟨(by show _ ≤ (610331 : Nat); omega), (by show _ ≤ (7270474 : Nat); omega)⟩ (fun r1 W1 z1 => ?_)
    obtain ⟨⟨j9, hj9, z0⟩, z1⟩ := z1
    subst z0
    subst z1
    refine xr_ws (ws' := bw h a t ++ (cw yI yZ a K V ++ (cw yI yZ t Kt Vt ++ (zw yI yL o ba pa la ra K V (zA V) ++ (([(qB, .inl (yL, refs (kNb K) rb))] : va_W) ++ (rowsW yI rb 5 (kNb K) FB ++ (([(qL, .inl (yL, refs 5 rl))] : va_W) ++ (rowsW yI rl 5 5 FL ++ (([(qN, .inl (yI, 5, .inl NX))] : va_W) ++ (([(qT, .inl (yI, 7, .inl fT))] : va_W))))))))))) (by first | (simp only [List.append_assoc, List.append_nil, List.nil_append]; done) | rfl | (simp only [List.append_assoc, List.append_nil, List.nil_append]; rfl)) ?_
    refine xr_istore F [(18, .int (nI j9)), (17, .ref qT), (15, .long dg), (8, .ref qL), (7, .ref qB), (6, .int (wat V)), (5, .int (nI (kNb K))), (4, .int x), (3, .int (nI tm)), (0, .ref b), (1, .ref h), (2, .ref (o 0))] dL_law_685 (by decide) rfl ?_
    refine xr_iload F dL_law_687 0 rfl ?_
    refine xr_if_ge F 696 dL_law_689 (by decide) (fun c689 => ?_) (fun c689 => ?_)
    · skip
      refine xr_aload_n F dL_law_696 rfl 10 rfl ?_
      refine xr_iload F dL_law_697 0 rfl ?_
      refine xr_ws (ws' := ([] : va_W) ++ ((bw h a t ++ (cw yI yZ a K V ++ (cw yI yZ t Kt Vt))) ++ (zw yI yL o ba pa la ra K V (zA V) ++ (([(qB, .inl (yL, refs (kNb K) rb))] : va_W) ++ (rowsW yI rb 5 (kNb K) FB ++ (([(qL, .inl (yL, refs 5 rl))] : va_W) ++ (rowsW yI rl 5 5 FL ++ (([(qN, .inl (yI, 5, .inl NX))] : va_W) ++ (([(qT, .inl (yI, 7, .inl fT))] : va_W)))))))))) (by first | (simp only [List.append_assoc, List.append_nil, List.nil_append]; done) | rfl | (simp only [List.append_assoc, List.append_nil, List.nil_append]; rfl)) ?_
      have q699 : q_arrives K (nI j9) = 0 := (q_arr_v hK.1 hj9)
      refine xr_mcXVi F G (rest := []) (As := [.int (nI j9)]) (k_X1_arrives l D yI yZ yL hst h a t K V Kt Vt (nI j9) hK.2.2.1 hV.2.1 hK.1 hK.2.1 (by omega)) (cwV 1 F.hts gL_law_X1_arrives rfl rfl rfl (by decide +kernel) ⟨Nat.le_of_ble_eq_true rfl, Nat.le_of_ble_eq_true rfl⟩) (q0 := 0) rfl rfl (([] : va_W)) (zw yI yL o ba pa la ra K V (zA V) ++ (([(qB, .inl (yL, refs (kNb K) rb))] : va_W) ++ (rowsW yI rb 5 (kNb K) FB ++ (([(qL, .inl (yL, refs 5 rl))] : va_W) ++ (rowsW yI rl 5 5 FL ++ (([(qN, .inl (yI, 5, .inl NX))] : va_W) ++ (([(qT, .inl (yI, 7, .inl fT))] : va_W)))))))) rfl rfl rfl (Nat.le_of_ble_eq_true rfl) dL_law_699 ⟨(by show _ ≤ (610331 : Nat); omega), (by show _ ≤ (7270474 : Nat); omega)⟩ (fun E1 W1 z1 => ?_) (fun r1 W1 z1 => ?_)
      · skip
        exact absurd (q699.symm.trans z1.1.1) (by decide)
      · skip
        obtain ⟨-, z0, z1⟩ := z1
        obtain ⟨Kt2, Vt2, z1⟩ := z1
        subst z0
        subst z1
        refine xr_ws (ws' := bw h a t ++ (cw yI yZ a K V ++ (cw yI yZ t Kt2 Vt2 ++ (zw yI yL o ba pa la ra K V (zA V) ++ (([(qB, .inl (yL, refs (kNb K) rb))] : va_W) ++ (rowsW yI rb 5 (kNb K) FB ++ (([(qL, .inl (yL, refs 5 rl))] : va_W) ++ (rowsW yI rl 5 5 FL ++ (([(qN, .inl (yI, 5, .inl NX))] : va_W) ++ (([(qT, .inl (yI, 7, .inl fT))] : va_W))))))))))) (by first | (simp only [List.append_assoc, List.append_nil, List.nil_append]; done) | rfl | (simp only [List.append_assoc, List.append_nil, List.nil_append]; rfl)) ?_
        refine xr_top (y := c_arrL K j9 120 0 V) (by rw [ix_nI (by omega)]) ?_
        refine xr_istore F [(19, .int (c_arrL K j9 120 0 V)), (18, .int (nI j9)), (17, .ref qT), (15, .long dg), (8, .ref qL), (7, .ref qB), (6, .int (wat V)), (5, .int (nI (kNb K))), (4, .int x), (3, .int (nI tm)), (0, .ref b), (1, .ref h), (2, .ref (o 0))] dL_law_702 (by decide) rfl ?_
        refine xr_lv (lv' := [(19, .int (c_arrL K j9 120 0 V)), (18, .int (nI j9)), (17, .ref qT), (15, .long dg), (8, .ref qL), (7, .ref qB), (6, .int (wat V)), (5, .int (nI (kNb K))), (4, .int x), (3, .int (nI tm)), (0, .ref b), (1, .ref h), (2, .ref (o 0))]) [0, 1, 2, 3, 4, 5, 6, 7, 8, 9, 10, 11, 12] rfl ?_
        refine xr_widen (k := cl + 100) (n := sl + 1000) (by omega) (by omega) ?_
        exact kk (nI j9) (c_arrL K j9 120 0 V) Kt2 Vt2 (Or.inr ⟨j9, hj9, rfl, rfl⟩)
    · exact absurd (Int32.not_lt.mp (nI_pos (by omega))) c689
  · skip
    refine xr_iconst F dL_law_672 (v := (-1)) (by decide) ?_
    refine xr_goto F 685 dL_law_673 (by decide) ?_
    refine xr_istore F [(18, .int ((-1))), (17, .ref qT), (15, .long dg), (8, .ref qL), (7, .ref qB), (6, .int (wat V)), (5, .int (nI (kNb K))), (4, .int x), (3, .int (nI tm)), (0, .ref b), (1, .ref h), (2, .ref (o 0))] dL_law_685 (by decide) rfl ?_
    refine xr_iload F dL_law_687 0 rfl ?_
    refine xr_if_ge F 696 dL_law_689 (by decide) (fun c689 => ?_) (fun c689 => ?_)
    · exact absurd c689 (by decide)
    · skip
      refine xr_iconst F dL_law_692 (v := (-1)) (by decide) ?_
      refine xr_goto F 702 dL_law_693 (by decide) ?_
      refine xr_istore F [(19, .int ((-1))), (18, .int ((-1))), (17, .ref qT), (15, .long dg), (8, .ref qL), (7, .ref qB), (6, .int (wat V)), (5, .int (nI (kNb K))), (4, .int x), (3, .int (nI tm)), (0, .ref b), (1, .ref h), (2, .ref (o 0))] dL_law_702 (by decide) rfl ?_
      refine xr_lv (lv' := [(19, .int ((-1))), (18, .int ((-1))), (17, .ref qT), (15, .long dg), (8, .ref qL), (7, .ref qB), (6, .int (wat V)), (5, .int (nI (kNb K))), (4, .int x), (3, .int (nI tm)), (0, .ref b), (1, .ref h), (2, .ref (o 0))]) [0, 1, 2, 3, 4, 5, 6, 7, 8, 9, 10, 11, 12] rfl ?_
      refine xr_widen (k := cl + 100) (n := sl + 1000) (by omega) (by omega) ?_
      exact kk (-1) (-1) Kt Vt (Or.inl ⟨rfl, rfl⟩)
