set_option maxHeartbeats 4000000 in
set_option maxRecDepth 100000 in
/-- 862 to 974 -/
theorem law_S9b {p : Program} {e : Env} {s : State} {m : MethodId} {below : List Frame} {meth : Method} {c : Code} {l : Launch} (hst : l.stackTraces = false) {b L : Nat} {xs : Nat → Int32} (hL : L ≤ 260) {D : va_G} {yI yZ yL : ClassId} {A : Nat → Prop} {Q : State → Prop} (F : XF p s m #[Value.ref b] c cL_law 32 wsL_law R_law D (tysG yI yZ yL) A) (G : XG l s meth A) (hX : va_X b L xs s s.heap) (hbl : b < s.heap.size) (hbA : ¬ A b) {h : Nat} {a t o : Nat → Nat} {ba : Nat} {pa la ra : Nat → Nat} {K : CK} {V : CD} {Kt : CK} {Vt : CD} {N tm : Nat} (htm : tm < 45) (hN : N < 50000) (hK : okK K) (hV : okV K V N) (hh : dHour V ≤ 100) {b0 ar sv sp : Int32} {qB qL qN : Nat} {rb rl : Nat → Nat} {FB FL : Nat → Nat → Int32} {NX : Nat → Int32} {qT : Nat} {fT : Nat → Int32} {V2 : CD} {tS uS : Nat} (hA : hrAll K V V2 tS uS) (hV2 : okV K V2 (N + 1)) (hh2 : dHour V2 ≤ 101) (hsv : sv = nI tS) (hs0 : sp = 0 ↔ sv = 0) (hb0 : (b0 = -1 ∧ ar = -1) ∨ ∃ j, j < kNb K ∧ b0 = nI j ∧ ar = c_arrL K j 120 0 V) (hT : ∀ w9, 2 ≤ w9 → w9 < 7 → fT w9 = c_tellW K V2 w9) (cl sl : Nat) (hcl : cl + 100 ≤ 610331) (hsl : sl + 1000 ≤ 7270474) (kk : ∀ (Kt : CK) (Vt : CD), AW p l e room_1 s m #[Value.ref b] below meth c 32 D A (cl + 100) (sl + 1000) Q (bw h a t ++ (cw yI yZ a K V2 ++ (cw yI yZ t Kt Vt ++ (zw yI yL o ba pa la ra K V2 (zA V2) ++ (([(qB, .inl (yL, refs (kNb K) rb))] : va_W) ++ (rowsW yI rb 5 (kNb K) FB ++ (([(qL, .inl (yL, refs 5 rl))] : va_W) ++ (rowsW yI rl 5 5 FL ++ (([(qN, .inl (yI, 5, .inl NX))] : va_W) ++ (([(qT, .inl (yI, 7, .inl fT))] : va_W))))))))))) [(25, .int (nI tS)), (24, .int (kFee K)), (23, .int (dBank V)), (8, .ref qL), (7, .ref qB), (5, .int (nI (kNb K))), (3, .int (nI tm)), (0, .ref b), (1, .ref h), (2, .ref (o 0))] 974 []) : AW p l e room_1 s m #[Value.ref b] below meth c 32 D A cl sl Q (bw h a t ++ (cw yI yZ a K V2 ++ (cw yI yZ t Kt Vt ++ (zw yI yL o ba pa la ra K V2 (zA V2) ++ (([(qB, .inl (yL, refs (kNb K) rb))] : va_W) ++ (rowsW yI rb 5 (kNb K) FB ++ (([(qL, .inl (yL, refs 5 rl))] : va_W) ++ (rowsW yI rl 5 5 FL ++ (([(qN, .inl (yI, 5, .inl NX))] : va_W) ++ (([(qT, .inl (yI, 7, .inl fT))] : va_W))))))))))) [(25, .int sv), (24, .int (kFee K)), (23, .int (dBank V)), (22, .int (kSpr K (dHour V % 8))), (21, .int sp), (19, .int ar), (18, .int b0), (17, .ref qT), (8, .ref qL), (7, .ref qB), (6, .int (wat V)), (5, .int (nI (kNb K))), (3, .int (nI tm)), (0, .ref b), (1, .ref h), (2, .ref (o 0))] 862 [] := by
  have k1 : kNb K ≤ 10 := hK.1
  subst hsv
  show AW p l e room_1 s m #[Value.ref b] below meth c 32 D A cl sl Q (bw h a t ++ (cw yI yZ a K V2 ++ (cw yI yZ t Kt Vt ++ (zw yI yL o ba pa la ra K V2 (zA V2) ++ (([(qB, .inl (yL, refs (kNb K) rb))] : va_W) ++ (rowsW yI rb 5 (kNb K) FB ++ (([(qL, .inl (yL, refs 5 rl))] : va_W) ++ (rowsW yI rl 5 5 FL ++ (([(qN, .inl (yI, 5, .inl NX))] : va_W) ++ (([(qT, .inl (yI, 7, .inl fT))] : va_W))))))))))) [(25, .int (nI tS)), (24, .int (kFee K)), (23, .int (dBank V)), (22, .int (kSpr K (dHour V % 8))), (21, .int sp), (19, .int ar), (18, .int b0), (17, .ref qT), (8, .ref qL), (7, .ref qB), (6, .int (wat V)), (5, .int (nI (kNb K))), (3, .int (nI tm)), (0, .ref b), (1, .ref h), (2, .ref (o 0))] 862 []
  refine xr_iload F dL_law_862 0 rfl ?_
  refine xr_iconst F dL_law_864 (v := 5) (by decide) ?_
  refine xr_icmp_gt F 920 dL_law_865 (by decide) (fun c865 => ?_) (fun c865 => ?_)
  · exact absurd c865 (five_n hA.2.2.1)
  · skip
    refine xr_iload F dL_law_868 4 rfl ?_
    refine xr_if_ne F 877 dL_law_870 (by decide) (fun c870 => ?_) (fun c870 => ?_)
    · skip
      refine xr_iconst F dL_law_877 (v := 0) (by decide) ?_
      refine xr_iload F dL_law_878 0 rfl ?_
      refine xr_if_ne F 887 dL_law_880 (by decide) (fun c880 => ?_) (fun c880 => ?_)
      · skip
        refine xr_iconst F dL_law_887 (v := 0) (by decide) ?_
        refine xr_icmp_ne F 920 dL_law_888 (by decide) (fun c888 => ?_) (fun c888 => ?_)
        · exact absurd rfl c888
        · skip
          refine xr_aload_n F dL_law_891 rfl 14 rfl ?_
          refine xr_iconst F dL_law_892 (v := 4) (by decide) ?_
          refine xr_ws (ws' := ([] : va_W) ++ ((bw h a t ++ (cw yI yZ a K V2)) ++ (cw yI yZ t Kt Vt ++ (zw yI yL o ba pa la ra K V2 (zA V2) ++ (([(qB, .inl (yL, refs (kNb K) rb))] : va_W) ++ (rowsW yI rb 5 (kNb K) FB ++ (([(qL, .inl (yL, refs 5 rl))] : va_W) ++ (rowsW yI rl 5 5 FL ++ (([(qN, .inl (yI, 5, .inl NX))] : va_W) ++ (([(qT, .inl (yI, 7, .inl fT))] : va_W))))))))))) (by first | (simp only [List.append_assoc, List.append_nil, List.nil_append]; done) | rfl | (simp only [List.append_assoc, List.append_nil, List.nil_append]; rfl)) ?_
          have q893 : q_count 4 = 0 := (q_count_v (j := 4) (by decide))
          refine xr_mcXVi F G (rest := []) (As := [.int 4]) (k_X1_count l D yI yZ yL hst h a t K V2 4 hK.1) (cwV 1 F.hts gL_law_X1_count rfl rfl rfl (by decide +kernel) ⟨Nat.le_of_ble_eq_true rfl, Nat.le_of_ble_eq_true rfl⟩) (q0 := 0) rfl rfl (([] : va_W)) (cw yI yZ t Kt Vt ++ (zw yI yL o ba pa la ra K V2 (zA V2) ++ (([(qB, .inl (yL, refs (kNb K) rb))] : va_W) ++ (rowsW yI rb 5 (kNb K) FB ++ (([(qL, .inl (yL, refs 5 rl))] : va_W) ++ (rowsW yI rl 5 5 FL ++ (([(qN, .inl (yI, 5, .inl NX))] : va_W) ++ (([(qT, .inl (yI, 7, .inl fT))] : va_W))))))))) rfl rfl rfl (Nat.le_of_ble_eq_true rfl) dL_law_893 ⟨(by show _ ≤ (610331 : Nat); omega), (by show _ ≤ (7270474 : Nat); omega)⟩ (fun E1 W1 z1 => ?_) (fun r1 W1 z1 => ?_)
          · skip
            exact absurd (q893.symm.trans z1.1.1) (by decide)
          · skip
            obtain ⟨-, z0, z1⟩ := z1
            subst z0
            subst z1
            refine xr_ws (ws' := bw h a t ++ (cw yI yZ a K V2 ++ (cw yI yZ t Kt Vt ++ (zw yI yL o ba pa la ra K V2 (zA V2) ++ (([(qB, .inl (yL, refs (kNb K) rb))] : va_W) ++ (rowsW yI rb 5 (kNb K) FB ++ (([(qL, .inl (yL, refs 5 rl))] : va_W) ++ (rowsW yI rl 5 5 FL ++ (([(qN, .inl (yI, 5, .inl NX))] : va_W) ++ (([(qT, .inl (yI, 7, .inl fT))] : va_W))))))))))) (by first | (simp only [List.append_assoc, List.append_nil, List.nil_append]; done) | rfl | (simp only [List.append_assoc, List.append_nil, List.nil_append]; rfl)) ?_
            refine xr_top (y := c_tellW K V2 4) (by rw [show ix 4 = 4 from by decide]) ?_
            refine xr_top (y := c_water V2) rfl ?_
            refine xr_bipush F dL_law_896 (v := 12) (by decide) ?_
            refine xr_aload_n F dL_law_898 rfl 14 rfl ?_
            refine xr_iconst F dL_law_899 (v := 5) (by decide) ?_
            refine xr_ws (ws' := ([] : va_W) ++ ((bw h a t ++ (cw yI yZ a K V2)) ++ (cw yI yZ t Kt Vt ++ (zw yI yL o ba pa la ra K V2 (zA V2) ++ (([(qB, .inl (yL, refs (kNb K) rb))] : va_W) ++ (rowsW yI rb 5 (kNb K) FB ++ (([(qL, .inl (yL, refs 5 rl))] : va_W) ++ (rowsW yI rl 5 5 FL ++ (([(qN, .inl (yI, 5, .inl NX))] : va_W) ++ (([(qT, .inl (yI, 7, .inl fT))] : va_W))))))))))) (by first | (simp only [List.append_assoc, List.append_nil, List.nil_append]; done) | rfl | (simp only [List.append_assoc, List.append_nil, List.nil_append]; rfl)) ?_
            have q900 : q_count 5 = 0 := (q_count_v (j := 5) (by decide))
            refine xr_mcXVi F G (rest := [.int 12, .int (c_water V2)]) (As := [.int 5]) (k_X1_count l D yI yZ yL hst h a t K V2 5 hK.1) (cwV 1 F.hts gL_law_X1_count rfl rfl rfl (by decide +kernel) ⟨Nat.le_of_ble_eq_true rfl, Nat.le_of_ble_eq_true rfl⟩) (q0 := 0) rfl rfl (([] : va_W)) (cw yI yZ t Kt Vt ++ (zw yI yL o ba pa la ra K V2 (zA V2) ++ (([(qB, .inl (yL, refs (kNb K) rb))] : va_W) ++ (rowsW yI rb 5 (kNb K) FB ++ (([(qL, .inl (yL, refs 5 rl))] : va_W) ++ (rowsW yI rl 5 5 FL ++ (([(qN, .inl (yI, 5, .inl NX))] : va_W) ++ (([(qT, .inl (yI, 7, .inl fT))] : va_W))))))))) rfl rfl rfl (Nat.le_of_ble_eq_true rfl) dL_law_900 ⟨(by show _ ≤ (610331 : Nat); omega), (by show _ ≤ (7270474 : Nat); omega)⟩ (fun E1 W1 z1 => ?_) (fun r1 W1 z1 => ?_)
            · skip
              exact absurd (q900.symm.trans z1.1.1) (by decide)
            · skip
              obtain ⟨-, z0, z1⟩ := z1
              subst z0
              subst z1
              refine xr_ws (ws' := bw h a t ++ (cw yI yZ a K V2 ++ (cw yI yZ t Kt Vt ++ (zw yI yL o ba pa la ra K V2 (zA V2) ++ (([(qB, .inl (yL, refs (kNb K) rb))] : va_W) ++ (rowsW yI rb 5 (kNb K) FB ++ (([(qL, .inl (yL, refs 5 rl))] : va_W) ++ (rowsW yI rl 5 5 FL ++ (([(qN, .inl (yI, 5, .inl NX))] : va_W) ++ (([(qT, .inl (yI, 7, .inl fT))] : va_W))))))))))) (by first | (simp only [List.append_assoc, List.append_nil, List.nil_append]; done) | rfl | (simp only [List.append_assoc, List.append_nil, List.nil_append]; rfl)) ?_
              refine xr_top (y := c_tellW K V2 5) (by rw [show ix 5 = 5 from by decide]) ?_
              refine xr_top (y := c_fullN V2) rfl ?_
              refine xr_imul F (12 * (c_fullN V2)) dL_law_903 rfl ?_
              refine xr_iadd F ((c_water V2) + (12 * (c_fullN V2))) dL_law_904 rfl ?_
              refine xr_aload_n F dL_law_905 rfl 14 rfl ?_
              refine xr_bipush F dL_law_906 (v := 6) (by decide) ?_
              refine xr_ws (ws' := ([] : va_W) ++ ((bw h a t ++ (cw yI yZ a K V2)) ++ (cw yI yZ t Kt Vt ++ (zw yI yL o ba pa la ra K V2 (zA V2) ++ (([(qB, .inl (yL, refs (kNb K) rb))] : va_W) ++ (rowsW yI rb 5 (kNb K) FB ++ (([(qL, .inl (yL, refs 5 rl))] : va_W) ++ (rowsW yI rl 5 5 FL ++ (([(qN, .inl (yI, 5, .inl NX))] : va_W) ++ (([(qT, .inl (yI, 7, .inl fT))] : va_W))))))))))) (by first | (simp only [List.append_assoc, List.append_nil, List.nil_append]; done) | rfl | (simp only [List.append_assoc, List.append_nil, List.nil_append]; rfl)) ?_
              have q908 : q_count 6 = 0 := (q_count_v (j := 6) (by decide))
              refine xr_mcXVi F G (rest := [.int ((c_water V2) + (12 * (c_fullN V2)))]) (As := [.int 6]) (k_X1_count l D yI yZ yL hst h a t K V2 6 hK.1) (cwV 1 F.hts gL_law_X1_count rfl rfl rfl (by decide +kernel) ⟨Nat.le_of_ble_eq_true rfl, Nat.le_of_ble_eq_true rfl⟩) (q0 := 0) rfl rfl (([] : va_W)) (cw yI yZ t Kt Vt ++ (zw yI yL o ba pa la ra K V2 (zA V2) ++ (([(qB, .inl (yL, refs (kNb K) rb))] : va_W) ++ (rowsW yI rb 5 (kNb K) FB ++ (([(qL, .inl (yL, refs 5 rl))] : va_W) ++ (rowsW yI rl 5 5 FL ++ (([(qN, .inl (yI, 5, .inl NX))] : va_W) ++ (([(qT, .inl (yI, 7, .inl fT))] : va_W))))))))) rfl rfl rfl (Nat.le_of_ble_eq_true rfl) dL_law_908 ⟨(by show _ ≤ (610331 : Nat); omega), (by show _ ≤ (7270474 : Nat); omega)⟩ (fun E1 W1 z1 => ?_) (fun r1 W1 z1 => ?_)
              · skip
                exact absurd (q908.symm.trans z1.1.1) (by decide)
              · skip
                obtain ⟨-, z0, z1⟩ := z1
                subst z0
                subst z1
                refine xr_ws (ws' := bw h a t ++ (cw yI yZ a K V2 ++ (cw yI yZ t Kt Vt ++ (zw yI yL o ba pa la ra K V2 (zA V2) ++ (([(qB, .inl (yL, refs (kNb K) rb))] : va_W) ++ (rowsW yI rb 5 (kNb K) FB ++ (([(qL, .inl (yL, refs 5 rl))] : va_W) ++ (rowsW yI rl 5 5 FL ++ (([(qN, .inl (yI, 5, .inl NX))] : va_W) ++ (([(qT, .inl (yI, 7, .inl fT))] : va_W))))))))))) (by first | (simp only [List.append_assoc, List.append_nil, List.nil_append]; done) | rfl | (simp only [List.append_assoc, List.append_nil, List.nil_append]; rfl)) ?_
                refine xr_top (y := c_tellW K V2 6) (by rw [show ix 6 = 6 from by decide]) ?_
                refine xr_top (y := zA V2) rfl ?_
                refine xr_iadd F (((c_water V2) + (12 * (c_fullN V2))) + (zA V2)) dL_law_911 rfl ?_
                refine xr_top (y := wat V2) (wat_eq hV2.2.1).symm ?_
                refine xr_iload F dL_law_912 10 rfl ?_
                refine xr_iload F dL_law_914 3 rfl ?_
                refine xr_iadd F ((wat V) + (kSpr K (dHour V % 8))) dL_law_916 rfl ?_
                refine xr_icmp_eq F 922 dL_law_917 (by decide) (fun c917 => ?_) (fun c917 => ?_)
                · skip
                  refine xr_iconst F dL_law_922 (v := 2) (by decide) ?_
                  refine xr_istore F [(26, .int 2), (25, .int (nI tS)), (24, .int (kFee K)), (23, .int (dBank V)), (22, .int (kSpr K (dHour V % 8))), (21, .int sp), (19, .int ar), (18, .int b0), (17, .ref qT), (8, .ref qL), (7, .ref qB), (6, .int (wat V)), (5, .int (nI (kNb K))), (3, .int (nI tm)), (0, .ref b), (1, .ref h), (2, .ref (o 0))] dL_law_923 (by decide) rfl ?_
                  have lp : ∀ (i : Nat) (w9 : Nat), i + w9 = 7 → 2 ≤ w9 → AW p l e room_1 s m #[Value.ref b] below meth c 32 D A (cl + 10 + w9) (sl + 60 + 6 * w9) Q (bw h a t ++ (cw yI yZ a K V2 ++ (cw yI yZ t Kt Vt ++ (zw yI yL o ba pa la ra K V2 (zA V2) ++ (([(qB, .inl (yL, refs (kNb K) rb))] : va_W) ++ (rowsW yI rb 5 (kNb K) FB ++ (([(qL, .inl (yL, refs 5 rl))] : va_W) ++ (rowsW yI rl 5 5 FL ++ (([(qN, .inl (yI, 5, .inl NX))] : va_W) ++ (([(qT, .inl (yI, 7, .inl fT))] : va_W))))))))))) [(26, .int (nI w9)), (25, .int (nI tS)), (24, .int (kFee K)), (23, .int (dBank V)), (22, .int (kSpr K (dHour V % 8))), (21, .int sp), (19, .int ar), (18, .int b0), (17, .ref qT), (8, .ref qL), (7, .ref qB), (6, .int (wat V)), (5, .int (nI (kNb K))), (3, .int (nI tm)), (0, .ref b), (1, .ref h), (2, .ref (o 0))] 925 [] := by
                    intro i
                    induction i with
                    | zero =>
                      intro w9 hb hw2
                      refine xr_iload F dL_law_925 0 rfl ?_
                      refine xr_bipush F dL_law_927 (v := 7) (by decide) ?_
                      refine xr_icmp_ge F 954 dL_law_929 (by decide) (fun c929 => ?_) (fun c929 => ?_)
                      · skip
                        rcases hb0 with ⟨z1, z2⟩ | ⟨j9, hj9, z1, z2⟩
                        · skip
                          subst z1
                          subst z2
                          refine xr_iload F dL_law_954 6 rfl ?_
                          refine xr_if_le F 974 dL_law_956 (by decide) (fun c956 => ?_) (fun c956 => ?_)
                          · skip
                            refine xr_lv (lv' := [(25, .int (nI tS)), (24, .int (kFee K)), (23, .int (dBank V)), (8, .ref qL), (7, .ref qB), (5, .int (nI (kNb K))), (3, .int (nI tm)), (0, .ref b), (1, .ref h), (2, .ref (o 0))]) [1, 2, 3, 9, 10, 12, 13, 14, 15, 16] rfl ?_
                            refine xr_widen (k := cl + 100) (n := sl + 1000) (by omega) (by omega) ?_
                            exact kk Kt Vt
                          · exact absurd (by decide) c956
                        · skip
                          subst z1
                          subst z2
                          refine xr_iload F dL_law_954 6 rfl ?_
                          refine xr_if_le F 974 dL_law_956 (by decide) (fun c956 => ?_) (fun c956 => ?_)
                          · skip
                            refine xr_lv (lv' := [(25, .int (nI tS)), (24, .int (kFee K)), (23, .int (dBank V)), (8, .ref qL), (7, .ref qB), (5, .int (nI (kNb K))), (3, .int (nI tm)), (0, .ref b), (1, .ref h), (2, .ref (o 0))]) [1, 2, 3, 9, 10, 12, 13, 14, 15, 16] rfl ?_
                            refine xr_widen (k := cl + 100) (n := sl + 1000) (by omega) (by omega) ?_
                            exact kk Kt Vt
                          · skip
                            refine xr_aload_n F dL_law_959 rfl 15 rfl ?_
                            refine xr_iload F dL_law_960 7 rfl ?_
                            refine xr_ws (ws' := ([] : va_W) ++ ((bw h a t ++ (cw yI yZ a K V2 ++ (cw yI yZ t Kt Vt))) ++ (zw yI yL o ba pa la ra K V2 (zA V2) ++ (([(qB, .inl (yL, refs (kNb K) rb))] : va_W) ++ (rowsW yI rb 5 (kNb K) FB ++ (([(qL, .inl (yL, refs 5 rl))] : va_W) ++ (rowsW yI rl 5 5 FL ++ (([(qN, .inl (yI, 5, .inl NX))] : va_W) ++ (([(qT, .inl (yI, 7, .inl fT))] : va_W)))))))))) (by first | (simp only [List.append_assoc, List.append_nil, List.nil_append]; done) | rfl | (simp only [List.append_assoc, List.append_nil, List.nil_append]; rfl)) ?_
                            have q962 : q_arrives K (nI j9) = 0 := (q_arr_v hK.1 hj9)
                            refine xr_mcXVi F G (rest := []) (As := [.int (nI j9)]) (k_X1_arrives l D yI yZ yL hst h a t K V2 Kt Vt (nI j9) hK.2.2.1 hV2.2.1 hK.1 hK.2.1 (by omega)) (cwV 1 F.hts gL_law_X1_arrives rfl rfl rfl (by decide +kernel) ⟨Nat.le_of_ble_eq_true rfl, Nat.le_of_ble_eq_true rfl⟩) (q0 := 0) rfl rfl (([] : va_W)) (zw yI yL o ba pa la ra K V2 (zA V2) ++ (([(qB, .inl (yL, refs (kNb K) rb))] : va_W) ++ (rowsW yI rb 5 (kNb K) FB ++ (([(qL, .inl (yL, refs 5 rl))] : va_W) ++ (rowsW yI rl 5 5 FL ++ (([(qN, .inl (yI, 5, .inl NX))] : va_W) ++ (([(qT, .inl (yI, 7, .inl fT))] : va_W)))))))) rfl rfl rfl (Nat.le_of_ble_eq_true rfl) dL_law_962 ⟨(by show _ ≤ (610331 : Nat); omega), (by show _ ≤ (7270474 : Nat); omega)⟩ (fun E1 W1 z1 => ?_) (fun r1 W1 z1 => ?_)
                            · skip
                              exact absurd (q962.symm.trans z1.1.1) (by decide)
                            · skip
                              obtain ⟨-, z0, z1⟩ := z1
                              obtain ⟨Kt1, Vt1, z1⟩ := z1
                              subst z0
                              subst z1
                              refine xr_ws (ws' := bw h a t ++ (cw yI yZ a K V2 ++ (cw yI yZ t Kt1 Vt1 ++ (zw yI yL o ba pa la ra K V2 (zA V2) ++ (([(qB, .inl (yL, refs (kNb K) rb))] : va_W) ++ (rowsW yI rb 5 (kNb K) FB ++ (([(qL, .inl (yL, refs 5 rl))] : va_W) ++ (rowsW yI rl 5 5 FL ++ (([(qN, .inl (yI, 5, .inl NX))] : va_W) ++ (([(qT, .inl (yI, 7, .inl fT))] : va_W))))))))))) (by first | (simp only [List.append_assoc, List.append_nil, List.nil_append]; done) | rfl | (simp only [List.append_assoc, List.append_nil, List.nil_append]; rfl)) ?_
                              refine xr_top (y := c_arrL K j9 120 0 V2) (by rw [ix_nI (by omega)]) ?_
                              refine xr_iload F dL_law_965 6 rfl ?_
                              refine xr_iconst F dL_law_967 (v := 1) (by decide) ?_
                              refine xr_isub F ((c_arrL K j9 120 0 V) - 1) dL_law_968 rfl ?_
                              refine xr_icmp_eq F 974 dL_law_969 (by decide) (fun c969 => ?_) (fun c969 => ?_)
                              · skip
                                refine xr_lv (lv' := [(25, .int (nI tS)), (24, .int (kFee K)), (23, .int (dBank V)), (8, .ref qL), (7, .ref qB), (5, .int (nI (kNb K))), (3, .int (nI tm)), (0, .ref b), (1, .ref h), (2, .ref (o 0))]) [1, 2, 3, 9, 10, 12, 13, 14, 15, 16] rfl ?_
                                refine xr_widen (k := cl + 100) (n := sl + 1000) (by omega) (by omega) ?_
                                exact kk Kt1 Vt1
                              · exact absurd (by rw [hA.1]; exact arr_next (Int32.not_le.mp c956)) c969
                      · exact (xk_ge (a := 7) (b := w9) (by omega) (by omega) c929).elim
                    | succ i ih =>
                      intro w9 hb hw2
                      refine xr_iload F dL_law_925 0 rfl ?_
                      refine xr_bipush F dL_law_927 (v := 7) (by decide) ?_
                      refine xr_icmp_ge F 954 dL_law_929 (by decide) (fun c929 => ?_) (fun c929 => ?_)
                      · exact (xk_nlt (a := w9) (b := 7) (by omega) (by omega) (by omega) c929).elim
                      · skip
                        refine xr_aload_n F dL_law_932 rfl 15 rfl ?_
                        refine xr_iload F dL_law_933 0 rfl ?_
                        refine xr_ws (ws' := ([] : va_W) ++ ((bw h a t ++ (cw yI yZ a K V2)) ++ (cw yI yZ t Kt Vt ++ (zw yI yL o ba pa la ra K V2 (zA V2) ++ (([(qB, .inl (yL, refs (kNb K) rb))] : va_W) ++ (rowsW yI rb 5 (kNb K) FB ++ (([(qL, .inl (yL, refs 5 rl))] : va_W) ++ (rowsW yI rl 5 5 FL ++ (([(qN, .inl (yI, 5, .inl NX))] : va_W) ++ (([(qT, .inl (yI, 7, .inl fT))] : va_W))))))))))) (by first | (simp only [List.append_assoc, List.append_nil, List.nil_append]; done) | rfl | (simp only [List.append_assoc, List.append_nil, List.nil_append]; rfl)) ?_
                        have q935 : q_count (nI w9) = 0 := (q_count_v (j := w9) (by omega))
                        refine xr_mcXVi F G (rest := []) (As := [.int (nI w9)]) (k_X1_count l D yI yZ yL hst h a t K V2 (nI w9) hK.1) (cwV 1 F.hts gL_law_X1_count rfl rfl rfl (by decide +kernel) ⟨Nat.le_of_ble_eq_true rfl, Nat.le_of_ble_eq_true rfl⟩) (q0 := 0) rfl rfl (([] : va_W)) (cw yI yZ t Kt Vt ++ (zw yI yL o ba pa la ra K V2 (zA V2) ++ (([(qB, .inl (yL, refs (kNb K) rb))] : va_W) ++ (rowsW yI rb 5 (kNb K) FB ++ (([(qL, .inl (yL, refs 5 rl))] : va_W) ++ (rowsW yI rl 5 5 FL ++ (([(qN, .inl (yI, 5, .inl NX))] : va_W) ++ (([(qT, .inl (yI, 7, .inl fT))] : va_W))))))))) rfl rfl rfl (Nat.le_of_ble_eq_true rfl) dL_law_935 ⟨(by show _ ≤ (610331 : Nat); omega), (by show _ ≤ (7270474 : Nat); omega)⟩ (fun E1 W1 z1 => ?_) (fun r1 W1 z1 => ?_)
                        · skip
                          exact absurd (q935.symm.trans z1.1.1) (by decide)
                        · skip
                          obtain ⟨-, z0, z1⟩ := z1
                          subst z0
                          subst z1
                          refine xr_ws (ws' := bw h a t ++ (cw yI yZ a K V2 ++ (cw yI yZ t Kt Vt ++ (zw yI yL o ba pa la ra K V2 (zA V2) ++ (([(qB, .inl (yL, refs (kNb K) rb))] : va_W) ++ (rowsW yI rb 5 (kNb K) FB ++ (([(qL, .inl (yL, refs 5 rl))] : va_W) ++ (rowsW yI rl 5 5 FL ++ (([(qN, .inl (yI, 5, .inl NX))] : va_W) ++ (([(qT, .inl (yI, 7, .inl fT))] : va_W))))))))))) (by first | (simp only [List.append_assoc, List.append_nil, List.nil_append]; done) | rfl | (simp only [List.append_assoc, List.append_nil, List.nil_append]; rfl)) ?_
                          refine xr_top (y := c_tellW K V2 w9) (by rw [ix_nI (n := w9) (by omega)]) ?_
                          refine xr_aload F dL_law_938 8 rfl ?_
                          refine xr_iload F dL_law_940 0 rfl ?_
                          refine xr_iald F (1 + (12 + (12 + (16 + (kNb K) + (1 + (kNb K + (1 + (5 + (1 + (0)))))))))) 0 (w_skip (1) rfl (w_skip (12) rfl (w_skip (12) rfl (w_skip (16 + (kNb K)) (zw_len _ _ _ _ _ _ _ _ _ _) (w_skip (1) rfl (w_skip (kNb K) (rowsW_len _ _ _ _ _) (w_skip (1) rfl (w_skip (5) (rowsW_len _ _ _ _ _) (w_skip (1) rfl rfl))))))))) rfl (w9) rfl (by omega) (by decide) dL_law_942 ?_
                          refine xr_icmp_eq F 948 dL_law_943 (by decide) (fun c943 => ?_) (fun c943 => ?_)
                          · skip
                            refine xr_iinc F (nI (w9 + 1)) [(26, .int (nI (w9 + 1))), (25, .int (nI tS)), (24, .int (kFee K)), (23, .int (dBank V)), (22, .int (kSpr K (dHour V % 8))), (21, .int sp), (19, .int ar), (18, .int b0), (17, .ref qT), (8, .ref qL), (7, .ref qB), (6, .int (wat V)), (5, .int (nI (kNb K))), (3, .int (nI tm)), (0, .ref b), (1, .ref h), (2, .ref (o 0))] dL_law_948 0 rfl (nI_add w9 1) (by decide) rfl ?_
                            refine xr_goto F 925 dL_law_951 (by decide) ?_
                            refine xr_lv (lv' := [(26, .int (nI (w9 + 1))), (25, .int (nI tS)), (24, .int (kFee K)), (23, .int (dBank V)), (22, .int (kSpr K (dHour V % 8))), (21, .int sp), (19, .int ar), (18, .int b0), (17, .ref qT), (8, .ref qL), (7, .ref qB), (6, .int (wat V)), (5, .int (nI (kNb K))), (3, .int (nI tm)), (0, .ref b), (1, .ref h), (2, .ref (o 0))]) [0, 1, 2, 3, 4, 5, 6, 7, 8, 9, 10, 11, 12, 13, 14, 15, 16] rfl ?_
                            refine xr_widen (k := cl + 10 + (w9 + 1)) (n := sl + 60 + 6 * (w9 + 1)) (by omega) (by omega) ?_
                            exact ih (w9 + 1) (by omega) (by omega)
                          · exact absurd (hT w9 hw2 (by omega)).symm c943
                  refine xr_lv (lv' := [(26, .int 2), (25, .int (nI tS)), (24, .int (kFee K)), (23, .int (dBank V)), (22, .int (kSpr K (dHour V % 8))), (21, .int sp), (19, .int ar), (18, .int b0), (17, .ref qT), (8, .ref qL), (7, .ref qB), (6, .int (wat V)), (5, .int (nI (kNb K))), (3, .int (nI tm)), (0, .ref b), (1, .ref h), (2, .ref (o 0))]) [0, 1, 2, 3, 4, 5, 6, 7, 8, 9, 10, 11, 12, 13, 14, 15, 16] rfl ?_
                  refine xr_widen (k := cl + 10 + 2) (n := sl + 60 + 6 * 2) (by omega) (by omega) ?_
                  exact lp 5 2 (by omega) (Nat.le_refl _)
                · exact absurd hA.2.2.2.2.1 c917
      · skip
        refine xr_iconst F dL_law_883 (v := 1) (by decide) ?_
        refine xr_goto F 888 dL_law_884 (by decide) ?_
        refine xr_icmp_ne F 920 dL_law_888 (by decide) (fun c888 => ?_) (fun c888 => ?_)
        · exact absurd (hs0.mpr c880) c870
        · exact absurd c888 (by decide)
    · skip
      refine xr_iconst F dL_law_873 (v := 1) (by decide) ?_
      refine xr_goto F 878 dL_law_874 (by decide) ?_
      refine xr_iload F dL_law_878 0 rfl ?_
      refine xr_if_ne F 887 dL_law_880 (by decide) (fun c880 => ?_) (fun c880 => ?_)
      · skip
        refine xr_iconst F dL_law_887 (v := 0) (by decide) ?_
        refine xr_icmp_ne F 920 dL_law_888 (by decide) (fun c888 => ?_) (fun c888 => ?_)
        · exact absurd (hs0.mp c870) c880
        · exact absurd c888 (by decide)
      · skip
        refine xr_iconst F dL_law_883 (v := 1) (by decide) ?_
        refine xr_goto F 888 dL_law_884 (by decide) ?_
        refine xr_icmp_ne F 920 dL_law_888 (by decide) (fun c888 => ?_) (fun c888 => ?_)
        · exact absurd rfl c888
        · skip
          refine xr_aload_n F dL_law_891 rfl 14 rfl ?_
          refine xr_iconst F dL_law_892 (v := 4) (by decide) ?_
          refine xr_ws (ws' := ([] : va_W) ++ ((bw h a t ++ (cw yI yZ a K V2)) ++ (cw yI yZ t Kt Vt ++ (zw yI yL o ba pa la ra K V2 (zA V2) ++ (([(qB, .inl (yL, refs (kNb K) rb))] : va_W) ++ (rowsW yI rb 5 (kNb K) FB ++ (([(qL, .inl (yL, refs 5 rl))] : va_W) ++ (rowsW yI rl 5 5 FL ++ (([(qN, .inl (yI, 5, .inl NX))] : va_W) ++ (([(qT, .inl (yI, 7, .inl fT))] : va_W))))))))))) (by first | (simp only [List.append_assoc, List.append_nil, List.nil_append]; done) | rfl | (simp only [List.append_assoc, List.append_nil, List.nil_append]; rfl)) ?_
          have q893 : q_count 4 = 0 := (q_count_v (j := 4) (by decide))
          refine xr_mcXVi F G (rest := []) (As := [.int 4]) (k_X1_count l D yI yZ yL hst h a t K V2 4 hK.1) (cwV 1 F.hts gL_law_X1_count rfl rfl rfl (by decide +kernel) ⟨Nat.le_of_ble_eq_true rfl, Nat.le_of_ble_eq_true rfl⟩) (q0 := 0) rfl rfl (([] : va_W)) (cw yI yZ t Kt Vt ++ (zw yI yL o ba pa la ra K V2 (zA V2) ++ (([(qB, .inl (yL, refs (kNb K) rb))] : va_W) ++ (rowsW yI rb 5 (kNb K) FB ++ (([(qL, .inl (yL, refs 5 rl))] : va_W) ++ (rowsW yI rl 5 5 FL ++ (([(qN, .inl (yI, 5, .inl NX))] : va_W) ++ (([(qT, .inl (yI, 7, .inl fT))] : va_W))))))))) rfl rfl rfl (Nat.le_of_ble_eq_true rfl) dL_law_893 ⟨(by show _ ≤ (610331 : Nat); omega), (by show _ ≤ (7270474 : Nat); omega)⟩ (fun E1 W1 z1 => ?_) (fun r1 W1 z1 => ?_)
          · skip
            exact absurd (q893.symm.trans z1.1.1) (by decide)
          · skip
            obtain ⟨-, z0, z1⟩ := z1
            subst z0
            subst z1
            refine xr_ws (ws' := bw h a t ++ (cw yI yZ a K V2 ++ (cw yI yZ t Kt Vt ++ (zw yI yL o ba pa la ra K V2 (zA V2) ++ (([(qB, .inl (yL, refs (kNb K) rb))] : va_W) ++ (rowsW yI rb 5 (kNb K) FB ++ (([(qL, .inl (yL, refs 5 rl))] : va_W) ++ (rowsW yI rl 5 5 FL ++ (([(qN, .inl (yI, 5, .inl NX))] : va_W) ++ (([(qT, .inl (yI, 7, .inl fT))] : va_W))))))))))) (by first | (simp only [List.append_assoc, List.append_nil, List.nil_append]; done) | rfl | (simp only [List.append_assoc, List.append_nil, List.nil_append]; rfl)) ?_
            refine xr_top (y := c_tellW K V2 4) (by rw [show ix 4 = 4 from by decide]) ?_
            refine xr_top (y := c_water V2) rfl ?_
            refine xr_bipush F dL_law_896 (v := 12) (by decide) ?_
            refine xr_aload_n F dL_law_898 rfl 14 rfl ?_
            refine xr_iconst F dL_law_899 (v := 5) (by decide) ?_
            refine xr_ws (ws' := ([] : va_W) ++ ((bw h a t ++ (cw yI yZ a K V2)) ++ (cw yI yZ t Kt Vt ++ (zw yI yL o ba pa la ra K V2 (zA V2) ++ (([(qB, .inl (yL, refs (kNb K) rb))] : va_W) ++ (rowsW yI rb 5 (kNb K) FB ++ (([(qL, .inl (yL, refs 5 rl))] : va_W) ++ (rowsW yI rl 5 5 FL ++ (([(qN, .inl (yI, 5, .inl NX))] : va_W) ++ (([(qT, .inl (yI, 7, .inl fT))] : va_W))))))))))) (by first | (simp only [List.append_assoc, List.append_nil, List.nil_append]; done) | rfl | (simp only [List.append_assoc, List.append_nil, List.nil_append]; rfl)) ?_
            have q900 : q_count 5 = 0 := (q_count_v (j := 5) (by decide))
            refine xr_mcXVi F G (rest := [.int 12, .int (c_water V2)]) (As := [.int 5]) (k_X1_count l D yI yZ yL hst h a t K V2 5 hK.1) (cwV 1 F.hts gL_law_X1_count rfl rfl rfl (by decide +kernel) ⟨Nat.le_of_ble_eq_true rfl, Nat.le_of_ble_eq_true rfl⟩) (q0 := 0) rfl rfl (([] : va_W)) (cw yI yZ t Kt Vt ++ (zw yI yL o ba pa la ra K V2 (zA V2) ++ (([(qB, .inl (yL, refs (kNb K) rb))] : va_W) ++ (rowsW yI rb 5 (kNb K) FB ++ (([(qL, .inl (yL, refs 5 rl))] : va_W) ++ (rowsW yI rl 5 5 FL ++ (([(qN, .inl (yI, 5, .inl NX))] : va_W) ++ (([(qT, .inl (yI, 7, .inl fT))] : va_W))))))))) rfl rfl rfl (Nat.le_of_ble_eq_true rfl) dL_law_900 ⟨(by show _ ≤ (610331 : Nat); omega), (by show _ ≤ (7270474 : Nat); omega)⟩ (fun E1 W1 z1 => ?_) (fun r1 W1 z1 => ?_)
            · skip
              exact absurd (q900.symm.trans z1.1.1) (by decide)
            · skip
              obtain ⟨-, z0, z1⟩ := z1
              subst z0
              subst z1
              refine xr_ws (ws' := bw h a t ++ (cw yI yZ a K V2 ++ (cw yI yZ t Kt Vt ++ (zw yI yL o ba pa la ra K V2 (zA V2) ++ (([(qB, .inl (yL, refs (kNb K) rb))] : va_W) ++ (rowsW yI rb 5 (kNb K) FB ++ (([(qL, .inl (yL, refs 5 rl))] : va_W) ++ (rowsW yI rl 5 5 FL ++ (([(qN, .inl (yI, 5, .inl NX))] : va_W) ++ (([(qT, .inl (yI, 7, .inl fT))] : va_W))))))))))) (by first | (simp only [List.append_assoc, List.append_nil, List.nil_append]; done) | rfl | (simp only [List.append_assoc, List.append_nil, List.nil_append]; rfl)) ?_
              refine xr_top (y := c_tellW K V2 5) (by rw [show ix 5 = 5 from by decide]) ?_
              refine xr_top (y := c_fullN V2) rfl ?_
              refine xr_imul F (12 * (c_fullN V2)) dL_law_903 rfl ?_
              refine xr_iadd F ((c_water V2) + (12 * (c_fullN V2))) dL_law_904 rfl ?_
              refine xr_aload_n F dL_law_905 rfl 14 rfl ?_
              refine xr_bipush F dL_law_906 (v := 6) (by decide) ?_
              refine xr_ws (ws' := ([] : va_W) ++ ((bw h a t ++ (cw yI yZ a K V2)) ++ (cw yI yZ t Kt Vt ++ (zw yI yL o ba pa la ra K V2 (zA V2) ++ (([(qB, .inl (yL, refs (kNb K) rb))] : va_W) ++ (rowsW yI rb 5 (kNb K) FB ++ (([(qL, .inl (yL, refs 5 rl))] : va_W) ++ (rowsW yI rl 5 5 FL ++ (([(qN, .inl (yI, 5, .inl NX))] : va_W) ++ (([(qT, .inl (yI, 7, .inl fT))] : va_W))))))))))) (by first | (simp only [List.append_assoc, List.append_nil, List.nil_append]; done) | rfl | (simp only [List.append_assoc, List.append_nil, List.nil_append]; rfl)) ?_
              have q908 : q_count 6 = 0 := (q_count_v (j := 6) (by decide))
              refine xr_mcXVi F G (rest := [.int ((c_water V2) + (12 * (c_fullN V2)))]) (As := [.int 6]) (k_X1_count l D yI yZ yL hst h a t K V2 6 hK.1) (cwV 1 F.hts gL_law_X1_count rfl rfl rfl (by decide +kernel) ⟨Nat.le_of_ble_eq_true rfl, Nat.le_of_ble_eq_true rfl⟩) (q0 := 0) rfl rfl (([] : va_W)) (cw yI yZ t Kt Vt ++ (zw yI yL o ba pa la ra K V2 (zA V2) ++ (([(qB, .inl (yL, refs (kNb K) rb))] : va_W) ++ (rowsW yI rb 5 (kNb K) FB ++ (([(qL, .inl (yL, refs 5 rl))] : va_W) ++ (rowsW yI rl 5 5 FL ++ (([(qN, .inl (yI, 5, .inl NX))] : va_W) ++ (([(qT, .inl (yI, 7, .inl fT))] : va_W))))))))) rfl rfl rfl (Nat.le_of_ble_eq_true rfl) dL_law_908 ⟨(by show _ ≤ (610331 : Nat); omega), (by show _ ≤ (7270474 : Nat); omega)⟩ (fun E1 W1 z1 => ?_) (fun r1 W1 z1 => ?_)
              · skip
                exact absurd (q908.symm.trans z1.1.1) (by decide)
              · skip
                obtain ⟨-, z0, z1⟩ := z1
                subst z0
                subst z1
                refine xr_ws (ws' := bw h a t ++ (cw yI yZ a K V2 ++ (cw yI yZ t Kt Vt ++ (zw yI yL o ba pa la ra K V2 (zA V2) ++ (([(qB, .inl (yL, refs (kNb K) rb))] : va_W) ++ (rowsW yI rb 5 (kNb K) FB ++ (([(qL, .inl (yL, refs 5 rl))] : va_W) ++ (rowsW yI rl 5 5 FL ++ (([(qN, .inl (yI, 5, .inl NX))] : va_W) ++ (([(qT, .inl (yI, 7, .inl fT))] : va_W))))))))))) (by first | (simp only [List.append_assoc, List.append_nil, List.nil_append]; done) | rfl | (simp only [List.append_assoc, List.append_nil, List.nil_append]; rfl)) ?_
                refine xr_top (y := c_tellW K V2 6) (by rw [show ix 6 = 6 from by decide]) ?_
                refine xr_top (y := zA V2) rfl ?_
                refine xr_iadd F (((c_water V2) + (12 * (c_fullN V2))) + (zA V2)) dL_law_911 rfl ?_
                refine xr_top (y := wat V2) (wat_eq hV2.2.1).symm ?_
                refine xr_iload F dL_law_912 10 rfl ?_
                refine xr_iload F dL_law_914 3 rfl ?_
                refine xr_iadd F ((wat V) + (kSpr K (dHour V % 8))) dL_law_916 rfl ?_
                refine xr_icmp_eq F 922 dL_law_917 (by decide) (fun c917 => ?_) (fun c917 => ?_)
                · skip
                  refine xr_iconst F dL_law_922 (v := 2) (by decide) ?_
                  refine xr_istore F [(26, .int 2), (25, .int (nI tS)), (24, .int (kFee K)), (23, .int (dBank V)), (22, .int (kSpr K (dHour V % 8))), (21, .int sp), (19, .int ar), (18, .int b0), (17, .ref qT), (8, .ref qL), (7, .ref qB), (6, .int (wat V)), (5, .int (nI (kNb K))), (3, .int (nI tm)), (0, .ref b), (1, .ref h), (2, .ref (o 0))] dL_law_923 (by decide) rfl ?_
                  have lp : ∀ (i : Nat) (w9 : Nat), i + w9 = 7 → 2 ≤ w9 → AW p l e room_1 s m #[Value.ref b] below meth c 32 D A (cl + 10 + w9) (sl + 60 + 6 * w9) Q (bw h a t ++ (cw yI yZ a K V2 ++ (cw yI yZ t Kt Vt ++ (zw yI yL o ba pa la ra K V2 (zA V2) ++ (([(qB, .inl (yL, refs (kNb K) rb))] : va_W) ++ (rowsW yI rb 5 (kNb K) FB ++ (([(qL, .inl (yL, refs 5 rl))] : va_W) ++ (rowsW yI rl 5 5 FL ++ (([(qN, .inl (yI, 5, .inl NX))] : va_W) ++ (([(qT, .inl (yI, 7, .inl fT))] : va_W))))))))))) [(26, .int (nI w9)), (25, .int (nI tS)), (24, .int (kFee K)), (23, .int (dBank V)), (22, .int (kSpr K (dHour V % 8))), (21, .int sp), (19, .int ar), (18, .int b0), (17, .ref qT), (8, .ref qL), (7, .ref qB), (6, .int (wat V)), (5, .int (nI (kNb K))), (3, .int (nI tm)), (0, .ref b), (1, .ref h), (2, .ref (o 0))] 925 [] := by
                    intro i
                    induction i with
                    | zero =>
                      intro w9 hb hw2
                      refine xr_iload F dL_law_925 0 rfl ?_
                      refine xr_bipush F dL_law_927 (v := 7) (by decide) ?_
                      refine xr_icmp_ge F 954 dL_law_929 (by decide) (fun c929 => ?_) (fun c929 => ?_)
                      · skip
                        rcases hb0 with ⟨z1, z2⟩ | ⟨j9, hj9, z1, z2⟩
                        · skip
                          subst z1
                          subst z2
                          refine xr_iload F dL_law_954 6 rfl ?_
                          refine xr_if_le F 974 dL_law_956 (by decide) (fun c956 => ?_) (fun c956 => ?_)
                          · skip
                            refine xr_lv (lv' := [(25, .int (nI tS)), (24, .int (kFee K)), (23, .int (dBank V)), (8, .ref qL), (7, .ref qB), (5, .int (nI (kNb K))), (3, .int (nI tm)), (0, .ref b), (1, .ref h), (2, .ref (o 0))]) [1, 2, 3, 9, 10, 12, 13, 14, 15, 16] rfl ?_
                            refine xr_widen (k := cl + 100) (n := sl + 1000) (by omega) (by omega) ?_
                            exact kk Kt Vt
                          · exact absurd (by decide) c956
                        · skip
                          subst z1
                          subst z2
                          refine xr_iload F dL_law_954 6 rfl ?_
                          refine xr_if_le F 974 dL_law_956 (by decide) (fun c956 => ?_) (fun c956 => ?_)
                          · skip
                            refine xr_lv (lv' := [(25, .int (nI tS)), (24, .int (kFee K)), (23, .int (dBank V)), (8, .ref qL), (7, .ref qB), (5, .int (nI (kNb K))), (3, .int (nI tm)), (0, .ref b), (1, .ref h), (2, .ref (o 0))]) [1, 2, 3, 9, 10, 12, 13, 14, 15, 16] rfl ?_
                            refine xr_widen (k := cl + 100) (n := sl + 1000) (by omega) (by omega) ?_
                            exact kk Kt Vt
                          · skip
                            refine xr_aload_n F dL_law_959 rfl 15 rfl ?_
                            refine xr_iload F dL_law_960 7 rfl ?_
                            refine xr_ws (ws' := ([] : va_W) ++ ((bw h a t ++ (cw yI yZ a K V2 ++ (cw yI yZ t Kt Vt))) ++ (zw yI yL o ba pa la ra K V2 (zA V2) ++ (([(qB, .inl (yL, refs (kNb K) rb))] : va_W) ++ (rowsW yI rb 5 (kNb K) FB ++ (([(qL, .inl (yL, refs 5 rl))] : va_W) ++ (rowsW yI rl 5 5 FL ++ (([(qN, .inl (yI, 5, .inl NX))] : va_W) ++ (([(qT, .inl (yI, 7, .inl fT))] : va_W)))))))))) (by first | (simp only [List.append_assoc, List.append_nil, List.nil_append]; done) | rfl | (simp only [List.append_assoc, List.append_nil, List.nil_append]; rfl)) ?_
                            have q962 : q_arrives K (nI j9) = 0 := (q_arr_v hK.1 hj9)
                            refine xr_mcXVi F G (rest := []) (As := [.int (nI j9)]) (k_X1_arrives l D yI yZ yL hst h a t K V2 Kt Vt (nI j9) hK.2.2.1 hV2.2.1 hK.1 hK.2.1 (by omega)) (cwV 1 F.hts gL_law_X1_arrives rfl rfl rfl (by decide +kernel) ⟨Nat.le_of_ble_eq_true rfl, Nat.le_of_ble_eq_true rfl⟩) (q0 := 0) rfl rfl (([] : va_W)) (zw yI yL o ba pa la ra K V2 (zA V2) ++ (([(qB, .inl (yL, refs (kNb K) rb))] : va_W) ++ (rowsW yI rb 5 (kNb K) FB ++ (([(qL, .inl (yL, refs 5 rl))] : va_W) ++ (rowsW yI rl 5 5 FL ++ (([(qN, .inl (yI, 5, .inl NX))] : va_W) ++ (([(qT, .inl (yI, 7, .inl fT))] : va_W)))))))) rfl rfl rfl (Nat.le_of_ble_eq_true rfl) dL_law_962 ⟨(by show _ ≤ (610331 : Nat); omega), (by show _ ≤ (7270474 : Nat); omega)⟩ (fun E1 W1 z1 => ?_) (fun r1 W1 z1 => ?_)
                            · skip
                              exact absurd (q962.symm.trans z1.1.1) (by decide)
                            · skip
                              obtain ⟨-, z0, z1⟩ := z1
                              obtain ⟨Kt2, Vt2, z1⟩ := z1
                              subst z0
                              subst z1
                              refine xr_ws (ws' := bw h a t ++ (cw yI yZ a K V2 ++ (cw yI yZ t Kt2 Vt2 ++ (zw yI yL o ba pa la ra K V2 (zA V2) ++ (([(qB, .inl (yL, refs (kNb K) rb))] : va_W) ++ (rowsW yI rb 5 (kNb K) FB ++ (([(qL, .inl (yL, refs 5 rl))] : va_W) ++ (rowsW yI rl 5 5 FL ++ (([(qN, .inl (yI, 5, .inl NX))] : va_W) ++ (([(qT, .inl (yI, 7, .inl fT))] : va_W))))))))))) (by first | (simp only [List.append_assoc, List.append_nil, List.nil_append]; done) | rfl | (simp only [List.append_assoc, List.append_nil, List.nil_append]; rfl)) ?_
                              refine xr_top (y := c_arrL K j9 120 0 V2) (by rw [ix_nI (by omega)]) ?_
                              refine xr_iload F dL_law_965 6 rfl ?_
                              refine xr_iconst F dL_law_967 (v := 1) (by decide) ?_
                              refine xr_isub F ((c_arrL K j9 120 0 V) - 1) dL_law_968 rfl ?_
                              refine xr_icmp_eq F 974 dL_law_969 (by decide) (fun c969 => ?_) (fun c969 => ?_)
                              · skip
                                refine xr_lv (lv' := [(25, .int (nI tS)), (24, .int (kFee K)), (23, .int (dBank V)), (8, .ref qL), (7, .ref qB), (5, .int (nI (kNb K))), (3, .int (nI tm)), (0, .ref b), (1, .ref h), (2, .ref (o 0))]) [1, 2, 3, 9, 10, 12, 13, 14, 15, 16] rfl ?_
                                refine xr_widen (k := cl + 100) (n := sl + 1000) (by omega) (by omega) ?_
                                exact kk Kt2 Vt2
                              · exact absurd (by rw [hA.1]; exact arr_next (Int32.not_le.mp c956)) c969
                      · exact (xk_ge (a := 7) (b := w9) (by omega) (by omega) c929).elim
                    | succ i ih =>
                      intro w9 hb hw2
                      refine xr_iload F dL_law_925 0 rfl ?_
                      refine xr_bipush F dL_law_927 (v := 7) (by decide) ?_
                      refine xr_icmp_ge F 954 dL_law_929 (by decide) (fun c929 => ?_) (fun c929 => ?_)
                      · exact (xk_nlt (a := w9) (b := 7) (by omega) (by omega) (by omega) c929).elim
                      · skip
                        refine xr_aload_n F dL_law_932 rfl 15 rfl ?_
                        refine xr_iload F dL_law_933 0 rfl ?_
                        refine xr_ws (ws' := ([] : va_W) ++ ((bw h a t ++ (cw yI yZ a K V2)) ++ (cw yI yZ t Kt Vt ++ (zw yI yL o ba pa la ra K V2 (zA V2) ++ (([(qB, .inl (yL, refs (kNb K) rb))] : va_W) ++ (rowsW yI rb 5 (kNb K) FB ++ (([(qL, .inl (yL, refs 5 rl))] : va_W) ++ (rowsW yI rl 5 5 FL ++ (([(qN, .inl (yI, 5, .inl NX))] : va_W) ++ (([(qT, .inl (yI, 7, .inl fT))] : va_W))))))))))) (by first | (simp only [List.append_assoc, List.append_nil, List.nil_append]; done) | rfl | (simp only [List.append_assoc, List.append_nil, List.nil_append]; rfl)) ?_
                        have q935 : q_count (nI w9) = 0 := (q_count_v (j := w9) (by omega))
                        refine xr_mcXVi F G (rest := []) (As := [.int (nI w9)]) (k_X1_count l D yI yZ yL hst h a t K V2 (nI w9) hK.1) (cwV 1 F.hts gL_law_X1_count rfl rfl rfl (by decide +kernel) ⟨Nat.le_of_ble_eq_true rfl, Nat.le_of_ble_eq_true rfl⟩) (q0 := 0) rfl rfl (([] : va_W)) (cw yI yZ t Kt Vt ++ (zw yI yL o ba pa la ra K V2 (zA V2) ++ (([(qB, .inl (yL, refs (kNb K) rb))] : va_W) ++ (rowsW yI rb 5 (kNb K) FB ++ (([(qL, .inl (yL, refs 5 rl))] : va_W) ++ (rowsW yI rl 5 5 FL ++ (([(qN, .inl (yI, 5, .inl NX))] : va_W) ++ (([(qT, .inl (yI, 7, .inl fT))] : va_W))))))))) rfl rfl rfl (Nat.le_of_ble_eq_true rfl) dL_law_935 ⟨(by show _ ≤ (610331 : Nat); omega), (by show _ ≤ (7270474 : Nat); omega)⟩ (fun E1 W1 z1 => ?_) (fun r1 W1 z1 => ?_)
                        · skip
                          exact absurd (q935.symm.trans z1.1.1) (by decide)
                        · skip
                          obtain ⟨-, z0, z1⟩ := z1
                          subst z0
                          subst z1
                          refine xr_ws (ws' := bw h a t ++ (cw yI yZ a K V2 ++ (cw yI yZ t Kt Vt ++ (zw yI yL o ba pa la ra K V2 (zA V2) ++ (([(qB, .inl (yL, refs (kNb K) rb))] : va_W) ++ (rowsW yI rb 5 (kNb K) FB ++ (([(qL, .inl (yL, refs 5 rl))] : va_W) ++ (rowsW yI rl 5 5 FL ++ (([(qN, .inl (yI, 5, .inl NX))] : va_W) ++ (([(qT, .inl (yI, 7, .inl fT))] : va_W))))))))))) (by first | (simp only [List.append_assoc, List.append_nil, List.nil_append]; done) | rfl | (simp only [List.append_assoc, List.append_nil, List.nil_append]; rfl)) ?_
                          refine xr_top (y := c_tellW K V2 w9) (by rw [ix_nI (n := w9) (by omega)]) ?_
                          refine xr_aload F dL_law_938 8 rfl ?_
                          refine xr_iload F dL_law_940 0 rfl ?_
                          refine xr_iald F (1 + (12 + (12 + (16 + (kNb K) + (1 + (kNb K + (1 + (5 + (1 + (0)))))))))) 0 (w_skip (1) rfl (w_skip (12) rfl (w_skip (12) rfl (w_skip (16 + (kNb K)) (zw_len _ _ _ _ _ _ _ _ _ _) (w_skip (1) rfl (w_skip (kNb K) (rowsW_len _ _ _ _ _) (w_skip (1) rfl (w_skip (5) (rowsW_len _ _ _ _ _) (w_skip (1) rfl rfl))))))))) rfl (w9) rfl (by omega) (by decide) dL_law_942 ?_
                          refine xr_icmp_eq F 948 dL_law_943 (by decide) (fun c943 => ?_) (fun c943 => ?_)
                          · skip
                            refine xr_iinc F (nI (w9 + 1)) [(26, .int (nI (w9 + 1))), (25, .int (nI tS)), (24, .int (kFee K)), (23, .int (dBank V)), (22, .int (kSpr K (dHour V % 8))), (21, .int sp), (19, .int ar), (18, .int b0), (17, .ref qT), (8, .ref qL), (7, .ref qB), (6, .int (wat V)), (5, .int (nI (kNb K))), (3, .int (nI tm)), (0, .ref b), (1, .ref h), (2, .ref (o 0))] dL_law_948 0 rfl (nI_add w9 1) (by decide) rfl ?_
                            refine xr_goto F 925 dL_law_951 (by decide) ?_
                            refine xr_lv (lv' := [(26, .int (nI (w9 + 1))), (25, .int (nI tS)), (24, .int (kFee K)), (23, .int (dBank V)), (22, .int (kSpr K (dHour V % 8))), (21, .int sp), (19, .int ar), (18, .int b0), (17, .ref qT), (8, .ref qL), (7, .ref qB), (6, .int (wat V)), (5, .int (nI (kNb K))), (3, .int (nI tm)), (0, .ref b), (1, .ref h), (2, .ref (o 0))]) [0, 1, 2, 3, 4, 5, 6, 7, 8, 9, 10, 11, 12, 13, 14, 15, 16] rfl ?_
                            refine xr_widen (k := cl + 10 + (w9 + 1)) (n := sl + 60 + 6 * (w9 + 1)) (by omega) (by omega) ?_
                            exact ih (w9 + 1) (by omega) (by omega)
                          · exact absurd (hT w9 hw2 (by omega)).symm c943
                  refine xr_lv (lv' := [(26, .int 2), (25, .int (nI tS)), (24, .int (kFee K)), (23, .int (dBank V)), (22, .int (kSpr K (dHour V % 8))), (21, .int sp), (19, .int ar), (18, .int b0), (17, .ref qT), (8, .ref qL), (7, .ref qB), (6, .int (wat V)), (5, .int (nI (kNb K))), (3, .int (nI tm)), (0, .ref b), (1, .ref h), (2, .ref (o 0))]) [0, 1, 2, 3, 4, 5, 6, 7, 8, 9, 10, 11, 12, 13, 14, 15, 16] rfl ?_
                  refine xr_widen (k := cl + 10 + 2) (n := sl + 60 + 6 * 2) (by omega) (by omega) ?_
                  exact lp 5 2 (by omega) (Nat.le_refl _)
                · exact absurd hA.2.2.2.2.1 c917
