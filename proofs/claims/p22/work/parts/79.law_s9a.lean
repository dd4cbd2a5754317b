set_option maxHeartbeats 4000000 in
set_option maxRecDepth 100000 in
/-- an hour: 816 to 862 -/
theorem law_S9a {p : Program} {e : Env} {s : State} {m : MethodId} {below : List Frame} {meth : Method} {c : Code} {l : Launch} (hst : l.stackTraces = false) {b L : Nat} {xs : Nat → Int32} (hL : L ≤ 260) {D : va_G} {yI yZ yL : ClassId} {A : Nat → Prop} {Q : State → Prop} (F : XF p s m #[Value.ref b] c cL_law 32 wsL_law R_law D (tysG yI yZ yL) A) (G : XG l s meth A) (hX : va_X b L xs s s.heap) (hbl : b < s.heap.size) (hbA : ¬ A b) {h : Nat} {a t o : Nat → Nat} {ba : Nat} {pa la ra : Nat → Nat} {K : CK} {V : CD} {Kt : CK} {Vt : CD} {N tm : Nat} (htm : tm < 45) (hN : N < 50000) (hK : okK K) (hV : okV K V N) (hh : dHour V ≤ 100) {b0 ar : Int32} {qB qL qN : Nat} {rb rl : Nat → Nat} {FB FL : Nat → Nat → Int32} {NX : Nat → Int32} {qT : Nat} {fT : Nat → Int32} (cl sl : Nat) (hcl : cl + 100 ≤ 610331) (hsl : sl + 1000 ≤ 7270474) (kk : AW p l e room_1 s m #[Value.ref b] below meth c 32 D A (cl + 100) (sl + 1000) Q (bw h a t ++ (cw yI yZ a K ((c_hour K V).1) ++ (cw yI yZ t Kt Vt ++ (zw yI yL o ba pa la ra K ((c_hour K V).1) (zA (c_hour K V).1) ++ (([(qB, .inl (yL, refs (kNb K) rb))] : va_W) ++ (rowsW yI rb 5 (kNb K) FB ++ (([(qL, .inl (yL, refs 5 rl))] : va_W) ++ (rowsW yI rl 5 5 FL ++ (([(qN, .inl (yI, 5, .inl NX))] : va_W) ++ (([(qT, .inl (yI, 7, .inl fT))] : va_W))))))))))) [(25, .int ((c_hour K V).2)), (24, .int (kFee K)), (23, .int (dBank V)), (22, .int (kSpr K (dHour V % 8))), (21, .int (c_stopL K 60 0 V)), (19, .int ar), (18, .int b0), (17, .ref qT), (8, .ref qL), (7, .ref qB), (6, .int (wat V)), (5, .int (nI (kNb K))), (3, .int (nI tm)), (0, .ref b), (1, .ref h), (2, .ref (o 0))] 862 []) : AW p l e room_1 s m #[Value.ref b] below meth c 32 D A cl sl Q (bw h a t ++ (cw yI yZ a K V ++ (cw yI yZ t Kt Vt ++ (zw yI yL o ba pa la ra K V (zA V) ++ (([(qB, .inl (yL, refs (kNb K) rb))] : va_W) ++ (rowsW yI rb 5 (kNb K) FB ++ (([(qL, .inl (yL, refs 5 rl))] : va_W) ++ (rowsW yI rl 5 5 FL ++ (([(qN, .inl (yI, 5, .inl NX))] : va_W) ++ (([(qT, .inl (yI, 7, .inl fT))] : va_W))))))))))) [(21, .int (c_stopL K 60 0 V)), (19, .int ar), (18, .int b0), (17, .ref qT), (8, .ref qL), (7, .ref qB), (6, .int (wat V)), (5, .int (nI (kNb K))), (3, .int (nI tm)), (0, .ref b), (1, .ref h), (2, .ref (o 0))] 816 [] := by
  have k1 : kNb K ≤ 10 := hK.1
  have hin2 : ∀ w ∈ u_ws RX2 TX2 11, w ∈ wsL_law := inlX2
  show AW p l e room_1 s m #[Value.ref b] below meth c 32 D A cl sl Q (bw h a t ++ (cw yI yZ a K V ++ (cw yI yZ t Kt Vt ++ (zw yI yL o ba pa la ra K V (zA V) ++ (([(qB, .inl (yL, refs (kNb K) rb))] : va_W) ++ (rowsW yI rb 5 (kNb K) FB ++ (([(qL, .inl (yL, refs 5 rl))] : va_W) ++ (rowsW yI rl 5 5 FL ++ (([(qN, .inl (yI, 5, .inl NX))] : va_W) ++ (([(qT, .inl (yI, 7, .inl fT))] : va_W))))))))))) [(21, .int (c_stopL K 60 0 V)), (19, .int ar), (18, .int b0), (17, .ref qT), (8, .ref qL), (7, .ref qB), (6, .int (wat V)), (5, .int (nI (kNb K))), (3, .int (nI tm)), (0, .ref b), (1, .ref h), (2, .ref (o 0))] 816 []
  refine xr_aload_n F dL_law_816 rfl 11 rfl ?_
  refine xr_get F hin2 (25) rfl rfl 1 (by decide) (List.mem_of_getElem? (i := 5) rfl) (v := .ref (o 1)) rfl dL_law_817 ?_
  refine xr_aload_n F dL_law_820 rfl 10 rfl ?_
  refine xr_iconst F dL_law_821 (v := 0) (by decide) ?_
  refine xr_ws (ws' := ([] : va_W) ++ ((bw h a t ++ (cw yI yZ a K V)) ++ (cw yI yZ t Kt Vt ++ (zw yI yL o ba pa la ra K V (zA V) ++ (([(qB, .inl (yL, refs (kNb K) rb))] : va_W) ++ (rowsW yI rb 5 (kNb K) FB ++ (([(qL, .inl (yL, refs 5 rl))] : va_W) ++ (rowsW yI rl 5 5 FL ++ (([(qN, .inl (yI, 5, .inl NX))] : va_W) ++ (([(qT, .inl (yI, 7, .inl fT))] : va_W))))))))))) (by first | (simp only [List.append_assoc, List.append_nil, List.nil_append]; done) | rfl | (simp only [List.append_assoc, List.append_nil, List.nil_append]; rfl)) ?_
  have q822 : q_count 0 = 0 := (q_count_v (j := 0) (by decide))
  refine xr_mcXVi F G (rest := [.ref (o 1)]) (As := [.int 0]) (k_X1_count l D yI yZ yL hst h a t K V 0 hK.1) (cwV 1 F.hts gL_law_X1_count rfl rfl rfl (by decide +kernel) ⟨Nat.le_of_ble_eq_true rfl, Nat.le_of_ble_eq_true rfl⟩) (q0 := 0) rfl rfl (([] : va_W)) (cw yI yZ t Kt Vt ++ (zw yI yL o ba pa la ra K V (zA V) ++ (([(qB, .inl (yL, refs (kNb K) rb))] : va_W) ++ (rowsW yI rb 5 (kNb K) FB ++ (([(qL, .inl (yL, refs 5 rl))] : va_W) ++ (rowsW yI rl 5 5 FL ++ (([(qN, .inl (yI, 5, .inl NX))] : va_W) ++ (([(qT, .inl (yI, 7, .inl fT))] : va_W))))))))) rfl rfl rfl (Nat.le_of_ble_eq_true rfl) dL_law_822 ⟨(by show _ ≤ (610331 : Nat); omega), (by show _ ≤ (7270474 : Nat); omega)⟩ (fun E1 W1 z1 => ?_) (fun r1 W1 z1 => ?_)
  · skip
    exact absurd (q822.symm.trans z1.1.1) (by decide)
  · skip
    obtain ⟨-, z0, z1⟩ := z1
    subst z0
    subst z1
    refine xr_ws (ws' := bw h a t ++ (cw yI yZ a K V ++ (cw yI yZ t Kt Vt ++ (zw yI yL o ba pa la ra K V (zA V) ++ (([(qB, .inl (yL, refs (kNb K) rb))] : va_W) ++ (rowsW yI rb 5 (kNb K) FB ++ (([(qL, .inl (yL, refs 5 rl))] : va_W) ++ (rowsW yI rl 5 5 FL ++ (([(qN, .inl (yI, 5, .inl NX))] : va_W) ++ (([(qT, .inl (yI, 7, .inl fT))] : va_W))))))))))) (by first | (simp only [List.append_assoc, List.append_nil, List.nil_append]; done) | rfl | (simp only [List.append_assoc, List.append_nil, List.nil_append]; rfl)) ?_
    refine xr_top (y := c_tellW K V 0) (by rw [show ix 0 = 0 from by decide]) ?_
    refine xr_top (y := nI (dHour V)) rfl ?_
    refine xr_bipush F dL_law_825 (v := 8) (by decide) ?_
    refine xr_irem F (nI (dHour V % 8)) dL_law_827 (by decide) (pk_rem (a := dHour V) (d := 8) (by omega) (by decide) (by decide)) ?_
    refine xr_iald F (26) 0 rfl rfl (dHour V % 8) rfl (by omega) (by decide) dL_law_828 ?_
    refine xr_istore F [(22, .int ((kSpr K) (dHour V % 8))), (21, .int (c_stopL K 60 0 V)), (19, .int ar), (18, .int b0), (17, .ref qT), (8, .ref qL), (7, .ref qB), (6, .int (wat V)), (5, .int (nI (kNb K))), (3, .int (nI tm)), (0, .ref b), (1, .ref h), (2, .ref (o 0))] dL_law_829 (by decide) rfl ?_
    refine xr_aload_n F dL_law_831 rfl 11 rfl ?_
    refine xr_iconst F dL_law_832 (v := 3) (by decide) ?_
    refine xr_ws (ws' := ([] : va_W) ++ ((bw h a t ++ (cw yI yZ a K V)) ++ (cw yI yZ t Kt Vt ++ (zw yI yL o ba pa la ra K V (zA V) ++ (([(qB, .inl (yL, refs (kNb K) rb))] : va_W) ++ (rowsW yI rb 5 (kNb K) FB ++ (([(qL, .inl (yL, refs 5 rl))] : va_W) ++ (rowsW yI rl 5 5 FL ++ (([(qN, .inl (yI, 5, .inl NX))] : va_W) ++ (([(qT, .inl (yI, 7, .inl fT))] : va_W))))))))))) (by first | (simp only [List.append_assoc, List.append_nil, List.nil_append]; done) | rfl | (simp only [List.append_assoc, List.append_nil, List.nil_append]; rfl)) ?_
    have q833 : q_count 3 = 0 := (q_count_v (j := 3) (by decide))
    refine xr_mcXVi F G (rest := []) (As := [.int 3]) (k_X1_count l D yI yZ yL hst h a t K V 3 hK.1) (cwV 1 F.hts gL_law_X1_count rfl rfl rfl (by decide +kernel) ⟨Nat.le_of_ble_eq_true rfl, Nat.le_of_ble_eq_true rfl⟩) (q0 := 0) rfl rfl (([] : va_W)) (cw yI yZ t Kt Vt ++ (zw yI yL o ba pa la ra K V (zA V) ++ (([(qB, .inl (yL, refs (kNb K) rb))] : va_W) ++ (rowsW yI rb 5 (kNb K) FB ++ (([(qL, .inl (yL, refs 5 rl))] : va_W) ++ (rowsW yI rl 5 5 FL ++ (([(qN, .inl (yI, 5, .inl NX))] : va_W) ++ (([(qT, .inl (yI, 7, .inl fT))] : va_W))))))))) rfl rfl rfl (Nat.le_of_ble_eq_true rfl) dL_law_833 ⟨(by show _ ≤ (610331 : Nat); omega), (by show _ ≤ (7270474 : Nat); omega)⟩ (fun E1 W1 z1 => ?_) (fun r1 W1 z1 => ?_)
    · skip
      exact absurd (q833.symm.trans z1.1.1) (by decide)
    · skip
      obtain ⟨-, z0, z1⟩ := z1
      subst z0
      subst z1
      refine xr_ws (ws' := bw h a t ++ (cw yI yZ a K V ++ (cw yI yZ t Kt Vt ++ (zw yI yL o ba pa la ra K V (zA V) ++ (([(qB, .inl (yL, refs (kNb K) rb))] : va_W) ++ (rowsW yI rb 5 (kNb K) FB ++ (([(qL, .inl (yL, refs 5 rl))] : va_W) ++ (rowsW yI rl 5 5 FL ++ (([(qN, .inl (yI, 5, .inl NX))] : va_W) ++ (([(qT, .inl (yI, 7, .inl fT))] : va_W))))))))))) (by first | (simp only [List.append_assoc, List.append_nil, List.nil_append]; done) | rfl | (simp only [List.append_assoc, List.append_nil, List.nil_append]; rfl)) ?_
      refine xr_top (y := c_tellW K V 3) (by rw [show ix 3 = 3 from by decide]) ?_
      refine xr_top (y := dBank V) rfl ?_
      refine xr_istore F [(23, .int (dBank V)), (22, .int ((kSpr K) (dHour V % 8))), (21, .int (c_stopL K 60 0 V)), (19, .int ar), (18, .int b0), (17, .ref qT), (8, .ref qL), (7, .ref qB), (6, .int (wat V)), (5, .int (nI (kNb K))), (3, .int (nI tm)), (0, .ref b), (1, .ref h), (2, .ref (o 0))] dL_law_836 (by decide) rfl ?_
      refine xr_aload_n F dL_law_838 rfl 12 rfl ?_
      refine xr_bipush F dL_law_839 (v := 7) (by decide) ?_
      refine xr_ws (ws' := ([] : va_W) ++ ((bw h a t ++ (cw yI yZ a K V)) ++ (cw yI yZ t Kt Vt ++ (zw yI yL o ba pa la ra K V (zA V) ++ (([(qB, .inl (yL, refs (kNb K) rb))] : va_W) ++ (rowsW yI rb 5 (kNb K) FB ++ (([(qL, .inl (yL, refs 5 rl))] : va_W) ++ (rowsW yI rl 5 5 FL ++ (([(qN, .inl (yI, 5, .inl NX))] : va_W) ++ (([(qT, .inl (yI, 7, .inl fT))] : va_W))))))))))) (by first | (simp only [List.append_assoc, List.append_nil, List.nil_append]; done) | rfl | (simp only [List.append_assoc, List.append_nil, List.nil_append]; rfl)) ?_
      have q841 : q_count 7 = 0 := (q_count_v (j := 7) (by decide))
      refine xr_mcXVi F G (rest := []) (As := [.int 7]) (k_X1_count l D yI yZ yL hst h a t K V 7 hK.1) (cwV 1 F.hts gL_law_X1_count rfl rfl rfl (by decide +kernel) ⟨Nat.le_of_ble_eq_true rfl, Nat.le_of_ble_eq_true rfl⟩) (q0 := 0) rfl rfl (([] : va_W)) (cw yI yZ t Kt Vt ++ (zw yI yL o ba pa la ra K V (zA V) ++ (([(qB, .inl (yL, refs (kNb K) rb))] : va_W) ++ (rowsW yI rb 5 (kNb K) FB ++ (([(qL, .inl (yL, refs 5 rl))] : va_W) ++ (rowsW yI rl 5 5 FL ++ (([(qN, .inl (yI, 5, .inl NX))] : va_W) ++ (([(qT, .inl (yI, 7, .inl fT))] : va_W))))))))) rfl rfl rfl (Nat.le_of_ble_eq_true rfl) dL_law_841 ⟨(by show _ ≤ (610331 : Nat); omega), (by show _ ≤ (7270474 : Nat); omega)⟩ (fun E1 W1 z1 => ?_) (fun r1 W1 z1 => ?_)
      · skip
        exact absurd (q841.symm.trans z1.1.1) (by decide)
      · skip
        obtain ⟨-, z0, z1⟩ := z1
        subst z0
        subst z1
        refine xr_ws (ws' := bw h a t ++ (cw yI yZ a K V ++ (cw yI yZ t Kt Vt ++ (zw yI yL o ba pa la ra K V (zA V) ++ (([(qB, .inl (yL, refs (kNb K) rb))] : va_W) ++ (rowsW yI rb 5 (kNb K) FB ++ (([(qL, .inl (yL, refs 5 rl))] : va_W) ++ (rowsW yI rl 5 5 FL ++ (([(qN, .inl (yI, 5, .inl NX))] : va_W) ++ (([(qT, .inl (yI, 7, .inl fT))] : va_W))))))))))) (by first | (simp only [List.append_assoc, List.append_nil, List.nil_append]; done) | rfl | (simp only [List.append_assoc, List.append_nil, List.nil_append]; rfl)) ?_
        refine xr_top (y := c_tellW K V 7) (by rw [show ix 7 = 7 from by decide]) ?_
        refine xr_top (y := kFee K) rfl ?_
        refine xr_istore F [(24, .int (kFee K)), (23, .int (dBank V)), (22, .int ((kSpr K) (dHour V % 8))), (21, .int (c_stopL K 60 0 V)), (19, .int ar), (18, .int b0), (17, .ref qT), (8, .ref qL), (7, .ref qB), (6, .int (wat V)), (5, .int (nI (kNb K))), (3, .int (nI tm)), (0, .ref b), (1, .ref h), (2, .ref (o 0))] dL_law_844 (by decide) rfl ?_
        refine xr_aload_n F dL_law_846 rfl 13 rfl ?_
        refine xr_iconst F dL_law_847 (v := 1) (by decide) ?_
        refine xr_ws (ws' := ([] : va_W) ++ ((bw h a t ++ (cw yI yZ a K V)) ++ (cw yI yZ t Kt Vt ++ (zw yI yL o ba pa la ra K V (zA V) ++ (([(qB, .inl (yL, refs (kNb K) rb))] : va_W) ++ (rowsW yI rb 5 (kNb K) FB ++ (([(qL, .inl (yL, refs 5 rl))] : va_W) ++ (rowsW yI rl 5 5 FL ++ (([(qN, .inl (yI, 5, .inl NX))] : va_W) ++ (([(qT, .inl (yI, 7, .inl fT))] : va_W))))))))))) (by first | (simp only [List.append_assoc, List.append_nil, List.nil_append]; done) | rfl | (simp only [List.append_assoc, List.append_nil, List.nil_append]; rfl)) ?_
        have q848 : q_hours 1 60 = 0 := (by decide)
        refine xr_mcXVi F G (rest := []) (As := [.int 1]) (k_X1_pass l D yI yZ yL hst h a t K V 1 hK.1 hK.2.1 (by omega)) (cwV 1 F.hts gL_law_X1_pass rfl rfl rfl (by decide +kernel) ⟨Nat.le_of_ble_eq_true rfl, Nat.le_of_ble_eq_true rfl⟩) (q0 := 0) rfl rfl (([] : va_W)) (cw yI yZ t Kt Vt ++ (zw yI yL o ba pa la ra K V (zA V) ++ (([(qB, .inl (yL, refs (kNb K) rb))] : va_W) ++ (rowsW yI rb 5 (kNb K) FB ++ (([(qL, .inl (yL, refs 5 rl))] : va_W) ++ (rowsW yI rl 5 5 FL ++ (([(qN, .inl (yI, 5, .inl NX))] : va_W) ++ (([(qT, .inl (yI, 7, .inl fT))] : va_W))))))))) rfl rfl rfl (Nat.le_of_ble_eq_true rfl) dL_law_848 ⟨(by show _ ≤ (610331 : Nat); omega), (by show _ ≤ (7270474 : Nat); omega)⟩ (fun E1 W1 z1 => ?_) (fun r1 W1 z1 => ?_)
        · skip
          exact absurd (q848.symm.trans z1.1.1) (by decide)
        · skip
          obtain ⟨-, z0, z1⟩ := z1
          subst z0
          subst z1
          refine xr_ws (ws' := bw h a t ++ (cw yI yZ a K ((C_pass K V 1).1) ++ (cw yI yZ t Kt Vt ++ (zw yI yL o ba pa la ra K V (zA V) ++ (([(qB, .inl (yL, refs (kNb K) rb))] : va_W) ++ (rowsW yI rb 5 (kNb K) FB ++ (([(qL, .inl (yL, refs 5 rl))] : va_W) ++ (rowsW yI rl 5 5 FL ++ (([(qN, .inl (yI, 5, .inl NX))] : va_W) ++ (([(qT, .inl (yI, 7, .inl fT))] : va_W))))))))))) (by first | (simp only [List.append_assoc, List.append_nil, List.nil_append]; done) | rfl | (simp only [List.append_assoc, List.append_nil, List.nil_append]; rfl)) ?_
          refine xr_top (y := (c_hour K V).2) (by rw [pass_1]) ?_
          refine xr_ws (ws' := bw h a t ++ (cw yI yZ a K ((c_hour K V).1) ++ (cw yI yZ t Kt Vt ++ (zw yI yL o ba pa la ra K V (zA V) ++ (([(qB, .inl (yL, refs (kNb K) rb))] : va_W) ++ (rowsW yI rb 5 (kNb K) FB ++ (([(qL, .inl (yL, refs 5 rl))] : va_W) ++ (rowsW yI rl 5 5 FL ++ (([(qN, .inl (yI, 5, .inl NX))] : va_W) ++ (([(qT, .inl (yI, 7, .inl fT))] : va_W))))))))))) (by rw [pass_1]) ?_
          refine xr_istore F [(25, .int ((c_hour K V).2)), (24, .int (kFee K)), (23, .int (dBank V)), (22, .int ((kSpr K) (dHour V % 8))), (21, .int (c_stopL K 60 0 V)), (19, .int ar), (18, .int b0), (17, .ref qT), (8, .ref qL), (7, .ref qB), (6, .int (wat V)), (5, .int (nI (kNb K))), (3, .int (nI tm)), (0, .ref b), (1, .ref h), (2, .ref (o 0))] dL_law_851 (by decide) rfl ?_
          refine xr_aload_n F dL_law_853 rfl 15 rfl ?_
          refine xr_ws (ws' := bw h a t ++ (cw yI yZ a K ((c_hour K V).1) ++ (cw yI yZ t Kt Vt)) ++ ((zw yI yL o ba pa la ra K V (zA V)) ++ (([(qB, .inl (yL, refs (kNb K) rb))] : va_W) ++ (rowsW yI rb 5 (kNb K) FB ++ (([(qL, .inl (yL, refs 5 rl))] : va_W) ++ (rowsW yI rl 5 5 FL ++ (([(qN, .inl (yI, 5, .inl NX))] : va_W) ++ (([(qT, .inl (yI, 7, .inl fT))] : va_W))))))))) (by first | (simp only [List.append_assoc, List.append_nil, List.nil_append]; done) | rfl | (simp only [List.append_assoc, List.append_nil, List.nil_append]; rfl)) ?_
          refine xr_mcVi F (rest := []) (As := []) (k_X2_pass l D yI yZ yL o ba pa la ra K V (zA V)  hK.1 hK.2.1 (by omega)) (cwV 0 F.hts gL_law_X2_pass rfl rfl rfl (by decide +kernel) ⟨Nat.le_of_ble_eq_true rfl, Nat.le_of_ble_eq_true rfl⟩) (q0 := 0) rfl rfl (bw h a t ++ (cw yI yZ a K ((c_hour K V).1) ++ (cw yI yZ t Kt Vt))) (([(qB, .inl (yL, refs (kNb K) rb))] : va_W) ++ (rowsW yI rb 5 (kNb K) FB ++ (([(qL, .inl (yL, refs 5 rl))] : va_W) ++ (rowsW yI rl 5 5 FL ++ (([(qN, .inl (yI, 5, .inl NX))] : va_W) ++ (([(qT, .inl (yI, 7, .inl fT))] : va_W))))))) rfl rfl rfl (Nat.le_of_ble_eq_true rfl) dL_law_854 ⟨(by show _ ≤ (610331 : Nat); omega), (by show _ ≤ (7270474 : Nat); omega)⟩ (fun r1 W1 z1 => ?_)
          rw [zhour_eq hK hV] at z1
          obtain ⟨z0, z1⟩ := z1
          subst z0
          subst z1
          refine xr_ws (ws' := bw h a t ++ (cw yI yZ a K ((c_hour K V).1) ++ (cw yI yZ t Kt Vt ++ (zw yI yL o ba pa la ra K ((c_hour K V).1) (zA (c_hour K V).1) ++ (([(qB, .inl (yL, refs (kNb K) rb))] : va_W) ++ (rowsW yI rb 5 (kNb K) FB ++ (([(qL, .inl (yL, refs 5 rl))] : va_W) ++ (rowsW yI rl 5 5 FL ++ (([(qN, .inl (yI, 5, .inl NX))] : va_W) ++ (([(qT, .inl (yI, 7, .inl fT))] : va_W))))))))))) (by first | (simp only [List.append_assoc, List.append_nil, List.nil_append]; done) | rfl | (simp only [List.append_assoc, List.append_nil, List.nil_append]; rfl)) ?_
          refine xr_iload F dL_law_857 0 rfl ?_
          refine xr_icmp_ne F 920 dL_law_859 (by decide) (fun c859 => ?_) (fun c859 => ?_)
          · exact absurd rfl c859
          · skip
            refine xr_lv (lv' := [(25, .int ((c_hour K V).2)), (24, .int (kFee K)), (23, .int (dBank V)), (22, .int ((kSpr K) (dHour V % 8))), (21, .int (c_stopL K 60 0 V)), (19, .int ar), (18, .int b0), (17, .ref qT), (8, .ref qL), (7, .ref qB), (6, .int (wat V)), (5, .int (nI (kNb K))), (3, .int (nI tm)), (0, .ref b), (1, .ref h), (2, .ref (o 0))]) [0, 1, 2, 3, 4, 5, 6, 7, 8, 9, 10, 11, 12, 13, 14, 15] rfl ?_
            refine xr_widen (k := cl + 100) (n := sl + 1000) (by omega) (by omega) ?_
            exact kk 
