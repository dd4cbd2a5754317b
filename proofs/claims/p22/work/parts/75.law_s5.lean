set_option maxHeartbeats 4000000 in
set_option maxRecDepth 100000 in
/-- 578 to 667 -/
theorem law_S5 {p : Program} {e : Env} {s : State} {m : MethodId} {below : List Frame} {meth : Method} {c : Code} {l : Launch} (hst : l.stackTraces = false) {b L : Nat} {xs : Nat → Int32} (hL : L ≤ 260) {D : va_G} {yI yZ yL : ClassId} {A : Nat → Prop} {Q : State → Prop} (F : XF p s m #[Value.ref b] c cL_law 32 wsL_law R_law D (tysG yI yZ yL) A) (G : XG l s meth A) (hX : va_X b L xs s s.heap) (hbl : b < s.heap.size) (hbA : ¬ A b) {h : Nat} {a t o : Nat → Nat} {ba : Nat} {pa la ra : Nat → Nat} {K : CK} {V : CD} {Kt : CK} {Vt : CD} {N tm : Nat} (htm : tm < 45) (hN : N < 50000) (hK : okK K) (hV : okV K V N) (hh : dHour V ≤ 100) {x : Int32} {qB qL qN : Nat} {rb rl : Nat → Nat} {FB FL : Nat → Nat → Int32} {NX : Nat → Int32} (cl sl : Nat) (hcl : cl + 100 ≤ 610331) (hsl : sl + 1000 ≤ 7270474) (kk : ∀ (qT : Nat) (fT : Nat → Int32) (Kt : CK) (Vt : CD) (dg : Int64) (edg : dg = dgA (c_tellW K V) K (c_tellP K V) (c_tellL K V) (c_tellB K V)) (hT : ∀ w9, 2 ≤ w9 → w9 < 7 → fT w9 = c_tellW K (c_hour K V).1 w9), AW p l e room_1 s m #[Value.ref b] below meth c 32 D A (cl + 100) (sl + 1000) Q (bw h a t ++ (cw yI yZ a K V ++ (cw yI yZ t Kt Vt ++ (zw yI yL o ba pa la ra K V (zA V) ++ (([(qB, .inl (yL, refs (kNb K) rb))] : va_W) ++ (rowsW yI rb 5 (kNb K) FB ++ (([(qL, .inl (yL, refs 5 rl))] : va_W) ++ (rowsW yI rl 5 5 FL ++ (([(qN, .inl (yI, 5, .inl NX))] : va_W) ++ (([(qT, .inl (yI, 7, .inl fT))] : va_W))))))))))) [(17, .ref qT), (15, .long dg), (8, .ref qL), (7, .ref qB), (6, .int (wat V)), (5, .int (nI (kNb K))), (4, .int x), (3, .int (nI tm)), (0, .ref b), (1, .ref h), (2, .ref (o 0))] 667 []) : AW p l e room_1 s m #[Value.ref b] below meth c 32 D A cl sl Q (bw h a t ++ (cw yI yZ a K V ++ (cw yI yZ t Kt Vt ++ (zw yI yL o ba pa la ra K V (zA V) ++ (([(qB, .inl (yL, refs (kNb K) rb))] : va_W) ++ (rowsW yI rb 5 (kNb K) FB ++ (([(qL, .inl (yL, refs 5 rl))] : va_W) ++ (rowsW yI rl 5 5 FL ++ (([(qN, .inl (yI, 5, .inl NX))] : va_W)))))))))) [(14, .int (nI (kNb K) - c_comeN K V)), (13, .int (c_fullN V)), (12, .int (nI (kNb K))), (11, .int (c_water V)), (10, .int (c_comeN K V)), (8, .ref qL), (7, .ref qB), (6, .int (wat V)), (5, .int (nI (kNb K))), (4, .int x), (3, .int (nI tm)), (0, .ref b), (1, .ref h), (2, .ref (o 0))] 578 [] := by
  have k1 : kNb K ≤ 10 := hK.1
  show AW p l e room_1 s m #[Value.ref b] below meth c 32 D A cl sl Q (bw h a t ++ (cw yI yZ a K V ++ (cw yI yZ t Kt Vt ++ (zw yI yL o ba pa la ra K V (zA V) ++ (([(qB, .inl (yL, refs (kNb K) rb))] : va_W) ++ (rowsW yI rb 5 (kNb K) FB ++ (([(qL, .inl (yL, refs 5 rl))] : va_W) ++ (rowsW yI rl 5 5 FL ++ (([(qN, .inl (yI, 5, .inl NX))] : va_W)))))))))) [(14, .int (nI (kNb K) - c_comeN K V)), (13, .int (c_fullN V)), (12, .int (nI (kNb K))), (11, .int (c_water V)), (10, .int (c_comeN K V)), (8, .ref qL), (7, .ref qB), (6, .int (wat V)), (5, .int (nI (kNb K))), (4, .int x), (3, .int (nI tm)), (0, .ref b), (1, .ref h), (2, .ref (o 0))] 578 []
  refine xr_iload F dL_law_578 3 rfl ?_
  refine xr_aload_n F dL_law_580 rfl 12 rfl ?_
  refine xr_iconst F dL_law_581 (v := 4) (by decide) ?_
  refine xr_ws (ws' := ([] : va_W) ++ ((bw h a t ++ (cw yI yZ a K V)) ++ (cw yI yZ t Kt Vt ++ (zw yI yL o ba pa la ra K V (zA V) ++ (([(qB, .inl (yL, refs (kNb K) rb))] : va_W) ++ (rowsW yI rb 5 (kNb K) FB ++ (([(qL, .inl (yL, refs 5 rl))] : va_W) ++ (rowsW yI rl 5 5 FL ++ (([(qN, .inl (yI, 5, .inl NX))] : va_W)))))))))) (by first | (simp only [List.append_assoc, List.append_nil, List.nil_append]; done) | rfl | (simp only [List.append_assoc, List.append_nil, List.nil_append]; rfl)) ?_
  have q582 : q_count 4 = 0 := (q_count_v (j := 4) (by decide))
  refine xr_mcXVi F G (rest := [.int (c_water V)]) (As := [.int 4]) (k_X1_count l D yI yZ yL hst h a t K V 4 hK.1) (cwV 1 F.hts gL_law_X1_count rfl rfl rfl (by decide +kernel) ⟨Nat.le_of_ble_eq_true rfl, Nat.le_of_ble_eq_true rfl⟩) (q0 := 0) rfl rfl (([] : va_W)) (cw yI yZ t Kt Vt ++ (zw yI yL o ba pa la ra K V (zA V) ++ (([(qB, .inl (yL, refs (kNb K) rb))] : va_W) ++ (rowsW yI rb 5 (kNb K) FB ++ (([(qL, .inl (yL, refs 5 rl))] : va_W) ++ (rowsW yI rl 5 5 FL ++ (([(qN, .inl (yI, 5, .inl NX))] : va_W)))))))) rfl rfl rfl (Nat.le_of_ble_eq_true rfl) dL_law_582 ⟨(by show _ ≤ (610331 : Nat); omega), (by show _ ≤ (7270474 : Nat); omega)⟩ (fun E1 W1 z1 => ?_) (fun r1 W1 z1 => ?_)
  · skip
    exact absurd (q582.symm.trans z1.1.1) (by decide)
  · skip
    obtain ⟨-, z0, z1⟩ := z1
    subst z0
    subst z1
    refine xr_ws (ws' := bw h a t ++ (cw yI yZ a K V ++ (cw yI yZ t Kt Vt ++ (zw yI yL o ba pa la ra K V (zA V) ++ (([(qB, .inl (yL, refs (kNb K) rb))] : va_W) ++ (rowsW yI rb 5 (kNb K) FB ++ (([(qL, .inl (yL, refs 5 rl))] : va_W) ++ (rowsW yI rl 5 5 FL ++ (([(qN, .inl (yI, 5, .inl NX))] : va_W)))))))))) (by first | (simp only [List.append_assoc, List.append_nil, List.nil_append]; done) | rfl | (simp only [List.append_assoc, List.append_nil, List.nil_append]; rfl)) ?_
    refine xr_top (y := c_tellW K V 4) (by rw [show ix 4 = 4 from by decide]) ?_
    refine xr_top (y := c_water V) rfl ?_
    refine xr_icmp_ne F 625 dL_law_585 (by decide) (fun c585 => ?_) (fun c585 => ?_)
    · exact absurd rfl c585
    · skip
      refine xr_iload F dL_law_588 2 rfl ?_
      refine xr_iload F dL_law_590 8 rfl ?_
      refine xr_icmp_ne F 625 dL_law_592 (by decide) (fun c592 => ?_) (fun c592 => ?_)
      · exact absurd rfl c592
      · skip
        refine xr_iload F dL_law_595 1 rfl ?_
        refine xr_aload_n F dL_law_597 rfl 12 rfl ?_
        refine xr_iconst F dL_law_598 (v := 5) (by decide) ?_
        refine xr_ws (ws' := ([] : va_W) ++ ((bw h a t ++ (cw yI yZ a K V)) ++ (cw yI yZ t Kt Vt ++ (zw yI yL o ba pa la ra K V (zA V) ++ (([(qB, .inl (yL, refs (kNb K) rb))] : va_W) ++ (rowsW yI rb 5 (kNb K) FB ++ (([(qL, .inl (yL, refs 5 rl))] : va_W) ++ (rowsW yI rl 5 5 FL ++ (([(qN, .inl (yI, 5, .inl NX))] : va_W)))))))))) (by first | (simp only [List.append_assoc, List.append_nil, List.nil_append]; done) | rfl | (simp only [List.append_assoc, List.append_nil, List.nil_append]; rfl)) ?_
        have q599 : q_count 5 = 0 := (q_count_v (j := 5) (by decide))
        refine xr_mcXVi F G (rest := [.int (c_fullN V)]) (As := [.int 5]) (k_X1_count l D yI yZ yL hst h a t K V 5 hK.1) (cwV 1 F.hts gL_law_X1_count rfl rfl rfl (by decide +kernel) ⟨Nat.le_of_ble_eq_true rfl, Nat.le_of_ble_eq_true rfl⟩) (q0 := 0) rfl rfl (([] : va_W)) (cw yI yZ t Kt Vt ++ (zw yI yL o ba pa la ra K V (zA V) ++ (([(qB, .inl (yL, refs (kNb K) rb))] : va_W) ++ (rowsW yI rb 5 (kNb K) FB ++ (([(qL, .inl (yL, refs 5 rl))] : va_W) ++ (rowsW yI rl 5 5 FL ++ (([(qN, .inl (yI, 5, .inl NX))] : va_W)))))))) rfl rfl rfl (Nat.le_of_ble_eq_true rfl) dL_law_599 ⟨(by show _ ≤ (610331 : Nat); omega), (by show _ ≤ (7270474 : Nat); omega)⟩ (fun E1 W1 z1 => ?_) (fun r1 W1 z1 => ?_)
        · skip
          exact absurd (q599.symm.trans z1.1.1) (by decide)
        · skip
          obtain ⟨-, z0, z1⟩ := z1
          subst z0
          subst z1
          refine xr_ws (ws' := bw h a t ++ (cw yI yZ a K V ++ (cw yI yZ t Kt Vt ++ (zw yI yL o ba pa la ra K V (zA V) ++ (([(qB, .inl (yL, refs (kNb K) rb))] : va_W) ++ (rowsW yI rb 5 (kNb K) FB ++ (([(qL, .inl (yL, refs 5 rl))] : va_W) ++ (rowsW yI rl 5 5 FL ++ (([(qN, .inl (yI, 5, .inl NX))] : va_W)))))))))) (by first | (simp only [List.append_assoc, List.append_nil, List.nil_append]; done) | rfl | (simp only [List.append_assoc, List.append_nil, List.nil_append]; rfl)) ?_
          refine xr_top (y := c_tellW K V 5) (by rw [show ix 5 = 5 from by decide]) ?_
          refine xr_top (y := c_fullN V) rfl ?_
          refine xr_icmp_ne F 625 dL_law_602 (by decide) (fun c602 => ?_) (fun c602 => ?_)
          · exact absurd rfl c602
          · skip
            refine xr_iload F dL_law_605 4 rfl ?_
            refine xr_aload_n F dL_law_607 rfl 12 rfl ?_
            refine xr_iconst F dL_law_608 (v := 2) (by decide) ?_
            refine xr_ws (ws' := ([] : va_W) ++ ((bw h a t ++ (cw yI yZ a K V)) ++ (cw yI yZ t Kt Vt ++ (zw yI yL o ba pa la ra K V (zA V) ++ (([(qB, .inl (yL, refs (kNb K) rb))] : va_W) ++ (rowsW yI rb 5 (kNb K) FB ++ (([(qL, .inl (yL, refs 5 rl))] : va_W) ++ (rowsW yI rl 5 5 FL ++ (([(qN, .inl (yI, 5, .inl NX))] : va_W)))))))))) (by first | (simp only [List.append_assoc, List.append_nil, List.nil_append]; done) | rfl | (simp only [List.append_assoc, List.append_nil, List.nil_append]; rfl)) ?_
            have q609 : q_count 2 = 0 := (q_count_v (j := 2) (by decide))
            refine xr_mcXVi F G (rest := [.int (c_comeN K V)]) (As := [.int 2]) (k_X1_count l D yI yZ yL hst h a t K V 2 hK.1) (cwV 1 F.hts gL_law_X1_count rfl rfl rfl (by decide +kernel) ⟨Nat.le_of_ble_eq_true rfl, Nat.le_of_ble_eq_true rfl⟩) (q0 := 0) rfl rfl (([] : va_W)) (cw yI yZ t Kt Vt ++ (zw yI yL o ba pa la ra K V (zA V) ++ (([(qB, .inl (yL, refs (kNb K) rb))] : va_W) ++ (rowsW yI rb 5 (kNb K) FB ++ (([(qL, .inl (yL, refs 5 rl))] : va_W) ++ (rowsW yI rl 5 5 FL ++ (([(qN, .inl (yI, 5, .inl NX))] : va_W)))))))) rfl rfl rfl (Nat.le_of_ble_eq_true rfl) dL_law_609 ⟨(by show _ ≤ (610331 : Nat); omega), (by show _ ≤ (7270474 : Nat); omega)⟩ (fun E1 W1 z1 => ?_) (fun r1 W1 z1 => ?_)
            · skip
              exact absurd (q609.symm.trans z1.1.1) (by decide)
            · skip
              obtain ⟨-, z0, z1⟩ := z1
              subst z0
              subst z1
              refine xr_ws (ws' := bw h a t ++ (cw yI yZ a K V ++ (cw yI yZ t Kt Vt ++ (zw yI yL o ba pa la ra K V (zA V) ++ (([(qB, .inl (yL, refs (kNb K) rb))] : va_W) ++ (rowsW yI rb 5 (kNb K) FB ++ (([(qL, .inl (yL, refs 5 rl))] : va_W) ++ (rowsW yI rl 5 5 FL ++ (([(qN, .inl (yI, 5, .inl NX))] : va_W)))))))))) (by first | (simp only [List.append_assoc, List.append_nil, List.nil_append]; done) | rfl | (simp only [List.append_assoc, List.append_nil, List.nil_append]; rfl)) ?_
              refine xr_top (y := c_tellW K V 2) (by rw [show ix 2 = 2 from by decide]) ?_
              refine xr_top (y := c_comeN K V) rfl ?_
              refine xr_icmp_ne F 625 dL_law_612 (by decide) (fun c612 => ?_) (fun c612 => ?_)
              · exact absurd rfl c612
              · skip
                refine xr_iload F dL_law_615 0 rfl ?_
                refine xr_iload F dL_law_617 8 rfl ?_
                refine xr_iload F dL_law_619 4 rfl ?_
                refine xr_isub F ((nI (kNb K)) - (c_comeN K V)) dL_law_621 rfl ?_
                refine xr_icmp_eq F 627 dL_law_622 (by decide) (fun c622 => ?_) (fun c622 => ?_)
                · skip
                  refine xr_aload_n F dL_law_627 rfl 12 rfl ?_
                  obtain ⟨dg, edg⟩ : ∃ x9 : Int64, x9 = dgA (c_tellW K V) K (c_tellP K V) (c_tellL K V) (c_tellB K V) := ⟨_, rfl⟩
                  refine xr_ws (ws' := ([] : va_W) ++ ((bw h a t ++ (cw yI yZ a K V)) ++ (cw yI yZ t Kt Vt ++ (zw yI yL o ba pa la ra K V (zA V) ++ (([(qB, .inl (yL, refs (kNb K) rb))] : va_W) ++ (rowsW yI rb 5 (kNb K) FB ++ (([(qL, .inl (yL, refs 5 rl))] : va_W) ++ (rowsW yI rl 5 5 FL ++ (([(qN, .inl (yI, 5, .inl NX))] : va_W)))))))))) (by first | (simp only [List.append_assoc, List.append_nil, List.nil_append]; done) | rfl | (simp only [List.append_assoc, List.append_nil, List.nil_append]; rfl)) ?_
                  refine xr_mcVl F (rest := []) (As := []) (k_X1_digest l D yI yZ yL h a t K V  hK.1) (cwV 0 F.hts gL_law_X1_digest rfl rfl rfl (by decide +kernel) ⟨Nat.le_of_ble_eq_true rfl, Nat.le_of_ble_eq_true rfl⟩) (q0 := 0) rfl rfl (([] : va_W)) (cw yI yZ t Kt Vt ++ (zw yI yL o ba pa la ra K V (zA V) ++ (([(qB, .inl (yL, refs (kNb K) rb))] : va_W) ++ (rowsW yI rb 5 (kNb K) FB ++ (([(qL, .inl (yL, refs 5 rl))] : va_W) ++ (rowsW yI rl 5 5 FL ++ (([(qN, .inl (yI, 5, .inl NX))] : va_W)))))))) rfl rfl rfl (Nat.le_of_ble_eq_true rfl) dL_law_628 ⟨(by show _ ≤ (610331 : Nat); omega), (by show _ ≤ (7270474 : Nat); omega)⟩ (fun r1 W1 z1 => ?_)
                  obtain ⟨z0, z1⟩ := z1
                  subst z0
                  subst z1
                  refine xr_ws (ws' := bw h a t ++ (cw yI yZ a K V ++ (cw yI yZ t Kt Vt ++ (zw yI yL o ba pa la ra K V (zA V) ++ (([(qB, .inl (yL, refs (kNb K) rb))] : va_W) ++ (rowsW yI rb 5 (kNb K) FB ++ (([(qL, .inl (yL, refs 5 rl))] : va_W) ++ (rowsW yI rl 5 5 FL ++ (([(qN, .inl (yI, 5, .inl NX))] : va_W)))))))))) (by first | (simp only [List.append_assoc, List.append_nil, List.nil_append]; done) | rfl | (simp only [List.append_assoc, List.append_nil, List.nil_append]; rfl)) ?_
                  refine xr_stk (st' := [.long dg]) (by rw [edg]) ?_
                  refine xr_lstore F [(15, .long dg), (14, .int (nI (kNb K) - c_comeN K V)), (13, .int (c_fullN V)), (12, .int (nI (kNb K))), (11, .int (c_water V)), (10, .int (c_comeN K V)), (8, .ref qL), (7, .ref qB), (6, .int (wat V)), (5, .int (nI (kNb K))), (4, .int x), (3, .int (nI tm)), (0, .ref b), (1, .ref h), (2, .ref (o 0))] dL_law_631 (by decide) rfl ?_
                  refine xr_bipush F dL_law_633 (v := 7) (by decide) ?_
                  refine xr_newa F 0 (ty := .int) rfl (fun _ h => h) (List.mem_of_getElem? (i := 4) rfl) rfl 7 rfl (by decide) (7, .inl (fun _ => 0)) (fun _ => rfl) (Nat.le_of_ble_eq_true rfl) (by show _ ≤ (610331 : Nat); omega) (by show _ ≤ (7270474 : Nat); omega) dL_law_635 (fun q1 => ?_)
                  refine xr_ws (ws' := bw h a t ++ (cw yI yZ a K V ++ (cw yI yZ t Kt Vt ++ (zw yI yL o ba pa la ra K V (zA V) ++ (([(qB, .inl (yL, refs (kNb K) rb))] : va_W) ++ (rowsW yI rb 5 (kNb K) FB ++ (([(qL, .inl (yL, refs 5 rl))] : va_W) ++ (rowsW yI rl 5 5 FL ++ (([(qN, .inl (yI, 5, .inl NX))] : va_W) ++ (([(q1, .inl (yI, 7, .inl (fun _ => 0)))] : va_W))))))))))) (by first | (simp only [List.append_assoc, List.append_nil, List.nil_append]; done) | rfl | (simp only [List.append_assoc, List.append_nil, List.nil_append]; rfl)) ?_
                  refine xr_astore F [(17, .ref q1), (15, .long dg), (14, .int (nI (kNb K) - c_comeN K V)), (13, .int (c_fullN V)), (12, .int (nI (kNb K))), (11, .int (c_water V)), (10, .int (c_comeN K V)), (8, .ref qL), (7, .ref qB), (6, .int (wat V)), (5, .int (nI (kNb K))), (4, .int x), (3, .int (nI tm)), (0, .ref b), (1, .ref h), (2, .ref (o 0))] dL_law_637 (by decide) rfl ?_
                  refine xr_iconst F dL_law_639 (v := 2) (by decide) ?_
                  refine xr_istore F [(18, .int 2), (17, .ref q1), (15, .long dg), (14, .int (nI (kNb K) - c_comeN K V)), (13, .int (c_fullN V)), (12, .int (nI (kNb K))), (11, .int (c_water V)), (10, .int (c_comeN K V)), (8, .ref qL), (7, .ref qB), (6, .int (wat V)), (5, .int (nI (kNb K))), (4, .int x), (3, .int (nI tm)), (0, .ref b), (1, .ref h), (2, .ref (o 0))] dL_law_640 (by decide) rfl ?_
                  have lp : ∀ (i : Nat) (w9 : Nat) (fT : Nat → Int32) (Kt : CK) (Vt : CD), i + w9 = 7 → 2 ≤ w9 → (∀ w9', 2 ≤ w9' → w9' < w9 → fT w9' = c_tellW K (c_hour K V).1 w9') → AW p l e room_1 s m #[Value.ref b] below meth c 32 D A (cl + 20 + w9) (sl + 100 + 6 * w9) Q (bw h a t ++ (cw yI yZ a K V ++ (cw yI yZ t Kt Vt ++ (zw yI yL o ba pa la ra K V (zA V) ++ (([(qB, .inl (yL, refs (kNb K) rb))] : va_W) ++ (rowsW yI rb 5 (kNb K) FB ++ (([(qL, .inl (yL, refs 5 rl))] : va_W) ++ (rowsW yI rl 5 5 FL ++ (([(qN, .inl (yI, 5, .inl NX))] : va_W) ++ (([(q1, .inl (yI, 7, .inl fT))] : va_W))))))))))) [(18, .int (nI w9)), (17, .ref q1), (15, .long dg), (8, .ref qL), (7, .ref qB), (6, .int (wat V)), (5, .int (nI (kNb K))), (4, .int x), (3, .int (nI tm)), (0, .ref b), (1, .ref h), (2, .ref (o 0))] 642 [] := by
                    intro i
                    induction i with
                    | zero =>
                      intro w9 fT Kt Vt hb hw2 hT
                      refine xr_iload F dL_law_642 0 rfl ?_
                      refine xr_bipush F dL_law_644 (v := 7) (by decide) ?_
                      refine xr_icmp_ge F 667 dL_law_646 (by decide) (fun c646 => ?_) (fun c646 => ?_)
                      · skip
                        refine xr_lv (lv' := [(17, .ref q1), (15, .long dg), (8, .ref qL), (7, .ref qB), (6, .int (wat V)), (5, .int (nI (kNb K))), (4, .int x), (3, .int (nI tm)), (0, .ref b), (1, .ref h), (2, .ref (o 0))]) [1, 2, 3, 4, 5, 6, 7, 8, 9, 10, 11] rfl ?_
                        refine xr_widen (k := cl + 100) (n := sl + 1000) (by omega) (by omega) ?_
                        exact kk q1 fT Kt Vt dg edg (fun w9 z9 z8 => hT w9 z9 (by omega))
                      · exact (xk_ge (a := 7) (b := w9) (by omega) (by omega) c646).elim
                    | succ i ih =>
                      intro w9 fT Kt Vt hb hw2 hT
                      refine xr_iload F dL_law_642 0 rfl ?_
                      refine xr_bipush F dL_law_644 (v := 7) (by decide) ?_
                      refine xr_icmp_ge F 667 dL_law_646 (by decide) (fun c646 => ?_) (fun c646 => ?_)
                      · exact (xk_nlt (a := w9) (b := 7) (by omega) (by omega) (by omega) c646).elim
                      · skip
                        refine xr_aload F dL_law_649 1 rfl ?_
                        refine xr_iload F dL_law_651 0 rfl ?_
                        refine xr_aload_n F dL_law_653 rfl 10 rfl ?_
                        refine xr_iconst F dL_law_654 (v := 1) (by decide) ?_
                        refine xr_iload F dL_law_655 0 rfl ?_
                        refine xr_ws (ws' := ([] : va_W) ++ ((bw h a t ++ (cw yI yZ a K V ++ (cw yI yZ t Kt Vt))) ++ (zw yI yL o ba pa la ra K V (zA V) ++ (([(qB, .inl (yL, refs (kNb K) rb))] : va_W) ++ (rowsW yI rb 5 (kNb K) FB ++ (([(qL, .inl (yL, refs 5 rl))] : va_W) ++ (rowsW yI rl 5 5 FL ++ (([(qN, .inl (yI, 5, .inl NX))] : va_W) ++ (([(q1, .inl (yI, 7, .inl fT))] : va_W)))))))))) (by first | (simp only [List.append_assoc, List.append_nil, List.nil_append]; done) | rfl | (simp only [List.append_assoc, List.append_nil, List.nil_append]; rfl)) ?_
                        have q657 : q_foresee 1 (nI w9) = 0 := (q_fore_v hw2 (by omega))
                        refine xr_mcXVi F G (rest := [.int (nI w9), .ref q1]) (As := [.int 1, .int (nI w9)]) (k_X1_foresee l D yI yZ yL hst h a t K V Kt Vt 1 (nI w9) hK.2.2.1 hV.2.1 hK.1 hK.2.1 (by omega)) (cwV 2 F.hts gL_law_X1_foresee rfl rfl rfl (by decide +kernel) ⟨Nat.le_of_ble_eq_true rfl, Nat.le_of_ble_eq_true rfl⟩) (q0 := 0) rfl rfl (([] : va_W)) (zw yI yL o ba pa la ra K V (zA V) ++ (([(qB, .inl (yL, refs (kNb K) rb))] : va_W) ++ (rowsW yI rb 5 (kNb K) FB ++ (([(qL, .inl (yL, refs 5 rl))] : va_W) ++ (rowsW yI rl 5 5 FL ++ (([(qN, .inl (yI, 5, .inl NX))] : va_W) ++ (([(q1, .inl (yI, 7, .inl fT))] : va_W)))))))) rfl rfl rfl (Nat.le_of_ble_eq_true rfl) dL_law_657 ⟨(by show _ ≤ (610331 : Nat); omega), (by show _ ≤ (7270474 : Nat); omega)⟩ (fun E1 W1 z1 => ?_) (fun r1 W1 z1 => ?_)
                        · skip
                          rcases z1.1 with h9 | h9 <;> exact absurd (q657.symm.trans h9.1) (by decide)
                        · skip
                          obtain ⟨-, z0, z1⟩ := z1
                          obtain ⟨Kt2, Vt2, z1⟩ := z1
                          subst z0
                          subst z1
                          refine xr_ws (ws' := bw h a t ++ (cw yI yZ a K V ++ (cw yI yZ t Kt2 Vt2 ++ (zw yI yL o ba pa la ra K V (zA V) ++ (([(qB, .inl (yL, refs (kNb K) rb))] : va_W) ++ (rowsW yI rb 5 (kNb K) FB ++ (([(qL, .inl (yL, refs 5 rl))] : va_W) ++ (rowsW yI rl 5 5 FL ++ (([(qN, .inl (yI, 5, .inl NX))] : va_W) ++ (([(q1, .inl (yI, 7, .inl fT))] : va_W))))))))))) (by first | (simp only [List.append_assoc, List.append_nil, List.nil_append]; done) | rfl | (simp only [List.append_assoc, List.append_nil, List.nil_append]; rfl)) ?_
                          refine xr_top (y := c_tellW K (c_hour K V).1 w9) (by rw [ix_nI (by omega), fore_1]) ?_
                          refine xr_iast F (1 + (12 + (12 + (16 + (kNb K) + (1 + (kNb K + (1 + (5 + (1 + (0)))))))))) 0 (w_skip (1) rfl (w_skip (12) rfl (w_skip (12) rfl (w_skip (16 + (kNb K)) (zw_len _ _ _ _ _ _ _ _ _ _) (w_skip (1) rfl (w_skip (kNb K) (rowsW_len _ _ _ _ _) (w_skip (1) rfl (w_skip (5) (rowsW_len _ _ _ _ _) (w_skip (1) rfl rfl))))))))) rfl (w9) rfl (by omega) (by decide) (bw h a t ++ (cw yI yZ a K V ++ (cw yI yZ t Kt2 Vt2 ++ (zw yI yL o ba pa la ra K V (zA V) ++ (([(qB, .inl (yL, refs (kNb K) rb))] : va_W) ++ (rowsW yI rb 5 (kNb K) FB ++ (([(qL, .inl (yL, refs 5 rl))] : va_W) ++ (rowsW yI rl 5 5 FL ++ (([(qN, .inl (yI, 5, .inl NX))] : va_W) ++ (([(q1, .inl (yI, 7, .inl (upd fT w9 (c_tellW K (c_hour K V).1 w9))))] : va_W))))))))))) (s_skip (1) rfl (s_skip (12) rfl (s_skip (12) rfl (s_skip (16 + (kNb K)) (zw_len _ _ _ _ _ _ _ _ _ _) (s_skip (1) rfl (s_skip (kNb K) (rowsW_len _ _ _ _ _) (s_skip (1) rfl (s_skip (5) (rowsW_len _ _ _ _ _) (s_skip (1) rfl rfl))))))))) dL_law_660 ?_
                          refine xr_iinc F (nI (w9 + 1)) [(18, .int (nI (w9 + 1))), (17, .ref q1), (15, .long dg), (8, .ref qL), (7, .ref qB), (6, .int (wat V)), (5, .int (nI (kNb K))), (4, .int x), (3, .int (nI tm)), (0, .ref b), (1, .ref h), (2, .ref (o 0))] dL_law_661 0 rfl (nI_add w9 1) (by decide) rfl ?_
                          refine xr_goto F 642 dL_law_664 (by decide) ?_
                          refine xr_lv (lv' := [(18, .int (nI (w9 + 1))), (17, .ref q1), (15, .long dg), (8, .ref qL), (7, .ref qB), (6, .int (wat V)), (5, .int (nI (kNb K))), (4, .int x), (3, .int (nI tm)), (0, .ref b), (1, .ref h), (2, .ref (o 0))]) [0, 1, 2, 3, 4, 5, 6, 7, 8, 9, 10, 11] rfl ?_
                          refine xr_widen (k := cl + 20 + (w9 + 1)) (n := sl + 100 + 6 * (w9 + 1)) (by omega) (by omega) ?_
                          exact ih (w9 + 1) (upd fT w9 (c_tellW K (c_hour K V).1 w9)) Kt2 Vt2 (by omega) (by omega) (up_step hT)
                  refine xr_lv (lv' := [(18, .int 2), (17, .ref q1), (15, .long dg), (8, .ref qL), (7, .ref qB), (6, .int (wat V)), (5, .int (nI (kNb K))), (4, .int x), (3, .int (nI tm)), (0, .ref b), (1, .ref h), (2, .ref (o 0))]) [0, 1, 2, 8, 9, 10, 11, 12, 13, 14, 15, 16] rfl ?_
                  refine xr_widen (k := cl + 20 + 2) (n := sl + 100 + 6 * 2) (by omega) (by omega) ?_
                  exact lp 5 2 (fun _ => 0) Kt Vt (by omega) (Nat.le_refl _) (fun w9 z9 z8 => absurd z9 (by omega))
                · exact absurd rfl c622
