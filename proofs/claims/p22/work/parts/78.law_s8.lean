set_option maxHeartbeats 4000000 in
set_option maxRecDepth 100000 in
/-- 732 to 816 -/
theorem law_S8 {p : Program} {e : Env} {s : State} {m : MethodId} {below : List Frame} {meth : Method} {c : Code} {l : Launch} (hst : l.stackTraces = false) {b L : Nat} {xs : Nat → Int32} (hL : L ≤ 260) {D : va_G} {yI yZ yL : ClassId} {A : Nat → Prop} {Q : State → Prop} (F : XF p s m #[Value.ref b] c cL_law 32 wsL_law R_law D (tysG yI yZ yL) A) (G : XG l s meth A) (hX : va_X b L xs s s.heap) (hbl : b < s.heap.size) (hbA : ¬ A b) {h : Nat} {a t o : Nat → Nat} {ba : Nat} {pa la ra : Nat → Nat} {K : CK} {V : CD} {Kt : CK} {Vt : CD} {N tm : Nat} (htm : tm < 45) (hN : N < 50000) (hK : okK K) (hV : okV K V N) (hh : dHour V ≤ 100) {x b0 ar best : Int32} {dg : Int64} {qB qL qN : Nat} {rb rl : Nat → Nat} {FB FL : Nat → Nat → Int32} {NX : Nat → Int32} {qT : Nat} {fT : Nat → Int32} (hFB : ∀ b9, b9 < kNb K → ∀ w9, w9 < 5 → FB b9 w9 = c_tellB K V b9 w9) (hb0 : (b0 = -1 ∧ ar = -1) ∨ ∃ j, j < kNb K ∧ b0 = nI j ∧ ar = c_arrL K j 120 0 V) (hbest : ∃ q, q ≤ 10 ∧ best = nI (q * 10)) (edg : dg = dgA (c_tellW K V) K (c_tellP K V) (c_tellL K V) (c_tellB K V)) (cl sl : Nat) (hcl : cl + 100 ≤ 610331) (hsl : sl + 1000 ≤ 7270474) (kk : ∀ (Kt : CK) (Vt : CD), AW p l e room_1 s m #[Value.ref b] below meth c 32 D A (cl + 100) (sl + 1000) Q (bw h a t ++ (cw yI yZ a K V ++ (cw yI yZ t Kt Vt ++ (zw yI yL o ba pa la ra K V (zA V) ++ (([(qB, .inl (yL, refs (kNb K) rb))] : va_W) ++ (rowsW yI rb 5 (kNb K) FB ++ (([(qL, .inl (yL, refs 5 rl))] : va_W) ++ (rowsW yI rl 5 5 FL ++ (([(qN, .inl (yI, 5, .inl NX))] : va_W) ++ (([(qT, .inl (yI, 7, .inl fT))] : va_W))))))))))) [(21, .int (c_stopL K 60 0 V)), (19, .int ar), (18, .int b0), (17, .ref qT), (8, .ref qL), (7, .ref qB), (6, .int (wat V)), (5, .int (nI (kNb K))), (3, .int (nI tm)), (0, .ref b), (1, .ref h), (2, .ref (o 0))] 816 []) : AW p l e room_1 s m #[Value.ref b] below meth c 32 D A cl sl Q (bw h a t ++ (cw yI yZ a K V ++ (cw yI yZ t Kt Vt ++ (zw yI yL o ba pa la ra K V (zA V) ++ (([(qB, .inl (yL, refs (kNb K) rb))] : va_W) ++ (rowsW yI rb 5 (kNb K) FB ++ (([(qL, .inl (yL, refs 5 rl))] : va_W) ++ (rowsW yI rl 5 5 FL ++ (([(qN, .inl (yI, 5, .inl NX))] : va_W) ++ (([(qT, .inl (yI, 7, .inl fT))] : va_W))))))))))) [(20, .int best), (19, .int ar), (18, .int b0), (17, .ref qT), (15, .long dg), (8, .ref qL), (7, .ref qB), (6, .int (wat V)), (5, .int (nI (kNb K))), (4, .int x), (3, .int (nI tm)), (0, .ref b), (1, .ref h), (2, .ref (o 0))] 732 [] := by
  have k1 : kNb K ≤ 10 := hK.1
  show AW p l e room_1 s m #[Value.ref b] below meth c 32 D A cl sl Q (bw h a t ++ (cw yI yZ a K V ++ (cw yI yZ t Kt Vt ++ (zw yI yL o ba pa la ra K V (zA V) ++ (([(qB, .inl (yL, refs (kNb K) rb))] : va_W) ++ (rowsW yI rb 5 (kNb K) FB ++ (([(qL, .inl (yL, refs 5 rl))] : va_W) ++ (rowsW yI rl 5 5 FL ++ (([(qN, .inl (yI, 5, .inl NX))] : va_W) ++ (([(qT, .inl (yI, 7, .inl fT))] : va_W))))))))))) [(20, .int best), (19, .int ar), (18, .int b0), (17, .ref qT), (15, .long dg), (8, .ref qL), (7, .ref qB), (6, .int (wat V)), (5, .int (nI (kNb K))), (4, .int x), (3, .int (nI tm)), (0, .ref b), (1, .ref h), (2, .ref (o 0))] 732 []
  obtain ⟨g1, g2, g3⟩ := best_facts hbest
  obtain ⟨o1, o2, -⟩ := stop_facts K V
  rcases hb0 with ⟨z1, z2⟩ | ⟨j9, hj9, z1, z2⟩
  · skip
    subst z1
    subst z2
    refine xr_aload_n F dL_law_732 rfl 12 rfl ?_
    refine xr_ws (ws' := ([] : va_W) ++ ((bw h a t ++ (cw yI yZ a K V ++ (cw yI yZ t Kt Vt))) ++ (zw yI yL o ba pa la ra K V (zA V) ++ (([(qB, .inl (yL, refs (kNb K) rb))] : va_W) ++ (rowsW yI rb 5 (kNb K) FB ++ (([(qL, .inl (yL, refs 5 rl))] : va_W) ++ (rowsW yI rl 5 5 FL ++ (([(qN, .inl (yI, 5, .inl NX))] : va_W) ++ (([(qT, .inl (yI, 7, .inl fT))] : va_W)))))))))) (by first | (simp only [List.append_assoc, List.append_nil, List.nil_append]; done) | rfl | (simp only [List.append_assoc, List.append_nil, List.nil_append]; rfl)) ?_
    refine xr_mcVi F (rest := []) (As := []) (k_X1_stops l D yI yZ yL h a t K V Kt Vt  hK.2.2.1 hV.2.1 hK.1 hK.2.1 (by omega)) (cwV 0 F.hts gL_law_X1_stops rfl rfl rfl (by decide +kernel) ⟨Nat.le_of_ble_eq_true rfl, Nat.le_of_ble_eq_true rfl⟩) (q0 := 0) rfl rfl (([] : va_W)) (zw yI yL o ba pa la ra K V (zA V) ++ (([(qB, .inl (yL, refs (kNb K) rb))] : va_W) ++ (rowsW yI rb 5 (kNb K) FB ++ (([(qL, .inl (yL, refs 5 rl))] : va_W) ++ (rowsW yI rl 5 5 FL ++ (([(qN, .inl (yI, 5, .inl NX))] : va_W) ++ (([(qT, .inl (yI, 7, .inl fT))] : va_W)))))))) rfl rfl rfl (Nat.le_of_ble_eq_true rfl) dL_law_733 ⟨(by show _ ≤ (610331 : Nat); omega), (by show _ ≤ (7270474 : Nat); omega)⟩ (fun r1 W1 z1 => ?_)
    obtain ⟨z0, z1⟩ := z1
    obtain ⟨Kt1, Vt1, z1⟩ := z1
    subst z0
    subst z1
    refine xr_ws (ws' := bw h a t ++ (cw yI yZ a K V ++ (cw yI yZ t Kt1 Vt1 ++ (zw yI yL o ba pa la ra K V (zA V) ++ (([(qB, .inl (yL, refs (kNb K) rb))] : va_W) ++ (rowsW yI rb 5 (kNb K) FB ++ (([(qL, .inl (yL, refs 5 rl))] : va_W) ++ (rowsW yI rl 5 5 FL ++ (([(qN, .inl (yI, 5, .inl NX))] : va_W) ++ (([(qT, .inl (yI, 7, .inl fT))] : va_W))))))))))) (by first | (simp only [List.append_assoc, List.append_nil, List.nil_append]; done) | rfl | (simp only [List.append_assoc, List.append_nil, List.nil_append]; rfl)) ?_
    refine xr_istore F [(21, .int (c_stopL K 60 0 V)), (20, .int best), (19, .int ((-1))), (18, .int ((-1))), (17, .ref qT), (15, .long dg), (8, .ref qL), (7, .ref qB), (6, .int (wat V)), (5, .int (nI (kNb K))), (4, .int x), (3, .int (nI tm)), (0, .ref b), (1, .ref h), (2, .ref (o 0))] dL_law_736 (by decide) rfl ?_
    refine xr_aload_n F dL_law_738 rfl 13 rfl ?_
    refine xr_ws (ws' := ([] : va_W) ++ ((bw h a t ++ (cw yI yZ a K V)) ++ (cw yI yZ t Kt1 Vt1 ++ (zw yI yL o ba pa la ra K V (zA V) ++ (([(qB, .inl (yL, refs (kNb K) rb))] : va_W) ++ (rowsW yI rb 5 (kNb K) FB ++ (([(qL, .inl (yL, refs 5 rl))] : va_W) ++ (rowsW yI rl 5 5 FL ++ (([(qN, .inl (yI, 5, .inl NX))] : va_W) ++ (([(qT, .inl (yI, 7, .inl fT))] : va_W))))))))))) (by first | (simp only [List.append_assoc, List.append_nil, List.nil_append]; done) | rfl | (simp only [List.append_assoc, List.append_nil, List.nil_append]; rfl)) ?_
    refine xr_mcVl F (rest := []) (As := []) (k_X1_digest l D yI yZ yL h a t K V  hK.1) (cwV 0 F.hts gL_law_X1_digest rfl rfl rfl (by decide +kernel) ⟨Nat.le_of_ble_eq_true rfl, Nat.le_of_ble_eq_true rfl⟩) (q0 := 0) rfl rfl (([] : va_W)) (cw yI yZ t Kt1 Vt1 ++ (zw yI yL o ba pa la ra K V (zA V) ++ (([(qB, .inl (yL, refs (kNb K) rb))] : va_W) ++ (rowsW yI rb 5 (kNb K) FB ++ (([(qL, .inl (yL, refs 5 rl))] : va_W) ++ (rowsW yI rl 5 5 FL ++ (([(qN, .inl (yI, 5, .inl NX))] : va_W) ++ (([(qT, .inl (yI, 7, .inl fT))] : va_W))))))))) rfl rfl rfl (Nat.le_of_ble_eq_true rfl) dL_law_739 ⟨(by show _ ≤ (610331 : Nat); omega), (by show _ ≤ (7270474 : Nat); omega)⟩ (fun r1 W1 z1 => ?_)
    obtain ⟨z0, z1⟩ := z1
    subst z0
    subst z1
    refine xr_ws (ws' := bw h a t ++ (cw yI yZ a K V ++ (cw yI yZ t Kt1 Vt1 ++ (zw yI yL o ba pa la ra K V (zA V) ++ (([(qB, .inl (yL, refs (kNb K) rb))] : va_W) ++ (rowsW yI rb 5 (kNb K) FB ++ (([(qL, .inl (yL, refs 5 rl))] : va_W) ++ (rowsW yI rl 5 5 FL ++ (([(qN, .inl (yI, 5, .inl NX))] : va_W) ++ (([(qT, .inl (yI, 7, .inl fT))] : va_W))))))))))) (by first | (simp only [List.append_assoc, List.append_nil, List.nil_append]; done) | rfl | (simp only [List.append_assoc, List.append_nil, List.nil_append]; rfl)) ?_
    refine xr_stk (st' := [.long dg]) (by rw [edg]) ?_
    refine xr_lload F dL_law_742 5 rfl ?_
    refine xr_lcmp F dL_law_744 ?_
    refine xr_if_ne F 814 dL_law_745 (by decide) (fun c745 => ?_) (fun c745 => ?_)
    · exact absurd (lg_same _) c745
    · skip
      refine xr_iload F dL_law_748 1 rfl ?_
      refine xr_if_lt F 814 dL_law_750 (by decide) (fun c750 => ?_) (fun c750 => ?_)
      · exact absurd c750 g1
      · skip
        refine xr_iload F dL_law_753 1 rfl ?_
        refine xr_bipush F dL_law_755 (v := 100) (by decide) ?_
        refine xr_icmp_gt F 814 dL_law_757 (by decide) (fun c757 => ?_) (fun c757 => ?_)
        · exact absurd c757 g2
        · skip
          refine xr_iload F dL_law_760 1 rfl ?_
          refine xr_bipush F dL_law_762 (v := 10) (by decide) ?_
          refine xr_irem F (best - best / 10 * 10) dL_law_764 (by decide) rfl ?_
          refine xr_if_ne F 814 dL_law_765 (by decide) (fun c765 => ?_) (fun c765 => ?_)
          · exact absurd g3 c765
          · skip
            refine xr_iload F dL_law_768 0 rfl ?_
            refine xr_iconst F dL_law_770 (v := (-1)) (by decide) ?_
            refine xr_icmp_lt F 814 dL_law_771 (by decide) (fun c771 => ?_) (fun c771 => ?_)
            · exact absurd c771 o1
            · skip
              refine xr_iload F dL_law_774 0 rfl ?_
              refine xr_bipush F dL_law_776 (v := 59) (by decide) ?_
              refine xr_icmp_gt F 814 dL_law_778 (by decide) (fun c778 => ?_) (fun c778 => ?_)
              · exact absurd c778 o2
              · skip
                refine xr_iload F dL_law_781 3 rfl ?_
                refine xr_if_lt F 816 dL_law_783 (by decide) (fun c783 => ?_) (fun c783 => ?_)
                · skip
                  refine xr_lv (lv' := [(21, .int (c_stopL K 60 0 V)), (19, .int ((-1))), (18, .int ((-1))), (17, .ref qT), (8, .ref qL), (7, .ref qB), (6, .int (wat V)), (5, .int (nI (kNb K))), (3, .int (nI tm)), (0, .ref b), (1, .ref h), (2, .ref (o 0))]) [0, 2, 3, 4, 6, 7, 8, 9, 11, 12, 13, 14] rfl ?_
                  refine xr_widen (k := cl + 100) (n := sl + 1000) (by omega) (by omega) ?_
                  exact kk Kt1 Vt1
                · exact absurd (by decide) c783
  · skip
    subst z1
    subst z2
    refine xr_aload_n F dL_law_732 rfl 12 rfl ?_
    refine xr_ws (ws' := ([] : va_W) ++ ((bw h a t ++ (cw yI yZ a K V ++ (cw yI yZ t Kt Vt))) ++ (zw yI yL o ba pa la ra K V (zA V) ++ (([(qB, .inl (yL, refs (kNb K) rb))] : va_W) ++ (rowsW yI rb 5 (kNb K) FB ++ (([(qL, .inl (yL, refs 5 rl))] : va_W) ++ (rowsW yI rl 5 5 FL ++ (([(qN, .inl (yI, 5, .inl NX))] : va_W) ++ (([(qT, .inl (yI, 7, .inl fT))] : va_W)))))))))) (by first | (simp only [List.append_assoc, List.append_nil, List.nil_append]; done) | rfl | (simp only [List.append_assoc, List.append_nil, List.nil_append]; rfl)) ?_
    refine xr_mcVi F (rest := []) (As := []) (k_X1_stops l D yI yZ yL h a t K V Kt Vt  hK.2.2.1 hV.2.1 hK.1 hK.2.1 (by omega)) (cwV 0 F.hts gL_law_X1_stops rfl rfl rfl (by decide +kernel) ⟨Nat.le_of_ble_eq_true rfl, Nat.le_of_ble_eq_true rfl⟩) (q0 := 0) rfl rfl (([] : va_W)) (zw yI yL o ba pa la ra K V (zA V) ++ (([(qB, .inl (yL, refs (kNb K) rb))] : va_W) ++ (rowsW yI rb 5 (kNb K) FB ++ (([(qL, .inl (yL, refs 5 rl))] : va_W) ++ (rowsW yI rl 5 5 FL ++ (([(qN, .inl (yI, 5, .inl NX))] : va_W) ++ (([(qT, .inl (yI, 7, .inl fT))] : va_W)))))))) rfl rfl rfl (Nat.le_of_ble_eq_true rfl) dL_law_733 ⟨(by show _ ≤ (610331 : Nat); omega), (by show _ ≤ (7270474 : Nat); omega)⟩ (fun r1 W1 z1 => ?_)
    obtain ⟨z0, z1⟩ := z1
    obtain ⟨Kt2, Vt2, z1⟩ := z1
    subst z0
    subst z1
    refine xr_ws (ws' := bw h a t ++ (cw yI yZ a K V ++ (cw yI yZ t Kt2 Vt2 ++ (zw yI yL o ba pa la ra K V (zA V) ++ (([(qB, .inl (yL, refs (kNb K) rb))] : va_W) ++ (rowsW yI rb 5 (kNb K) FB ++ (([(qL, .inl (yL, refs 5 rl))] : va_W) ++ (rowsW yI rl 5 5 FL ++ (([(qN, .inl (yI, 5, .inl NX))] : va_W) ++ (([(qT, .inl (yI, 7, .inl fT))] : va_W))))))))))) (by first | (simp only [List.append_assoc, List.append_nil, List.nil_append]; done) | rfl | (simp only [List.append_assoc, List.append_nil, List.nil_append]; rfl)) ?_
    refine xr_istore F [(21, .int (c_stopL K 60 0 V)), (20, .int best), (19, .int (c_arrL K j9 120 0 V)), (18, .int (nI j9)), (17, .ref qT), (15, .long dg), (8, .ref qL), (7, .ref qB), (6, .int (wat V)), (5, .int (nI (kNb K))), (4, .int x), (3, .int (nI tm)), (0, .ref b), (1, .ref h), (2, .ref (o 0))] dL_law_736 (by decide) rfl ?_
    refine xr_aload_n F dL_law_738 rfl 13 rfl ?_
    refine xr_ws (ws' := ([] : va_W) ++ ((bw h a t ++ (cw yI yZ a K V)) ++ (cw yI yZ t Kt2 Vt2 ++ (zw yI yL o ba pa la ra K V (zA V) ++ (([(qB, .inl (yL, refs (kNb K) rb))] : va_W) ++ (rowsW yI rb 5 (kNb K) FB ++ (([(qL, .inl (yL, refs 5 rl))] : va_W) ++ (rowsW yI rl 5 5 FL ++ (([(qN, .inl (yI, 5, .inl NX))] : va_W) ++ (([(qT, .inl (yI, 7, .inl fT))] : va_W))))))))))) (by first | (simp only [List.append_assoc, List.append_nil, List.nil_append]; done) | rfl | (simp only [List.append_assoc, List.append_nil, List.nil_append]; rfl)) ?_
    refine xr_mcVl F (rest := []) (As := []) (k_X1_digest l D yI yZ yL h a t K V  hK.1) (cwV 0 F.hts gL_law_X1_digest rfl rfl rfl (by decide +kernel) ⟨Nat.le_of_ble_eq_true rfl, Nat.le_of_ble_eq_true rfl⟩) (q0 := 0) rfl rfl (([] : va_W)) (cw yI yZ t Kt2 Vt2 ++ (zw yI yL o ba pa la ra K V (zA V) ++ (([(qB, .inl (yL, refs (kNb K) rb))] : va_W) ++ (rowsW yI rb 5 (kNb K) FB ++ (([(qL, .inl (yL, refs 5 rl))] : va_W) ++ (rowsW yI rl 5 5 FL ++ (([(qN, .inl (yI, 5, .inl NX))] : va_W) ++ (([(qT, .inl (yI, 7, .inl fT))] : va_W))))))))) rfl rfl rfl (Nat.le_of_ble_eq_true rfl) dL_law_739 ⟨(by show _ ≤ (610331 : Nat); omega), (by show _ ≤ (7270474 : Nat); omega)⟩ (fun r1 W1 z1 => ?_)
    obtain ⟨z0, z1⟩ := z1
    subst z0
    subst z1
    refine xr_ws (ws' := bw h a t ++ (cw yI yZ a K V ++ (cw yI yZ t Kt2 Vt2 ++ (zw yI yL o ba pa la ra K V (zA V) ++ (([(qB, .inl (yL, refs (kNb K) rb))] : va_W) ++ (rowsW yI rb 5 (kNb K) FB ++ (([(qL, .inl (yL, refs 5 rl))] : va_W) ++ (rowsW yI rl 5 5 FL ++ (([(qN, .inl (yI, 5, .inl NX))] : va_W) ++ (([(qT, .inl (yI, 7, .inl fT))] : va_W))))))))))) (by first | (simp only [List.append_assoc, List.append_nil, List.nil_append]; done) | rfl | (simp only [List.append_assoc, List.append_nil, List.nil_append]; rfl)) ?_
    refine xr_stk (st' := [.long dg]) (by rw [edg]) ?_
    refine xr_lload F dL_law_742 5 rfl ?_
    refine xr_lcmp F dL_law_744 ?_
    refine xr_if_ne F 814 dL_law_745 (by decide) (fun c745 => ?_) (fun c745 => ?_)
    · exact absurd (lg_same _) c745
    · skip
      refine xr_iload F dL_law_748 1 rfl ?_
      refine xr_if_lt F 814 dL_law_750 (by decide) (fun c750 => ?_) (fun c750 => ?_)
      · exact absurd c750 g1
      · skip
        refine xr_iload F dL_law_753 1 rfl ?_
        refine xr_bipush F dL_law_755 (v := 100) (by decide) ?_
        refine xr_icmp_gt F 814 dL_law_757 (by decide) (fun c757 => ?_) (fun c757 => ?_)
        · exact absurd c757 g2
        · skip
          refine xr_iload F dL_law_760 1 rfl ?_
          refine xr_bipush F dL_law_762 (v := 10) (by decide) ?_
          refine xr_irem F (best - best / 10 * 10) dL_law_764 (by decide) rfl ?_
          refine xr_if_ne F 814 dL_law_765 (by decide) (fun c765 => ?_) (fun c765 => ?_)
          · exact absurd g3 c765
          · skip
            refine xr_iload F dL_law_768 0 rfl ?_
            refine xr_iconst F dL_law_770 (v := (-1)) (by decide) ?_
            refine xr_icmp_lt F 814 dL_law_771 (by decide) (fun c771 => ?_) (fun c771 => ?_)
            · exact absurd c771 o1
            · skip
              refine xr_iload F dL_law_774 0 rfl ?_
              refine xr_bipush F dL_law_776 (v := 59) (by decide) ?_
              refine xr_icmp_gt F 814 dL_law_778 (by decide) (fun c778 => ?_) (fun c778 => ?_)
              · exact absurd c778 o2
              · skip
                refine xr_iload F dL_law_781 3 rfl ?_
                refine xr_if_lt F 816 dL_law_783 (by decide) (fun c783 => ?_) (fun c783 => ?_)
                · exact absurd c783 (nI_pos (by omega))
                · skip
                  refine xr_iload F dL_law_786 2 rfl ?_
                  refine xr_if_ne F 795 dL_law_788 (by decide) (fun c788 => ?_) (fun c788 => ?_)
                  · skip
                    refine xr_iconst F dL_law_795 (v := 0) (by decide) ?_
                    refine xr_aload F dL_law_796 7 rfl ?_
                    refine xr_iload F dL_law_798 3 rfl ?_
                    refine xr_aald F (1 + (12 + (12 + (16 + (kNb K) + (0))))) 2 (w_skip (1) rfl (w_skip (12) rfl (w_skip (12) rfl (w_skip (16 + (kNb K)) (zw_len _ _ _ _ _ _ _ _ _ _) (w_left rfl))))) rfl rfl (j9) rfl (by omega) (by omega) dL_law_800 ?_
                    refine xr_iconst F dL_law_801 (v := 4) (by decide) ?_
                    refine xr_iald F (1 + (12 + (12 + (16 + (kNb K) + (1 + (j9)))))) 0 (w_skip (1) rfl (w_skip (12) rfl (w_skip (12) rfl (w_skip (16 + (kNb K)) (zw_len _ _ _ _ _ _ _ _ _ _) (w_skip (1) rfl (w_left (rowsW_get (by omega)))))))) rfl (4) rfl (by decide) (by decide) dL_law_802 ?_
                    refine xr_top (y := c_waits K V j9) (hFB j9 hj9 4 (by omega)) ?_
                    refine xr_if_ge F 810 dL_law_803 (by decide) (fun c803 => ?_) (fun c803 => ?_)
                    · skip
                      refine xr_iconst F dL_law_810 (v := 0) (by decide) ?_
                      refine xr_icmp_eq F 816 dL_law_811 (by decide) (fun c811 => ?_) (fun c811 => ?_)
                      · skip
                        refine xr_lv (lv' := [(21, .int (c_stopL K 60 0 V)), (19, .int (c_arrL K j9 120 0 V)), (18, .int (nI j9)), (17, .ref qT), (8, .ref qL), (7, .ref qB), (6, .int (wat V)), (5, .int (nI (kNb K))), (3, .int (nI tm)), (0, .ref b), (1, .ref h), (2, .ref (o 0))]) [0, 2, 3, 4, 6, 7, 8, 9, 11, 12, 13, 14] rfl ?_
                        refine xr_widen (k := cl + 100) (n := sl + 1000) (by omega) (by omega) ?_
                        exact kk Kt2 Vt2
                      · exact absurd (by decide) c811
                    · skip
                      refine xr_iconst F dL_law_806 (v := 1) (by decide) ?_
                      refine xr_goto F 811 dL_law_807 (by decide) ?_
                      refine xr_icmp_eq F 816 dL_law_811 (by decide) (fun c811 => ?_) (fun c811 => ?_)
                      · exact absurd c811 (by decide)
                      · exact absurd ((arr_0 hV hj9).mpr (Int32.not_le.mp c803)) c788
                  · skip
                    refine xr_iconst F dL_law_791 (v := 1) (by decide) ?_
                    refine xr_goto F 796 dL_law_792 (by decide) ?_
                    refine xr_aload F dL_law_796 7 rfl ?_
                    refine xr_iload F dL_law_798 3 rfl ?_
                    refine xr_aald F (1 + (12 + (12 + (16 + (kNb K) + (0))))) 2 (w_skip (1) rfl (w_skip (12) rfl (w_skip (12) rfl (w_skip (16 + (kNb K)) (zw_len _ _ _ _ _ _ _ _ _ _) (w_left rfl))))) rfl rfl (j9) rfl (by omega) (by omega) dL_law_800 ?_
                    refine xr_iconst F dL_law_801 (v := 4) (by decide) ?_
                    refine xr_iald F (1 + (12 + (12 + (16 + (kNb K) + (1 + (j9)))))) 0 (w_skip (1) rfl (w_skip (12) rfl (w_skip (12) rfl (w_skip (16 + (kNb K)) (zw_len _ _ _ _ _ _ _ _ _ _) (w_skip (1) rfl (w_left (rowsW_get (by omega)))))))) rfl (4) rfl (by decide) (by decide) dL_law_802 ?_
                    refine xr_top (y := c_waits K V j9) (hFB j9 hj9 4 (by omega)) ?_
                    refine xr_if_ge F 810 dL_law_803 (by decide) (fun c803 => ?_) (fun c803 => ?_)
                    · skip
                      refine xr_iconst F dL_law_810 (v := 0) (by decide) ?_
                      refine xr_icmp_eq F 816 dL_law_811 (by decide) (fun c811 => ?_) (fun c811 => ?_)
                      · exact absurd c811 (by decide)
                      · exact absurd ((arr_0 hV hj9).mp c788) (Int32.not_lt.mpr c803)
                    · skip
                      refine xr_iconst F dL_law_806 (v := 1) (by decide) ?_
                      refine xr_goto F 811 dL_law_807 (by decide) ?_
                      refine xr_icmp_eq F 816 dL_law_811 (by decide) (fun c811 => ?_) (fun c811 => ?_)
                      · skip
                        refine xr_lv (lv' := [(21, .int (c_stopL K 60 0 V)), (19, .int (c_arrL K j9 120 0 V)), (18, .int (nI j9)), (17, .ref qT), (8, .ref qL), (7, .ref qB), (6, .int (wat V)), (5, .int (nI (kNb K))), (3, .int (nI tm)), (0, .ref b), (1, .ref h), (2, .ref (o 0))]) [0, 2, 3, 4, 6, 7, 8, 9, 11, 12, 13, 14] rfl ?_
                        refine xr_widen (k := cl + 100) (n := sl + 1000) (by omega) (by omega) ?_
                        exact kk Kt2 Vt2
                      · exact absurd (by decide) c811
