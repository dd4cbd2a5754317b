theorem pass_1 (K : CK) (V : CD) : C_pass K V 1 = c_hour K V := by
  have h1 : q_hours 1 60 = 0 := by decide
  have h2 : ix 1 = 1 := by decide
  unfold C_pass
  rw [if_pos h1, h2]
  show ((c_hour K V).1, 0 + (c_hour K V).2) = c_hour K V
  rw [Int32.zero_add]
theorem zhour_eq {K : CK} {V : CD} {N : Nat} (hK : okK K) (hV : okV K V N) : z_hour K V (zA V) = ((c_hour K V).1, zA (c_hour K V).1, (c_hour K V).2) := by
  obtain ⟨t, u, -, -, h, -⟩ := hour_all hK hV.1 hV.2.1
  exact h
def rm_L_build : Room := { frames := 9, cells := 200, slots := 1200, locals := 219 }
set_option maxHeartbeats 4000000 in
set_option maxRecDepth 100000 in
/-- build -/
theorem k_L_build (l : Launch) (D : va_G) (yI yZ yL : ClassId) (hst : l.stackTraces = false) (h : Nat) (a t : Nat → Nat) (b L : Nat) (xs : Nat → Int32) (hL : L < 2147483648) : xXSr l yL_build wsL_build rm_L_build D (tysG yI yZ yL) (bw h a t ++ (cw yI yZ a K_start D_start ++ (cw yI yZ t K_start D_start))) [.ref h, .ref b] 200 1200 b L xs (fun (r : Nat) (W1 : va_W) => ∃ (K : CK) (V : CD) (Kt : CK) (Vt : CD) (o : Nat → Nat) (ba : Nat) (pa la ra : Nat → Nat), okK K ∧ okV K V 44 ∧ dHour V ≤ 22 ∧ r = o 0 ∧ W1 = bw h a t ++ (cw yI yZ a K V ++ (cw yI yZ t Kt Vt ++ (zw yI yL o ba pa la ra K V (zA V))))) (fun _ _ => False) := by
  refine xEXS_r (cc := cL_build) (nL := 5) (rt := .object "LockBankLaw$Sim") hst (by decide) rfl (Nat.le_of_ble_eq_true rfl) (Or.inl ⟨_, rfl⟩) ?_
  intro p e s m args below meth c A Q F G hX hbl hbA ret
  have hin2 : ∀ w ∈ u_ws RX2 TX2 11, w ∈ wsL_build := by decide +kernel
  show AW p l e rm_L_build s m args below meth c 5 D A 0 0 Q (bw h a t ++ (cw yI yZ a K_start D_start ++ (cw yI yZ t K_start D_start))) [(0, .ref h), (1, .ref b)] 0 []
  refine xr_new F (ci := 2) hin2 tyX2 tyX2_ok (List.mem_of_getElem? (i := 1) rfl) (List.mem_of_getElem? (i := 2) rfl) (List.mem_of_getElem? (i := 3) rfl) rfl [.int 0, .null, .null, .int 0, .null, .int 0, .int 0, .int 0, .int 0, .int 0, .null] (by decide +kernel) (Nat.le_of_ble_eq_true rfl) (Nat.le_of_ble_eq_true rfl) dL_build_0 (fun q1 => ?_)
  refine xr_ws (ws' := bw h a t ++ (cw yI yZ a K_start D_start ++ (cw yI yZ t K_start D_start ++ (([(q1, .inr (2, [.int 0, .null, .null, .int 0, .null, .int 0, .int 0, .int 0, .int 0, .int 0, .null]))] : va_W))))) rfl ?_
  refine xr_dup F dL_build_3 rfl ?_
  refine xr_ws (ws' := bw h a t ++ (cw yI yZ a K_start D_start ++ (cw yI yZ t K_start D_start)) ++ ((([(q1, .inr (2, [.int 0, .null, .null, .int 0, .null, .int 0, .int 0, .int 0, .int 0, .int 0, .null]))] : va_W)) ++ (([] : va_W)))) (by first | (simp only [List.append_assoc, List.append_nil, List.nil_append]; done) | rfl | (simp only [List.append_assoc, List.append_nil, List.nil_append]; rfl)) ?_
  refine xr_mcINv F (rest := [.ref q1]) (As := []) (k_X2_init l D yI yZ yL q1) ⟨va_cnB 0 F.hts gL_build_X2_init_n92 rfl rfl rfl (F.hZ.1 _ (List.mem_of_getElem? (i := 0) rfl)) (F.hts _ (List.mem_of_getElem? (i := 3) rfl)) (by decide +kernel) ⟨Nat.le_of_ble_eq_true rfl, Nat.le_of_ble_eq_true rfl⟩, rfl, F.hts _ (List.mem_of_getElem? (i := 5) rfl)⟩ (bw h a t ++ (cw yI yZ a K_start D_start ++ (cw yI yZ t K_start D_start))) (([] : va_W)) rfl rfl rfl (Nat.le_of_ble_eq_true rfl) dL_build_4 ⟨(by show _ ≤ (200 : Nat); omega), (by show _ ≤ (1200 : Nat); omega)⟩ (fun W1 z1 => ?_)
  obtain ⟨o, ba, pa, la, ra, z0, z1⟩ := z1
  subst z0
  subst z1
  refine xr_ws (ws' := bw h a t ++ (cw yI yZ a K_start D_start ++ (cw yI yZ t K_start D_start ++ (zw yI yL o ba pa la ra K_start D_start 0)))) (by first | (simp only [List.append_assoc, List.append_nil, List.nil_append]; done) | rfl | (simp only [List.append_assoc, List.append_nil, List.nil_append]; rfl)) ?_
  refine xr_ws (ws' := bw h a t ++ (cw yI yZ a K_start D_start ++ (cw yI yZ t K_start D_start ++ (zw yI yL o ba pa la ra K_start D_start (zA D_start))))) (by rw [zA_start]) ?_
  refine xr_astore_n F [(2, .ref (o 0)), (0, .ref h), (1, .ref b)] dL_build_7 rfl (by decide) rfl ?_
  refine xr_iconst F dL_build_8 (v := 0) (by decide) ?_
  refine xr_istore_n F [(3, .int 0), (2, .ref (o 0)), (0, .ref h), (1, .ref b)] dL_build_9 rfl (by decide) rfl ?_
  have lp : ∀ (i : Nat) (e9 : Nat) (K : CK) (V : CD) (Kt : CK) (Vt : CD) (ba : Nat) (ra : Nat → Nat), i + e9 = 22 → okK K → okV K V (2 * e9) → dHour V ≤ e9 → AW p l e rm_L_build s m args below meth c 5 D A (16 + 6 * e9) (63 + 40 * e9) Q (bw h a t ++ (cw yI yZ a K V ++ (cw yI yZ t Kt Vt ++ (zw yI yL o ba pa la ra K V (zA V))))) [(3, .int (nI e9)), (0, .ref h), (1, .ref b), (2, .ref (o 0))] 10 [] := by
    intro i
    induction i with
    | zero =>
      intro e9 K V Kt Vt ba ra hb hK hV hh
      refine xr_iload_n F dL_build_10 rfl 0 rfl ?_
      refine xr_bipush F dL_build_11 (v := 22) (by decide) ?_
      refine xr_icmp_ge F 99 dL_build_13 (by decide) (fun c13 => ?_) (fun c13 => ?_)
      · skip
        refine xr_aload_n F dL_build_99 rfl 3 rfl ?_
        refine xr_widen (k := 200) (n := 1200) (by omega) (by omega) ?_
        exact ret _ _ _ _ dL_build_100 ⟨K, V, Kt, Vt, o, ba, pa, la, ra, hK, okV_le hV (by omega), by omega, rfl, rfl⟩
      · exact (xk_ge (a := 22) (b := e9) (by omega) (by omega) c13).elim
    | succ i ih =>
      intro e9 K V Kt Vt ba ra hb hK hV hh
      refine xr_iload_n F dL_build_10 rfl 0 rfl ?_
      refine xr_bipush F dL_build_11 (v := 22) (by decide) ?_
      refine xr_icmp_ge F 99 dL_build_13 (by decide) (fun c13 => ?_) (fun c13 => ?_)
      · exact (xk_nlt (a := e9) (b := 22) (by omega) (by omega) (by omega) c13).elim
      · skip
        refine xr_aload_n F dL_build_16 rfl 2 rfl ?_
        refine xr_iload_n F dL_build_17 rfl 0 rfl ?_
        refine xr_bipush F dL_build_18 (v := 16) (by decide) ?_
        refine xr_irem F (nI (e9 % 16)) dL_build_20 (by decide) (pk_rem (a := e9) (d := 16) (by omega) (by decide) (by decide)) ?_
        refine xr_ws (ws' := (bw h a t ++ (cw yI yZ a K V ++ (cw yI yZ t Kt Vt ++ (zw yI yL o ba pa la ra K V (zA V))))) ++ (([] : va_W) ++ ([] : va_W))) (by first | (simp only [List.append_assoc, List.append_nil, List.nil_append]; done) | rfl | (simp only [List.append_assoc, List.append_nil, List.nil_append]; rfl)) ?_
        refine xr_mcXSSi F G hX hbl hbA (rest := []) (As := [.ref b, .int (nI (e9 % 16))]) (k_L_cell l D yI yZ yL hst b L xs (e9 % 16) (by omega) (by omega)) (va_cwS 2 F.hts gL_build_L_cell rfl rfl rfl (by decide +kernel) ⟨Nat.le_of_ble_eq_true rfl, Nat.le_of_ble_eq_true rfl⟩) (bw h a t ++ (cw yI yZ a K V ++ (cw yI yZ t Kt Vt ++ (zw yI yL o ba pa la ra K V (zA V))))) ([] : va_W) rfl rfl rfl (Nat.le_of_ble_eq_true rfl) dL_build_21 ⟨(by show _ ≤ (200 : Nat); omega), (by show _ ≤ (1200 : Nat); omega)⟩ (fun E1 W1 z1 => z1.elim) (fun x2 W1 z1 => ?_)
        subst z1
        refine xr_ws (ws' := bw h a t ++ (cw yI yZ a K V ++ (cw yI yZ t Kt Vt ++ (zw yI yL o ba pa la ra K V (zA V))))) (by first | (simp only [List.append_assoc, List.append_nil, List.nil_append]; done) | rfl | (simp only [List.append_assoc, List.append_nil, List.nil_append]; rfl)) ?_
        refine xr_iload_n F dL_build_24 rfl 0 rfl ?_
        refine xr_bipush F dL_build_25 (v := 16) (by decide) ?_
        refine xr_idiv F ((nI e9) / 16) dL_build_27 (by decide) rfl ?_
        refine xr_iconst F dL_build_28 (v := 4) (by decide) ?_
        refine xr_imul F (((nI e9) / 16) * 4) dL_build_29 rfl ?_
        refine xr_ishr F (x2 >>> ((((nI e9) / 16) * 4) &&& 31)) dL_build_30 rfl ?_
        refine xr_bipush F dL_build_31 (v := 59) (by decide) ?_
        refine xr_iload_n F dL_build_33 rfl 0 rfl ?_
        refine xr_imul F (59 * (nI e9)) dL_build_34 rfl ?_
        refine xr_iadd F ((x2 >>> ((((nI e9) / 16) * 4) &&& 31)) + (59 * (nI e9))) dL_build_35 rfl ?_
        refine xr_istore F [(4, .int ((x2 >>> ((((nI e9) / 16) * 4) &&& 31)) + (59 * (nI e9)))), (3, .int (nI e9)), (0, .ref h), (1, .ref b), (2, .ref (o 0))] dL_build_36 (by decide) rfl ?_
        refine xr_iload_n F dL_build_38 rfl 1 rfl ?_
        refine xr_iconst F dL_build_39 (v := 3) (by decide) ?_
        refine xr_icmp_ge F 58 dL_build_40 (by decide) (fun c40 => ?_) (fun c40 => ?_)
        · skip
          refine xr_aload_n F dL_build_58 rfl 2 rfl ?_
          refine xr_aload_n F dL_build_59 rfl 4 rfl ?_
          refine xr_iload F dL_build_60 0 rfl ?_
          refine xr_ws (ws' := ([] : va_W) ++ ((bw h a t ++ (cw yI yZ a K V ++ (cw yI yZ t Kt Vt ++ (zw yI yL o ba pa la ra K V (zA V))))) ++ (([] : va_W)))) (by first | (simp only [List.append_assoc, List.append_nil, List.nil_append]; done) | rfl | (simp only [List.append_assoc, List.append_nil, List.nil_append]; rfl)) ?_
          refine xr_mcXHz F G (rest := []) (As := [.ref h, .ref (o 0), .int ((x2 >>> ((((nI e9) / 16) * 4) &&& 31)) + (59 * (nI e9)))]) (k_L_act l D yI yZ yL hst h a t o ba pa la ra K V Kt Vt ((x2 >>> ((((nI e9) / 16) * 4) &&& 31)) + (59 * (nI e9))) (2 * e9) (by omega) hK hV) (vx_cwSW 3 F.hts gL_build_L_act rfl rfl rfl (by decide +kernel) ⟨Nat.le_of_ble_eq_true rfl, Nat.le_of_ble_eq_true rfl⟩) (([] : va_W)) (([] : va_W)) rfl rfl rfl (Nat.le_of_ble_eq_true rfl) dL_build_62 ⟨(by show _ ≤ (200 : Nat); omega), (by show _ ≤ (1200 : Nat); omega)⟩ (fun E1 W1 z1 => z1.elim) (fun r1 W1 z1 => ?_)
          obtain ⟨z0, K1, V1, Kt1, Vt1, ba1, ra1, oK1, oV1, oh1, z1⟩ := z1
          subst z0
          subst z1
          refine xr_ws (ws' := bw h a t ++ (cw yI yZ a K1 V1 ++ (cw yI yZ t Kt1 Vt1 ++ (zw yI yL o ba1 pa la ra1 K1 V1 (zA V1))))) (by first | (simp only [List.append_assoc, List.append_nil, List.nil_append]; done) | rfl | (simp only [List.append_assoc, List.append_nil, List.nil_append]; rfl)) ?_
          refine xr_if_eq F 91 dL_build_65 (by decide) (fun c65 => ?_) (fun c65 => ?_)
          · exact absurd c65 (by decide)
          · skip
            refine xr_iload_n F dL_build_68 rfl 1 rfl ?_
            refine xr_iconst F dL_build_69 (v := 4) (by decide) ?_
            refine xr_icmp_le F 93 dL_build_70 (by decide) (fun c70 => ?_) (fun c70 => ?_)
            · skip
              refine xr_iinc F (nI (e9 + 1)) [(3, .int (nI (e9 + 1))), (4, .int ((x2 >>> ((((nI e9) / 16) * 4) &&& 31)) + (59 * (nI e9)))), (0, .ref h), (1, .ref b), (2, .ref (o 0))] dL_build_93 1 rfl (nI_add e9 1) (by decide) rfl ?_
              refine xr_goto F 10 dL_build_96 (by decide) ?_
              refine xr_lv (lv' := [(3, .int (nI (e9 + 1))), (0, .ref h), (1, .ref b), (2, .ref (o 0))]) [0, 2, 3, 4] rfl ?_
              refine xr_widen (k := 16 + 6 * (e9 + 1)) (n := 63 + 40 * (e9 + 1)) (by omega) (by omega) ?_
              exact ih (e9 + 1) K1 V1 Kt1 Vt1 ba1 ra1 (by omega) oK1 (okV_le oV1 (by omega)) (by omega)
            · skip
              refine xr_iload_n F dL_build_73 rfl 1 rfl ?_
              refine xr_iconst F dL_build_74 (v := 3) (by decide) ?_
              refine xr_irem F (nI (e9 % 3)) dL_build_75 (by decide) (pk_rem (a := e9) (d := 3) (by omega) (by decide) (by decide)) ?_
              refine xr_if_ne F 93 dL_build_76 (by decide) (fun c76 => ?_) (fun c76 => ?_)
              · skip
                refine xr_iinc F (nI (e9 + 1)) [(3, .int (nI (e9 + 1))), (4, .int ((x2 >>> ((((nI e9) / 16) * 4) &&& 31)) + (59 * (nI e9)))), (0, .ref h), (1, .ref b), (2, .ref (o 0))] dL_build_93 1 rfl (nI_add e9 1) (by decide) rfl ?_
                refine xr_goto F 10 dL_build_96 (by decide) ?_
                refine xr_lv (lv' := [(3, .int (nI (e9 + 1))), (0, .ref h), (1, .ref b), (2, .ref (o 0))]) [0, 2, 3, 4] rfl ?_
                refine xr_widen (k := 16 + 6 * (e9 + 1)) (n := 63 + 40 * (e9 + 1)) (by omega) (by omega) ?_
                exact ih (e9 + 1) K1 V1 Kt1 Vt1 ba1 ra1 (by omega) oK1 (okV_le oV1 (by omega)) (by omega)
              · skip
                refine xr_aload_n F dL_build_79 rfl 2 rfl ?_
                refine xr_iconst F dL_build_80 (v := 1) (by decide) ?_
                refine xr_ws (ws' := ([] : va_W) ++ ((bw h a t ++ (cw yI yZ a K1 V1)) ++ (cw yI yZ t Kt1 Vt1 ++ (zw yI yL o ba1 pa la ra1 K1 V1 (zA V1))))) (by first | (simp only [List.append_assoc, List.append_nil, List.nil_append]; done) | rfl | (simp only [List.append_assoc, List.append_nil, List.nil_append]; rfl)) ?_
                have q81 : q_hours 1 60 = 0 := (by decide)
                refine xr_mcXVi F G (rest := []) (As := [.int 1]) (k_X1_pass l D yI yZ yL hst h a t K1 V1 1 oK1.1 oK1.2.1 (by omega)) (cwV 1 F.hts gL_build_X1_pass rfl rfl rfl (by decide +kernel) ⟨Nat.le_of_ble_eq_true rfl, Nat.le_of_ble_eq_true rfl⟩) (q0 := 0) rfl rfl (([] : va_W)) (cw yI yZ t Kt1 Vt1 ++ (zw yI yL o ba1 pa la ra1 K1 V1 (zA V1))) rfl rfl rfl (Nat.le_of_ble_eq_true rfl) dL_build_81 ⟨(by show _ ≤ (200 : Nat); omega), (by show _ ≤ (1200 : Nat); omega)⟩ (fun E1 W1 z1 => ?_) (fun r1 W1 z1 => ?_)
                · skip
                  exact absurd (q81.symm.trans z1.1.1) (by decide)
                · skip
                  obtain ⟨-, z0, z1⟩ := z1
                  subst z0
                  subst z1
                  refine xr_ws (ws' := bw h a t ++ (cw yI yZ a K1 ((C_pass K1 V1 1).1) ++ (cw yI yZ t Kt1 Vt1 ++ (zw yI yL o ba1 pa la ra1 K1 V1 (zA V1))))) (by first | (simp only [List.append_assoc, List.append_nil, List.nil_append]; done) | rfl | (simp only [List.append_assoc, List.append_nil, List.nil_append]; rfl)) ?_
                  refine xr_top (y := (c_hour K1 V1).2) (by rw [pass_1]) ?_
                  refine xr_ws (ws' := bw h a t ++ (cw yI yZ a K1 ((c_hour K1 V1).1) ++ (cw yI yZ t Kt1 Vt1 ++ (zw yI yL o ba1 pa la ra1 K1 V1 (zA V1))))) (by rw [pass_1]) ?_
                  refine xr_aload_n F dL_build_84 rfl 4 rfl ?_
                  refine xr_ws (ws' := bw h a t ++ (cw yI yZ a K1 ((c_hour K1 V1).1) ++ (cw yI yZ t Kt1 Vt1)) ++ ((zw yI yL o ba1 pa la ra1 K1 V1 (zA V1)) ++ (([] : va_W)))) (by first | (simp only [List.append_assoc, List.append_nil, List.nil_append]; done) | rfl | (simp only [List.append_assoc, List.append_nil, List.nil_append]; rfl)) ?_
                  refine xr_mcVi F (rest := [.int ((c_hour K1 V1).2)]) (As := []) (k_X2_pass l D yI yZ yL o ba1 pa la ra1 K1 V1 (zA V1)  oK1.1 oK1.2.1 (by omega)) (cwV 0 F.hts gL_build_X2_pass rfl rfl rfl (by decide +kernel) ⟨Nat.le_of_ble_eq_true rfl, Nat.le_of_ble_eq_true rfl⟩) (q0 := 0) rfl rfl (bw h a t ++ (cw yI yZ a K1 ((c_hour K1 V1).1) ++ (cw yI yZ t Kt1 Vt1))) (([] : va_W)) rfl rfl rfl (Nat.le_of_ble_eq_true rfl) dL_build_85 ⟨(by show _ ≤ (200 : Nat); omega), (by show _ ≤ (1200 : Nat); omega)⟩ (fun r1 W1 z1 => ?_)
                  rw [zhour_eq oK1 oV1] at z1
                  obtain ⟨z0, z1⟩ := z1
                  subst z0
                  subst z1
                  refine xr_ws (ws' := bw h a t ++ (cw yI yZ a K1 ((c_hour K1 V1).1) ++ (cw yI yZ t Kt1 Vt1 ++ (zw yI yL o ba1 pa la ra1 K1 ((c_hour K1 V1).1) (zA (c_hour K1 V1).1))))) (by first | (simp only [List.append_assoc, List.append_nil, List.nil_append]; done) | rfl | (simp only [List.append_assoc, List.append_nil, List.nil_append]; rfl)) ?_
                  refine xr_icmp_eq F 93 dL_build_88 (by decide) (fun c88 => ?_) (fun c88 => ?_)
                  · skip
                    refine xr_iinc F (nI (e9 + 1)) [(3, .int (nI (e9 + 1))), (4, .int ((x2 >>> ((((nI e9) / 16) * 4) &&& 31)) + (59 * (nI e9)))), (0, .ref h), (1, .ref b), (2, .ref (o 0))] dL_build_93 1 rfl (nI_add e9 1) (by decide) rfl ?_
                    refine xr_goto F 10 dL_build_96 (by decide) ?_
                    refine xr_lv (lv' := [(3, .int (nI (e9 + 1))), (0, .ref h), (1, .ref b), (2, .ref (o 0))]) [0, 2, 3, 4] rfl ?_
                    refine xr_widen (k := 16 + 6 * (e9 + 1)) (n := 63 + 40 * (e9 + 1)) (by omega) (by omega) ?_
                    exact ih (e9 + 1) K1 ((c_hour K1 V1).1) Kt1 Vt1 ba1 ra1 (by omega) oK1 (okV_le (hour_ok oK1 oV1) (by omega)) (by rw [dHour_hour]; omega)
                  · exact absurd rfl c88
        · skip
          refine xr_iload F dL_build_43 0 rfl ?_
          refine xr_ldc F (v := (100000)) dL_build_45 (List.mem_of_getElem? (i := 4) rfl) ?_
          refine xr_ws (ws' := (bw h a t ++ (cw yI yZ a K V ++ (cw yI yZ t Kt Vt ++ (zw yI yL o ba pa la ra K V (zA V))))) ++ (([] : va_W) ++ ([] : va_W))) (by first | (simp only [List.append_assoc, List.append_nil, List.nil_append]; done) | rfl | (simp only [List.append_assoc, List.append_nil, List.nil_append]; rfl)) ?_
          refine xr_mcSi F (rest := []) (As := [.int ((x2 >>> ((((nI e9) / 16) * 4) &&& 31)) + (59 * (nI e9))), .int (100000)]) (k_L_below l D yI yZ yL ((x2 >>> ((((nI e9) / 16) * 4) &&& 31)) + (59 * (nI e9))) 100000 (by decide) (by decide)) (va_cwS 2 F.hts gL_build_L_below rfl rfl rfl (by decide +kernel) ⟨Nat.le_of_ble_eq_true rfl, Nat.le_of_ble_eq_true rfl⟩) (bw h a t ++ (cw yI yZ a K V ++ (cw yI yZ t Kt Vt ++ (zw yI yL o ba pa la ra K V (zA V))))) ([] : va_W) rfl rfl rfl (Nat.le_of_ble_eq_true rfl) dL_build_47 ⟨(by show _ ≤ (200 : Nat); omega), (by show _ ≤ (1200 : Nat); omega)⟩ (fun r1 W1 z1 => ?_)
          obtain ⟨⟨j3, hj3, z0⟩, z1⟩ := z1
          subst z0
          subst z1
          refine xr_ws (ws' := bw h a t ++ (cw yI yZ a K V ++ (cw yI yZ t Kt Vt ++ (zw yI yL o ba pa la ra K V (zA V))))) (by first | (simp only [List.append_assoc, List.append_nil, List.nil_append]; done) | rfl | (simp only [List.append_assoc, List.append_nil, List.nil_append]; rfl)) ?_
          refine xr_bipush F dL_build_50 (v := 14) (by decide) ?_
          refine xr_imul F ((nI j3) * 14) dL_build_52 rfl ?_
          refine xr_bipush F dL_build_53 (v := 9) (by decide) ?_
          refine xr_iadd F (((nI j3) * 14) + 9) dL_build_55 rfl ?_
          refine xr_istore F [(4, .int (((nI j3) * 14) + 9)), (3, .int (nI e9)), (0, .ref h), (1, .ref b), (2, .ref (o 0))] dL_build_56 (by decide) rfl ?_
          refine xr_aload_n F dL_build_58 rfl 2 rfl ?_
          refine xr_aload_n F dL_build_59 rfl 4 rfl ?_
          refine xr_iload F dL_build_60 0 rfl ?_
          refine xr_ws (ws' := ([] : va_W) ++ ((bw h a t ++ (cw yI yZ a K V ++ (cw yI yZ t Kt Vt ++ (zw yI yL o ba pa la ra K V (zA V))))) ++ (([] : va_W)))) (by first | (simp only [List.append_assoc, List.append_nil, List.nil_append]; done) | rfl | (simp only [List.append_assoc, List.append_nil, List.nil_append]; rfl)) ?_
          refine xr_mcXHz F G (rest := []) (As := [.ref h, .ref (o 0), .int (((nI j3) * 14) + 9)]) (k_L_act l D yI yZ yL hst h a t o ba pa la ra K V Kt Vt (((nI j3) * 14) + 9) (2 * e9) (by omega) hK hV) (vx_cwSW 3 F.hts gL_build_L_act rfl rfl rfl (by decide +kernel) ⟨Nat.le_of_ble_eq_true rfl, Nat.le_of_ble_eq_true rfl⟩) (([] : va_W)) (([] : va_W)) rfl rfl rfl (Nat.le_of_ble_eq_true rfl) dL_build_62 ⟨(by show _ ≤ (200 : Nat); omega), (by show _ ≤ (1200 : Nat); omega)⟩ (fun E1 W1 z1 => z1.elim) (fun r1 W1 z1 => ?_)
          obtain ⟨z0, K1, V1, Kt1, Vt1, ba1, ra1, oK1, oV1, oh1, z1⟩ := z1
          subst z0
          subst z1
          refine xr_ws (ws' := bw h a t ++ (cw yI yZ a K1 V1 ++ (cw yI yZ t Kt1 Vt1 ++ (zw yI yL o ba1 pa la ra1 K1 V1 (zA V1))))) (by first | (simp only [List.append_assoc, List.append_nil, List.nil_append]; done) | rfl | (simp only [List.append_assoc, List.append_nil, List.nil_append]; rfl)) ?_
          refine xr_if_eq F 91 dL_build_65 (by decide) (fun c65 => ?_) (fun c65 => ?_)
          · exact absurd c65 (by decide)
          · skip
            refine xr_iload_n F dL_build_68 rfl 1 rfl ?_
            refine xr_iconst F dL_build_69 (v := 4) (by decide) ?_
            refine xr_icmp_le F 93 dL_build_70 (by decide) (fun c70 => ?_) (fun c70 => ?_)
            · skip
              refine xr_iinc F (nI (e9 + 1)) [(3, .int (nI (e9 + 1))), (4, .int (((nI j3) * 14) + 9)), (0, .ref h), (1, .ref b), (2, .ref (o 0))] dL_build_93 1 rfl (nI_add e9 1) (by decide) rfl ?_
              refine xr_goto F 10 dL_build_96 (by decide) ?_
              refine xr_lv (lv' := [(3, .int (nI (e9 + 1))), (0, .ref h), (1, .ref b), (2, .ref (o 0))]) [0, 2, 3, 4] rfl ?_
              refine xr_widen (k := 16 + 6 * (e9 + 1)) (n := 63 + 40 * (e9 + 1)) (by omega) (by omega) ?_
              exact ih (e9 + 1) K1 V1 Kt1 Vt1 ba1 ra1 (by omega) oK1 (okV_le oV1 (by omega)) (by omega)
            · skip
              refine xr_iload_n F dL_build_73 rfl 1 rfl ?_
              refine xr_iconst F dL_build_74 (v := 3) (by decide) ?_
              refine xr_irem F (nI (e9 % 3)) dL_build_75 (by decide) (pk_rem (a := e9) (d := 3) (by omega) (by decide) (by decide)) ?_
              refine xr_if_ne F 93 dL_build_76 (by decide) (fun c76 => ?_) (fun c76 => ?_)
              · skip
                refine xr_iinc F (nI (e9 + 1)) [(3, .int (nI (e9 + 1))), (4, .int (((nI j3) * 14) + 9)), (0, .ref h), (1, .ref b), (2, .ref (o 0))] dL_build_93 1 rfl (nI_add e9 1) (by decide) rfl ?_
                refine xr_goto F 10 dL_build_96 (by decide) ?_
                refine xr_lv (lv' := [(3, .int (nI (e9 + 1))), (0, .ref h), (1, .ref b), (2, .ref (o 0))]) [0, 2, 3, 4] rfl ?_
                refine xr_widen (k := 16 + 6 * (e9 + 1)) (n := 63 + 40 * (e9 + 1)) (by omega) (by omega) ?_
                exact ih (e9 + 1) K1 V1 Kt1 Vt1 ba1 ra1 (by omega) oK1 (okV_le oV1 (by omega)) (by omega)
              · skip
                refine xr_aload_n F dL_build_79 rfl 2 rfl ?_
                refine xr_iconst F dL_build_80 (v := 1) (by decide) ?_
                refine xr_ws (ws' := ([] : va_W) ++ ((bw h a t ++ (cw yI yZ a K1 V1)) ++ (cw yI yZ t Kt1 Vt1 ++ (zw yI yL o ba1 pa la ra1 K1 V1 (zA V1))))) (by first | (simp only [List.append_assoc, List.append_nil, List.nil_append]; done) | rfl | (simp only [List.append_assoc, List.append_nil, List.nil_append]; rfl)) ?_
                have q81 : q_hours 1 60 = 0 := (by decide)
                refine xr_mcXVi F G (rest := []) (As := [.int 1]) (k_X1_pass l D yI yZ yL hst h a t K1 V1 1 oK1.1 oK1.2.1 (by omega)) (cwV 1 F.hts gL_build_X1_pass rfl rfl rfl (by decide +kernel) ⟨Nat.le_of_ble_eq_true rfl, Nat.le_of_ble_eq_true rfl⟩) (q0 := 0) rfl rfl (([] : va_W)) (cw yI yZ t Kt1 Vt1 ++ (zw yI yL o ba1 pa la ra1 K1 V1 (zA V1))) rfl rfl rfl (Nat.le_of_ble_eq_true rfl) dL_build_81 ⟨(by show _ ≤ (200 : Nat); omega), (by show _ ≤ (1200 : Nat); omega)⟩ (fun E1 W1 z1 => ?_) (fun r1 W1 z1 => ?_)
                · skip
                  exact absurd (q81.symm.trans z1.1.1) (by decide)
                · skip
                  obtain ⟨-, z0, z1⟩ := z1
                  subst z0
                  subst z1
                  refine xr_ws (ws' := bw h a t ++ (cw yI yZ a K1 ((C_pass K1 V1 1).1) ++ (cw yI yZ t Kt1 Vt1 ++ (zw yI yL o ba1 pa la ra1 K1 V1 (zA V1))))) (by first | (simp only [List.append_assoc, List.append_nil, List.nil_append]; done) | rfl | (simp only [List.append_assoc, List.append_nil, List.nil_append]; rfl)) ?_
                  refine xr_top (y := (c_hour K1 V1).2) (by rw [pass_1]) ?_
                  refine xr_ws (ws' := bw h a t ++ (cw yI yZ a K1 ((c_hour K1 V1).1) ++ (cw yI yZ t Kt1 Vt1 ++ (zw yI yL o ba1 pa la ra1 K1 V1 (zA V1))))) (by rw [pass_1]) ?_
                  refine xr_aload_n F dL_build_84 rfl 4 rfl ?_
                  refine xr_ws (ws' := bw h a t ++ (cw yI yZ a K1 ((c_hour K1 V1).1) ++ (cw yI yZ t Kt1 Vt1)) ++ ((zw yI yL o ba1 pa la ra1 K1 V1 (zA V1)) ++ (([] : va_W)))) (by first | (simp only [List.append_assoc, List.append_nil, List.nil_append]; done) | rfl | (simp only [List.append_assoc, List.append_nil, List.nil_append]; rfl)) ?_
                  refine xr_mcVi F (rest := [.int ((c_hour K1 V1).2)]) (As := []) (k_X2_pass l D yI yZ yL o ba1 pa la ra1 K1 V1 (zA V1)  oK1.1 oK1.2.1 (by omega)) (cwV 0 F.hts gL_build_X2_pass rfl rfl rfl (by decide +kernel) ⟨Nat.le_of_ble_eq_true rfl, Nat.le_of_ble_eq_true rfl⟩) (q0 := 0) rfl rfl (bw h a t ++ (cw yI yZ a K1 ((c_hour K1 V1).1) ++ (cw yI yZ t Kt1 Vt1))) (([] : va_W)) rfl rfl rfl (Nat.le_of_ble_eq_true rfl) dL_build_85 ⟨(by show _ ≤ (200 : Nat); omega), (by show _ ≤ (1200 : Nat); omega)⟩ (fun r1 W1 z1 => ?_)
                  rw [zhour_eq oK1 oV1] at z1
                  obtain ⟨z0, z1⟩ := z1
                  subst z0
                  subst z1
                  refine xr_ws (ws' := bw h a t ++ (cw yI yZ a K1 ((c_hour K1 V1).1) ++ (cw yI yZ t Kt1 Vt1 ++ (zw yI yL o ba1 pa la ra1 K1 ((c_hour K1 V1).1) (zA (c_hour K1 V1).1))))) (by first | (simp only [List.append_assoc, List.append_nil, List.nil_append]; done) | rfl | (simp only [List.append_assoc, List.append_nil, List.nil_append]; rfl)) ?_
                  refine xr_icmp_eq F 93 dL_build_88 (by decide) (fun c88 => ?_) (fun c88 => ?_)
                  · skip
                    refine xr_iinc F (nI (e9 + 1)) [(3, .int (nI (e9 + 1))), (4, .int (((nI j3) * 14) + 9)), (0, .ref h), (1, .ref b), (2, .ref (o 0))] dL_build_93 1 rfl (nI_add e9 1) (by decide) rfl ?_
                    refine xr_goto F 10 dL_build_96 (by decide) ?_
                    refine xr_lv (lv' := [(3, .int (nI (e9 + 1))), (0, .ref h), (1, .ref b), (2, .ref (o 0))]) [0, 2, 3, 4] rfl ?_
                    refine xr_widen (k := 16 + 6 * (e9 + 1)) (n := 63 + 40 * (e9 + 1)) (by omega) (by omega) ?_
                    exact ih (e9 + 1) K1 ((c_hour K1 V1).1) Kt1 Vt1 ba1 ra1 (by omega) oK1 (okV_le (hour_ok oK1 oV1) (by omega)) (by rw [dHour_hour]; omega)
                  · exact absurd rfl c88
  refine xr_lv (lv' := [(3, .int 0), (0, .ref h), (1, .ref b), (2, .ref (o 0))]) [0, 2, 3, 1] rfl ?_
  refine xr_widen (k := 16 + 6 * 0) (n := 63 + 40 * 0) (by omega) (by omega) ?_
  exact lp 22 0 K_start D_start K_start D_start ba ra (by omega) (ok_start 0).1 (ok_start 0).2 (Nat.zero_le _)
