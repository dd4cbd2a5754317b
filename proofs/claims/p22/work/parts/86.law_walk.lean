set_option maxHeartbeats 4000000 in
set_option maxRecDepth 100000 in
/-- the law's walk -/
theorem law_walk {p : Program} {e : Env} {s : State} {m : MethodId} {below : List Frame} {meth : Method} {c : Code} {l : Launch} (hst : l.stackTraces = false) {b L : Nat} {xs : Nat → Int32} (hL : L ≤ 260) {D : va_G} {yI yZ yL : ClassId} {A : Nat → Prop} {Q : State → Prop} (F : XF p s m #[Value.ref b] c cL_law 32 wsL_law R_law D (tysG yI yZ yL) A) (G : XG l s meth A) (hX : va_X b L xs s s.heap) (hbl : b < s.heap.size) (hbA : ¬ A b) (hend : ∀ (ws : va_W) (lv : List (Nat × Value)), AW p l e room_1 s m #[Value.ref b] below meth c 32 D A 610331 7270474 Q ws lv 1358 [.int 1]) : AW p l e room_1 s m #[Value.ref b] below meth c 32 D A 0 0 Q [] [(0, .ref b)] 0 [] := by
  have hin1 : ∀ w ∈ u_ws RX1 TX1 2, w ∈ wsL_law := inlX1
  refine xr_new F (ci := 1) hin1 tyX1 tyX1_ok (List.mem_of_getElem? (i := 0) rfl) (List.mem_of_getElem? (i := 1) rfl) (List.mem_of_getElem? (i := 2) rfl) rfl [.null, .null] (by decide +kernel) (Nat.le_of_ble_eq_true rfl) (Nat.le_of_ble_eq_true rfl) dL_law_0 (fun q1 => ?_)
  refine xr_ws (ws' := ([(q1, .inr (1, [.null, .null]))] : va_W)) rfl ?_
  refine xr_dup F dL_law_3 rfl ?_
  refine xr_callIv F (wr := ([] : va_W)) (rest := [.ref q1]) (As := []) (k_X1_init l D yI yZ yL q1) (cwI 0 F.hts gL_law_X1_init rfl rfl rfl (F.hts _ (List.mem_of_getElem? (i := 2) rfl)) (F.hts _ (List.mem_of_getElem? (i := 6) rfl)) (F.hts _ (List.mem_of_getElem? (i := 7) rfl)) rfl (by decide +kernel) ⟨Nat.le_of_ble_eq_true rfl, Nat.le_of_ble_eq_true rfl⟩) [0] [] rfl rfl (by decide) (by decide) (by decide) rfl rfl (Nat.le_of_ble_eq_true rfl) dL_law_4 ⟨(by show _ ≤ (610331 : Nat); omega), (by show _ ≤ (7270474 : Nat); omega)⟩ (fun W1 z1 => ?_)
  obtain ⟨a, t, z1⟩ := z1
  subst z1
  refine xr_ws (ws' := bw q1 a t ++ (cw yI yZ a K_start D_start ++ (cw yI yZ t K_start D_start))) rfl ?_
  refine xr_astore_n F [(1, .ref q1), (0, .ref b)] dL_law_7 rfl (by decide) rfl ?_
  refine xr_aload_n F dL_law_8 rfl 0 rfl ?_
  refine xr_aload_n F dL_law_9 rfl 1 rfl ?_
  refine xr_ws (ws' := ([] : va_W) ++ ((bw q1 a t ++ (cw yI yZ a K_start D_start ++ (cw yI yZ t K_start D_start))) ++ (([] : va_W)))) (by first | (simp only [List.append_assoc, List.append_nil, List.nil_append]; done) | rfl | (simp only [List.append_assoc, List.append_nil, List.nil_append]; rfl)) ?_
  refine xr_mcXSSr F G hX hbl hbA (rest := []) (As := [.ref q1, .ref b]) (k_L_build l D yI yZ yL hst q1 a t b L xs (by omega)) (va_cwS 2 F.hts gL_law_L_build rfl rfl rfl (by decide +kernel) ⟨Nat.le_of_ble_eq_true rfl, Nat.le_of_ble_eq_true rfl⟩) ([] : va_W) ([] : va_W) rfl rfl rfl (Nat.le_of_ble_eq_true rfl) dL_law_10 ⟨(by show _ ≤ (610331 : Nat); omega), (by show _ ≤ (7270474 : Nat); omega)⟩ (fun E1 W1 z1 => z1.elim) (fun r1 W1 z1 => ?_)
  obtain ⟨K, V, Kt, Vt, o, ba, pa, la, ra, hK, hV, hh, z0, z1⟩ := z1
  subst z0
  subst z1
  refine xr_ws (ws' := bw q1 a t ++ (cw yI yZ a K V ++ (cw yI yZ t Kt Vt ++ (zw yI yL o ba pa la ra K V (zA V))))) (by first | (simp only [List.append_assoc, List.append_nil, List.nil_append]; done) | rfl | (simp only [List.append_assoc, List.append_nil, List.nil_append]; rfl)) ?_
  refine xr_astore_n F [(2, .ref (o 0)), (1, .ref q1), (0, .ref b)] dL_law_13 rfl (by decide) rfl ?_
  refine xr_aload_n F dL_law_14 rfl 0 rfl ?_
  refine xr_ifnonnull F 20 dL_law_15 (by decide) ?_
  refine xr_iconst F dL_law_20 (v := 0) (by decide) ?_
  refine xr_istore_n F [(3, .int 0), (2, .ref (o 0)), (1, .ref q1), (0, .ref b)] dL_law_21 rfl (by decide) rfl ?_
  have lp : ∀ (i : Nat) (tm : Nat) (K : CK) (V : CD) (Kt : CK) (Vt : CD) (ba : Nat) (ra : Nat → Nat), i + tm = 45 → okK K → okV K V (44 + 2 * tm) → dHour V ≤ 22 + tm → AW p l e room_1 s m #[Value.ref b] below meth c 32 D A (1000 + 1400 * tm) (10000 + 14000 * tm) Q (bw q1 a t ++ (cw yI yZ a K V ++ (cw yI yZ t Kt Vt ++ (zw yI yL o ba pa la ra K V (zA V))))) [(3, .int (nI tm)), (0, .ref b), (1, .ref q1), (2, .ref (o 0))] 22 [] := by
    intro i
    induction i with
    | zero =>
      intro tm K V Kt Vt ba ra hb hK hV hh
      refine xr_iload_n F dL_law_22 rfl 0 rfl ?_
      refine xr_bipush F dL_law_23 (v := 45) (by decide) ?_
      refine xr_icmp_ge F 1353 dL_law_25 (by decide) (fun c25 => ?_) (fun c25 => ?_)
      · skip
        refine xr_aload_n F dL_law_1353 rfl 3 rfl ?_
        refine xr_aload_n F dL_law_1354 rfl 2 rfl ?_
        refine xr_ws (ws' := ([] : va_W) ++ ((bw q1 a t ++ (cw yI yZ a K V ++ (cw yI yZ t Kt Vt ++ (zw yI yL o ba pa la ra K V (zA V))))) ++ (([] : va_W)))) (by first | (simp only [List.append_assoc, List.append_nil, List.nil_append]; done) | rfl | (simp only [List.append_assoc, List.append_nil, List.nil_append]; rfl)) ?_
        refine xr_mcXVz F G (rest := []) (As := [.ref q1]) (k_X2_isSame l D yI yZ yL hst q1 a t o ba pa la ra K V Kt Vt (44 + 2 * tm) hK hV) (cwV 1 F.hts gL_law_X2_isSame rfl rfl rfl (by decide +kernel) ⟨Nat.le_of_ble_eq_true rfl, Nat.le_of_ble_eq_true rfl⟩) (q0 := 25) rfl rfl ([] : va_W) ([] : va_W) rfl rfl rfl (Nat.le_of_ble_eq_true rfl) dL_law_1355 ⟨(by show _ ≤ (610331 : Nat); omega), (by show _ ≤ (7270474 : Nat); omega)⟩ (fun E1 W1 z1 => z1.elim) (fun r1 W1 z1 => ?_)
        obtain ⟨z0, z1⟩ := z1
        subst z0
        subst z1
        refine xr_ws (ws' := bw q1 a t ++ (cw yI yZ a K V ++ (cw yI yZ t Kt Vt ++ (zw yI yL o ba pa la ra K V (zA V))))) (by first | (simp only [List.append_assoc, List.append_nil, List.nil_append]; done) | rfl | (simp only [List.append_assoc, List.append_nil, List.nil_append]; rfl)) ?_
        refine xr_widen (k := 610331) (n := 7270474) (by omega) (by omega) ?_
        exact hend _ _
      · exact (xk_ge (a := 45) (b := tm) (by omega) (by omega) c25).elim
    | succ i ih =>
      intro tm K V Kt Vt ba ra hb hK hV hh
      refine xr_iload_n F dL_law_22 rfl 0 rfl ?_
      refine xr_bipush F dL_law_23 (v := 45) (by decide) ?_
      refine xr_icmp_ge F 1353 dL_law_25 (by decide) (fun c25 => ?_) (fun c25 => ?_)
      · exact (xk_nlt (a := tm) (b := 45) (by omega) (by omega) (by omega) c25).elim
      · skip
        refine law_hour hst hL F G hX hbl hbA (by omega) (by omega) hK hV (22 + tm) hh (by omega) _ _ (by omega) (by omega) (fun K2 V2 Kt2 Vt2 ba2 ra2 oK2 oV2 oh2 => ?_)
        refine xr_widen (k := 1000 + 1400 * (tm + 1)) (n := 10000 + 14000 * (tm + 1)) (by omega) (by omega) ?_
        exact ih (tm + 1) K2 V2 Kt2 Vt2 ba2 ra2 (by omega) oK2 (okV_le oV2 (by omega)) (by omega)
  refine xr_lv (lv' := [(3, .int 0), (0, .ref b), (1, .ref q1), (2, .ref (o 0))]) [0, 3, 2, 1] rfl ?_
  refine xr_widen (k := 1000 + 1400 * 0) (n := 10000 + 14000 * 0) (by omega) (by omega) ?_
  exact lp 45 0 K V Kt Vt ba ra (by omega) hK hV hh
