theorem law_cmp0 {q a b : Int32} {v : Int64} (hf : q = 0 → v = a.toInt64) (c : q = 0) (e : b = a) : lg_cmp v b.toInt64 = 0 := by
  rw [hf c, e]; exact lg_same _
set_option maxHeartbeats 40000000 in
set_option maxRecDepth 100000 in
/-- the law's walk -/
theorem law_walk {p : Program} {e : Env} {s : State} {m : MethodId} {below : List Frame} {meth : Method} {c : Code} (l : Launch) (hst : l.stackTraces = false) {b L : Nat} {xs : Nat → Int32} (hL : L ≤ 2048) {D : va_G} {yI yZ yL : ClassId} {A : Nat → Prop} {Q : State → Prop} (F : XF p s m #[Value.ref b] c cL_law 9 wsL_law R_law D (tysG yI yZ yL) A) (G : XG l s meth A) (hX : va_X b L xs s s.heap) (hbl : b < s.heap.size) (hbA : ¬ A b) (hend : ∀ (ws : va_W) (lv : List (Nat × Value)), AW p l e room_1 s m #[Value.ref b] below meth c 9 D A 1080 8624 Q ws lv 1211 [.int 1]) : AW p l e room_1 s m #[Value.ref b] below meth c 9 D A 0 0 Q [] [(0, .ref b)] 0 [] := by
  have hin1 : ∀ w ∈ u_ws RX1 TX1 2, w ∈ wsL_law := inlX1
  have hin3 : ∀ w ∈ u_ws RX3 TX3 9, w ∈ wsL_law := inlX3
  refine xr_new F (ci := 1) hin1 tyX1 tyX1_ok (List.mem_of_getElem? (i := 0) rfl) (List.mem_of_getElem? (i := 1) rfl) (List.mem_of_getElem? (i := 2) rfl) rfl [.null, .null] (by decide +kernel) (Nat.le_of_ble_eq_true rfl) (Nat.le_of_ble_eq_true rfl) dL_law_0 (fun h => ?_)
  refine xr_ws (ws' := ([(h, .inr (1, [.null, .null]))] : va_W)) rfl ?_
  refine xr_dup F dL_law_3 rfl ?_
  refine xr_callIv F (wr := ([] : va_W)) (rest := [.ref h]) (As := []) (k_X1_init l D yI yZ yL h) (cwI 0 F.hts gL_law_X1_init rfl rfl rfl (F.hts _ (List.mem_of_getElem? (i := 2) rfl)) (F.hts _ (List.mem_of_getElem? (i := 7) rfl)) (F.hts _ (List.mem_of_getElem? (i := 8) rfl)) rfl (by decide +kernel) ⟨Nat.le_of_ble_eq_true rfl, Nat.le_of_ble_eq_true rfl⟩) [0] [] rfl rfl (by decide) (by decide) (by decide) rfl rfl (Nat.le_of_ble_eq_true rfl) dL_law_4 ⟨(by show _ ≤ 1080; omega), (by show _ ≤ 8624; omega)⟩ (fun W1 z1 => ?_)
  obtain ⟨a, t, z1⟩ := z1
  subst z1
  refine xr_ws (ws' := bw h a t ++ (cw yI yZ a K_start D_start ++ (cw yI yZ t K_start D_start))) rfl ?_
  refine xr_astore_n F [(1, .ref h), (0, .ref b)] dL_law_7 rfl (by decide) rfl ?_
  refine xr_new F (ci := 3) hin3 tyX3 tyX3_ok (List.mem_of_getElem? (i := 3) rfl) (List.mem_of_getElem? (i := 4) rfl) (List.mem_of_getElem? (i := 5) rfl) rfl [.int 0, .int 0, .null, .null, .int 0, .int 0, .int 0, .null, .null] (by decide +kernel) (Nat.le_of_ble_eq_true rfl) (Nat.le_of_ble_eq_true rfl) dL_law_8 (fun q12 => ?_)
  refine xr_ws (ws' := bw h a t ++ (cw yI yZ a K_start D_start ++ (cw yI yZ t K_start D_start ++ (([(q12, .inr (3, [.int 0, .int 0, .null, .null, .int 0, .int 0, .int 0, .null, .null]))] : va_W))))) rfl ?_
  refine xr_dup F dL_law_11 rfl ?_
  refine xr_callIv F (wr := bw h a t ++ (cw yI yZ a K_start D_start ++ (cw yI yZ t K_start D_start))) (rest := [.ref q12]) (As := []) (k_X3_init l D yI yZ yL q12) (cwI 0 F.hts gL_law_X3_init rfl rfl rfl (F.hts _ (List.mem_of_getElem? (i := 5) rfl)) (F.hts _ (List.mem_of_getElem? (i := 38) rfl)) (F.hts _ (List.mem_of_getElem? (i := 39) rfl)) rfl (by decide +kernel) ⟨Nat.le_of_ble_eq_true rfl, Nat.le_of_ble_eq_true rfl⟩) [25] [0, 1, 2, 3, 4, 5, 6, 7, 8, 9, 10, 11, 12, 13, 14, 15, 16, 17, 18, 19, 20, 21, 22, 23, 24] rfl rfl (by decide) (by decide) (by decide) rfl rfl (Nat.le_of_ble_eq_true rfl) dL_law_12 ⟨(by show _ ≤ 1080; omega), (by show _ ≤ 8624; omega)⟩ (fun W1 z1 => ?_)
  obtain ⟨g, u, v, z0, z1⟩ := z1
  subst z0
  subst z1
  refine xr_ws (ws' := bw h a t ++ (cw yI yZ a K_start D_start ++ (cw yI yZ t K_start D_start ++ (mw yI g u v 0 K_start ++ (sw yI u 50 0 (fun _ => -1) D_start ++ (sw yI v 50 0 (fun _ => -1) D_start)))))) rfl ?_
  refine xr_astore_n F [(2, .ref (g 0)), (1, .ref h), (0, .ref b)] dL_law_15 rfl (by decide) rfl ?_
  refine xr_iconst F dL_law_16 (v := 1) (by decide) ?_
  refine xr_newa F 2 (ty := .long) rfl (fun _ h => h) (List.mem_of_getElem? (i := 6) rfl) rfl 1 rfl (by decide) (1, .inr (.inl (fun _ => 0))) (fun _ => rfl) (Nat.le_of_ble_eq_true rfl) (Nat.le_of_ble_eq_true rfl) (Nat.le_of_ble_eq_true rfl) dL_law_17 (fun ou => ?_)
  refine xr_ws (ws' := bw h a t ++ (cw yI yZ a K_start D_start ++ (cw yI yZ t K_start D_start ++ (mw yI g u v 0 K_start ++ (sw yI u 50 0 (fun _ => -1) D_start ++ (sw yI v 50 0 (fun _ => -1) D_start ++ (([(ou, .inl (yL, 1, .inr (.inl (fun _ => 0))))] : va_W)))))))) rfl ?_
  refine xr_astore_n F [(3, .ref ou), (2, .ref (g 0)), (1, .ref h), (0, .ref b)] dL_law_19 rfl (by decide) rfl ?_
  refine xr_iconst F dL_law_20 (v := 0) (by decide) ?_
  refine xr_istore F [(4, .int 0), (3, .ref ou), (2, .ref (g 0)), (1, .ref h), (0, .ref b)] dL_law_21 (by decide) rfl ?_
  have lp : ∀ (i : Nat) (j : Nat) (K : CK) (V : CD) (aw : Int32) (wh : Nat → Int32) (th : Int32) (Kt : CK) (Vt : CD) (z1 : Int32) (z2 : Int32) (z3 : Nat → Int32) (z4 : CD) (f : Nat → Int64), i + j = L / 4 → okK K → okV V aw wh → dHour V ≤ 60 * j → AW p l e room_1 s m #[Value.ref b] below meth c 9 D A (51 + j) (402 + 6 * j) Q (bw h a t ++ (cw yI yZ a K V ++ (cw yI yZ t Kt Vt ++ (mw yI g u v th K ++ (sw yI u (kMark K) aw wh V ++ (sw yI v z1 z2 z3 z4 ++ (([(ou, .inl (yL, 1, .inr (.inl f)))] : va_W)))))))) [(4, .int (nI (4 * j))), (0, .ref b), (1, .ref h), (2, .ref (g 0)), (3, .ref ou)] 23 [] := by
    intro i
    induction i with
    | zero =>
      intro j K V aw wh th Kt Vt z1 z2 z3 z4 f hn hK hV hh
      refine xr_iload F dL_law_23 0 rfl ?_
      refine xr_aload_n F dL_law_25 rfl 1 rfl ?_
      refine xr_slen F hX hbl hbA dL_law_26 ?_
      refine xr_iconst F dL_law_27 (v := 4) (by decide) ?_
      refine xr_isub F ((nI L) - 4) dL_law_28 rfl ?_
      refine xr_icmp_gt F 1210 dL_law_29 (by decide) (fun c29 => ?_) (fun c29 => ?_)
      · skip
        refine xr_iconst F dL_law_1210 (v := 1) (by decide) ?_
        refine xr_widen (k := 1080) (n := 8624) (by omega) (by omega) ?_
        exact hend _ _
      · exact absurd ((law_gt hL (by omega)).mpr (by omega)) c29
    | succ i ih =>
      intro j K V aw wh th Kt Vt z1 z2 z3 z4 f hn hK hV hh
      refine xr_iload F dL_law_23 0 rfl ?_
      refine xr_aload_n F dL_law_25 rfl 1 rfl ?_
      refine xr_slen F hX hbl hbA dL_law_26 ?_
      refine xr_iconst F dL_law_27 (v := 4) (by decide) ?_
      refine xr_isub F ((nI L) - 4) dL_law_28 rfl ?_
      refine xr_icmp_gt F 1210 dL_law_29 (by decide) (fun c29 => ?_) (fun c29 => ?_)
      · exact absurd ((law_gt hL (by omega)).mp c29) (by omega)
      · skip
        have k1 : kNb K ≤ 10 := hK.1
        have k2 : kMill K ≤ 6 := hK.2.1
        have k3 : kDry K = 0 ∨ kDry K = 1 := hK.2.2.1
        refine xr_aload_n F dL_law_32 rfl 1 rfl ?_
        refine xr_iload F dL_law_33 0 rfl ?_
        refine xr_sld F hX hbl hbA (4 * j) rfl (by omega) (by omega) dL_law_35 ?_
        refine xr_bipush F dL_law_36 (v := 31) (by decide) ?_
        refine xr_iand F ((xs (4 * j)) &&& 31) dL_law_38 rfl ?_
        obtain ⟨kk9, hk9, ek9⟩ := and31 (xs (4 * j))
        refine xr_top (y := nI kk9) ek9 ?_
        rcases (by omega : kk9 = 0 ∨ kk9 = 1 ∨ kk9 = 2 ∨ kk9 = 3 ∨ kk9 = 4 ∨ kk9 = 5 ∨ kk9 = 6 ∨ kk9 = 7 ∨ kk9 = 8 ∨ kk9 = 9 ∨ kk9 = 10 ∨ kk9 = 11 ∨ kk9 = 12 ∨ kk9 = 13 ∨ kk9 = 14 ∨ kk9 = 15 ∨ kk9 = 16 ∨ kk9 = 17 ∨ kk9 = 18 ∨ kk9 = 19 ∨ kk9 = 20 ∨ kk9 = 21 ∨ kk9 = 22 ∨ kk9 = 23 ∨ kk9 = 24 ∨ kk9 = 25 ∨ kk9 = 26 ∨ kk9 = 27 ∨ kk9 = 28 ∨ kk9 = 29 ∨ kk9 = 30 ∨ kk9 = 31) with rfl | rfl | rfl | rfl | rfl | rfl | rfl | rfl | rfl | rfl | rfl | rfl | rfl | rfl | rfl | rfl | rfl | rfl | rfl | rfl | rfl | rfl | rfl | rfl | rfl | rfl | rfl | rfl | rfl | rfl | rfl | rfl
        · skip
          refine xr_tableIn F (off := 89) 128 dL_law_39 (by decide) (by decide) (by decide) (by decide) ?_
          refine xr_aload_n F dL_law_128 rfl 2 rfl ?_
          refine xr_aload_n F dL_law_129 rfl 1 rfl ?_
          refine xr_iload F dL_law_130 0 rfl ?_
          refine xr_iconst F dL_law_132 (v := 1) (by decide) ?_
          refine xr_iadd F (nI (4 * j + 1)) dL_law_133 (nI_add (4 * j) 1) ?_
          refine xr_sld F hX hbl hbA (4 * j + 1) rfl (by omega) (by omega) dL_law_134 ?_
          refine xr_aload_n F dL_law_135 rfl 1 rfl ?_
          refine xr_iload F dL_law_136 0 rfl ?_
          refine xr_iconst F dL_law_138 (v := 2) (by decide) ?_
          refine xr_iadd F (nI (4 * j + 2)) dL_law_139 (nI_add (4 * j) 2) ?_
          refine xr_sld F hX hbl hbA (4 * j + 2) rfl (by omega) (by omega) dL_law_140 ?_
          refine xr_aload_n F dL_law_141 rfl 4 rfl ?_
          refine xr_callXHi F G (wr := cw yI yZ t Kt Vt ++ (mw yI g u v th K ++ (sw yI u (kMark K) aw wh V ++ (sw yI v z1 z2 z3 z4)))) (rest := []) (As := [.ref h, .int (xs (4 * j + 1)), .int (xs (4 * j + 2)), .ref ou]) (k_L_setSpring l D yI yZ yL hst h a t K V ou f (xs (4 * j + 1)) (xs (4 * j + 2)) ) (vx_cwSW 4 F.hts gL_law_L_setSpring rfl rfl rfl (by decide +kernel) ⟨Nat.le_of_ble_eq_true rfl, Nat.le_of_ble_eq_true rfl⟩) [0, 1, 2, 3, 4, 5, 6, 7, 8, 9, 10, 11, 12, 50] [13, 14, 15, 16, 17, 18, 19, 20, 21, 22, 23, 24, 25, 26, 27, 28, 29, 30, 31, 32, 33, 34, 35, 36, 37, 38, 39, 40, 41, 42, 43, 44, 45, 46, 47, 48, 49] rfl rfl (by decide) (by decide) (by decide) rfl rfl (Nat.le_of_ble_eq_true rfl) dL_law_142 ⟨(by show _ ≤ 1080; omega), (by show _ ≤ 8624; omega)⟩ (fun E1 W1 z1 => z1.elim) (fun r1 W1 z1 => ?_)
          obtain ⟨z0, f9, hf9, z1⟩ := z1
          subst z0
          subst z1
          refine xr_sub (ws' := bw h a t ++ (cw yI yZ a (K_spring K (xs (4 * j + 1)) (xs (4 * j + 2))) V ++ (cw yI yZ t Kt Vt ++ (mw yI g u v th K ++ (sw yI u (kMark K) aw wh V ++ (sw yI v z1 z2 z3 z4 ++ (([(ou, .inl (yL, 1, .inr (.inl f9)))] : va_W)))))))) [37, 38, 39, 40, 41, 42, 43, 44, 45, 46, 47, 48, 49, 0, 1, 2, 3, 4, 5, 6, 7, 8, 9, 10, 11, 12, 13, 14, 15, 16, 17, 18, 19, 20, 21, 22, 23, 24, 25, 26, 27, 28, 29, 30, 31, 32, 33, 34, 35, 36, 50] (by decide) rfl ?_
          refine xr_istore F [(5, .int (q_setSpring (xs (4 * j + 1)) (xs (4 * j + 2)))), (4, .int (nI (4 * j))), (0, .ref b), (1, .ref h), (2, .ref (g 0)), (3, .ref ou)] dL_law_145 (by decide) rfl ?_
          refine xr_aload_n F dL_law_147 rfl 4 rfl ?_
          refine xr_aload_n F dL_law_148 rfl 2 rfl ?_
          refine xr_iload F dL_law_149 1 rfl ?_
          refine xr_iconst F dL_law_151 (v := 1) (by decide) ?_
          refine xr_iadd F (nI (4 * j + 1)) dL_law_152 (nI_add (4 * j) 1) ?_
          refine xr_sld F hX hbl hbA (4 * j + 1) rfl (by omega) (by omega) dL_law_153 ?_
          refine xr_aload_n F dL_law_154 rfl 2 rfl ?_
          refine xr_iload F dL_law_155 1 rfl ?_
          refine xr_iconst F dL_law_157 (v := 2) (by decide) ?_
          refine xr_iadd F (nI (4 * j + 2)) dL_law_158 (nI_add (4 * j) 2) ?_
          refine xr_sld F hX hbl hbA (4 * j + 2) rfl (by omega) (by omega) dL_law_159 ?_
          refine xr_callVi F (wr := bw h a t ++ (cw yI yZ a (K_spring K (xs (4 * j + 1)) (xs (4 * j + 2))) V ++ (cw yI yZ t Kt Vt ++ (sw yI u (kMark K) aw wh V ++ (sw yI v z1 z2 z3 z4 ++ (([(ou, .inl (yL, 1, .inr (.inl f9)))] : va_W))))))) (rest := []) (As := [.int (xs (4 * j + 1)), .int (xs (4 * j + 2))]) (k_X3_setSpring l D yI yZ yL g u v th K (xs (4 * j + 1)) (xs (4 * j + 2)) ) (cwV 2 F.hts gL_law_X3_setSpring rfl rfl rfl (by decide +kernel) ⟨Nat.le_of_ble_eq_true rfl, Nat.le_of_ble_eq_true rfl⟩) (q0 := 0) rfl rfl [25, 26, 27] [0, 1, 2, 3, 4, 5, 6, 7, 8, 9, 10, 11, 12, 13, 14, 15, 16, 17, 18, 19, 20, 21, 22, 23, 24, 28, 29, 30, 31, 32, 33, 34, 35, 36, 37, 38, 39, 40, 41, 42, 43, 44, 45, 46, 47, 48, 49, 50] rfl rfl (by decide) (by decide) (by decide) rfl rfl (Nat.le_of_ble_eq_true rfl) dL_law_160 ⟨(by show _ ≤ 1080; omega), (by show _ ≤ 8624; omega)⟩ (fun r1 W1 z1 => ?_)
          obtain ⟨z0, z1⟩ := z1
          subst z0
          obtain ⟨h13, eh13⟩ : ∃ x9 : Int32, x9 = q_setSpring (xs (4 * j + 1)) (xs (4 * j + 2)) := ⟨_, rfl⟩
          rw [← eh13] at z1
          obtain ⟨K14, eK14⟩ : ∃ x9 : CK, x9 = K_spring K (xs (4 * j + 1)) (xs (4 * j + 2)) := ⟨_, rfl⟩
          rw [← eK14] at z1
          subst z1
          refine xr_sub (ws' := bw h a t ++ (cw yI yZ a (K_spring K (xs (4 * j + 1)) (xs (4 * j + 2))) V ++ (cw yI yZ t Kt Vt ++ (mw yI g u v h13 K14 ++ (sw yI u (kMark K) aw wh V ++ (sw yI v z1 z2 z3 z4 ++ (([(ou, .inl (yL, 1, .inr (.inl f9)))] : va_W)))))))) [0, 1, 2, 3, 4, 5, 6, 7, 8, 9, 10, 11, 12, 13, 14, 15, 16, 17, 18, 19, 20, 21, 22, 23, 24, 48, 49, 50, 25, 26, 27, 28, 29, 30, 31, 32, 33, 34, 35, 36, 37, 38, 39, 40, 41, 42, 43, 44, 45, 46, 47] (by decide) rfl ?_
          refine xr_istore F [(6, .int (r_or0 (q_setSpring (xs (4 * j + 1)) (xs (4 * j + 2))) (kSpr K (ix (xs (4 * j + 1)))))), (5, .int (q_setSpring (xs (4 * j + 1)) (xs (4 * j + 2)))), (4, .int (nI (4 * j))), (0, .ref b), (1, .ref h), (2, .ref (g 0)), (3, .ref ou)] dL_law_163 (by decide) rfl ?_
          refine xr_aload_n F dL_law_165 rfl 5 rfl ?_
          refine xr_callVi F (wr := bw h a t ++ (cw yI yZ a (K_spring K (xs (4 * j + 1)) (xs (4 * j + 2))) V ++ (cw yI yZ t Kt Vt ++ (sw yI u (kMark K) aw wh V ++ (sw yI v z1 z2 z3 z4 ++ (([(ou, .inl (yL, 1, .inr (.inl f9)))] : va_W))))))) (rest := []) (As := []) (k_X3_thrown l D yI yZ yL g u v h13 K14 ) (cwV 0 F.hts gL_law_X3_thrown rfl rfl rfl (by decide +kernel) ⟨Nat.le_of_ble_eq_true rfl, Nat.le_of_ble_eq_true rfl⟩) (q0 := 0) rfl rfl [25, 26, 27] [0, 1, 2, 3, 4, 5, 6, 7, 8, 9, 10, 11, 12, 13, 14, 15, 16, 17, 18, 19, 20, 21, 22, 23, 24, 28, 29, 30, 31, 32, 33, 34, 35, 36, 37, 38, 39, 40, 41, 42, 43, 44, 45, 46, 47, 48, 49, 50] rfl rfl (by decide) (by decide) (by decide) rfl rfl (Nat.le_of_ble_eq_true rfl) dL_law_166 ⟨(by show _ ≤ 1080; omega), (by show _ ≤ 8624; omega)⟩ (fun r1 W1 z1 => ?_)
          obtain ⟨z0, z1⟩ := z1
          rw [z0]
          subst z1
          refine xr_sub (ws' := bw h a t ++ (cw yI yZ a (K_spring K (xs (4 * j + 1)) (xs (4 * j + 2))) V ++ (cw yI yZ t Kt Vt ++ (mw yI g u v h13 K14 ++ (sw yI u (kMark K) aw wh V ++ (sw yI v z1 z2 z3 z4 ++ (([(ou, .inl (yL, 1, .inr (.inl f9)))] : va_W)))))))) [0, 1, 2, 3, 4, 5, 6, 7, 8, 9, 10, 11, 12, 13, 14, 15, 16, 17, 18, 19, 20, 21, 22, 23, 24, 48, 49, 50, 25, 26, 27, 28, 29, 30, 31, 32, 33, 34, 35, 36, 37, 38, 39, 40, 41, 42, 43, 44, 45, 46, 47] (by decide) rfl ?_
          refine xr_iload F dL_law_169 1 rfl ?_
          refine xr_icmp_eq F 176 dL_law_171 (by decide) (fun c171 => ?_) (fun c171 => ?_)
          · skip
            refine xr_iload F dL_law_176 1 rfl ?_
            refine xr_if_ne F 193 dL_law_178 (by decide) (fun c178 => ?_) (fun c178 => ?_)
            · skip
              refine xr_goto F 1204 dL_law_193 (by decide) ?_
              refine xr_iinc F (nI (4 * (j + 1))) [(4, .int (nI (4 * (j + 1)))), (6, .int (r_or0 (q_setSpring (xs (4 * j + 1)) (xs (4 * j + 2))) (kSpr K (ix (xs (4 * j + 1)))))), (5, .int (q_setSpring (xs (4 * j + 1)) (xs (4 * j + 2)))), (0, .ref b), (1, .ref h), (2, .ref (g 0)), (3, .ref ou)] dL_law_1204 2 rfl (nI_add (4 * j) 4) (by decide) rfl ?_
              refine xr_goto F 23 dL_law_1207 (by decide) ?_
              refine xr_lv (lv' := [(4, .int (nI (4 * (j + 1)))), (0, .ref b), (1, .ref h), (2, .ref (g 0)), (3, .ref ou)]) [0, 3, 4, 5, 6] rfl ?_
              refine xr_ws (ws' := bw h a t ++ (cw yI yZ a (K_spring K (xs (4 * j + 1)) (xs (4 * j + 2))) V ++ (cw yI yZ t Kt Vt ++ (mw yI g u v h13 (K_spring K (xs (4 * j + 1)) (xs (4 * j + 2))) ++ (sw yI u (kMark (K_spring K (xs (4 * j + 1)) (xs (4 * j + 2)))) aw wh V ++ (sw yI v z1 z2 z3 z4 ++ (([(ou, .inl (yL, 1, .inr (.inl f9)))] : va_W)))))))) (by rw [eK14, kMark_spring]) ?_
              refine xr_widen (k := 51 + (j + 1)) (n := 402 + 6 * (j + 1)) (by omega) (by omega) ?_
              exact ih (j + 1) (K_spring K (xs (4 * j + 1)) (xs (4 * j + 2))) V aw wh h13 Kt Vt z1 z2 z3 z4 f9 (by omega) (ok_spring _ _ hK) hV (by omega)
            · skip
              refine xr_aload_n F dL_law_181 rfl 6 rfl ?_
              refine xr_iconst F dL_law_182 (v := 0) (by decide) ?_
              refine xr_lald F 50 2 rfl rfl (0) rfl (by decide) (by decide) dL_law_183 ?_
              refine xr_iload F dL_law_184 0 rfl ?_
              refine xr_i2l F dL_law_186 (v := (r_or0 (q_setSpring (xs (4 * j + 1)) (xs (4 * j + 2))) (kSpr K (ix (xs (4 * j + 1))))).toInt64) rfl ?_
              refine xr_lcmp F dL_law_187 ?_
              refine xr_if_eq F 193 dL_law_188 (by decide) (fun c188 => ?_) (fun c188 => ?_)
              · skip
                refine xr_goto F 1204 dL_law_193 (by decide) ?_
                refine xr_iinc F (nI (4 * (j + 1))) [(4, .int (nI (4 * (j + 1)))), (6, .int (r_or0 (q_setSpring (xs (4 * j + 1)) (xs (4 * j + 2))) (kSpr K (ix (xs (4 * j + 1)))))), (5, .int (q_setSpring (xs (4 * j + 1)) (xs (4 * j + 2)))), (0, .ref b), (1, .ref h), (2, .ref (g 0)), (3, .ref ou)] dL_law_1204 2 rfl (nI_add (4 * j) 4) (by decide) rfl ?_
                refine xr_goto F 23 dL_law_1207 (by decide) ?_
                refine xr_lv (lv' := [(4, .int (nI (4 * (j + 1)))), (0, .ref b), (1, .ref h), (2, .ref (g 0)), (3, .ref ou)]) [0, 3, 4, 5, 6] rfl ?_
                refine xr_ws (ws' := bw h a t ++ (cw yI yZ a (K_spring K (xs (4 * j + 1)) (xs (4 * j + 2))) V ++ (cw yI yZ t Kt Vt ++ (mw yI g u v h13 (K_spring K (xs (4 * j + 1)) (xs (4 * j + 2))) ++ (sw yI u (kMark (K_spring K (xs (4 * j + 1)) (xs (4 * j + 2)))) aw wh V ++ (sw yI v z1 z2 z3 z4 ++ (([(ou, .inl (yL, 1, .inr (.inl f9)))] : va_W)))))))) (by rw [eK14, kMark_spring]) ?_
                refine xr_widen (k := 51 + (j + 1)) (n := 402 + 6 * (j + 1)) (by omega) (by omega) ?_
                exact ih (j + 1) (K_spring K (xs (4 * j + 1)) (xs (4 * j + 2))) V aw wh h13 Kt Vt z1 z2 z3 z4 f9 (by omega) (ok_spring _ _ hK) hV (by omega)
              · exact absurd (law_cmp hf9 c178 rfl) c188
          · exact absurd eh13 c171
        · skip
          refine xr_tableIn F (off := 157) 196 dL_law_39 (by decide) (by decide) (by decide) (by decide) ?_
          refine xr_aload_n F dL_law_196 rfl 2 rfl ?_
          refine xr_aload_n F dL_law_197 rfl 1 rfl ?_
          refine xr_iload F dL_law_198 0 rfl ?_
          refine xr_iconst F dL_law_200 (v := 1) (by decide) ?_
          refine xr_iadd F (nI (4 * j + 1)) dL_law_201 (nI_add (4 * j) 1) ?_
          refine xr_sld F hX hbl hbA (4 * j + 1) rfl (by omega) (by omega) dL_law_202 ?_
          refine xr_aload_n F dL_law_203 rfl 1 rfl ?_
          refine xr_iload F dL_law_204 0 rfl ?_
          refine xr_iconst F dL_law_206 (v := 2) (by decide) ?_
          refine xr_iadd F (nI (4 * j + 2)) dL_law_207 (nI_add (4 * j) 2) ?_
          refine xr_sld F hX hbl hbA (4 * j + 2) rfl (by omega) (by omega) dL_law_208 ?_
          refine xr_aload_n F dL_law_209 rfl 4 rfl ?_
          refine xr_callXHi F G (wr := cw yI yZ t Kt Vt ++ (mw yI g u v th K ++ (sw yI u (kMark K) aw wh V ++ (sw yI v z1 z2 z3 z4)))) (rest := []) (As := [.ref h, .int (xs (4 * j + 1)), .int (xs (4 * j + 2)), .ref ou]) (k_L_setMill l D yI yZ yL hst h a t K V ou f (xs (4 * j + 1)) (xs (4 * j + 2)) ) (vx_cwSW 4 F.hts gL_law_L_setMill rfl rfl rfl (by decide +kernel) ⟨Nat.le_of_ble_eq_true rfl, Nat.le_of_ble_eq_true rfl⟩) [0, 1, 2, 3, 4, 5, 6, 7, 8, 9, 10, 11, 12, 50] [13, 14, 15, 16, 17, 18, 19, 20, 21, 22, 23, 24, 25, 26, 27, 28, 29, 30, 31, 32, 33, 34, 35, 36, 37, 38, 39, 40, 41, 42, 43, 44, 45, 46, 47, 48, 49] rfl rfl (by decide) (by decide) (by decide) rfl rfl (Nat.le_of_ble_eq_true rfl) dL_law_210 ⟨(by show _ ≤ 1080; omega), (by show _ ≤ 8624; omega)⟩ (fun E1 W1 z1 => z1.elim) (fun r1 W1 z1 => ?_)
          obtain ⟨z0, f9, hf9, z1⟩ := z1
          subst z0
          subst z1
          refine xr_sub (ws' := bw h a t ++ (cw yI yZ a (K_mill K (xs (4 * j + 1)) (xs (4 * j + 2))) V ++ (cw yI yZ t Kt Vt ++ (mw yI g u v th K ++ (sw yI u (kMark K) aw wh V ++ (sw yI v z1 z2 z3 z4 ++ (([(ou, .inl (yL, 1, .inr (.inl f9)))] : va_W)))))))) [37, 38, 39, 40, 41, 42, 43, 44, 45, 46, 47, 48, 49, 0, 1, 2, 3, 4, 5, 6, 7, 8, 9, 10, 11, 12, 13, 14, 15, 16, 17, 18, 19, 20, 21, 22, 23, 24, 25, 26, 27, 28, 29, 30, 31, 32, 33, 34, 35, 36, 50] (by decide) rfl ?_
          refine xr_istore F [(5, .int (q_setMill (xs (4 * j + 1)) (xs (4 * j + 2)))), (4, .int (nI (4 * j))), (0, .ref b), (1, .ref h), (2, .ref (g 0)), (3, .ref ou)] dL_law_213 (by decide) rfl ?_
          refine xr_aload_n F dL_law_215 rfl 4 rfl ?_
          refine xr_aload_n F dL_law_216 rfl 2 rfl ?_
          refine xr_iload F dL_law_217 1 rfl ?_
          refine xr_iconst F dL_law_219 (v := 1) (by decide) ?_
          refine xr_iadd F (nI (4 * j + 1)) dL_law_220 (nI_add (4 * j) 1) ?_
          refine xr_sld F hX hbl hbA (4 * j + 1) rfl (by omega) (by omega) dL_law_221 ?_
          refine xr_aload_n F dL_law_222 rfl 2 rfl ?_
          refine xr_iload F dL_law_223 1 rfl ?_
          refine xr_iconst F dL_law_225 (v := 2) (by decide) ?_
          refine xr_iadd F (nI (4 * j + 2)) dL_law_226 (nI_add (4 * j) 2) ?_
          refine xr_sld F hX hbl hbA (4 * j + 2) rfl (by omega) (by omega) dL_law_227 ?_
          refine xr_callVi F (wr := bw h a t ++ (cw yI yZ a (K_mill K (xs (4 * j + 1)) (xs (4 * j + 2))) V ++ (cw yI yZ t Kt Vt ++ (sw yI v z1 z2 z3 z4 ++ (([(ou, .inl (yL, 1, .inr (.inl f9)))] : va_W)))))) (rest := []) (As := [.int (xs (4 * j + 1)), .int (xs (4 * j + 2))]) (k_X3_setMill l D yI yZ yL g u v th K aw wh V (xs (4 * j + 1)) (xs (4 * j + 2)) ) (cwV 2 F.hts gL_law_X3_setMill rfl rfl rfl (by decide +kernel) ⟨Nat.le_of_ble_eq_true rfl, Nat.le_of_ble_eq_true rfl⟩) (q0 := 0) rfl rfl [25, 26, 27, 28, 29, 30, 31, 32, 33, 34, 35, 36, 37, 38] [0, 1, 2, 3, 4, 5, 6, 7, 8, 9, 10, 11, 12, 13, 14, 15, 16, 17, 18, 19, 20, 21, 22, 23, 24, 39, 40, 41, 42, 43, 44, 45, 46, 47, 48, 49, 50] rfl rfl (by decide) (by decide) (by decide) rfl rfl (Nat.le_of_ble_eq_true rfl) dL_law_228 ⟨(by show _ ≤ 1080; omega), (by show _ ≤ 8624; omega)⟩ (fun r1 W1 z1 => ?_)
          obtain ⟨z0, z1⟩ := z1
          subst z0
          obtain ⟨h15, eh15⟩ : ∃ x9 : Int32, x9 = q_setMill (xs (4 * j + 1)) (xs (4 * j + 2)) := ⟨_, rfl⟩
          rw [← eh15] at z1
          obtain ⟨z16, ez16⟩ : ∃ x9 : Int32, x9 = kMark (K_mill K (xs (4 * j + 1)) (xs (4 * j + 2))) := ⟨_, rfl⟩
          rw [← ez16] at z1
          obtain ⟨K17, eK17⟩ : ∃ x9 : CK, x9 = K_mill K (xs (4 * j + 1)) (xs (4 * j + 2)) := ⟨_, rfl⟩
          rw [← eK17] at z1
          subst z1
          refine xr_sub (ws' := bw h a t ++ (cw yI yZ a (K_mill K (xs (4 * j + 1)) (xs (4 * j + 2))) V ++ (cw yI yZ t Kt Vt ++ (mw yI g u v h15 K17 ++ (sw yI u z16 aw wh V ++ (sw yI v z1 z2 z3 z4 ++ (([(ou, .inl (yL, 1, .inr (.inl f9)))] : va_W)))))))) [0, 1, 2, 3, 4, 5, 6, 7, 8, 9, 10, 11, 12, 13, 14, 15, 16, 17, 18, 19, 20, 21, 22, 23, 24, 37, 38, 39, 40, 41, 42, 43, 44, 45, 46, 47, 48, 49, 50, 25, 26, 27, 28, 29, 30, 31, 32, 33, 34, 35, 36] (by decide) rfl ?_
          refine xr_istore F [(6, .int (r_or0 (q_setMill (xs (4 * j + 1)) (xs (4 * j + 2))) (kMark K))), (5, .int (q_setMill (xs (4 * j + 1)) (xs (4 * j + 2)))), (4, .int (nI (4 * j))), (0, .ref b), (1, .ref h), (2, .ref (g 0)), (3, .ref ou)] dL_law_231 (by decide) rfl ?_
          refine xr_aload_n F dL_law_233 rfl 5 rfl ?_
          refine xr_callVi F (wr := bw h a t ++ (cw yI yZ a (K_mill K (xs (4 * j + 1)) (xs (4 * j + 2))) V ++ (cw yI yZ t Kt Vt ++ (sw yI u z16 aw wh V ++ (sw yI v z1 z2 z3 z4 ++ (([(ou, .inl (yL, 1, .inr (.inl f9)))] : va_W))))))) (rest := []) (As := []) (k_X3_thrown l D yI yZ yL g u v h15 K17 ) (cwV 0 F.hts gL_law_X3_thrown rfl rfl rfl (by decide +kernel) ⟨Nat.le_of_ble_eq_true rfl, Nat.le_of_ble_eq_true rfl⟩) (q0 := 0) rfl rfl [25, 26, 27] [0, 1, 2, 3, 4, 5, 6, 7, 8, 9, 10, 11, 12, 13, 14, 15, 16, 17, 18, 19, 20, 21, 22, 23, 24, 28, 29, 30, 31, 32, 33, 34, 35, 36, 37, 38, 39, 40, 41, 42, 43, 44, 45, 46, 47, 48, 49, 50] rfl rfl (by decide) (by decide) (by decide) rfl rfl (Nat.le_of_ble_eq_true rfl) dL_law_234 ⟨(by show _ ≤ 1080; omega), (by show _ ≤ 8624; omega)⟩ (fun r1 W1 z1 => ?_)
          obtain ⟨z0, z1⟩ := z1
          rw [z0]
          subst z1
          refine xr_sub (ws' := bw h a t ++ (cw yI yZ a (K_mill K (xs (4 * j + 1)) (xs (4 * j + 2))) V ++ (cw yI yZ t Kt Vt ++ (mw yI g u v h15 K17 ++ (sw yI u z16 aw wh V ++ (sw yI v z1 z2 z3 z4 ++ (([(ou, .inl (yL, 1, .inr (.inl f9)))] : va_W)))))))) [0, 1, 2, 3, 4, 5, 6, 7, 8, 9, 10, 11, 12, 13, 14, 15, 16, 17, 18, 19, 20, 21, 22, 23, 24, 48, 49, 50, 25, 26, 27, 28, 29, 30, 31, 32, 33, 34, 35, 36, 37, 38, 39, 40, 41, 42, 43, 44, 45, 46, 47] (by decide) rfl ?_
          refine xr_iload F dL_law_237 1 rfl ?_
          refine xr_icmp_eq F 244 dL_law_239 (by decide) (fun c239 => ?_) (fun c239 => ?_)
          · skip
            refine xr_iload F dL_law_244 1 rfl ?_
            refine xr_if_ne F 261 dL_law_246 (by decide) (fun c246 => ?_) (fun c246 => ?_)
            · skip
              refine xr_goto F 1204 dL_law_261 (by decide) ?_
              refine xr_iinc F (nI (4 * (j + 1))) [(4, .int (nI (4 * (j + 1)))), (6, .int (r_or0 (q_setMill (xs (4 * j + 1)) (xs (4 * j + 2))) (kMark K))), (5, .int (q_setMill (xs (4 * j + 1)) (xs (4 * j + 2)))), (0, .ref b), (1, .ref h), (2, .ref (g 0)), (3, .ref ou)] dL_law_1204 2 rfl (nI_add (4 * j) 4) (by decide) rfl ?_
              refine xr_goto F 23 dL_law_1207 (by decide) ?_
              refine xr_lv (lv' := [(4, .int (nI (4 * (j + 1)))), (0, .ref b), (1, .ref h), (2, .ref (g 0)), (3, .ref ou)]) [0, 3, 4, 5, 6] rfl ?_
              refine xr_ws (ws' := bw h a t ++ (cw yI yZ a (K_mill K (xs (4 * j + 1)) (xs (4 * j + 2))) V ++ (cw yI yZ t Kt Vt ++ (mw yI g u v h15 (K_mill K (xs (4 * j + 1)) (xs (4 * j + 2))) ++ (sw yI u (kMark (K_mill K (xs (4 * j + 1)) (xs (4 * j + 2)))) aw wh V ++ (sw yI v z1 z2 z3 z4 ++ (([(ou, .inl (yL, 1, .inr (.inl f9)))] : va_W)))))))) (by rw [eK17, ez16]) ?_
              refine xr_widen (k := 51 + (j + 1)) (n := 402 + 6 * (j + 1)) (by omega) (by omega) ?_
              exact ih (j + 1) (K_mill K (xs (4 * j + 1)) (xs (4 * j + 2))) V aw wh h15 Kt Vt z1 z2 z3 z4 f9 (by omega) (ok_mill _ _ hK) hV (by omega)
            · skip
              refine xr_aload_n F dL_law_249 rfl 6 rfl ?_
              refine xr_iconst F dL_law_250 (v := 0) (by decide) ?_
              refine xr_lald F 50 2 rfl rfl (0) rfl (by decide) (by decide) dL_law_251 ?_
              refine xr_iload F dL_law_252 0 rfl ?_
              refine xr_i2l F dL_law_254 (v := (r_or0 (q_setMill (xs (4 * j + 1)) (xs (4 * j + 2))) (kMark K)).toInt64) rfl ?_
              refine xr_lcmp F dL_law_255 ?_
              refine xr_if_eq F 261 dL_law_256 (by decide) (fun c256 => ?_) (fun c256 => ?_)
              · skip
                refine xr_goto F 1204 dL_law_261 (by decide) ?_
                refine xr_iinc F (nI (4 * (j + 1))) [(4, .int (nI (4 * (j + 1)))), (6, .int (r_or0 (q_setMill (xs (4 * j + 1)) (xs (4 * j + 2))) (kMark K))), (5, .int (q_setMill (xs (4 * j + 1)) (xs (4 * j + 2)))), (0, .ref b), (1, .ref h), (2, .ref (g 0)), (3, .ref ou)] dL_law_1204 2 rfl (nI_add (4 * j) 4) (by decide) rfl ?_
                refine xr_goto F 23 dL_law_1207 (by decide) ?_
                refine xr_lv (lv' := [(4, .int (nI (4 * (j + 1)))), (0, .ref b), (1, .ref h), (2, .ref (g 0)), (3, .ref ou)]) [0, 3, 4, 5, 6] rfl ?_
                refine xr_ws (ws' := bw h a t ++ (cw yI yZ a (K_mill K (xs (4 * j + 1)) (xs (4 * j + 2))) V ++ (cw yI yZ t Kt Vt ++ (mw yI g u v h15 (K_mill K (xs (4 * j + 1)) (xs (4 * j + 2))) ++ (sw yI u (kMark (K_mill K (xs (4 * j + 1)) (xs (4 * j + 2)))) aw wh V ++ (sw yI v z1 z2 z3 z4 ++ (([(ou, .inl (yL, 1, .inr (.inl f9)))] : va_W)))))))) (by rw [eK17, ez16]) ?_
                refine xr_widen (k := 51 + (j + 1)) (n := 402 + 6 * (j + 1)) (by omega) (by omega) ?_
                exact ih (j + 1) (K_mill K (xs (4 * j + 1)) (xs (4 * j + 2))) V aw wh h15 Kt Vt z1 z2 z3 z4 f9 (by omega) (ok_mill _ _ hK) hV (by omega)
              · exact absurd (law_cmp hf9 c246 rfl) c256
          · exact absurd eh15 c239
        · skip
          refine xr_tableIn F (off := 225) 264 dL_law_39 (by decide) (by decide) (by decide) (by decide) ?_
          refine xr_aload_n F dL_law_264 rfl 2 rfl ?_
          refine xr_aload_n F dL_law_265 rfl 1 rfl ?_
          refine xr_iload F dL_law_266 0 rfl ?_
          refine xr_iconst F dL_law_268 (v := 1) (by decide) ?_
          refine xr_iadd F (nI (4 * j + 1)) dL_law_269 (nI_add (4 * j) 1) ?_
          refine xr_sld F hX hbl hbA (4 * j + 1) rfl (by omega) (by omega) dL_law_270 ?_
          refine xr_if_eq F 278 dL_law_271 (by decide) (fun c271 => ?_) (fun c271 => ?_)
          · skip
            refine xr_iconst F dL_law_278 (v := 0) (by decide) ?_
            refine xr_callVz F (wr := cw yI yZ t Kt Vt ++ (mw yI g u v th K ++ (sw yI u (kMark K) aw wh V ++ (sw yI v z1 z2 z3 z4 ++ (([(ou, .inl (yL, 1, .inr (.inl f)))] : va_W)))))) (rest := []) (As := [.int 0]) (k_X1_setDrought l D yI yZ yL h a t K V 0 k3 (by decide)) (cwV 1 F.hts gL_law_X1_setDrought rfl rfl rfl (by decide +kernel) ⟨Nat.le_of_ble_eq_true rfl, Nat.le_of_ble_eq_true rfl⟩) (q0 := 0) rfl rfl [0, 1, 2, 3, 4, 5, 6, 7, 8, 9, 10, 11, 12] [13, 14, 15, 16, 17, 18, 19, 20, 21, 22, 23, 24, 25, 26, 27, 28, 29, 30, 31, 32, 33, 34, 35, 36, 37, 38, 39, 40, 41, 42, 43, 44, 45, 46, 47, 48, 49, 50] rfl rfl (by decide) (by decide) (by decide) rfl rfl (Nat.le_of_ble_eq_true rfl) dL_law_279 ⟨(by show _ ≤ 1080; omega), (by show _ ≤ 8624; omega)⟩ (fun r1 W1 z1 => ?_)
            obtain ⟨z0, z1⟩ := z1
            subst z0
            subst z1
            refine xr_sub (ws' := bw h a t ++ (cw yI yZ a (uDry K 0) V ++ (cw yI yZ t Kt Vt ++ (mw yI g u v th K ++ (sw yI u (kMark K) aw wh V ++ (sw yI v z1 z2 z3 z4 ++ (([(ou, .inl (yL, 1, .inr (.inl f)))] : va_W)))))))) [38, 39, 40, 41, 42, 43, 44, 45, 46, 47, 48, 49, 50, 0, 1, 2, 3, 4, 5, 6, 7, 8, 9, 10, 11, 12, 13, 14, 15, 16, 17, 18, 19, 20, 21, 22, 23, 24, 25, 26, 27, 28, 29, 30, 31, 32, 33, 34, 35, 36, 37] (by decide) rfl ?_
            refine xr_aload_n F dL_law_282 rfl 3 rfl ?_
            refine xr_aload_n F dL_law_283 rfl 1 rfl ?_
            refine xr_iload F dL_law_284 0 rfl ?_
            refine xr_iconst F dL_law_286 (v := 1) (by decide) ?_
            refine xr_iadd F (nI (4 * j + 1)) dL_law_287 (nI_add (4 * j) 1) ?_
            refine xr_sld F hX hbl hbA (4 * j + 1) rfl (by omega) (by omega) dL_law_288 ?_
            refine xr_if_eq F 296 dL_law_289 (by decide) (fun c289 => ?_) (fun c289 => ?_)
            · skip
              refine xr_iconst F dL_law_296 (v := 0) (by decide) ?_
              refine xr_callVz F (wr := bw h a t ++ (cw yI yZ a (uDry K 0) V ++ (cw yI yZ t Kt Vt ++ (sw yI u (kMark K) aw wh V ++ (sw yI v z1 z2 z3 z4 ++ (([(ou, .inl (yL, 1, .inr (.inl f)))] : va_W))))))) (rest := [.int (kDry K)]) (As := [.int 0]) (k_X3_setDrought l D yI yZ yL g u v th K 0 k3 (by decide)) (cwV 1 F.hts gL_law_X3_setDrought rfl rfl rfl (by decide +kernel) ⟨Nat.le_of_ble_eq_true rfl, Nat.le_of_ble_eq_true rfl⟩) (q0 := 0) rfl rfl [25, 26, 27] [0, 1, 2, 3, 4, 5, 6, 7, 8, 9, 10, 11, 12, 13, 14, 15, 16, 17, 18, 19, 20, 21, 22, 23, 24, 28, 29, 30, 31, 32, 33, 34, 35, 36, 37, 38, 39, 40, 41, 42, 43, 44, 45, 46, 47, 48, 49, 50] rfl rfl (by decide) (by decide) (by decide) rfl rfl (Nat.le_of_ble_eq_true rfl) dL_law_297 ⟨(by show _ ≤ 1080; omega), (by show _ ≤ 8624; omega)⟩ (fun r1 W1 z1 => ?_)
              obtain ⟨z0, z1⟩ := z1
              subst z0
              obtain ⟨K19, eK19⟩ : ∃ x9 : CK, x9 = uDry K 0 := ⟨_, rfl⟩
              rw [← eK19] at z1
              subst z1
              refine xr_sub (ws' := bw h a t ++ (cw yI yZ a (uDry K 0) V ++ (cw yI yZ t Kt Vt ++ (mw yI g u v 0 K19 ++ (sw yI u (kMark K) aw wh V ++ (sw yI v z1 z2 z3 z4 ++ (([(ou, .inl (yL, 1, .inr (.inl f)))] : va_W)))))))) [0, 1, 2, 3, 4, 5, 6, 7, 8, 9, 10, 11, 12, 13, 14, 15, 16, 17, 18, 19, 20, 21, 22, 23, 24, 48, 49, 50, 25, 26, 27, 28, 29, 30, 31, 32, 33, 34, 35, 36, 37, 38, 39, 40, 41, 42, 43, 44, 45, 46, 47] (by decide) rfl ?_
              refine xr_icmp_eq F 1204 dL_law_300 (by decide) (fun c300 => ?_) (fun c300 => ?_)
              · skip
                refine xr_iinc F (nI (4 * (j + 1))) [(4, .int (nI (4 * (j + 1)))), (0, .ref b), (1, .ref h), (2, .ref (g 0)), (3, .ref ou)] dL_law_1204 0 rfl (nI_add (4 * j) 4) (by decide) rfl ?_
                refine xr_goto F 23 dL_law_1207 (by decide) ?_
                refine xr_lv (lv' := [(4, .int (nI (4 * (j + 1)))), (0, .ref b), (1, .ref h), (2, .ref (g 0)), (3, .ref ou)]) [0, 1, 2, 3, 4] rfl ?_
                refine xr_ws (ws' := bw h a t ++ (cw yI yZ a (uDry K 0) V ++ (cw yI yZ t Kt Vt ++ (mw yI g u v 0 (uDry K 0) ++ (sw yI u (kMark (uDry K 0)) aw wh V ++ (sw yI v z1 z2 z3 z4 ++ (([(ou, .inl (yL, 1, .inr (.inl f)))] : va_W)))))))) (by rw [eK19, kMark_dry]) ?_
                refine xr_widen (k := 51 + (j + 1)) (n := 402 + 6 * (j + 1)) (by omega) (by omega) ?_
                exact ih (j + 1) (uDry K 0) V aw wh 0 Kt Vt z1 z2 z3 z4 f (by omega) (ok_dry (by decide) hK) hV (by omega)
              · exact absurd rfl c300
            · exact absurd c271 c289
          · skip
            refine xr_iconst F dL_law_274 (v := 1) (by decide) ?_
            refine xr_goto F 279 dL_law_275 (by decide) ?_
            refine xr_callVz F (wr := cw yI yZ t Kt Vt ++ (mw yI g u v th K ++ (sw yI u (kMark K) aw wh V ++ (sw yI v z1 z2 z3 z4 ++ (([(ou, .inl (yL, 1, .inr (.inl f)))] : va_W)))))) (rest := []) (As := [.int 1]) (k_X1_setDrought l D yI yZ yL h a t K V 1 k3 (by decide)) (cwV 1 F.hts gL_law_X1_setDrought rfl rfl rfl (by decide +kernel) ⟨Nat.le_of_ble_eq_true rfl, Nat.le_of_ble_eq_true rfl⟩) (q0 := 0) rfl rfl [0, 1, 2, 3, 4, 5, 6, 7, 8, 9, 10, 11, 12] [13, 14, 15, 16, 17, 18, 19, 20, 21, 22, 23, 24, 25, 26, 27, 28, 29, 30, 31, 32, 33, 34, 35, 36, 37, 38, 39, 40, 41, 42, 43, 44, 45, 46, 47, 48, 49, 50] rfl rfl (by decide) (by decide) (by decide) rfl rfl (Nat.le_of_ble_eq_true rfl) dL_law_279 ⟨(by show _ ≤ 1080; omega), (by show _ ≤ 8624; omega)⟩ (fun r1 W1 z1 => ?_)
            obtain ⟨z0, z1⟩ := z1
            subst z0
            subst z1
            refine xr_sub (ws' := bw h a t ++ (cw yI yZ a (uDry K 1) V ++ (cw yI yZ t Kt Vt ++ (mw yI g u v th K ++ (sw yI u (kMark K) aw wh V ++ (sw yI v z1 z2 z3 z4 ++ (([(ou, .inl (yL, 1, .inr (.inl f)))] : va_W)))))))) [38, 39, 40, 41, 42, 43, 44, 45, 46, 47, 48, 49, 50, 0, 1, 2, 3, 4, 5, 6, 7, 8, 9, 10, 11, 12, 13, 14, 15, 16, 17, 18, 19, 20, 21, 22, 23, 24, 25, 26, 27, 28, 29, 30, 31, 32, 33, 34, 35, 36, 37] (by decide) rfl ?_
            refine xr_aload_n F dL_law_282 rfl 3 rfl ?_
            refine xr_aload_n F dL_law_283 rfl 1 rfl ?_
            refine xr_iload F dL_law_284 0 rfl ?_
            refine xr_iconst F dL_law_286 (v := 1) (by decide) ?_
            refine xr_iadd F (nI (4 * j + 1)) dL_law_287 (nI_add (4 * j) 1) ?_
            refine xr_sld F hX hbl hbA (4 * j + 1) rfl (by omega) (by omega) dL_law_288 ?_
            refine xr_if_eq F 296 dL_law_289 (by decide) (fun c289 => ?_) (fun c289 => ?_)
            · exact absurd c289 c271
            · skip
              refine xr_iconst F dL_law_292 (v := 1) (by decide) ?_
              refine xr_goto F 297 dL_law_293 (by decide) ?_
              refine xr_callVz F (wr := bw h a t ++ (cw yI yZ a (uDry K 1) V ++ (cw yI yZ t Kt Vt ++ (sw yI u (kMark K) aw wh V ++ (sw yI v z1 z2 z3 z4 ++ (([(ou, .inl (yL, 1, .inr (.inl f)))] : va_W))))))) (rest := [.int (kDry K)]) (As := [.int 1]) (k_X3_setDrought l D yI yZ yL g u v th K 1 k3 (by decide)) (cwV 1 F.hts gL_law_X3_setDrought rfl rfl rfl (by decide +kernel) ⟨Nat.le_of_ble_eq_true rfl, Nat.le_of_ble_eq_true rfl⟩) (q0 := 0) rfl rfl [25, 26, 27] [0, 1, 2, 3, 4, 5, 6, 7, 8, 9, 10, 11, 12, 13, 14, 15, 16, 17, 18, 19, 20, 21, 22, 23, 24, 28, 29, 30, 31, 32, 33, 34, 35, 36, 37, 38, 39, 40, 41, 42, 43, 44, 45, 46, 47, 48, 49, 50] rfl rfl (by decide) (by decide) (by decide) rfl rfl (Nat.le_of_ble_eq_true rfl) dL_law_297 ⟨(by show _ ≤ 1080; omega), (by show _ ≤ 8624; omega)⟩ (fun r1 W1 z1 => ?_)
              obtain ⟨z0, z1⟩ := z1
              subst z0
              obtain ⟨K21, eK21⟩ : ∃ x9 : CK, x9 = uDry K 1 := ⟨_, rfl⟩
              rw [← eK21] at z1
              subst z1
              refine xr_sub (ws' := bw h a t ++ (cw yI yZ a (uDry K 1) V ++ (cw yI yZ t Kt Vt ++ (mw yI g u v 0 K21 ++ (sw yI u (kMark K) aw wh V ++ (sw yI v z1 z2 z3 z4 ++ (([(ou, .inl (yL, 1, .inr (.inl f)))] : va_W)))))))) [0, 1, 2, 3, 4, 5, 6, 7, 8, 9, 10, 11, 12, 13, 14, 15, 16, 17, 18, 19, 20, 21, 22, 23, 24, 48, 49, 50, 25, 26, 27, 28, 29, 30, 31, 32, 33, 34, 35, 36, 37, 38, 39, 40, 41, 42, 43, 44, 45, 46, 47] (by decide) rfl ?_
              refine xr_icmp_eq F 1204 dL_law_300 (by decide) (fun c300 => ?_) (fun c300 => ?_)
              · skip
                refine xr_iinc F (nI (4 * (j + 1))) [(4, .int (nI (4 * (j + 1)))), (0, .ref b), (1, .ref h), (2, .ref (g 0)), (3, .ref ou)] dL_law_1204 0 rfl (nI_add (4 * j) 4) (by decide) rfl ?_
                refine xr_goto F 23 dL_law_1207 (by decide) ?_
                refine xr_lv (lv' := [(4, .int (nI (4 * (j + 1)))), (0, .ref b), (1, .ref h), (2, .ref (g 0)), (3, .ref ou)]) [0, 1, 2, 3, 4] rfl ?_
                refine xr_ws (ws' := bw h a t ++ (cw yI yZ a (uDry K 1) V ++ (cw yI yZ t Kt Vt ++ (mw yI g u v 0 (uDry K 1) ++ (sw yI u (kMark (uDry K 1)) aw wh V ++ (sw yI v z1 z2 z3 z4 ++ (([(ou, .inl (yL, 1, .inr (.inl f)))] : va_W)))))))) (by rw [eK21, kMark_dry]) ?_
                refine xr_widen (k := 51 + (j + 1)) (n := 402 + 6 * (j + 1)) (by omega) (by omega) ?_
                exact ih (j + 1) (uDry K 1) V aw wh 0 Kt Vt z1 z2 z3 z4 f (by omega) (ok_dry (by decide) hK) hV (by omega)
              · exact absurd rfl c300
        · skip
          refine xr_tableIn F (off := 266) 305 dL_law_39 (by decide) (by decide) (by decide) (by decide) ?_
          refine xr_aload_n F dL_law_305 rfl 2 rfl ?_
          refine xr_aload_n F dL_law_306 rfl 1 rfl ?_
          refine xr_iload F dL_law_307 0 rfl ?_
          refine xr_iconst F dL_law_309 (v := 1) (by decide) ?_
          refine xr_iadd F (nI (4 * j + 1)) dL_law_310 (nI_add (4 * j) 1) ?_
          refine xr_sld F hX hbl hbA (4 * j + 1) rfl (by omega) (by omega) dL_law_311 ?_
          refine xr_aload_n F dL_law_312 rfl 4 rfl ?_
          refine xr_callXHi F G (wr := cw yI yZ t Kt Vt ++ (mw yI g u v th K ++ (sw yI u (kMark K) aw wh V ++ (sw yI v z1 z2 z3 z4)))) (rest := []) (As := [.ref h, .int (xs (4 * j + 1)), .ref ou]) (k_L_setFee l D yI yZ yL hst h a t K V ou f (xs (4 * j + 1)) ) (vx_cwSW 3 F.hts gL_law_L_setFee rfl rfl rfl (by decide +kernel) ⟨Nat.le_of_ble_eq_true rfl, Nat.le_of_ble_eq_true rfl⟩) [0, 1, 2, 3, 4, 5, 6, 7, 8, 9, 10, 11, 12, 50] [13, 14, 15, 16, 17, 18, 19, 20, 21, 22, 23, 24, 25, 26, 27, 28, 29, 30, 31, 32, 33, 34, 35, 36, 37, 38, 39, 40, 41, 42, 43, 44, 45, 46, 47, 48, 49] rfl rfl (by decide) (by decide) (by decide) rfl rfl (Nat.le_of_ble_eq_true rfl) dL_law_313 ⟨(by show _ ≤ 1080; omega), (by show _ ≤ 8624; omega)⟩ (fun E1 W1 z1 => z1.elim) (fun r1 W1 z1 => ?_)
          obtain ⟨z0, f9, hf9, z1⟩ := z1
          subst z0
          subst z1
          refine xr_sub (ws' := bw h a t ++ (cw yI yZ a (K_fee K (xs (4 * j + 1))) V ++ (cw yI yZ t Kt Vt ++ (mw yI g u v th K ++ (sw yI u (kMark K) aw wh V ++ (sw yI v z1 z2 z3 z4 ++ (([(ou, .inl (yL, 1, .inr (.inl f9)))] : va_W)))))))) [37, 38, 39, 40, 41, 42, 43, 44, 45, 46, 47, 48, 49, 0, 1, 2, 3, 4, 5, 6, 7, 8, 9, 10, 11, 12, 13, 14, 15, 16, 17, 18, 19, 20, 21, 22, 23, 24, 25, 26, 27, 28, 29, 30, 31, 32, 33, 34, 35, 36, 50] (by decide) rfl ?_
          refine xr_istore F [(5, .int (q_setFee (xs (4 * j + 1)))), (4, .int (nI (4 * j))), (0, .ref b), (1, .ref h), (2, .ref (g 0)), (3, .ref ou)] dL_law_316 (by decide) rfl ?_
          refine xr_aload_n F dL_law_318 rfl 4 rfl ?_
          refine xr_aload_n F dL_law_319 rfl 2 rfl ?_
          refine xr_iload F dL_law_320 1 rfl ?_
          refine xr_iconst F dL_law_322 (v := 1) (by decide) ?_
          refine xr_iadd F (nI (4 * j + 1)) dL_law_323 (nI_add (4 * j) 1) ?_
          refine xr_sld F hX hbl hbA (4 * j + 1) rfl (by omega) (by omega) dL_law_324 ?_
          refine xr_callVi F (wr := bw h a t ++ (cw yI yZ a (K_fee K (xs (4 * j + 1))) V ++ (cw yI yZ t Kt Vt ++ (sw yI u (kMark K) aw wh V ++ (sw yI v z1 z2 z3 z4 ++ (([(ou, .inl (yL, 1, .inr (.inl f9)))] : va_W))))))) (rest := []) (As := [.int (xs (4 * j + 1))]) (k_X3_setFee l D yI yZ yL g u v th K (xs (4 * j + 1)) ) (cwV 1 F.hts gL_law_X3_setFee rfl rfl rfl (by decide +kernel) ⟨Nat.le_of_ble_eq_true rfl, Nat.le_of_ble_eq_true rfl⟩) (q0 := 0) rfl rfl [25, 26, 27] [0, 1, 2, 3, 4, 5, 6, 7, 8, 9, 10, 11, 12, 13, 14, 15, 16, 17, 18, 19, 20, 21, 22, 23, 24, 28, 29, 30, 31, 32, 33, 34, 35, 36, 37, 38, 39, 40, 41, 42, 43, 44, 45, 46, 47, 48, 49, 50] rfl rfl (by decide) (by decide) (by decide) rfl rfl (Nat.le_of_ble_eq_true rfl) dL_law_325 ⟨(by show _ ≤ 1080; omega), (by show _ ≤ 8624; omega)⟩ (fun r1 W1 z1 => ?_)
          obtain ⟨z0, z1⟩ := z1
          subst z0
          obtain ⟨h22, eh22⟩ : ∃ x9 : Int32, x9 = q_setFee (xs (4 * j + 1)) := ⟨_, rfl⟩
          rw [← eh22] at z1
          obtain ⟨K23, eK23⟩ : ∃ x9 : CK, x9 = K_fee K (xs (4 * j + 1)) := ⟨_, rfl⟩
          rw [← eK23] at z1
          subst z1
          refine xr_sub (ws' := bw h a t ++ (cw yI yZ a (K_fee K (xs (4 * j + 1))) V ++ (cw yI yZ t Kt Vt ++ (mw yI g u v h22 K23 ++ (sw yI u (kMark K) aw wh V ++ (sw yI v z1 z2 z3 z4 ++ (([(ou, .inl (yL, 1, .inr (.inl f9)))] : va_W)))))))) [0, 1, 2, 3, 4, 5, 6, 7, 8, 9, 10, 11, 12, 13, 14, 15, 16, 17, 18, 19, 20, 21, 22, 23, 24, 48, 49, 50, 25, 26, 27, 28, 29, 30, 31, 32, 33, 34, 35, 36, 37, 38, 39, 40, 41, 42, 43, 44, 45, 46, 47] (by decide) rfl ?_
          refine xr_istore F [(6, .int (r_or0 (q_setFee (xs (4 * j + 1))) (kFee K))), (5, .int (q_setFee (xs (4 * j + 1)))), (4, .int (nI (4 * j))), (0, .ref b), (1, .ref h), (2, .ref (g 0)), (3, .ref ou)] dL_law_328 (by decide) rfl ?_
          refine xr_aload_n F dL_law_330 rfl 5 rfl ?_
          refine xr_callVi F (wr := bw h a t ++ (cw yI yZ a (K_fee K (xs (4 * j + 1))) V ++ (cw yI yZ t Kt Vt ++ (sw yI u (kMark K) aw wh V ++ (sw yI v z1 z2 z3 z4 ++ (([(ou, .inl (yL, 1, .inr (.inl f9)))] : va_W))))))) (rest := []) (As := []) (k_X3_thrown l D yI yZ yL g u v h22 K23 ) (cwV 0 F.hts gL_law_X3_thrown rfl rfl rfl (by decide +kernel) ⟨Nat.le_of_ble_eq_true rfl, Nat.le_of_ble_eq_true rfl⟩) (q0 := 0) rfl rfl [25, 26, 27] [0, 1, 2, 3, 4, 5, 6, 7, 8, 9, 10, 11, 12, 13, 14, 15, 16, 17, 18, 19, 20, 21, 22, 23, 24, 28, 29, 30, 31, 32, 33, 34, 35, 36, 37, 38, 39, 40, 41, 42, 43, 44, 45, 46, 47, 48, 49, 50] rfl rfl (by decide) (by decide) (by decide) rfl rfl (Nat.le_of_ble_eq_true rfl) dL_law_331 ⟨(by show _ ≤ 1080; omega), (by show _ ≤ 8624; omega)⟩ (fun r1 W1 z1 => ?_)
          obtain ⟨z0, z1⟩ := z1
          rw [z0]
          subst z1
          refine xr_sub (ws' := bw h a t ++ (cw yI yZ a (K_fee K (xs (4 * j + 1))) V ++ (cw yI yZ t Kt Vt ++ (mw yI g u v h22 K23 ++ (sw yI u (kMark K) aw wh V ++ (sw yI v z1 z2 z3 z4 ++ (([(ou, .inl (yL, 1, .inr (.inl f9)))] : va_W)))))))) [0, 1, 2, 3, 4, 5, 6, 7, 8, 9, 10, 11, 12, 13, 14, 15, 16, 17, 18, 19, 20, 21, 22, 23, 24, 48, 49, 50, 25, 26, 27, 28, 29, 30, 31, 32, 33, 34, 35, 36, 37, 38, 39, 40, 41, 42, 43, 44, 45, 46, 47] (by decide) rfl ?_
          refine xr_iload F dL_law_334 1 rfl ?_
          refine xr_icmp_eq F 341 dL_law_336 (by decide) (fun c336 => ?_) (fun c336 => ?_)
          · skip
            refine xr_iload F dL_law_341 1 rfl ?_
            refine xr_if_ne F 358 dL_law_343 (by decide) (fun c343 => ?_) (fun c343 => ?_)
            · skip
              refine xr_goto F 1204 dL_law_358 (by decide) ?_
              refine xr_iinc F (nI (4 * (j + 1))) [(4, .int (nI (4 * (j + 1)))), (6, .int (r_or0 (q_setFee (xs (4 * j + 1))) (kFee K))), (5, .int (q_setFee (xs (4 * j + 1)))), (0, .ref b), (1, .ref h), (2, .ref (g 0)), (3, .ref ou)] dL_law_1204 2 rfl (nI_add (4 * j) 4) (by decide) rfl ?_
              refine xr_goto F 23 dL_law_1207 (by decide) ?_
              refine xr_lv (lv' := [(4, .int (nI (4 * (j + 1)))), (0, .ref b), (1, .ref h), (2, .ref (g 0)), (3, .ref ou)]) [0, 3, 4, 5, 6] rfl ?_
              refine xr_ws (ws' := bw h a t ++ (cw yI yZ a (K_fee K (xs (4 * j + 1))) V ++ (cw yI yZ t Kt Vt ++ (mw yI g u v h22 (K_fee K (xs (4 * j + 1))) ++ (sw yI u (kMark (K_fee K (xs (4 * j + 1)))) aw wh V ++ (sw yI v z1 z2 z3 z4 ++ (([(ou, .inl (yL, 1, .inr (.inl f9)))] : va_W)))))))) (by rw [eK23, kMark_fee]) ?_
              refine xr_widen (k := 51 + (j + 1)) (n := 402 + 6 * (j + 1)) (by omega) (by omega) ?_
              exact ih (j + 1) (K_fee K (xs (4 * j + 1))) V aw wh h22 Kt Vt z1 z2 z3 z4 f9 (by omega) (ok_fee _ hK) hV (by omega)
            · skip
              refine xr_aload_n F dL_law_346 rfl 6 rfl ?_
              refine xr_iconst F dL_law_347 (v := 0) (by decide) ?_
              refine xr_lald F 50 2 rfl rfl (0) rfl (by decide) (by decide) dL_law_348 ?_
              refine xr_iload F dL_law_349 0 rfl ?_
              refine xr_i2l F dL_law_351 (v := (r_or0 (q_setFee (xs (4 * j + 1))) (kFee K)).toInt64) rfl ?_
              refine xr_lcmp F dL_law_352 ?_
              refine xr_if_eq F 358 dL_law_353 (by decide) (fun c353 => ?_) (fun c353 => ?_)
              · skip
                refine xr_goto F 1204 dL_law_358 (by decide) ?_
                refine xr_iinc F (nI (4 * (j + 1))) [(4, .int (nI (4 * (j + 1)))), (6, .int (r_or0 (q_setFee (xs (4 * j + 1))) (kFee K))), (5, .int (q_setFee (xs (4 * j + 1)))), (0, .ref b), (1, .ref h), (2, .ref (g 0)), (3, .ref ou)] dL_law_1204 2 rfl (nI_add (4 * j) 4) (by decide) rfl ?_
                refine xr_goto F 23 dL_law_1207 (by decide) ?_
                refine xr_lv (lv' := [(4, .int (nI (4 * (j + 1)))), (0, .ref b), (1, .ref h), (2, .ref (g 0)), (3, .ref ou)]) [0, 3, 4, 5, 6] rfl ?_
                refine xr_ws (ws' := bw h a t ++ (cw yI yZ a (K_fee K (xs (4 * j + 1))) V ++ (cw yI yZ t Kt Vt ++ (mw yI g u v h22 (K_fee K (xs (4 * j + 1))) ++ (sw yI u (kMark (K_fee K (xs (4 * j + 1)))) aw wh V ++ (sw yI v z1 z2 z3 z4 ++ (([(ou, .inl (yL, 1, .inr (.inl f9)))] : va_W)))))))) (by rw [eK23, kMark_fee]) ?_
                refine xr_widen (k := 51 + (j + 1)) (n := 402 + 6 * (j + 1)) (by omega) (by omega) ?_
                exact ih (j + 1) (K_fee K (xs (4 * j + 1))) V aw wh h22 Kt Vt z1 z2 z3 z4 f9 (by omega) (ok_fee _ hK) hV (by omega)
              · exact absurd (law_cmp hf9 c343 rfl) c353
          · exact absurd eh22 c336
        · skip
          refine xr_tableIn F (off := 322) 361 dL_law_39 (by decide) (by decide) (by decide) (by decide) ?_
          refine xr_aload_n F dL_law_361 rfl 2 rfl ?_
          refine xr_aload_n F dL_law_362 rfl 1 rfl ?_
          refine xr_iload F dL_law_363 0 rfl ?_
          refine xr_iconst F dL_law_365 (v := 1) (by decide) ?_
          refine xr_iadd F (nI (4 * j + 1)) dL_law_366 (nI_add (4 * j) 1) ?_
          refine xr_sld F hX hbl hbA (4 * j + 1) rfl (by omega) (by omega) dL_law_367 ?_
          refine xr_aload_n F dL_law_368 rfl 1 rfl ?_
          refine xr_iload F dL_law_369 0 rfl ?_
          refine xr_iconst F dL_law_371 (v := 2) (by decide) ?_
          refine xr_iadd F (nI (4 * j + 2)) dL_law_372 (nI_add (4 * j) 2) ?_
          refine xr_sld F hX hbl hbA (4 * j + 2) rfl (by omega) (by omega) dL_law_373 ?_
          refine xr_aload_n F dL_law_374 rfl 4 rfl ?_
          refine xr_callXHi F G (wr := cw yI yZ t Kt Vt ++ (mw yI g u v th K ++ (sw yI u (kMark K) aw wh V ++ (sw yI v z1 z2 z3 z4)))) (rest := []) (As := [.ref h, .int (xs (4 * j + 1)), .int (xs (4 * j + 2)), .ref ou]) (k_L_water l D yI yZ yL hst h a t K V ou f (xs (4 * j + 1)) (xs (4 * j + 2)) ) (vx_cwSW 4 F.hts gL_law_L_water rfl rfl rfl (by decide +kernel) ⟨Nat.le_of_ble_eq_true rfl, Nat.le_of_ble_eq_true rfl⟩) [0, 1, 2, 3, 4, 5, 6, 7, 8, 9, 10, 11, 12, 50] [13, 14, 15, 16, 17, 18, 19, 20, 21, 22, 23, 24, 25, 26, 27, 28, 29, 30, 31, 32, 33, 34, 35, 36, 37, 38, 39, 40, 41, 42, 43, 44, 45, 46, 47, 48, 49] rfl rfl (by decide) (by decide) (by decide) rfl rfl (Nat.le_of_ble_eq_true rfl) dL_law_375 ⟨(by show _ ≤ 1080; omega), (by show _ ≤ 8624; omega)⟩ (fun E1 W1 z1 => z1.elim) (fun r1 W1 z1 => ?_)
          obtain ⟨z0, f9, hf9, z1⟩ := z1
          subst z0
          subst z1
          refine xr_sub (ws' := bw h a t ++ (cw yI yZ a K (C_water V (xs (4 * j + 1)) (xs (4 * j + 2))) ++ (cw yI yZ t Kt Vt ++ (mw yI g u v th K ++ (sw yI u (kMark K) aw wh V ++ (sw yI v z1 z2 z3 z4 ++ (([(ou, .inl (yL, 1, .inr (.inl f9)))] : va_W)))))))) [37, 38, 39, 40, 41, 42, 43, 44, 45, 46, 47, 48, 49, 0, 1, 2, 3, 4, 5, 6, 7, 8, 9, 10, 11, 12, 13, 14, 15, 16, 17, 18, 19, 20, 21, 22, 23, 24, 25, 26, 27, 28, 29, 30, 31, 32, 33, 34, 35, 36, 50] (by decide) rfl ?_
          refine xr_istore F [(5, .int (q_water V (xs (4 * j + 1)) (xs (4 * j + 2)))), (4, .int (nI (4 * j))), (0, .ref b), (1, .ref h), (2, .ref (g 0)), (3, .ref ou)] dL_law_378 (by decide) rfl ?_
          refine xr_aload_n F dL_law_380 rfl 4 rfl ?_
          refine xr_aload_n F dL_law_381 rfl 2 rfl ?_
          refine xr_iload F dL_law_382 1 rfl ?_
          refine xr_iconst F dL_law_384 (v := 1) (by decide) ?_
          refine xr_iadd F (nI (4 * j + 1)) dL_law_385 (nI_add (4 * j) 1) ?_
          refine xr_sld F hX hbl hbA (4 * j + 1) rfl (by omega) (by omega) dL_law_386 ?_
          refine xr_aload_n F dL_law_387 rfl 2 rfl ?_
          refine xr_iload F dL_law_388 1 rfl ?_
          refine xr_iconst F dL_law_390 (v := 2) (by decide) ?_
          refine xr_iadd F (nI (4 * j + 2)) dL_law_391 (nI_add (4 * j) 2) ?_
          refine xr_sld F hX hbl hbA (4 * j + 2) rfl (by omega) (by omega) dL_law_392 ?_
          refine xr_callVi F (wr := bw h a t ++ (cw yI yZ a K (C_water V (xs (4 * j + 1)) (xs (4 * j + 2))) ++ (cw yI yZ t Kt Vt ++ (sw yI v z1 z2 z3 z4 ++ (([(ou, .inl (yL, 1, .inr (.inl f9)))] : va_W)))))) (rest := []) (As := [.int (xs (4 * j + 1)), .int (xs (4 * j + 2))]) (k_X3_water l D yI yZ yL g u v th K aw wh V (xs (4 * j + 1)) (xs (4 * j + 2)) ) (cwV 2 F.hts gL_law_X3_water rfl rfl rfl (by decide +kernel) ⟨Nat.le_of_ble_eq_true rfl, Nat.le_of_ble_eq_true rfl⟩) (q0 := 0) rfl rfl [25, 26, 27, 28, 29, 30, 31, 32, 33, 34, 35, 36, 37, 38] [0, 1, 2, 3, 4, 5, 6, 7, 8, 9, 10, 11, 12, 13, 14, 15, 16, 17, 18, 19, 20, 21, 22, 23, 24, 39, 40, 41, 42, 43, 44, 45, 46, 47, 48, 49, 50] rfl rfl (by decide) (by decide) (by decide) rfl rfl (Nat.le_of_ble_eq_true rfl) dL_law_393 ⟨(by show _ ≤ 1080; omega), (by show _ ≤ 8624; omega)⟩ (fun r1 W1 z1 => ?_)
          obtain ⟨z0, z1⟩ := z1
          subst z0
          obtain ⟨h24, eh24⟩ : ∃ x9 : Int32, x9 = q_water V (xs (4 * j + 1)) (xs (4 * j + 2)) := ⟨_, rfl⟩
          rw [← eh24] at z1
          obtain ⟨V25, eV25⟩ : ∃ x9 : CD, x9 = (m_water V aw (xs (4 * j + 1)) (xs (4 * j + 2))).1 := ⟨_, rfl⟩
          rw [← eV25] at z1
          obtain ⟨x26, ex26⟩ : ∃ x9 : Int32, x9 = (m_water V aw (xs (4 * j + 1)) (xs (4 * j + 2))).2 := ⟨_, rfl⟩
          rw [← ex26] at z1
          subst z1
          refine xr_sub (ws' := bw h a t ++ (cw yI yZ a K (C_water V (xs (4 * j + 1)) (xs (4 * j + 2))) ++ (cw yI yZ t Kt Vt ++ (mw yI g u v h24 K ++ (sw yI u (kMark K) x26 wh V25 ++ (sw yI v z1 z2 z3 z4 ++ (([(ou, .inl (yL, 1, .inr (.inl f9)))] : va_W)))))))) [0, 1, 2, 3, 4, 5, 6, 7, 8, 9, 10, 11, 12, 13, 14, 15, 16, 17, 18, 19, 20, 21, 22, 23, 24, 37, 38, 39, 40, 41, 42, 43, 44, 45, 46, 47, 48, 49, 50, 25, 26, 27, 28, 29, 30, 31, 32, 33, 34, 35, 36] (by decide) rfl ?_
          refine xr_istore F [(6, .int (r_or0 (q_water V (xs (4 * j + 1)) (xs (4 * j + 2))) (dBank (m_water V aw (xs (4 * j + 1)) (xs (4 * j + 2))).1))), (5, .int (q_water V (xs (4 * j + 1)) (xs (4 * j + 2)))), (4, .int (nI (4 * j))), (0, .ref b), (1, .ref h), (2, .ref (g 0)), (3, .ref ou)] dL_law_396 (by decide) rfl ?_
          refine xr_aload_n F dL_law_398 rfl 5 rfl ?_
          refine xr_callVi F (wr := bw h a t ++ (cw yI yZ a K (C_water V (xs (4 * j + 1)) (xs (4 * j + 2))) ++ (cw yI yZ t Kt Vt ++ (sw yI u (kMark K) x26 wh V25 ++ (sw yI v z1 z2 z3 z4 ++ (([(ou, .inl (yL, 1, .inr (.inl f9)))] : va_W))))))) (rest := []) (As := []) (k_X3_thrown l D yI yZ yL g u v h24 K ) (cwV 0 F.hts gL_law_X3_thrown rfl rfl rfl (by decide +kernel) ⟨Nat.le_of_ble_eq_true rfl, Nat.le_of_ble_eq_true rfl⟩) (q0 := 0) rfl rfl [25, 26, 27] [0, 1, 2, 3, 4, 5, 6, 7, 8, 9, 10, 11, 12, 13, 14, 15, 16, 17, 18, 19, 20, 21, 22, 23, 24, 28, 29, 30, 31, 32, 33, 34, 35, 36, 37, 38, 39, 40, 41, 42, 43, 44, 45, 46, 47, 48, 49, 50] rfl rfl (by decide) (by decide) (by decide) rfl rfl (Nat.le_of_ble_eq_true rfl) dL_law_399 ⟨(by show _ ≤ 1080; omega), (by show _ ≤ 8624; omega)⟩ (fun r1 W1 z1 => ?_)
          obtain ⟨z0, z1⟩ := z1
          rw [z0]
          subst z1
          refine xr_sub (ws' := bw h a t ++ (cw yI yZ a K (C_water V (xs (4 * j + 1)) (xs (4 * j + 2))) ++ (cw yI yZ t Kt Vt ++ (mw yI g u v h24 K ++ (sw yI u (kMark K) x26 wh V25 ++ (sw yI v z1 z2 z3 z4 ++ (([(ou, .inl (yL, 1, .inr (.inl f9)))] : va_W)))))))) [0, 1, 2, 3, 4, 5, 6, 7, 8, 9, 10, 11, 12, 13, 14, 15, 16, 17, 18, 19, 20, 21, 22, 23, 24, 48, 49, 50, 25, 26, 27, 28, 29, 30, 31, 32, 33, 34, 35, 36, 37, 38, 39, 40, 41, 42, 43, 44, 45, 46, 47] (by decide) rfl ?_
          refine xr_iload F dL_law_402 1 rfl ?_
          refine xr_icmp_eq F 409 dL_law_404 (by decide) (fun c404 => ?_) (fun c404 => ?_)
          · skip
            refine xr_iload F dL_law_409 1 rfl ?_
            refine xr_if_ne F 426 dL_law_411 (by decide) (fun c411 => ?_) (fun c411 => ?_)
            · skip
              refine xr_goto F 1204 dL_law_426 (by decide) ?_
              refine xr_iinc F (nI (4 * (j + 1))) [(4, .int (nI (4 * (j + 1)))), (6, .int (r_or0 (q_water V (xs (4 * j + 1)) (xs (4 * j + 2))) (dBank (m_water V aw (xs (4 * j + 1)) (xs (4 * j + 2))).1))), (5, .int (q_water V (xs (4 * j + 1)) (xs (4 * j + 2)))), (0, .ref b), (1, .ref h), (2, .ref (g 0)), (3, .ref ou)] dL_law_1204 2 rfl (nI_add (4 * j) 4) (by decide) rfl ?_
              refine xr_goto F 23 dL_law_1207 (by decide) ?_
              refine xr_lv (lv' := [(4, .int (nI (4 * (j + 1)))), (0, .ref b), (1, .ref h), (2, .ref (g 0)), (3, .ref ou)]) [0, 3, 4, 5, 6] rfl ?_
              refine xr_ws (ws' := bw h a t ++ (cw yI yZ a K (C_water V (xs (4 * j + 1)) (xs (4 * j + 2))) ++ (cw yI yZ t Kt Vt ++ (mw yI g u v h24 K ++ (sw yI u (kMark K) ((m_water V aw (xs (4 * j + 1)) (xs (4 * j + 2))).2) wh (C_water V (xs (4 * j + 1)) (xs (4 * j + 2))) ++ (sw yI v z1 z2 z3 z4 ++ (([(ou, .inl (yL, 1, .inr (.inl f9)))] : va_W)))))))) (by rw [ex26, eV25, (water_eq (xs (4 * j + 1)) (xs (4 * j + 2)) hV (by omega)).1]) ?_
              refine xr_widen (k := 51 + (j + 1)) (n := 402 + 6 * (j + 1)) (by omega) (by omega) ?_
              exact ih (j + 1) K (C_water V (xs (4 * j + 1)) (xs (4 * j + 2))) ((m_water V aw (xs (4 * j + 1)) (xs (4 * j + 2))).2) wh h24 Kt Vt z1 z2 z3 z4 f9 (by omega) hK (water_eq (xs (4 * j + 1)) (xs (4 * j + 2)) hV (by omega)).2.1 (by rw [(water_eq (xs (4 * j + 1)) (xs (4 * j + 2)) hV (by omega)).2.2]; omega)
            · skip
              refine xr_aload_n F dL_law_414 rfl 6 rfl ?_
              refine xr_iconst F dL_law_415 (v := 0) (by decide) ?_
              refine xr_lald F 50 2 rfl rfl (0) rfl (by decide) (by decide) dL_law_416 ?_
              refine xr_iload F dL_law_417 0 rfl ?_
              refine xr_i2l F dL_law_419 (v := (r_or0 (q_water V (xs (4 * j + 1)) (xs (4 * j + 2))) (dBank (m_water V aw (xs (4 * j + 1)) (xs (4 * j + 2))).1)).toInt64) rfl ?_
              refine xr_lcmp F dL_law_420 ?_
              refine xr_if_eq F 426 dL_law_421 (by decide) (fun c421 => ?_) (fun c421 => ?_)
              · skip
                refine xr_goto F 1204 dL_law_426 (by decide) ?_
                refine xr_iinc F (nI (4 * (j + 1))) [(4, .int (nI (4 * (j + 1)))), (6, .int (r_or0 (q_water V (xs (4 * j + 1)) (xs (4 * j + 2))) (dBank (m_water V aw (xs (4 * j + 1)) (xs (4 * j + 2))).1))), (5, .int (q_water V (xs (4 * j + 1)) (xs (4 * j + 2)))), (0, .ref b), (1, .ref h), (2, .ref (g 0)), (3, .ref ou)] dL_law_1204 2 rfl (nI_add (4 * j) 4) (by decide) rfl ?_
                refine xr_goto F 23 dL_law_1207 (by decide) ?_
                refine xr_lv (lv' := [(4, .int (nI (4 * (j + 1)))), (0, .ref b), (1, .ref h), (2, .ref (g 0)), (3, .ref ou)]) [0, 3, 4, 5, 6] rfl ?_
                refine xr_ws (ws' := bw h a t ++ (cw yI yZ a K (C_water V (xs (4 * j + 1)) (xs (4 * j + 2))) ++ (cw yI yZ t Kt Vt ++ (mw yI g u v h24 K ++ (sw yI u (kMark K) ((m_water V aw (xs (4 * j + 1)) (xs (4 * j + 2))).2) wh (C_water V (xs (4 * j + 1)) (xs (4 * j + 2))) ++ (sw yI v z1 z2 z3 z4 ++ (([(ou, .inl (yL, 1, .inr (.inl f9)))] : va_W)))))))) (by rw [ex26, eV25, (water_eq (xs (4 * j + 1)) (xs (4 * j + 2)) hV (by omega)).1]) ?_
                refine xr_widen (k := 51 + (j + 1)) (n := 402 + 6 * (j + 1)) (by omega) (by omega) ?_
                exact ih (j + 1) K (C_water V (xs (4 * j + 1)) (xs (4 * j + 2))) ((m_water V aw (xs (4 * j + 1)) (xs (4 * j + 2))).2) wh h24 Kt Vt z1 z2 z3 z4 f9 (by omega) hK (water_eq (xs (4 * j + 1)) (xs (4 * j + 2)) hV (by omega)).2.1 (by rw [(water_eq (xs (4 * j + 1)) (xs (4 * j + 2)) hV (by omega)).2.2]; omega)
              · exact absurd (law_cmp hf9 c411 (congrArg dBank (water_eq (xs (4 * j + 1)) (xs (4 * j + 2)) hV (by omega)).1)) c421
          · exact absurd eh24 c404
        · skip
          refine xr_tableIn F (off := 390) 429 dL_law_39 (by decide) (by decide) (by decide) (by decide) ?_
          refine xr_aload_n F dL_law_429 rfl 2 rfl ?_
          refine xr_aload_n F dL_law_430 rfl 1 rfl ?_
          refine xr_iload F dL_law_431 0 rfl ?_
          refine xr_iconst F dL_law_433 (v := 1) (by decide) ?_
          refine xr_iadd F (nI (4 * j + 1)) dL_law_434 (nI_add (4 * j) 1) ?_
          refine xr_sld F hX hbl hbA (4 * j + 1) rfl (by omega) (by omega) dL_law_435 ?_
          refine xr_aload_n F dL_law_436 rfl 4 rfl ?_
          refine xr_callXHi F G (wr := cw yI yZ t Kt Vt ++ (mw yI g u v th K ++ (sw yI u (kMark K) aw wh V ++ (sw yI v z1 z2 z3 z4)))) (rest := []) (As := [.ref h, .int (xs (4 * j + 1)), .ref ou]) (k_L_work l D yI yZ yL hst h a t K V ou f (xs (4 * j + 1)) hV.2.1) (vx_cwSW 3 F.hts gL_law_L_work rfl rfl rfl (by decide +kernel) ⟨Nat.le_of_ble_eq_true rfl, Nat.le_of_ble_eq_true rfl⟩) [0, 1, 2, 3, 4, 5, 6, 7, 8, 9, 10, 11, 12, 50] [13, 14, 15, 16, 17, 18, 19, 20, 21, 22, 23, 24, 25, 26, 27, 28, 29, 30, 31, 32, 33, 34, 35, 36, 37, 38, 39, 40, 41, 42, 43, 44, 45, 46, 47, 48, 49] rfl rfl (by decide) (by decide) (by decide) rfl rfl (Nat.le_of_ble_eq_true rfl) dL_law_437 ⟨(by show _ ≤ 1080; omega), (by show _ ≤ 8624; omega)⟩ (fun E1 W1 z1 => z1.elim) (fun r1 W1 z1 => ?_)
          obtain ⟨z0, f9, hf9, z1⟩ := z1
          subst z0
          subst z1
          refine xr_sub (ws' := bw h a t ++ (cw yI yZ a K (C_work V (xs (4 * j + 1))) ++ (cw yI yZ t Kt Vt ++ (mw yI g u v th K ++ (sw yI u (kMark K) aw wh V ++ (sw yI v z1 z2 z3 z4 ++ (([(ou, .inl (yL, 1, .inr (.inl f9)))] : va_W)))))))) [37, 38, 39, 40, 41, 42, 43, 44, 45, 46, 47, 48, 49, 0, 1, 2, 3, 4, 5, 6, 7, 8, 9, 10, 11, 12, 13, 14, 15, 16, 17, 18, 19, 20, 21, 22, 23, 24, 25, 26, 27, 28, 29, 30, 31, 32, 33, 34, 35, 36, 50] (by decide) rfl ?_
          refine xr_istore F [(5, .int (q_work V (xs (4 * j + 1)))), (4, .int (nI (4 * j))), (0, .ref b), (1, .ref h), (2, .ref (g 0)), (3, .ref ou)] dL_law_440 (by decide) rfl ?_
          refine xr_aload_n F dL_law_442 rfl 4 rfl ?_
          refine xr_aload_n F dL_law_443 rfl 2 rfl ?_
          refine xr_iload F dL_law_444 1 rfl ?_
          refine xr_iconst F dL_law_446 (v := 1) (by decide) ?_
          refine xr_iadd F (nI (4 * j + 1)) dL_law_447 (nI_add (4 * j) 1) ?_
          refine xr_sld F hX hbl hbA (4 * j + 1) rfl (by omega) (by omega) dL_law_448 ?_
          refine xr_callVz F (wr := bw h a t ++ (cw yI yZ a K (C_work V (xs (4 * j + 1))) ++ (cw yI yZ t Kt Vt ++ (sw yI v z1 z2 z3 z4 ++ (([(ou, .inl (yL, 1, .inr (.inl f9)))] : va_W)))))) (rest := []) (As := [.int (xs (4 * j + 1))]) (k_X3_work l D yI yZ yL g u v th K aw wh V (xs (4 * j + 1)) ) (cwV 1 F.hts gL_law_X3_work rfl rfl rfl (by decide +kernel) ⟨Nat.le_of_ble_eq_true rfl, Nat.le_of_ble_eq_true rfl⟩) (q0 := 0) rfl rfl [25, 26, 27, 28, 29, 30, 31, 32, 33, 34, 35, 36, 37, 38] [0, 1, 2, 3, 4, 5, 6, 7, 8, 9, 10, 11, 12, 13, 14, 15, 16, 17, 18, 19, 20, 21, 22, 23, 24, 39, 40, 41, 42, 43, 44, 45, 46, 47, 48, 49, 50] rfl rfl (by decide) (by decide) (by decide) rfl rfl (Nat.le_of_ble_eq_true rfl) dL_law_449 ⟨(by show _ ≤ 1080; omega), (by show _ ≤ 8624; omega)⟩ (fun r1 W1 z1 => ?_)
          obtain ⟨z0, z1⟩ := z1
          subst z0
          obtain ⟨h27, eh27⟩ : ∃ x9 : Int32, x9 = q_work V (xs (4 * j + 1)) := ⟨_, rfl⟩
          rw [← eh27] at z1
          obtain ⟨V28, eV28⟩ : ∃ x9 : CD, x9 = (m_work V aw (xs (4 * j + 1))).1 := ⟨_, rfl⟩
          rw [← eV28] at z1
          obtain ⟨x29, ex29⟩ : ∃ x9 : Int32, x9 = (m_work V aw (xs (4 * j + 1))).2 := ⟨_, rfl⟩
          rw [← ex29] at z1
          subst z1
          refine xr_sub (ws' := bw h a t ++ (cw yI yZ a K (C_work V (xs (4 * j + 1))) ++ (cw yI yZ t Kt Vt ++ (mw yI g u v h27 K ++ (sw yI u (kMark K) x29 wh V28 ++ (sw yI v z1 z2 z3 z4 ++ (([(ou, .inl (yL, 1, .inr (.inl f9)))] : va_W)))))))) [0, 1, 2, 3, 4, 5, 6, 7, 8, 9, 10, 11, 12, 13, 14, 15, 16, 17, 18, 19, 20, 21, 22, 23, 24, 37, 38, 39, 40, 41, 42, 43, 44, 45, 46, 47, 48, 49, 50, 25, 26, 27, 28, 29, 30, 31, 32, 33, 34, 35, 36] (by decide) rfl ?_
          refine xr_istore F [(6, .int (r_or0 (q_work V (xs (4 * j + 1))) (if dFull (m_work V aw (xs (4 * j + 1))).1 (ix (xs (4 * j + 1))) = 1 then 1 else 0))), (5, .int (q_work V (xs (4 * j + 1)))), (4, .int (nI (4 * j))), (0, .ref b), (1, .ref h), (2, .ref (g 0)), (3, .ref ou)] dL_law_452 (by decide) rfl ?_
          refine xr_aload_n F dL_law_454 rfl 5 rfl ?_
          refine xr_callVi F (wr := bw h a t ++ (cw yI yZ a K (C_work V (xs (4 * j + 1))) ++ (cw yI yZ t Kt Vt ++ (sw yI u (kMark K) x29 wh V28 ++ (sw yI v z1 z2 z3 z4 ++ (([(ou, .inl (yL, 1, .inr (.inl f9)))] : va_W))))))) (rest := []) (As := []) (k_X3_thrown l D yI yZ yL g u v h27 K ) (cwV 0 F.hts gL_law_X3_thrown rfl rfl rfl (by decide +kernel) ⟨Nat.le_of_ble_eq_true rfl, Nat.le_of_ble_eq_true rfl⟩) (q0 := 0) rfl rfl [25, 26, 27] [0, 1, 2, 3, 4, 5, 6, 7, 8, 9, 10, 11, 12, 13, 14, 15, 16, 17, 18, 19, 20, 21, 22, 23, 24, 28, 29, 30, 31, 32, 33, 34, 35, 36, 37, 38, 39, 40, 41, 42, 43, 44, 45, 46, 47, 48, 49, 50] rfl rfl (by decide) (by decide) (by decide) rfl rfl (Nat.le_of_ble_eq_true rfl) dL_law_455 ⟨(by show _ ≤ 1080; omega), (by show _ ≤ 8624; omega)⟩ (fun r1 W1 z1 => ?_)
          obtain ⟨z0, z1⟩ := z1
          rw [z0]
          subst z1
          refine xr_sub (ws' := bw h a t ++ (cw yI yZ a K (C_work V (xs (4 * j + 1))) ++ (cw yI yZ t Kt Vt ++ (mw yI g u v h27 K ++ (sw yI u (kMark K) x29 wh V28 ++ (sw yI v z1 z2 z3 z4 ++ (([(ou, .inl (yL, 1, .inr (.inl f9)))] : va_W)))))))) [0, 1, 2, 3, 4, 5, 6, 7, 8, 9, 10, 11, 12, 13, 14, 15, 16, 17, 18, 19, 20, 21, 22, 23, 24, 48, 49, 50, 25, 26, 27, 28, 29, 30, 31, 32, 33, 34, 35, 36, 37, 38, 39, 40, 41, 42, 43, 44, 45, 46, 47] (by decide) rfl ?_
          refine xr_iload F dL_law_458 1 rfl ?_
          refine xr_icmp_eq F 465 dL_law_460 (by decide) (fun c460 => ?_) (fun c460 => ?_)
          · skip
            refine xr_iload F dL_law_465 1 rfl ?_
            refine xr_if_ne F 489 dL_law_467 (by decide) (fun c467 => ?_) (fun c467 => ?_)
            · skip
              refine xr_goto F 1204 dL_law_489 (by decide) ?_
              refine xr_iinc F (nI (4 * (j + 1))) [(4, .int (nI (4 * (j + 1)))), (6, .int (r_or0 (q_work V (xs (4 * j + 1))) (if dFull (m_work V aw (xs (4 * j + 1))).1 (ix (xs (4 * j + 1))) = 1 then 1 else 0))), (5, .int (q_work V (xs (4 * j + 1)))), (0, .ref b), (1, .ref h), (2, .ref (g 0)), (3, .ref ou)] dL_law_1204 2 rfl (nI_add (4 * j) 4) (by decide) rfl ?_
              refine xr_goto F 23 dL_law_1207 (by decide) ?_
              refine xr_lv (lv' := [(4, .int (nI (4 * (j + 1)))), (0, .ref b), (1, .ref h), (2, .ref (g 0)), (3, .ref ou)]) [0, 3, 4, 5, 6] rfl ?_
              refine xr_ws (ws' := bw h a t ++ (cw yI yZ a K (C_work V (xs (4 * j + 1))) ++ (cw yI yZ t Kt Vt ++ (mw yI g u v h27 K ++ (sw yI u (kMark K) ((m_work V aw (xs (4 * j + 1))).2) wh (C_work V (xs (4 * j + 1))) ++ (sw yI v z1 z2 z3 z4 ++ (([(ou, .inl (yL, 1, .inr (.inl f9)))] : va_W)))))))) (by rw [ex29, eV28, (work_eq (xs (4 * j + 1)) hV).1]) ?_
              refine xr_widen (k := 51 + (j + 1)) (n := 402 + 6 * (j + 1)) (by omega) (by omega) ?_
              exact ih (j + 1) K (C_work V (xs (4 * j + 1))) ((m_work V aw (xs (4 * j + 1))).2) wh h27 Kt Vt z1 z2 z3 z4 f9 (by omega) hK (work_eq (xs (4 * j + 1)) hV).2.1 (by rw [(work_eq (xs (4 * j + 1)) hV).2.2]; omega)
            · skip
              refine xr_aload_n F dL_law_470 rfl 6 rfl ?_
              refine xr_iconst F dL_law_471 (v := 0) (by decide) ?_
              refine xr_lald F 50 2 rfl rfl (0) rfl (by decide) (by decide) dL_law_472 ?_
              refine xr_iload F dL_law_473 0 rfl ?_
              refine xr_if_eq F 482 dL_law_475 (by decide) (fun c475 => ?_) (fun c475 => ?_)
              · skip
                refine xr_lconst F dL_law_482 (v := 0) (by decide) ?_
                refine xr_lcmp F dL_law_483 ?_
                refine xr_if_eq F 489 dL_law_484 (by decide) (fun c484 => ?_) (fun c484 => ?_)
                · skip
                  refine xr_goto F 1204 dL_law_489 (by decide) ?_
                  refine xr_iinc F (nI (4 * (j + 1))) [(4, .int (nI (4 * (j + 1)))), (6, .int (r_or0 (q_work V (xs (4 * j + 1))) (if dFull (m_work V aw (xs (4 * j + 1))).1 (ix (xs (4 * j + 1))) = 1 then 1 else 0))), (5, .int (q_work V (xs (4 * j + 1)))), (0, .ref b), (1, .ref h), (2, .ref (g 0)), (3, .ref ou)] dL_law_1204 2 rfl (nI_add (4 * j) 4) (by decide) rfl ?_
                  refine xr_goto F 23 dL_law_1207 (by decide) ?_
                  refine xr_lv (lv' := [(4, .int (nI (4 * (j + 1)))), (0, .ref b), (1, .ref h), (2, .ref (g 0)), (3, .ref ou)]) [0, 3, 4, 5, 6] rfl ?_
                  refine xr_ws (ws' := bw h a t ++ (cw yI yZ a K (C_work V (xs (4 * j + 1))) ++ (cw yI yZ t Kt Vt ++ (mw yI g u v h27 K ++ (sw yI u (kMark K) ((m_work V aw (xs (4 * j + 1))).2) wh (C_work V (xs (4 * j + 1))) ++ (sw yI v z1 z2 z3 z4 ++ (([(ou, .inl (yL, 1, .inr (.inl f9)))] : va_W)))))))) (by rw [ex29, eV28, (work_eq (xs (4 * j + 1)) hV).1]) ?_
                  refine xr_widen (k := 51 + (j + 1)) (n := 402 + 6 * (j + 1)) (by omega) (by omega) ?_
                  exact ih (j + 1) K (C_work V (xs (4 * j + 1))) ((m_work V aw (xs (4 * j + 1))).2) wh h27 Kt Vt z1 z2 z3 z4 f9 (by omega) hK (work_eq (xs (4 * j + 1)) hV).2.1 (by rw [(work_eq (xs (4 * j + 1)) hV).2.2]; omega)
                · exact absurd ((work_e hV c467 hf9).1 c475) c484
              · skip
                refine xr_lconst F dL_law_478 (v := 1) (by decide) ?_
                refine xr_goto F 483 dL_law_479 (by decide) ?_
                refine xr_lcmp F dL_law_483 ?_
                refine xr_if_eq F 489 dL_law_484 (by decide) (fun c484 => ?_) (fun c484 => ?_)
                · skip
                  refine xr_goto F 1204 dL_law_489 (by decide) ?_
                  refine xr_iinc F (nI (4 * (j + 1))) [(4, .int (nI (4 * (j + 1)))), (6, .int (r_or0 (q_work V (xs (4 * j + 1))) (if dFull (m_work V aw (xs (4 * j + 1))).1 (ix (xs (4 * j + 1))) = 1 then 1 else 0))), (5, .int (q_work V (xs (4 * j + 1)))), (0, .ref b), (1, .ref h), (2, .ref (g 0)), (3, .ref ou)] dL_law_1204 2 rfl (nI_add (4 * j) 4) (by decide) rfl ?_
                  refine xr_goto F 23 dL_law_1207 (by decide) ?_
                  refine xr_lv (lv' := [(4, .int (nI (4 * (j + 1)))), (0, .ref b), (1, .ref h), (2, .ref (g 0)), (3, .ref ou)]) [0, 3, 4, 5, 6] rfl ?_
                  refine xr_ws (ws' := bw h a t ++ (cw yI yZ a K (C_work V (xs (4 * j + 1))) ++ (cw yI yZ t Kt Vt ++ (mw yI g u v h27 K ++ (sw yI u (kMark K) ((m_work V aw (xs (4 * j + 1))).2) wh (C_work V (xs (4 * j + 1))) ++ (sw yI v z1 z2 z3 z4 ++ (([(ou, .inl (yL, 1, .inr (.inl f9)))] : va_W)))))))) (by rw [ex29, eV28, (work_eq (xs (4 * j + 1)) hV).1]) ?_
                  refine xr_widen (k := 51 + (j + 1)) (n := 402 + 6 * (j + 1)) (by omega) (by omega) ?_
                  exact ih (j + 1) K (C_work V (xs (4 * j + 1))) ((m_work V aw (xs (4 * j + 1))).2) wh h27 Kt Vt z1 z2 z3 z4 f9 (by omega) hK (work_eq (xs (4 * j + 1)) hV).2.1 (by rw [(work_eq (xs (4 * j + 1)) hV).2.2]; omega)
                · exact absurd ((work_e hV c467 hf9).2 c475) c484
          · exact absurd eh27 c460
        · skip
          refine xr_tableIn F (off := 453) 492 dL_law_39 (by decide) (by decide) (by decide) (by decide) ?_
          refine xr_aload_n F dL_law_492 rfl 2 rfl ?_
          refine xr_aload_n F dL_law_493 rfl 1 rfl ?_
          refine xr_iload F dL_law_494 0 rfl ?_
          refine xr_iconst F dL_law_496 (v := 1) (by decide) ?_
          refine xr_iadd F (nI (4 * j + 1)) dL_law_497 (nI_add (4 * j) 1) ?_
          refine xr_sld F hX hbl hbA (4 * j + 1) rfl (by omega) (by omega) dL_law_498 ?_
          refine xr_aload_n F dL_law_499 rfl 1 rfl ?_
          refine xr_iload F dL_law_500 0 rfl ?_
          refine xr_iconst F dL_law_502 (v := 2) (by decide) ?_
          refine xr_iadd F (nI (4 * j + 2)) dL_law_503 (nI_add (4 * j) 2) ?_
          refine xr_sld F hX hbl hbA (4 * j + 2) rfl (by omega) (by omega) dL_law_504 ?_
          refine xr_aload_n F dL_law_505 rfl 1 rfl ?_
          refine xr_iload F dL_law_506 0 rfl ?_
          refine xr_iconst F dL_law_508 (v := 3) (by decide) ?_
          refine xr_iadd F (nI (4 * j + 3)) dL_law_509 (nI_add (4 * j) 3) ?_
          refine xr_sld F hX hbl hbA (4 * j + 3) rfl (by omega) (by omega) dL_law_510 ?_
          refine xr_aload_n F dL_law_511 rfl 4 rfl ?_
          refine xr_callXHi F G (wr := cw yI yZ t Kt Vt ++ (mw yI g u v th K ++ (sw yI u (kMark K) aw wh V ++ (sw yI v z1 z2 z3 z4)))) (rest := []) (As := [.ref h, .int (xs (4 * j + 1)), .int (xs (4 * j + 2)), .int (xs (4 * j + 3)), .ref ou]) (k_L_barge l D yI yZ yL hst h a t K V ou f (xs (4 * j + 1)) (xs (4 * j + 2)) (xs (4 * j + 3)) k1) (vx_cwSW 5 F.hts gL_law_L_barge rfl rfl rfl (by decide +kernel) ⟨Nat.le_of_ble_eq_true rfl, Nat.le_of_ble_eq_true rfl⟩) [0, 1, 2, 3, 4, 5, 6, 7, 8, 9, 10, 11, 12, 50] [13, 14, 15, 16, 17, 18, 19, 20, 21, 22, 23, 24, 25, 26, 27, 28, 29, 30, 31, 32, 33, 34, 35, 36, 37, 38, 39, 40, 41, 42, 43, 44, 45, 46, 47, 48, 49] rfl rfl (by decide) (by decide) (by decide) rfl rfl (Nat.le_of_ble_eq_true rfl) dL_law_512 ⟨(by show _ ≤ 1080; omega), (by show _ ≤ 8624; omega)⟩ (fun E1 W1 z1 => z1.elim) (fun r1 W1 z1 => ?_)
          obtain ⟨z0, f9, hf9, z1⟩ := z1
          subst z0
          subst z1
          refine xr_sub (ws' := bw h a t ++ (cw yI yZ a (K_barge K (xs (4 * j + 1)) (xs (4 * j + 2)) (xs (4 * j + 3))) (V_barge K V (xs (4 * j + 1)) (xs (4 * j + 2)) (xs (4 * j + 3))) ++ (cw yI yZ t Kt Vt ++ (mw yI g u v th K ++ (sw yI u (kMark K) aw wh V ++ (sw yI v z1 z2 z3 z4 ++ (([(ou, .inl (yL, 1, .inr (.inl f9)))] : va_W)))))))) [37, 38, 39, 40, 41, 42, 43, 44, 45, 46, 47, 48, 49, 0, 1, 2, 3, 4, 5, 6, 7, 8, 9, 10, 11, 12, 13, 14, 15, 16, 17, 18, 19, 20, 21, 22, 23, 24, 25, 26, 27, 28, 29, 30, 31, 32, 33, 34, 35, 36, 50] (by decide) rfl ?_
          refine xr_istore F [(5, .int (q_barge K (xs (4 * j + 1)) (xs (4 * j + 2)) (xs (4 * j + 3)))), (4, .int (nI (4 * j))), (0, .ref b), (1, .ref h), (2, .ref (g 0)), (3, .ref ou)] dL_law_515 (by decide) rfl ?_
          refine xr_aload_n F dL_law_517 rfl 4 rfl ?_
          refine xr_aload_n F dL_law_518 rfl 2 rfl ?_
          refine xr_iload F dL_law_519 1 rfl ?_
          refine xr_iconst F dL_law_521 (v := 1) (by decide) ?_
          refine xr_iadd F (nI (4 * j + 1)) dL_law_522 (nI_add (4 * j) 1) ?_
          refine xr_sld F hX hbl hbA (4 * j + 1) rfl (by omega) (by omega) dL_law_523 ?_
          refine xr_aload_n F dL_law_524 rfl 2 rfl ?_
          refine xr_iload F dL_law_525 1 rfl ?_
          refine xr_iconst F dL_law_527 (v := 2) (by decide) ?_
          refine xr_iadd F (nI (4 * j + 2)) dL_law_528 (nI_add (4 * j) 2) ?_
          refine xr_sld F hX hbl hbA (4 * j + 2) rfl (by omega) (by omega) dL_law_529 ?_
          refine xr_aload_n F dL_law_530 rfl 2 rfl ?_
          refine xr_iload F dL_law_531 1 rfl ?_
          refine xr_iconst F dL_law_533 (v := 3) (by decide) ?_
          refine xr_iadd F (nI (4 * j + 3)) dL_law_534 (nI_add (4 * j) 3) ?_
          refine xr_sld F hX hbl hbA (4 * j + 3) rfl (by omega) (by omega) dL_law_535 ?_
          refine xr_callVi F (wr := bw h a t ++ (cw yI yZ a (K_barge K (xs (4 * j + 1)) (xs (4 * j + 2)) (xs (4 * j + 3))) (V_barge K V (xs (4 * j + 1)) (xs (4 * j + 2)) (xs (4 * j + 3))) ++ (cw yI yZ t Kt Vt ++ (sw yI v z1 z2 z3 z4 ++ (([(ou, .inl (yL, 1, .inr (.inl f9)))] : va_W)))))) (rest := []) (As := [.int (xs (4 * j + 1)), .int (xs (4 * j + 2)), .int (xs (4 * j + 3))]) (k_X3_barge l D yI yZ yL g u v th K aw wh V (xs (4 * j + 1)) (xs (4 * j + 2)) (xs (4 * j + 3)) (by assumption)) (cwV 3 F.hts gL_law_X3_barge rfl rfl rfl (by decide +kernel) ⟨Nat.le_of_ble_eq_true rfl, Nat.le_of_ble_eq_true rfl⟩) (q0 := 0) rfl rfl [25, 26, 27, 28, 29, 30, 31, 32, 33, 34, 35, 36, 37, 38] [0, 1, 2, 3, 4, 5, 6, 7, 8, 9, 10, 11, 12, 13, 14, 15, 16, 17, 18, 19, 20, 21, 22, 23, 24, 39, 40, 41, 42, 43, 44, 45, 46, 47, 48, 49, 50] rfl rfl (by decide) (by decide) (by decide) rfl rfl (Nat.le_of_ble_eq_true rfl) dL_law_536 ⟨(by show _ ≤ 1080; omega), (by show _ ≤ 8624; omega)⟩ (fun r1 W1 z1 => ?_)
          obtain ⟨z0, z1⟩ := z1
          subst z0
          obtain ⟨h30, eh30⟩ : ∃ x9 : Int32, x9 = q_barge K (xs (4 * j + 1)) (xs (4 * j + 2)) (xs (4 * j + 3)) := ⟨_, rfl⟩
          rw [← eh30] at z1
          obtain ⟨K31, eK31⟩ : ∃ x9 : CK, x9 = K_barge K (xs (4 * j + 1)) (xs (4 * j + 2)) (xs (4 * j + 3)) := ⟨_, rfl⟩
          rw [← eK31] at z1
          obtain ⟨V32, eV32⟩ : ∃ x9 : CD, x9 = V_barge K V (xs (4 * j + 1)) (xs (4 * j + 2)) (xs (4 * j + 3)) := ⟨_, rfl⟩
          rw [← eV32] at z1
          subst z1
          refine xr_sub (ws' := bw h a t ++ (cw yI yZ a (K_barge K (xs (4 * j + 1)) (xs (4 * j + 2)) (xs (4 * j + 3))) (V_barge K V (xs (4 * j + 1)) (xs (4 * j + 2)) (xs (4 * j + 3))) ++ (cw yI yZ t Kt Vt ++ (mw yI g u v h30 K31 ++ (sw yI u (kMark K) aw wh V32 ++ (sw yI v z1 z2 z3 z4 ++ (([(ou, .inl (yL, 1, .inr (.inl f9)))] : va_W)))))))) [0, 1, 2, 3, 4, 5, 6, 7, 8, 9, 10, 11, 12, 13, 14, 15, 16, 17, 18, 19, 20, 21, 22, 23, 24, 37, 38, 39, 40, 41, 42, 43, 44, 45, 46, 47, 48, 49, 50, 25, 26, 27, 28, 29, 30, 31, 32, 33, 34, 35, 36] (by decide) rfl ?_
          refine xr_istore F [(6, .int (r_or0 (q_barge K (xs (4 * j + 1)) (xs (4 * j + 2)) (xs (4 * j + 3))) (nI (kNb K)))), (5, .int (q_barge K (xs (4 * j + 1)) (xs (4 * j + 2)) (xs (4 * j + 3)))), (4, .int (nI (4 * j))), (0, .ref b), (1, .ref h), (2, .ref (g 0)), (3, .ref ou)] dL_law_539 (by decide) rfl ?_
          refine xr_aload_n F dL_law_541 rfl 5 rfl ?_
          refine xr_callVi F (wr := bw h a t ++ (cw yI yZ a (K_barge K (xs (4 * j + 1)) (xs (4 * j + 2)) (xs (4 * j + 3))) (V_barge K V (xs (4 * j + 1)) (xs (4 * j + 2)) (xs (4 * j + 3))) ++ (cw yI yZ t Kt Vt ++ (sw yI u (kMark K) aw wh V32 ++ (sw yI v z1 z2 z3 z4 ++ (([(ou, .inl (yL, 1, .inr (.inl f9)))] : va_W))))))) (rest := []) (As := []) (k_X3_thrown l D yI yZ yL g u v h30 K31 ) (cwV 0 F.hts gL_law_X3_thrown rfl rfl rfl (by decide +kernel) ⟨Nat.le_of_ble_eq_true rfl, Nat.le_of_ble_eq_true rfl⟩) (q0 := 0) rfl rfl [25, 26, 27] [0, 1, 2, 3, 4, 5, 6, 7, 8, 9, 10, 11, 12, 13, 14, 15, 16, 17, 18, 19, 20, 21, 22, 23, 24, 28, 29, 30, 31, 32, 33, 34, 35, 36, 37, 38, 39, 40, 41, 42, 43, 44, 45, 46, 47, 48, 49, 50] rfl rfl (by decide) (by decide) (by decide) rfl rfl (Nat.le_of_ble_eq_true rfl) dL_law_542 ⟨(by show _ ≤ 1080; omega), (by show _ ≤ 8624; omega)⟩ (fun r1 W1 z1 => ?_)
          obtain ⟨z0, z1⟩ := z1
          rw [z0]
          subst z1
          refine xr_sub (ws' := bw h a t ++ (cw yI yZ a (K_barge K (xs (4 * j + 1)) (xs (4 * j + 2)) (xs (4 * j + 3))) (V_barge K V (xs (4 * j + 1)) (xs (4 * j + 2)) (xs (4 * j + 3))) ++ (cw yI yZ t Kt Vt ++ (mw yI g u v h30 K31 ++ (sw yI u (kMark K) aw wh V32 ++ (sw yI v z1 z2 z3 z4 ++ (([(ou, .inl (yL, 1, .inr (.inl f9)))] : va_W)))))))) [0, 1, 2, 3, 4, 5, 6, 7, 8, 9, 10, 11, 12, 13, 14, 15, 16, 17, 18, 19, 20, 21, 22, 23, 24, 48, 49, 50, 25, 26, 27, 28, 29, 30, 31, 32, 33, 34, 35, 36, 37, 38, 39, 40, 41, 42, 43, 44, 45, 46, 47] (by decide) rfl ?_
          refine xr_iload F dL_law_545 1 rfl ?_
          refine xr_icmp_eq F 552 dL_law_547 (by decide) (fun c547 => ?_) (fun c547 => ?_)
          · skip
            refine xr_iload F dL_law_552 1 rfl ?_
            refine xr_if_ne F 569 dL_law_554 (by decide) (fun c554 => ?_) (fun c554 => ?_)
            · skip
              refine xr_goto F 1204 dL_law_569 (by decide) ?_
              refine xr_iinc F (nI (4 * (j + 1))) [(4, .int (nI (4 * (j + 1)))), (6, .int (r_or0 (q_barge K (xs (4 * j + 1)) (xs (4 * j + 2)) (xs (4 * j + 3))) (nI (kNb K)))), (5, .int (q_barge K (xs (4 * j + 1)) (xs (4 * j + 2)) (xs (4 * j + 3)))), (0, .ref b), (1, .ref h), (2, .ref (g 0)), (3, .ref ou)] dL_law_1204 2 rfl (nI_add (4 * j) 4) (by decide) rfl ?_
              refine xr_goto F 23 dL_law_1207 (by decide) ?_
              refine xr_lv (lv' := [(4, .int (nI (4 * (j + 1)))), (0, .ref b), (1, .ref h), (2, .ref (g 0)), (3, .ref ou)]) [0, 3, 4, 5, 6] rfl ?_
              refine xr_ws (ws' := bw h a t ++ (cw yI yZ a (K_barge K (xs (4 * j + 1)) (xs (4 * j + 2)) (xs (4 * j + 3))) (V_barge K V (xs (4 * j + 1)) (xs (4 * j + 2)) (xs (4 * j + 3))) ++ (cw yI yZ t Kt Vt ++ (mw yI g u v h30 (K_barge K (xs (4 * j + 1)) (xs (4 * j + 2)) (xs (4 * j + 3))) ++ (sw yI u (kMark (K_barge K (xs (4 * j + 1)) (xs (4 * j + 2)) (xs (4 * j + 3)))) aw wh (V_barge K V (xs (4 * j + 1)) (xs (4 * j + 2)) (xs (4 * j + 3))) ++ (sw yI v z1 z2 z3 z4 ++ (([(ou, .inl (yL, 1, .inr (.inl f9)))] : va_W)))))))) (by rw [eV32, eK31, kMark_barge]) ?_
              refine xr_widen (k := 51 + (j + 1)) (n := 402 + 6 * (j + 1)) (by omega) (by omega) ?_
              exact ih (j + 1) (K_barge K (xs (4 * j + 1)) (xs (4 * j + 2)) (xs (4 * j + 3))) (V_barge K V (xs (4 * j + 1)) (xs (4 * j + 2)) (xs (4 * j + 3))) aw wh h30 Kt Vt z1 z2 z3 z4 f9 (by omega) (ok_bargeK _ _ _ hK) (ok_bargeV _ _ _ hV) (by rw [(dHour_barge K V (xs (4 * j + 1)) (xs (4 * j + 2)) (xs (4 * j + 3)))]; omega)
            · skip
              refine xr_aload_n F dL_law_557 rfl 6 rfl ?_
              refine xr_iconst F dL_law_558 (v := 0) (by decide) ?_
              refine xr_lald F 50 2 rfl rfl (0) rfl (by decide) (by decide) dL_law_559 ?_
              refine xr_iload F dL_law_560 0 rfl ?_
              refine xr_i2l F dL_law_562 (v := (r_or0 (q_barge K (xs (4 * j + 1)) (xs (4 * j + 2)) (xs (4 * j + 3))) (nI (kNb K))).toInt64) rfl ?_
              refine xr_lcmp F dL_law_563 ?_
              refine xr_if_eq F 569 dL_law_564 (by decide) (fun c564 => ?_) (fun c564 => ?_)
              · skip
                refine xr_goto F 1204 dL_law_569 (by decide) ?_
                refine xr_iinc F (nI (4 * (j + 1))) [(4, .int (nI (4 * (j + 1)))), (6, .int (r_or0 (q_barge K (xs (4 * j + 1)) (xs (4 * j + 2)) (xs (4 * j + 3))) (nI (kNb K)))), (5, .int (q_barge K (xs (4 * j + 1)) (xs (4 * j + 2)) (xs (4 * j + 3)))), (0, .ref b), (1, .ref h), (2, .ref (g 0)), (3, .ref ou)] dL_law_1204 2 rfl (nI_add (4 * j) 4) (by decide) rfl ?_
                refine xr_goto F 23 dL_law_1207 (by decide) ?_
                refine xr_lv (lv' := [(4, .int (nI (4 * (j + 1)))), (0, .ref b), (1, .ref h), (2, .ref (g 0)), (3, .ref ou)]) [0, 3, 4, 5, 6] rfl ?_
                refine xr_ws (ws' := bw h a t ++ (cw yI yZ a (K_barge K (xs (4 * j + 1)) (xs (4 * j + 2)) (xs (4 * j + 3))) (V_barge K V (xs (4 * j + 1)) (xs (4 * j + 2)) (xs (4 * j + 3))) ++ (cw yI yZ t Kt Vt ++ (mw yI g u v h30 (K_barge K (xs (4 * j + 1)) (xs (4 * j + 2)) (xs (4 * j + 3))) ++ (sw yI u (kMark (K_barge K (xs (4 * j + 1)) (xs (4 * j + 2)) (xs (4 * j + 3)))) aw wh (V_barge K V (xs (4 * j + 1)) (xs (4 * j + 2)) (xs (4 * j + 3))) ++ (sw yI v z1 z2 z3 z4 ++ (([(ou, .inl (yL, 1, .inr (.inl f9)))] : va_W)))))))) (by rw [eV32, eK31, kMark_barge]) ?_
                refine xr_widen (k := 51 + (j + 1)) (n := 402 + 6 * (j + 1)) (by omega) (by omega) ?_
                exact ih (j + 1) (K_barge K (xs (4 * j + 1)) (xs (4 * j + 2)) (xs (4 * j + 3))) (V_barge K V (xs (4 * j + 1)) (xs (4 * j + 2)) (xs (4 * j + 3))) aw wh h30 Kt Vt z1 z2 z3 z4 f9 (by omega) (ok_bargeK _ _ _ hK) (ok_bargeV _ _ _ hV) (by rw [(dHour_barge K V (xs (4 * j + 1)) (xs (4 * j + 2)) (xs (4 * j + 3)))]; omega)
              · exact absurd (law_cmp hf9 c554 rfl) c564
          · exact absurd eh30 c547
        · skip
          refine xr_tableIn F (off := 533) 572 dL_law_39 (by decide) (by decide) (by decide) (by decide) ?_
          refine xr_aload_n F dL_law_572 rfl 2 rfl ?_
          refine xr_aload_n F dL_law_573 rfl 1 rfl ?_
          refine xr_iload F dL_law_574 0 rfl ?_
          refine xr_iconst F dL_law_576 (v := 1) (by decide) ?_
          refine xr_iadd F (nI (4 * j + 1)) dL_law_577 (nI_add (4 * j) 1) ?_
          refine xr_sld F hX hbl hbA (4 * j + 1) rfl (by omega) (by omega) dL_law_578 ?_
          refine xr_aload_n F dL_law_579 rfl 1 rfl ?_
          refine xr_iload F dL_law_580 0 rfl ?_
          refine xr_iconst F dL_law_582 (v := 2) (by decide) ?_
          refine xr_iadd F (nI (4 * j + 2)) dL_law_583 (nI_add (4 * j) 2) ?_
          refine xr_sld F hX hbl hbA (4 * j + 2) rfl (by omega) (by omega) dL_law_584 ?_
          refine xr_aload_n F dL_law_585 rfl 4 rfl ?_
          refine xr_callXHi F G (wr := cw yI yZ t Kt Vt ++ (mw yI g u v th K ++ (sw yI u (kMark K) aw wh V ++ (sw yI v z1 z2 z3 z4)))) (rest := []) (As := [.ref h, .int (xs (4 * j + 1)), .int (xs (4 * j + 2)), .ref ou]) (k_L_send l D yI yZ yL hst h a t K V ou f (xs (4 * j + 1)) (xs (4 * j + 2)) k1) (vx_cwSW 4 F.hts gL_law_L_send rfl rfl rfl (by decide +kernel) ⟨Nat.le_of_ble_eq_true rfl, Nat.le_of_ble_eq_true rfl⟩) [0, 1, 2, 3, 4, 5, 6, 7, 8, 9, 10, 11, 12, 50] [13, 14, 15, 16, 17, 18, 19, 20, 21, 22, 23, 24, 25, 26, 27, 28, 29, 30, 31, 32, 33, 34, 35, 36, 37, 38, 39, 40, 41, 42, 43, 44, 45, 46, 47, 48, 49] rfl rfl (by decide) (by decide) (by decide) rfl rfl (Nat.le_of_ble_eq_true rfl) dL_law_586 ⟨(by show _ ≤ 1080; omega), (by show _ ≤ 8624; omega)⟩ (fun E1 W1 z1 => z1.elim) (fun r1 W1 z1 => ?_)
          obtain ⟨z0, f9, hf9, z1⟩ := z1
          subst z0
          subst z1
          refine xr_sub (ws' := bw h a t ++ (cw yI yZ a (K_send K (xs (4 * j + 1)) (xs (4 * j + 2))) V ++ (cw yI yZ t Kt Vt ++ (mw yI g u v th K ++ (sw yI u (kMark K) aw wh V ++ (sw yI v z1 z2 z3 z4 ++ (([(ou, .inl (yL, 1, .inr (.inl f9)))] : va_W)))))))) [37, 38, 39, 40, 41, 42, 43, 44, 45, 46, 47, 48, 49, 0, 1, 2, 3, 4, 5, 6, 7, 8, 9, 10, 11, 12, 13, 14, 15, 16, 17, 18, 19, 20, 21, 22, 23, 24, 25, 26, 27, 28, 29, 30, 31, 32, 33, 34, 35, 36, 50] (by decide) rfl ?_
          refine xr_istore F [(5, .int (q_send K (xs (4 * j + 1)) (xs (4 * j + 2)))), (4, .int (nI (4 * j))), (0, .ref b), (1, .ref h), (2, .ref (g 0)), (3, .ref ou)] dL_law_589 (by decide) rfl ?_
          refine xr_aload_n F dL_law_591 rfl 4 rfl ?_
          refine xr_aload_n F dL_law_592 rfl 2 rfl ?_
          refine xr_iload F dL_law_593 1 rfl ?_
          refine xr_iconst F dL_law_595 (v := 1) (by decide) ?_
          refine xr_iadd F (nI (4 * j + 1)) dL_law_596 (nI_add (4 * j) 1) ?_
          refine xr_sld F hX hbl hbA (4 * j + 1) rfl (by omega) (by omega) dL_law_597 ?_
          refine xr_aload_n F dL_law_598 rfl 2 rfl ?_
          refine xr_iload F dL_law_599 1 rfl ?_
          refine xr_iconst F dL_law_601 (v := 2) (by decide) ?_
          refine xr_iadd F (nI (4 * j + 2)) dL_law_602 (nI_add (4 * j) 2) ?_
          refine xr_sld F hX hbl hbA (4 * j + 2) rfl (by omega) (by omega) dL_law_603 ?_
          refine xr_callVi F (wr := bw h a t ++ (cw yI yZ a (K_send K (xs (4 * j + 1)) (xs (4 * j + 2))) V ++ (cw yI yZ t Kt Vt ++ (sw yI u (kMark K) aw wh V ++ (sw yI v z1 z2 z3 z4 ++ (([(ou, .inl (yL, 1, .inr (.inl f9)))] : va_W))))))) (rest := []) (As := [.int (xs (4 * j + 1)), .int (xs (4 * j + 2))]) (k_X3_send l D yI yZ yL g u v th K (xs (4 * j + 1)) (xs (4 * j + 2)) (by assumption)) (cwV 2 F.hts gL_law_X3_send rfl rfl rfl (by decide +kernel) ⟨Nat.le_of_ble_eq_true rfl, Nat.le_of_ble_eq_true rfl⟩) (q0 := 0) rfl rfl [25, 26, 27] [0, 1, 2, 3, 4, 5, 6, 7, 8, 9, 10, 11, 12, 13, 14, 15, 16, 17, 18, 19, 20, 21, 22, 23, 24, 28, 29, 30, 31, 32, 33, 34, 35, 36, 37, 38, 39, 40, 41, 42, 43, 44, 45, 46, 47, 48, 49, 50] rfl rfl (by decide) (by decide) (by decide) rfl rfl (Nat.le_of_ble_eq_true rfl) dL_law_604 ⟨(by show _ ≤ 1080; omega), (by show _ ≤ 8624; omega)⟩ (fun r1 W1 z1 => ?_)
          obtain ⟨z0, z1⟩ := z1
          subst z0
          obtain ⟨h33, eh33⟩ : ∃ x9 : Int32, x9 = q_send K (xs (4 * j + 1)) (xs (4 * j + 2)) := ⟨_, rfl⟩
          rw [← eh33] at z1
          obtain ⟨K34, eK34⟩ : ∃ x9 : CK, x9 = K_send K (xs (4 * j + 1)) (xs (4 * j + 2)) := ⟨_, rfl⟩
          rw [← eK34] at z1
          subst z1
          refine xr_sub (ws' := bw h a t ++ (cw yI yZ a (K_send K (xs (4 * j + 1)) (xs (4 * j + 2))) V ++ (cw yI yZ t Kt Vt ++ (mw yI g u v h33 K34 ++ (sw yI u (kMark K) aw wh V ++ (sw yI v z1 z2 z3 z4 ++ (([(ou, .inl (yL, 1, .inr (.inl f9)))] : va_W)))))))) [0, 1, 2, 3, 4, 5, 6, 7, 8, 9, 10, 11, 12, 13, 14, 15, 16, 17, 18, 19, 20, 21, 22, 23, 24, 48, 49, 50, 25, 26, 27, 28, 29, 30, 31, 32, 33, 34, 35, 36, 37, 38, 39, 40, 41, 42, 43, 44, 45, 46, 47] (by decide) rfl ?_
          refine xr_istore F [(6, .int (r_or0 (q_send K (xs (4 * j + 1)) (xs (4 * j + 2))) (kGoal K (ix (xs (4 * j + 1)))))), (5, .int (q_send K (xs (4 * j + 1)) (xs (4 * j + 2)))), (4, .int (nI (4 * j))), (0, .ref b), (1, .ref h), (2, .ref (g 0)), (3, .ref ou)] dL_law_607 (by decide) rfl ?_
          refine xr_aload_n F dL_law_609 rfl 5 rfl ?_
          refine xr_callVi F (wr := bw h a t ++ (cw yI yZ a (K_send K (xs (4 * j + 1)) (xs (4 * j + 2))) V ++ (cw yI yZ t Kt Vt ++ (sw yI u (kMark K) aw wh V ++ (sw yI v z1 z2 z3 z4 ++ (([(ou, .inl (yL, 1, .inr (.inl f9)))] : va_W))))))) (rest := []) (As := []) (k_X3_thrown l D yI yZ yL g u v h33 K34 ) (cwV 0 F.hts gL_law_X3_thrown rfl rfl rfl (by decide +kernel) ⟨Nat.le_of_ble_eq_true rfl, Nat.le_of_ble_eq_true rfl⟩) (q0 := 0) rfl rfl [25, 26, 27] [0, 1, 2, 3, 4, 5, 6, 7, 8, 9, 10, 11, 12, 13, 14, 15, 16, 17, 18, 19, 20, 21, 22, 23, 24, 28, 29, 30, 31, 32, 33, 34, 35, 36, 37, 38, 39, 40, 41, 42, 43, 44, 45, 46, 47, 48, 49, 50] rfl rfl (by decide) (by decide) (by decide) rfl rfl (Nat.le_of_ble_eq_true rfl) dL_law_610 ⟨(by show _ ≤ 1080; omega), (by show _ ≤ 8624; omega)⟩ (fun r1 W1 z1 => ?_)
          obtain ⟨z0, z1⟩ := z1
          rw [z0]
          subst z1
          refine xr_sub (ws' := bw h a t ++ (cw yI yZ a (K_send K (xs (4 * j + 1)) (xs (4 * j + 2))) V ++ (cw yI yZ t Kt Vt ++ (mw yI g u v h33 K34 ++ (sw yI u (kMark K) aw wh V ++ (sw yI v z1 z2 z3 z4 ++ (([(ou, .inl (yL, 1, .inr (.inl f9)))] : va_W)))))))) [0, 1, 2, 3, 4, 5, 6, 7, 8, 9, 10, 11, 12, 13, 14, 15, 16, 17, 18, 19, 20, 21, 22, 23, 24, 48, 49, 50, 25, 26, 27, 28, 29, 30, 31, 32, 33, 34, 35, 36, 37, 38, 39, 40, 41, 42, 43, 44, 45, 46, 47] (by decide) rfl ?_
          refine xr_iload F dL_law_613 1 rfl ?_
          refine xr_icmp_eq F 620 dL_law_615 (by decide) (fun c615 => ?_) (fun c615 => ?_)
          · skip
            refine xr_iload F dL_law_620 1 rfl ?_
            refine xr_if_ne F 637 dL_law_622 (by decide) (fun c622 => ?_) (fun c622 => ?_)
            · skip
              refine xr_goto F 1204 dL_law_637 (by decide) ?_
              refine xr_iinc F (nI (4 * (j + 1))) [(4, .int (nI (4 * (j + 1)))), (6, .int (r_or0 (q_send K (xs (4 * j + 1)) (xs (4 * j + 2))) (kGoal K (ix (xs (4 * j + 1)))))), (5, .int (q_send K (xs (4 * j + 1)) (xs (4 * j + 2)))), (0, .ref b), (1, .ref h), (2, .ref (g 0)), (3, .ref ou)] dL_law_1204 2 rfl (nI_add (4 * j) 4) (by decide) rfl ?_
              refine xr_goto F 23 dL_law_1207 (by decide) ?_
              refine xr_lv (lv' := [(4, .int (nI (4 * (j + 1)))), (0, .ref b), (1, .ref h), (2, .ref (g 0)), (3, .ref ou)]) [0, 3, 4, 5, 6] rfl ?_
              refine xr_ws (ws' := bw h a t ++ (cw yI yZ a (K_send K (xs (4 * j + 1)) (xs (4 * j + 2))) V ++ (cw yI yZ t Kt Vt ++ (mw yI g u v h33 (K_send K (xs (4 * j + 1)) (xs (4 * j + 2))) ++ (sw yI u (kMark (K_send K (xs (4 * j + 1)) (xs (4 * j + 2)))) aw wh V ++ (sw yI v z1 z2 z3 z4 ++ (([(ou, .inl (yL, 1, .inr (.inl f9)))] : va_W)))))))) (by rw [eK34, kMark_send]) ?_
              refine xr_widen (k := 51 + (j + 1)) (n := 402 + 6 * (j + 1)) (by omega) (by omega) ?_
              exact ih (j + 1) (K_send K (xs (4 * j + 1)) (xs (4 * j + 2))) V aw wh h33 Kt Vt z1 z2 z3 z4 f9 (by omega) (ok_send _ _ hK) hV (by omega)
            · skip
              refine xr_aload_n F dL_law_625 rfl 6 rfl ?_
              refine xr_iconst F dL_law_626 (v := 0) (by decide) ?_
              refine xr_lald F 50 2 rfl rfl (0) rfl (by decide) (by decide) dL_law_627 ?_
              refine xr_iload F dL_law_628 0 rfl ?_
              refine xr_i2l F dL_law_630 (v := (r_or0 (q_send K (xs (4 * j + 1)) (xs (4 * j + 2))) (kGoal K (ix (xs (4 * j + 1))))).toInt64) rfl ?_
              refine xr_lcmp F dL_law_631 ?_
              refine xr_if_eq F 637 dL_law_632 (by decide) (fun c632 => ?_) (fun c632 => ?_)
              · skip
                refine xr_goto F 1204 dL_law_637 (by decide) ?_
                refine xr_iinc F (nI (4 * (j + 1))) [(4, .int (nI (4 * (j + 1)))), (6, .int (r_or0 (q_send K (xs (4 * j + 1)) (xs (4 * j + 2))) (kGoal K (ix (xs (4 * j + 1)))))), (5, .int (q_send K (xs (4 * j + 1)) (xs (4 * j + 2)))), (0, .ref b), (1, .ref h), (2, .ref (g 0)), (3, .ref ou)] dL_law_1204 2 rfl (nI_add (4 * j) 4) (by decide) rfl ?_
                refine xr_goto F 23 dL_law_1207 (by decide) ?_
                refine xr_lv (lv' := [(4, .int (nI (4 * (j + 1)))), (0, .ref b), (1, .ref h), (2, .ref (g 0)), (3, .ref ou)]) [0, 3, 4, 5, 6] rfl ?_
                refine xr_ws (ws' := bw h a t ++ (cw yI yZ a (K_send K (xs (4 * j + 1)) (xs (4 * j + 2))) V ++ (cw yI yZ t Kt Vt ++ (mw yI g u v h33 (K_send K (xs (4 * j + 1)) (xs (4 * j + 2))) ++ (sw yI u (kMark (K_send K (xs (4 * j + 1)) (xs (4 * j + 2)))) aw wh V ++ (sw yI v z1 z2 z3 z4 ++ (([(ou, .inl (yL, 1, .inr (.inl f9)))] : va_W)))))))) (by rw [eK34, kMark_send]) ?_
                refine xr_widen (k := 51 + (j + 1)) (n := 402 + 6 * (j + 1)) (by omega) (by omega) ?_
                exact ih (j + 1) (K_send K (xs (4 * j + 1)) (xs (4 * j + 2))) V aw wh h33 Kt Vt z1 z2 z3 z4 f9 (by omega) (ok_send _ _ hK) hV (by omega)
              · exact absurd (law_cmp hf9 c622 rfl) c632
          · exact absurd eh33 c615
        · skip
          refine xr_tableIn F (off := 601) 640 dL_law_39 (by decide) (by decide) (by decide) (by decide) ?_
          refine xr_aload_n F dL_law_640 rfl 2 rfl ?_
          refine xr_aload_n F dL_law_641 rfl 1 rfl ?_
          refine xr_iload F dL_law_642 0 rfl ?_
          refine xr_iconst F dL_law_644 (v := 1) (by decide) ?_
          refine xr_iadd F (nI (4 * j + 1)) dL_law_645 (nI_add (4 * j) 1) ?_
          refine xr_sld F hX hbl hbA (4 * j + 1) rfl (by omega) (by omega) dL_law_646 ?_
          refine xr_aload_n F dL_law_647 rfl 1 rfl ?_
          refine xr_iload F dL_law_648 0 rfl ?_
          refine xr_iconst F dL_law_650 (v := 2) (by decide) ?_
          refine xr_iadd F (nI (4 * j + 2)) dL_law_651 (nI_add (4 * j) 2) ?_
          refine xr_sld F hX hbl hbA (4 * j + 2) rfl (by omega) (by omega) dL_law_652 ?_
          refine xr_aload_n F dL_law_653 rfl 4 rfl ?_
          refine xr_callXHi F G (wr := cw yI yZ t Kt Vt ++ (mw yI g u v th K ++ (sw yI u (kMark K) aw wh V ++ (sw yI v z1 z2 z3 z4)))) (rest := []) (As := [.ref h, .int (xs (4 * j + 1)), .int (xs (4 * j + 2)), .ref ou]) (k_L_told l D yI yZ yL hst h a t K V ou f (xs (4 * j + 1)) (xs (4 * j + 2)) k1) (vx_cwSW 4 F.hts gL_law_L_told rfl rfl rfl (by decide +kernel) ⟨Nat.le_of_ble_eq_true rfl, Nat.le_of_ble_eq_true rfl⟩) [0, 1, 2, 3, 4, 5, 6, 7, 8, 9, 10, 11, 12, 50] [13, 14, 15, 16, 17, 18, 19, 20, 21, 22, 23, 24, 25, 26, 27, 28, 29, 30, 31, 32, 33, 34, 35, 36, 37, 38, 39, 40, 41, 42, 43, 44, 45, 46, 47, 48, 49] rfl rfl (by decide) (by decide) (by decide) rfl rfl (Nat.le_of_ble_eq_true rfl) dL_law_654 ⟨(by show _ ≤ 1080; omega), (by show _ ≤ 8624; omega)⟩ (fun E1 W1 z1 => z1.elim) (fun r1 W1 z1 => ?_)
          obtain ⟨z0, f9, hf9, z1⟩ := z1
          subst z0
          subst z1
          refine xr_sub (ws' := bw h a t ++ (cw yI yZ a K V ++ (cw yI yZ t Kt Vt ++ (mw yI g u v th K ++ (sw yI u (kMark K) aw wh V ++ (sw yI v z1 z2 z3 z4 ++ (([(ou, .inl (yL, 1, .inr (.inl f9)))] : va_W)))))))) [37, 38, 39, 40, 41, 42, 43, 44, 45, 46, 47, 48, 49, 0, 1, 2, 3, 4, 5, 6, 7, 8, 9, 10, 11, 12, 13, 14, 15, 16, 17, 18, 19, 20, 21, 22, 23, 24, 25, 26, 27, 28, 29, 30, 31, 32, 33, 34, 35, 36, 50] (by decide) rfl ?_
          refine xr_istore F [(5, .int (q_told K (xs (4 * j + 1)) (xs (4 * j + 2)))), (4, .int (nI (4 * j))), (0, .ref b), (1, .ref h), (2, .ref (g 0)), (3, .ref ou)] dL_law_657 (by decide) rfl ?_
          refine xr_aload_n F dL_law_659 rfl 4 rfl ?_
          refine xr_aload_n F dL_law_660 rfl 2 rfl ?_
          refine xr_iload F dL_law_661 1 rfl ?_
          refine xr_iconst F dL_law_663 (v := 1) (by decide) ?_
          refine xr_iadd F (nI (4 * j + 1)) dL_law_664 (nI_add (4 * j) 1) ?_
          refine xr_sld F hX hbl hbA (4 * j + 1) rfl (by omega) (by omega) dL_law_665 ?_
          refine xr_aload_n F dL_law_666 rfl 2 rfl ?_
          refine xr_iload F dL_law_667 1 rfl ?_
          refine xr_iconst F dL_law_669 (v := 2) (by decide) ?_
          refine xr_iadd F (nI (4 * j + 2)) dL_law_670 (nI_add (4 * j) 2) ?_
          refine xr_sld F hX hbl hbA (4 * j + 2) rfl (by omega) (by omega) dL_law_671 ?_
          refine xr_callVi F (wr := bw h a t ++ (cw yI yZ a K V ++ (cw yI yZ t Kt Vt ++ (sw yI v z1 z2 z3 z4 ++ (([(ou, .inl (yL, 1, .inr (.inl f9)))] : va_W)))))) (rest := []) (As := [.int (xs (4 * j + 1)), .int (xs (4 * j + 2))]) (k_X3_told l D yI yZ yL g u v th K aw wh V (xs (4 * j + 1)) (xs (4 * j + 2)) (by assumption)) (cwV 2 F.hts gL_law_X3_told rfl rfl rfl (by decide +kernel) ⟨Nat.le_of_ble_eq_true rfl, Nat.le_of_ble_eq_true rfl⟩) (q0 := 0) rfl rfl [25, 26, 27, 28, 29, 30, 31, 32, 33, 34, 35, 36, 37, 38] [0, 1, 2, 3, 4, 5, 6, 7, 8, 9, 10, 11, 12, 13, 14, 15, 16, 17, 18, 19, 20, 21, 22, 23, 24, 39, 40, 41, 42, 43, 44, 45, 46, 47, 48, 49, 50] rfl rfl (by decide) (by decide) (by decide) rfl rfl (Nat.le_of_ble_eq_true rfl) dL_law_672 ⟨(by show _ ≤ 1080; omega), (by show _ ≤ 8624; omega)⟩ (fun r1 W1 z1 => ?_)
          obtain ⟨z0, z1⟩ := z1
          subst z0
          obtain ⟨h35, eh35⟩ : ∃ x9 : Int32, x9 = q_told K (xs (4 * j + 1)) (xs (4 * j + 2)) := ⟨_, rfl⟩
          rw [← eh35] at z1
          subst z1
          refine xr_sub (ws' := bw h a t ++ (cw yI yZ a K V ++ (cw yI yZ t Kt Vt ++ (mw yI g u v h35 K ++ (sw yI u (kMark K) aw wh V ++ (sw yI v z1 z2 z3 z4 ++ (([(ou, .inl (yL, 1, .inr (.inl f9)))] : va_W)))))))) [0, 1, 2, 3, 4, 5, 6, 7, 8, 9, 10, 11, 12, 13, 14, 15, 16, 17, 18, 19, 20, 21, 22, 23, 24, 37, 38, 39, 40, 41, 42, 43, 44, 45, 46, 47, 48, 49, 50, 25, 26, 27, 28, 29, 30, 31, 32, 33, 34, 35, 36] (by decide) rfl ?_
          refine xr_istore F [(6, .int (r_or0 (q_told K (xs (4 * j + 1)) (xs (4 * j + 2))) (m_tellB K V (ix (xs (4 * j + 1))) (ix (xs (4 * j + 2)))))), (5, .int (q_told K (xs (4 * j + 1)) (xs (4 * j + 2)))), (4, .int (nI (4 * j))), (0, .ref b), (1, .ref h), (2, .ref (g 0)), (3, .ref ou)] dL_law_675 (by decide) rfl ?_
          refine xr_aload_n F dL_law_677 rfl 5 rfl ?_
          refine xr_callVi F (wr := bw h a t ++ (cw yI yZ a K V ++ (cw yI yZ t Kt Vt ++ (sw yI u (kMark K) aw wh V ++ (sw yI v z1 z2 z3 z4 ++ (([(ou, .inl (yL, 1, .inr (.inl f9)))] : va_W))))))) (rest := []) (As := []) (k_X3_thrown l D yI yZ yL g u v h35 K ) (cwV 0 F.hts gL_law_X3_thrown rfl rfl rfl (by decide +kernel) ⟨Nat.le_of_ble_eq_true rfl, Nat.le_of_ble_eq_true rfl⟩) (q0 := 0) rfl rfl [25, 26, 27] [0, 1, 2, 3, 4, 5, 6, 7, 8, 9, 10, 11, 12, 13, 14, 15, 16, 17, 18, 19, 20, 21, 22, 23, 24, 28, 29, 30, 31, 32, 33, 34, 35, 36, 37, 38, 39, 40, 41, 42, 43, 44, 45, 46, 47, 48, 49, 50] rfl rfl (by decide) (by decide) (by decide) rfl rfl (Nat.le_of_ble_eq_true rfl) dL_law_678 ⟨(by show _ ≤ 1080; omega), (by show _ ≤ 8624; omega)⟩ (fun r1 W1 z1 => ?_)
          obtain ⟨z0, z1⟩ := z1
          rw [z0]
          subst z1
          refine xr_sub (ws' := bw h a t ++ (cw yI yZ a K V ++ (cw yI yZ t Kt Vt ++ (mw yI g u v h35 K ++ (sw yI u (kMark K) aw wh V ++ (sw yI v z1 z2 z3 z4 ++ (([(ou, .inl (yL, 1, .inr (.inl f9)))] : va_W)))))))) [0, 1, 2, 3, 4, 5, 6, 7, 8, 9, 10, 11, 12, 13, 14, 15, 16, 17, 18, 19, 20, 21, 22, 23, 24, 48, 49, 50, 25, 26, 27, 28, 29, 30, 31, 32, 33, 34, 35, 36, 37, 38, 39, 40, 41, 42, 43, 44, 45, 46, 47] (by decide) rfl ?_
          refine xr_iload F dL_law_681 1 rfl ?_
          refine xr_icmp_eq F 688 dL_law_683 (by decide) (fun c683 => ?_) (fun c683 => ?_)
          · skip
            refine xr_iload F dL_law_688 1 rfl ?_
            refine xr_if_ne F 705 dL_law_690 (by decide) (fun c690 => ?_) (fun c690 => ?_)
            · skip
              refine xr_goto F 1204 dL_law_705 (by decide) ?_
              refine xr_iinc F (nI (4 * (j + 1))) [(4, .int (nI (4 * (j + 1)))), (6, .int (r_or0 (q_told K (xs (4 * j + 1)) (xs (4 * j + 2))) (m_tellB K V (ix (xs (4 * j + 1))) (ix (xs (4 * j + 2)))))), (5, .int (q_told K (xs (4 * j + 1)) (xs (4 * j + 2)))), (0, .ref b), (1, .ref h), (2, .ref (g 0)), (3, .ref ou)] dL_law_1204 2 rfl (nI_add (4 * j) 4) (by decide) rfl ?_
              refine xr_goto F 23 dL_law_1207 (by decide) ?_
              refine xr_lv (lv' := [(4, .int (nI (4 * (j + 1)))), (0, .ref b), (1, .ref h), (2, .ref (g 0)), (3, .ref ou)]) [0, 3, 4, 5, 6] rfl ?_
              refine xr_ws (ws' := bw h a t ++ (cw yI yZ a K V ++ (cw yI yZ t Kt Vt ++ (mw yI g u v h35 K ++ (sw yI u (kMark K) aw wh V ++ (sw yI v z1 z2 z3 z4 ++ (([(ou, .inl (yL, 1, .inr (.inl f9)))] : va_W)))))))) rfl ?_
              refine xr_widen (k := 51 + (j + 1)) (n := 402 + 6 * (j + 1)) (by omega) (by omega) ?_
              exact ih (j + 1) K V aw wh h35 Kt Vt z1 z2 z3 z4 f9 (by omega) hK hV (by omega)
            · skip
              refine xr_aload_n F dL_law_693 rfl 6 rfl ?_
              refine xr_iconst F dL_law_694 (v := 0) (by decide) ?_
              refine xr_lald F 50 2 rfl rfl (0) rfl (by decide) (by decide) dL_law_695 ?_
              refine xr_iload F dL_law_696 0 rfl ?_
              refine xr_i2l F dL_law_698 (v := (r_or0 (q_told K (xs (4 * j + 1)) (xs (4 * j + 2))) (m_tellB K V (ix (xs (4 * j + 1))) (ix (xs (4 * j + 2))))).toInt64) rfl ?_
              refine xr_lcmp F dL_law_699 ?_
              refine xr_if_eq F 705 dL_law_700 (by decide) (fun c700 => ?_) (fun c700 => ?_)
              · skip
                refine xr_goto F 1204 dL_law_705 (by decide) ?_
                refine xr_iinc F (nI (4 * (j + 1))) [(4, .int (nI (4 * (j + 1)))), (6, .int (r_or0 (q_told K (xs (4 * j + 1)) (xs (4 * j + 2))) (m_tellB K V (ix (xs (4 * j + 1))) (ix (xs (4 * j + 2)))))), (5, .int (q_told K (xs (4 * j + 1)) (xs (4 * j + 2)))), (0, .ref b), (1, .ref h), (2, .ref (g 0)), (3, .ref ou)] dL_law_1204 2 rfl (nI_add (4 * j) 4) (by decide) rfl ?_
                refine xr_goto F 23 dL_law_1207 (by decide) ?_
                refine xr_lv (lv' := [(4, .int (nI (4 * (j + 1)))), (0, .ref b), (1, .ref h), (2, .ref (g 0)), (3, .ref ou)]) [0, 3, 4, 5, 6] rfl ?_
                refine xr_ws (ws' := bw h a t ++ (cw yI yZ a K V ++ (cw yI yZ t Kt Vt ++ (mw yI g u v h35 K ++ (sw yI u (kMark K) aw wh V ++ (sw yI v z1 z2 z3 z4 ++ (([(ou, .inl (yL, 1, .inr (.inl f9)))] : va_W)))))))) rfl ?_
                refine xr_widen (k := 51 + (j + 1)) (n := 402 + 6 * (j + 1)) (by omega) (by omega) ?_
                exact ih (j + 1) K V aw wh h35 Kt Vt z1 z2 z3 z4 f9 (by omega) hK hV (by omega)
              · exact absurd (law_cmp hf9 c690 (tellB_eq K V _ _)) c700
          · exact absurd eh35 c683
        · skip
          refine xr_tableIn F (off := 669) 708 dL_law_39 (by decide) (by decide) (by decide) (by decide) ?_
          refine xr_aload_n F dL_law_708 rfl 2 rfl ?_
          refine xr_aload_n F dL_law_709 rfl 1 rfl ?_
          refine xr_iload F dL_law_710 0 rfl ?_
          refine xr_iconst F dL_law_712 (v := 1) (by decide) ?_
          refine xr_iadd F (nI (4 * j + 1)) dL_law_713 (nI_add (4 * j) 1) ?_
          refine xr_sld F hX hbl hbA (4 * j + 1) rfl (by omega) (by omega) dL_law_714 ?_
          refine xr_aload_n F dL_law_715 rfl 1 rfl ?_
          refine xr_iload F dL_law_716 0 rfl ?_
          refine xr_iconst F dL_law_718 (v := 2) (by decide) ?_
          refine xr_iadd F (nI (4 * j + 2)) dL_law_719 (nI_add (4 * j) 2) ?_
          refine xr_sld F hX hbl hbA (4 * j + 2) rfl (by omega) (by omega) dL_law_720 ?_
          refine xr_aload_n F dL_law_721 rfl 4 rfl ?_
          refine xr_callXHi F G (wr := cw yI yZ t Kt Vt ++ (mw yI g u v th K ++ (sw yI u (kMark K) aw wh V ++ (sw yI v z1 z2 z3 z4)))) (rest := []) (As := [.ref h, .int (xs (4 * j + 1)), .int (xs (4 * j + 2)), .ref ou]) (k_L_pound l D yI yZ yL hst h a t K V ou f (xs (4 * j + 1)) (xs (4 * j + 2)) k1) (vx_cwSW 4 F.hts gL_law_L_pound rfl rfl rfl (by decide +kernel) ⟨Nat.le_of_ble_eq_true rfl, Nat.le_of_ble_eq_true rfl⟩) [0, 1, 2, 3, 4, 5, 6, 7, 8, 9, 10, 11, 12, 50] [13, 14, 15, 16, 17, 18, 19, 20, 21, 22, 23, 24, 25, 26, 27, 28, 29, 30, 31, 32, 33, 34, 35, 36, 37, 38, 39, 40, 41, 42, 43, 44, 45, 46, 47, 48, 49] rfl rfl (by decide) (by decide) (by decide) rfl rfl (Nat.le_of_ble_eq_true rfl) dL_law_722 ⟨(by show _ ≤ 1080; omega), (by show _ ≤ 8624; omega)⟩ (fun E1 W1 z1 => z1.elim) (fun r1 W1 z1 => ?_)
          obtain ⟨z0, f9, hf9, z1⟩ := z1
          subst z0
          subst z1
          refine xr_sub (ws' := bw h a t ++ (cw yI yZ a K V ++ (cw yI yZ t Kt Vt ++ (mw yI g u v th K ++ (sw yI u (kMark K) aw wh V ++ (sw yI v z1 z2 z3 z4 ++ (([(ou, .inl (yL, 1, .inr (.inl f9)))] : va_W)))))))) [37, 38, 39, 40, 41, 42, 43, 44, 45, 46, 47, 48, 49, 0, 1, 2, 3, 4, 5, 6, 7, 8, 9, 10, 11, 12, 13, 14, 15, 16, 17, 18, 19, 20, 21, 22, 23, 24, 25, 26, 27, 28, 29, 30, 31, 32, 33, 34, 35, 36, 50] (by decide) rfl ?_
          refine xr_istore F [(5, .int (q_in2 (xs (4 * j + 1)) 5 (xs (4 * j + 2)) 3)), (4, .int (nI (4 * j))), (0, .ref b), (1, .ref h), (2, .ref (g 0)), (3, .ref ou)] dL_law_725 (by decide) rfl ?_
          refine xr_aload_n F dL_law_727 rfl 4 rfl ?_
          refine xr_aload_n F dL_law_728 rfl 2 rfl ?_
          refine xr_iload F dL_law_729 1 rfl ?_
          refine xr_iconst F dL_law_731 (v := 1) (by decide) ?_
          refine xr_iadd F (nI (4 * j + 1)) dL_law_732 (nI_add (4 * j) 1) ?_
          refine xr_sld F hX hbl hbA (4 * j + 1) rfl (by omega) (by omega) dL_law_733 ?_
          refine xr_aload_n F dL_law_734 rfl 2 rfl ?_
          refine xr_iload F dL_law_735 1 rfl ?_
          refine xr_iconst F dL_law_737 (v := 2) (by decide) ?_
          refine xr_iadd F (nI (4 * j + 2)) dL_law_738 (nI_add (4 * j) 2) ?_
          refine xr_sld F hX hbl hbA (4 * j + 2) rfl (by omega) (by omega) dL_law_739 ?_
          refine xr_callVi F (wr := bw h a t ++ (cw yI yZ a K V ++ (cw yI yZ t Kt Vt ++ (sw yI v z1 z2 z3 z4 ++ (([(ou, .inl (yL, 1, .inr (.inl f9)))] : va_W)))))) (rest := []) (As := [.int (xs (4 * j + 1)), .int (xs (4 * j + 2))]) (k_X3_pound l D yI yZ yL g u v th K aw wh V (xs (4 * j + 1)) (xs (4 * j + 2)) (by assumption)) (cwV 2 F.hts gL_law_X3_pound rfl rfl rfl (by decide +kernel) ⟨Nat.le_of_ble_eq_true rfl, Nat.le_of_ble_eq_true rfl⟩) (q0 := 0) rfl rfl [25, 26, 27, 28, 29, 30, 31, 32, 33, 34, 35, 36, 37, 38] [0, 1, 2, 3, 4, 5, 6, 7, 8, 9, 10, 11, 12, 13, 14, 15, 16, 17, 18, 19, 20, 21, 22, 23, 24, 39, 40, 41, 42, 43, 44, 45, 46, 47, 48, 49, 50] rfl rfl (by decide) (by decide) (by decide) rfl rfl (Nat.le_of_ble_eq_true rfl) dL_law_740 ⟨(by show _ ≤ 1080; omega), (by show _ ≤ 8624; omega)⟩ (fun r1 W1 z1 => ?_)
          obtain ⟨z0, z1⟩ := z1
          subst z0
          obtain ⟨h36, eh36⟩ : ∃ x9 : Int32, x9 = q_in2 (xs (4 * j + 1)) 5 (xs (4 * j + 2)) 3 := ⟨_, rfl⟩
          rw [← eh36] at z1
          subst z1
          refine xr_sub (ws' := bw h a t ++ (cw yI yZ a K V ++ (cw yI yZ t Kt Vt ++ (mw yI g u v h36 K ++ (sw yI u (kMark K) aw wh V ++ (sw yI v z1 z2 z3 z4 ++ (([(ou, .inl (yL, 1, .inr (.inl f9)))] : va_W)))))))) [0, 1, 2, 3, 4, 5, 6, 7, 8, 9, 10, 11, 12, 13, 14, 15, 16, 17, 18, 19, 20, 21, 22, 23, 24, 37, 38, 39, 40, 41, 42, 43, 44, 45, 46, 47, 48, 49, 50, 25, 26, 27, 28, 29, 30, 31, 32, 33, 34, 35, 36] (by decide) rfl ?_
          refine xr_istore F [(6, .int (r_or0 (q_in2 (xs (4 * j + 1)) 5 (xs (4 * j + 2)) 3) (m_tellP K V (ix (xs (4 * j + 1))) (ix (xs (4 * j + 2)))))), (5, .int (q_in2 (xs (4 * j + 1)) 5 (xs (4 * j + 2)) 3)), (4, .int (nI (4 * j))), (0, .ref b), (1, .ref h), (2, .ref (g 0)), (3, .ref ou)] dL_law_743 (by decide) rfl ?_
          refine xr_aload_n F dL_law_745 rfl 5 rfl ?_
          refine xr_callVi F (wr := bw h a t ++ (cw yI yZ a K V ++ (cw yI yZ t Kt Vt ++ (sw yI u (kMark K) aw wh V ++ (sw yI v z1 z2 z3 z4 ++ (([(ou, .inl (yL, 1, .inr (.inl f9)))] : va_W))))))) (rest := []) (As := []) (k_X3_thrown l D yI yZ yL g u v h36 K ) (cwV 0 F.hts gL_law_X3_thrown rfl rfl rfl (by decide +kernel) ⟨Nat.le_of_ble_eq_true rfl, Nat.le_of_ble_eq_true rfl⟩) (q0 := 0) rfl rfl [25, 26, 27] [0, 1, 2, 3, 4, 5, 6, 7, 8, 9, 10, 11, 12, 13, 14, 15, 16, 17, 18, 19, 20, 21, 22, 23, 24, 28, 29, 30, 31, 32, 33, 34, 35, 36, 37, 38, 39, 40, 41, 42, 43, 44, 45, 46, 47, 48, 49, 50] rfl rfl (by decide) (by decide) (by decide) rfl rfl (Nat.le_of_ble_eq_true rfl) dL_law_746 ⟨(by show _ ≤ 1080; omega), (by show _ ≤ 8624; omega)⟩ (fun r1 W1 z1 => ?_)
          obtain ⟨z0, z1⟩ := z1
          rw [z0]
          subst z1
          refine xr_sub (ws' := bw h a t ++ (cw yI yZ a K V ++ (cw yI yZ t Kt Vt ++ (mw yI g u v h36 K ++ (sw yI u (kMark K) aw wh V ++ (sw yI v z1 z2 z3 z4 ++ (([(ou, .inl (yL, 1, .inr (.inl f9)))] : va_W)))))))) [0, 1, 2, 3, 4, 5, 6, 7, 8, 9, 10, 11, 12, 13, 14, 15, 16, 17, 18, 19, 20, 21, 22, 23, 24, 48, 49, 50, 25, 26, 27, 28, 29, 30, 31, 32, 33, 34, 35, 36, 37, 38, 39, 40, 41, 42, 43, 44, 45, 46, 47] (by decide) rfl ?_
          refine xr_iload F dL_law_749 1 rfl ?_
          refine xr_icmp_eq F 756 dL_law_751 (by decide) (fun c751 => ?_) (fun c751 => ?_)
          · skip
            refine xr_iload F dL_law_756 1 rfl ?_
            refine xr_if_ne F 773 dL_law_758 (by decide) (fun c758 => ?_) (fun c758 => ?_)
            · skip
              refine xr_goto F 1204 dL_law_773 (by decide) ?_
              refine xr_iinc F (nI (4 * (j + 1))) [(4, .int (nI (4 * (j + 1)))), (6, .int (r_or0 (q_in2 (xs (4 * j + 1)) 5 (xs (4 * j + 2)) 3) (m_tellP K V (ix (xs (4 * j + 1))) (ix (xs (4 * j + 2)))))), (5, .int (q_in2 (xs (4 * j + 1)) 5 (xs (4 * j + 2)) 3)), (0, .ref b), (1, .ref h), (2, .ref (g 0)), (3, .ref ou)] dL_law_1204 2 rfl (nI_add (4 * j) 4) (by decide) rfl ?_
              refine xr_goto F 23 dL_law_1207 (by decide) ?_
              refine xr_lv (lv' := [(4, .int (nI (4 * (j + 1)))), (0, .ref b), (1, .ref h), (2, .ref (g 0)), (3, .ref ou)]) [0, 3, 4, 5, 6] rfl ?_
              refine xr_ws (ws' := bw h a t ++ (cw yI yZ a K V ++ (cw yI yZ t Kt Vt ++ (mw yI g u v h36 K ++ (sw yI u (kMark K) aw wh V ++ (sw yI v z1 z2 z3 z4 ++ (([(ou, .inl (yL, 1, .inr (.inl f9)))] : va_W)))))))) rfl ?_
              refine xr_widen (k := 51 + (j + 1)) (n := 402 + 6 * (j + 1)) (by omega) (by omega) ?_
              exact ih (j + 1) K V aw wh h36 Kt Vt z1 z2 z3 z4 f9 (by omega) hK hV (by omega)
            · skip
              refine xr_aload_n F dL_law_761 rfl 6 rfl ?_
              refine xr_iconst F dL_law_762 (v := 0) (by decide) ?_
              refine xr_lald F 50 2 rfl rfl (0) rfl (by decide) (by decide) dL_law_763 ?_
              refine xr_iload F dL_law_764 0 rfl ?_
              refine xr_i2l F dL_law_766 (v := (r_or0 (q_in2 (xs (4 * j + 1)) 5 (xs (4 * j + 2)) 3) (m_tellP K V (ix (xs (4 * j + 1))) (ix (xs (4 * j + 2))))).toInt64) rfl ?_
              refine xr_lcmp F dL_law_767 ?_
              refine xr_if_eq F 773 dL_law_768 (by decide) (fun c768 => ?_) (fun c768 => ?_)
              · skip
                refine xr_goto F 1204 dL_law_773 (by decide) ?_
                refine xr_iinc F (nI (4 * (j + 1))) [(4, .int (nI (4 * (j + 1)))), (6, .int (r_or0 (q_in2 (xs (4 * j + 1)) 5 (xs (4 * j + 2)) 3) (m_tellP K V (ix (xs (4 * j + 1))) (ix (xs (4 * j + 2)))))), (5, .int (q_in2 (xs (4 * j + 1)) 5 (xs (4 * j + 2)) 3)), (0, .ref b), (1, .ref h), (2, .ref (g 0)), (3, .ref ou)] dL_law_1204 2 rfl (nI_add (4 * j) 4) (by decide) rfl ?_
                refine xr_goto F 23 dL_law_1207 (by decide) ?_
                refine xr_lv (lv' := [(4, .int (nI (4 * (j + 1)))), (0, .ref b), (1, .ref h), (2, .ref (g 0)), (3, .ref ou)]) [0, 3, 4, 5, 6] rfl ?_
                refine xr_ws (ws' := bw h a t ++ (cw yI yZ a K V ++ (cw yI yZ t Kt Vt ++ (mw yI g u v h36 K ++ (sw yI u (kMark K) aw wh V ++ (sw yI v z1 z2 z3 z4 ++ (([(ou, .inl (yL, 1, .inr (.inl f9)))] : va_W)))))))) rfl ?_
                refine xr_widen (k := 51 + (j + 1)) (n := 402 + 6 * (j + 1)) (by omega) (by omega) ?_
                exact ih (j + 1) K V aw wh h36 Kt Vt z1 z2 z3 z4 f9 (by omega) hK hV (by omega)
              · exact absurd (law_cmp hf9 c758 (tellP_eq K V _ _)) c768
          · exact absurd eh36 c751
        · skip
          refine xr_tableIn F (off := 737) 776 dL_law_39 (by decide) (by decide) (by decide) (by decide) ?_
          refine xr_aload_n F dL_law_776 rfl 2 rfl ?_
          refine xr_aload_n F dL_law_777 rfl 1 rfl ?_
          refine xr_iload F dL_law_778 0 rfl ?_
          refine xr_iconst F dL_law_780 (v := 1) (by decide) ?_
          refine xr_iadd F (nI (4 * j + 1)) dL_law_781 (nI_add (4 * j) 1) ?_
          refine xr_sld F hX hbl hbA (4 * j + 1) rfl (by omega) (by omega) dL_law_782 ?_
          refine xr_aload_n F dL_law_783 rfl 1 rfl ?_
          refine xr_iload F dL_law_784 0 rfl ?_
          refine xr_iconst F dL_law_786 (v := 2) (by decide) ?_
          refine xr_iadd F (nI (4 * j + 2)) dL_law_787 (nI_add (4 * j) 2) ?_
          refine xr_sld F hX hbl hbA (4 * j + 2) rfl (by omega) (by omega) dL_law_788 ?_
          refine xr_aload_n F dL_law_789 rfl 4 rfl ?_
          refine xr_callXHi F G (wr := cw yI yZ t Kt Vt ++ (mw yI g u v th K ++ (sw yI u (kMark K) aw wh V ++ (sw yI v z1 z2 z3 z4)))) (rest := []) (As := [.ref h, .int (xs (4 * j + 1)), .int (xs (4 * j + 2)), .ref ou]) (k_L_lock l D yI yZ yL hst h a t K V ou f (xs (4 * j + 1)) (xs (4 * j + 2)) k1) (vx_cwSW 4 F.hts gL_law_L_lock rfl rfl rfl (by decide +kernel) ⟨Nat.le_of_ble_eq_true rfl, Nat.le_of_ble_eq_true rfl⟩) [0, 1, 2, 3, 4, 5, 6, 7, 8, 9, 10, 11, 12, 50] [13, 14, 15, 16, 17, 18, 19, 20, 21, 22, 23, 24, 25, 26, 27, 28, 29, 30, 31, 32, 33, 34, 35, 36, 37, 38, 39, 40, 41, 42, 43, 44, 45, 46, 47, 48, 49] rfl rfl (by decide) (by decide) (by decide) rfl rfl (Nat.le_of_ble_eq_true rfl) dL_law_790 ⟨(by show _ ≤ 1080; omega), (by show _ ≤ 8624; omega)⟩ (fun E1 W1 z1 => z1.elim) (fun r1 W1 z1 => ?_)
          obtain ⟨z0, f9, hf9, z1⟩ := z1
          subst z0
          subst z1
          refine xr_sub (ws' := bw h a t ++ (cw yI yZ a K V ++ (cw yI yZ t Kt Vt ++ (mw yI g u v th K ++ (sw yI u (kMark K) aw wh V ++ (sw yI v z1 z2 z3 z4 ++ (([(ou, .inl (yL, 1, .inr (.inl f9)))] : va_W)))))))) [37, 38, 39, 40, 41, 42, 43, 44, 45, 46, 47, 48, 49, 0, 1, 2, 3, 4, 5, 6, 7, 8, 9, 10, 11, 12, 13, 14, 15, 16, 17, 18, 19, 20, 21, 22, 23, 24, 25, 26, 27, 28, 29, 30, 31, 32, 33, 34, 35, 36, 50] (by decide) rfl ?_
          refine xr_istore F [(5, .int (q_in2 (xs (4 * j + 1)) 4 (xs (4 * j + 2)) 4)), (4, .int (nI (4 * j))), (0, .ref b), (1, .ref h), (2, .ref (g 0)), (3, .ref ou)] dL_law_793 (by decide) rfl ?_
          refine xr_aload_n F dL_law_795 rfl 4 rfl ?_
          refine xr_aload_n F dL_law_796 rfl 2 rfl ?_
          refine xr_iload F dL_law_797 1 rfl ?_
          refine xr_iconst F dL_law_799 (v := 1) (by decide) ?_
          refine xr_iadd F (nI (4 * j + 1)) dL_law_800 (nI_add (4 * j) 1) ?_
          refine xr_sld F hX hbl hbA (4 * j + 1) rfl (by omega) (by omega) dL_law_801 ?_
          refine xr_aload_n F dL_law_802 rfl 2 rfl ?_
          refine xr_iload F dL_law_803 1 rfl ?_
          refine xr_iconst F dL_law_805 (v := 2) (by decide) ?_
          refine xr_iadd F (nI (4 * j + 2)) dL_law_806 (nI_add (4 * j) 2) ?_
          refine xr_sld F hX hbl hbA (4 * j + 2) rfl (by omega) (by omega) dL_law_807 ?_
          refine xr_callVi F (wr := bw h a t ++ (cw yI yZ a K V ++ (cw yI yZ t Kt Vt ++ (sw yI v z1 z2 z3 z4 ++ (([(ou, .inl (yL, 1, .inr (.inl f9)))] : va_W)))))) (rest := []) (As := [.int (xs (4 * j + 1)), .int (xs (4 * j + 2))]) (k_X3_lock l D yI yZ yL g u v th K aw wh V (xs (4 * j + 1)) (xs (4 * j + 2)) (by assumption)) (cwV 2 F.hts gL_law_X3_lock rfl rfl rfl (by decide +kernel) ⟨Nat.le_of_ble_eq_true rfl, Nat.le_of_ble_eq_true rfl⟩) (q0 := 0) rfl rfl [25, 26, 27, 28, 29, 30, 31, 32, 33, 34, 35, 36, 37, 38] [0, 1, 2, 3, 4, 5, 6, 7, 8, 9, 10, 11, 12, 13, 14, 15, 16, 17, 18, 19, 20, 21, 22, 23, 24, 39, 40, 41, 42, 43, 44, 45, 46, 47, 48, 49, 50] rfl rfl (by decide) (by decide) (by decide) rfl rfl (Nat.le_of_ble_eq_true rfl) dL_law_808 ⟨(by show _ ≤ 1080; omega), (by show _ ≤ 8624; omega)⟩ (fun r1 W1 z1 => ?_)
          obtain ⟨z0, z1⟩ := z1
          subst z0
          obtain ⟨h37, eh37⟩ : ∃ x9 : Int32, x9 = q_in2 (xs (4 * j + 1)) 4 (xs (4 * j + 2)) 4 := ⟨_, rfl⟩
          rw [← eh37] at z1
          subst z1
          refine xr_sub (ws' := bw h a t ++ (cw yI yZ a K V ++ (cw yI yZ t Kt Vt ++ (mw yI g u v h37 K ++ (sw yI u (kMark K) aw wh V ++ (sw yI v z1 z2 z3 z4 ++ (([(ou, .inl (yL, 1, .inr (.inl f9)))] : va_W)))))))) [0, 1, 2, 3, 4, 5, 6, 7, 8, 9, 10, 11, 12, 13, 14, 15, 16, 17, 18, 19, 20, 21, 22, 23, 24, 37, 38, 39, 40, 41, 42, 43, 44, 45, 46, 47, 48, 49, 50, 25, 26, 27, 28, 29, 30, 31, 32, 33, 34, 35, 36] (by decide) rfl ?_
          refine xr_istore F [(6, .int (r_or0 (q_in2 (xs (4 * j + 1)) 4 (xs (4 * j + 2)) 4) (m_tellL K V wh (ix (xs (4 * j + 1))) (ix (xs (4 * j + 2)))))), (5, .int (q_in2 (xs (4 * j + 1)) 4 (xs (4 * j + 2)) 4)), (4, .int (nI (4 * j))), (0, .ref b), (1, .ref h), (2, .ref (g 0)), (3, .ref ou)] dL_law_811 (by decide) rfl ?_
          refine xr_aload_n F dL_law_813 rfl 5 rfl ?_
          refine xr_callVi F (wr := bw h a t ++ (cw yI yZ a K V ++ (cw yI yZ t Kt Vt ++ (sw yI u (kMark K) aw wh V ++ (sw yI v z1 z2 z3 z4 ++ (([(ou, .inl (yL, 1, .inr (.inl f9)))] : va_W))))))) (rest := []) (As := []) (k_X3_thrown l D yI yZ yL g u v h37 K ) (cwV 0 F.hts gL_law_X3_thrown rfl rfl rfl (by decide +kernel) ⟨Nat.le_of_ble_eq_true rfl, Nat.le_of_ble_eq_true rfl⟩) (q0 := 0) rfl rfl [25, 26, 27] [0, 1, 2, 3, 4, 5, 6, 7, 8, 9, 10, 11, 12, 13, 14, 15, 16, 17, 18, 19, 20, 21, 22, 23, 24, 28, 29, 30, 31, 32, 33, 34, 35, 36, 37, 38, 39, 40, 41, 42, 43, 44, 45, 46, 47, 48, 49, 50] rfl rfl (by decide) (by decide) (by decide) rfl rfl (Nat.le_of_ble_eq_true rfl) dL_law_814 ⟨(by show _ ≤ 1080; omega), (by show _ ≤ 8624; omega)⟩ (fun r1 W1 z1 => ?_)
          obtain ⟨z0, z1⟩ := z1
          rw [z0]
          subst z1
          refine xr_sub (ws' := bw h a t ++ (cw yI yZ a K V ++ (cw yI yZ t Kt Vt ++ (mw yI g u v h37 K ++ (sw yI u (kMark K) aw wh V ++ (sw yI v z1 z2 z3 z4 ++ (([(ou, .inl (yL, 1, .inr (.inl f9)))] : va_W)))))))) [0, 1, 2, 3, 4, 5, 6, 7, 8, 9, 10, 11, 12, 13, 14, 15, 16, 17, 18, 19, 20, 21, 22, 23, 24, 48, 49, 50, 25, 26, 27, 28, 29, 30, 31, 32, 33, 34, 35, 36, 37, 38, 39, 40, 41, 42, 43, 44, 45, 46, 47] (by decide) rfl ?_
          refine xr_iload F dL_law_817 1 rfl ?_
          refine xr_icmp_eq F 824 dL_law_819 (by decide) (fun c819 => ?_) (fun c819 => ?_)
          · skip
            refine xr_iload F dL_law_824 1 rfl ?_
            refine xr_if_ne F 841 dL_law_826 (by decide) (fun c826 => ?_) (fun c826 => ?_)
            · skip
              refine xr_goto F 1204 dL_law_841 (by decide) ?_
              refine xr_iinc F (nI (4 * (j + 1))) [(4, .int (nI (4 * (j + 1)))), (6, .int (r_or0 (q_in2 (xs (4 * j + 1)) 4 (xs (4 * j + 2)) 4) (m_tellL K V wh (ix (xs (4 * j + 1))) (ix (xs (4 * j + 2)))))), (5, .int (q_in2 (xs (4 * j + 1)) 4 (xs (4 * j + 2)) 4)), (0, .ref b), (1, .ref h), (2, .ref (g 0)), (3, .ref ou)] dL_law_1204 2 rfl (nI_add (4 * j) 4) (by decide) rfl ?_
              refine xr_goto F 23 dL_law_1207 (by decide) ?_
              refine xr_lv (lv' := [(4, .int (nI (4 * (j + 1)))), (0, .ref b), (1, .ref h), (2, .ref (g 0)), (3, .ref ou)]) [0, 3, 4, 5, 6] rfl ?_
              refine xr_ws (ws' := bw h a t ++ (cw yI yZ a K V ++ (cw yI yZ t Kt Vt ++ (mw yI g u v h37 K ++ (sw yI u (kMark K) aw wh V ++ (sw yI v z1 z2 z3 z4 ++ (([(ou, .inl (yL, 1, .inr (.inl f9)))] : va_W)))))))) rfl ?_
              refine xr_widen (k := 51 + (j + 1)) (n := 402 + 6 * (j + 1)) (by omega) (by omega) ?_
              exact ih (j + 1) K V aw wh h37 Kt Vt z1 z2 z3 z4 f9 (by omega) hK hV (by omega)
            · skip
              refine xr_aload_n F dL_law_829 rfl 6 rfl ?_
              refine xr_iconst F dL_law_830 (v := 0) (by decide) ?_
              refine xr_lald F 50 2 rfl rfl (0) rfl (by decide) (by decide) dL_law_831 ?_
              refine xr_iload F dL_law_832 0 rfl ?_
              refine xr_i2l F dL_law_834 (v := (r_or0 (q_in2 (xs (4 * j + 1)) 4 (xs (4 * j + 2)) 4) (m_tellL K V wh (ix (xs (4 * j + 1))) (ix (xs (4 * j + 2))))).toInt64) rfl ?_
              refine xr_lcmp F dL_law_835 ?_
              refine xr_if_eq F 841 dL_law_836 (by decide) (fun c836 => ?_) (fun c836 => ?_)
              · skip
                refine xr_goto F 1204 dL_law_841 (by decide) ?_
                refine xr_iinc F (nI (4 * (j + 1))) [(4, .int (nI (4 * (j + 1)))), (6, .int (r_or0 (q_in2 (xs (4 * j + 1)) 4 (xs (4 * j + 2)) 4) (m_tellL K V wh (ix (xs (4 * j + 1))) (ix (xs (4 * j + 2)))))), (5, .int (q_in2 (xs (4 * j + 1)) 4 (xs (4 * j + 2)) 4)), (0, .ref b), (1, .ref h), (2, .ref (g 0)), (3, .ref ou)] dL_law_1204 2 rfl (nI_add (4 * j) 4) (by decide) rfl ?_
                refine xr_goto F 23 dL_law_1207 (by decide) ?_
                refine xr_lv (lv' := [(4, .int (nI (4 * (j + 1)))), (0, .ref b), (1, .ref h), (2, .ref (g 0)), (3, .ref ou)]) [0, 3, 4, 5, 6] rfl ?_
                refine xr_ws (ws' := bw h a t ++ (cw yI yZ a K V ++ (cw yI yZ t Kt Vt ++ (mw yI g u v h37 K ++ (sw yI u (kMark K) aw wh V ++ (sw yI v z1 z2 z3 z4 ++ (([(ou, .inl (yL, 1, .inr (.inl f9)))] : va_W)))))))) rfl ?_
                refine xr_widen (k := 51 + (j + 1)) (n := 402 + 6 * (j + 1)) (by omega) (by omega) ?_
                exact ih (j + 1) K V aw wh h37 Kt Vt z1 z2 z3 z4 f9 (by omega) hK hV (by omega)
              · exact absurd (law_cmp hf9 c826 (lock_e hK (by omega) hV c826)) c836
          · exact absurd eh37 c819
        · skip
          refine xr_tableIn F (off := 805) 844 dL_law_39 (by decide) (by decide) (by decide) (by decide) ?_
          refine xr_aload_n F dL_law_844 rfl 2 rfl ?_
          refine xr_aload_n F dL_law_845 rfl 1 rfl ?_
          refine xr_iload F dL_law_846 0 rfl ?_
          refine xr_iconst F dL_law_848 (v := 1) (by decide) ?_
          refine xr_iadd F (nI (4 * j + 1)) dL_law_849 (nI_add (4 * j) 1) ?_
          refine xr_sld F hX hbl hbA (4 * j + 1) rfl (by omega) (by omega) dL_law_850 ?_
          refine xr_aload_n F dL_law_851 rfl 4 rfl ?_
          refine xr_callXHi F G (wr := cw yI yZ t Kt Vt ++ (mw yI g u v th K ++ (sw yI u (kMark K) aw wh V ++ (sw yI v z1 z2 z3 z4)))) (rest := []) (As := [.ref h, .int (xs (4 * j + 1)), .ref ou]) (k_L_count l D yI yZ yL hst h a t K V ou f (xs (4 * j + 1)) k1) (vx_cwSW 3 F.hts gL_law_L_count rfl rfl rfl (by decide +kernel) ⟨Nat.le_of_ble_eq_true rfl, Nat.le_of_ble_eq_true rfl⟩) [0, 1, 2, 3, 4, 5, 6, 7, 8, 9, 10, 11, 12, 50] [13, 14, 15, 16, 17, 18, 19, 20, 21, 22, 23, 24, 25, 26, 27, 28, 29, 30, 31, 32, 33, 34, 35, 36, 37, 38, 39, 40, 41, 42, 43, 44, 45, 46, 47, 48, 49] rfl rfl (by decide) (by decide) (by decide) rfl rfl (Nat.le_of_ble_eq_true rfl) dL_law_852 ⟨(by show _ ≤ 1080; omega), (by show _ ≤ 8624; omega)⟩ (fun E1 W1 z1 => z1.elim) (fun r1 W1 z1 => ?_)
          obtain ⟨z0, f9, hf9, z1⟩ := z1
          subst z0
          subst z1
          refine xr_sub (ws' := bw h a t ++ (cw yI yZ a K V ++ (cw yI yZ t Kt Vt ++ (mw yI g u v th K ++ (sw yI u (kMark K) aw wh V ++ (sw yI v z1 z2 z3 z4 ++ (([(ou, .inl (yL, 1, .inr (.inl f9)))] : va_W)))))))) [37, 38, 39, 40, 41, 42, 43, 44, 45, 46, 47, 48, 49, 0, 1, 2, 3, 4, 5, 6, 7, 8, 9, 10, 11, 12, 13, 14, 15, 16, 17, 18, 19, 20, 21, 22, 23, 24, 25, 26, 27, 28, 29, 30, 31, 32, 33, 34, 35, 36, 50] (by decide) rfl ?_
          refine xr_istore F [(5, .int (q_count (xs (4 * j + 1)))), (4, .int (nI (4 * j))), (0, .ref b), (1, .ref h), (2, .ref (g 0)), (3, .ref ou)] dL_law_855 (by decide) rfl ?_
          refine xr_aload_n F dL_law_857 rfl 4 rfl ?_
          refine xr_aload_n F dL_law_858 rfl 2 rfl ?_
          refine xr_iload F dL_law_859 1 rfl ?_
          refine xr_iconst F dL_law_861 (v := 1) (by decide) ?_
          refine xr_iadd F (nI (4 * j + 1)) dL_law_862 (nI_add (4 * j) 1) ?_
          refine xr_sld F hX hbl hbA (4 * j + 1) rfl (by omega) (by omega) dL_law_863 ?_
          refine xr_callVi F (wr := bw h a t ++ (cw yI yZ a K V ++ (cw yI yZ t Kt Vt ++ (sw yI v z1 z2 z3 z4 ++ (([(ou, .inl (yL, 1, .inr (.inl f9)))] : va_W)))))) (rest := []) (As := [.int (xs (4 * j + 1))]) (k_X3_count l D yI yZ yL g u v th K aw wh V (xs (4 * j + 1)) (by assumption)) (cwV 1 F.hts gL_law_X3_count rfl rfl rfl (by decide +kernel) ⟨Nat.le_of_ble_eq_true rfl, Nat.le_of_ble_eq_true rfl⟩) (q0 := 0) rfl rfl [25, 26, 27, 28, 29, 30, 31, 32, 33, 34, 35, 36, 37, 38] [0, 1, 2, 3, 4, 5, 6, 7, 8, 9, 10, 11, 12, 13, 14, 15, 16, 17, 18, 19, 20, 21, 22, 23, 24, 39, 40, 41, 42, 43, 44, 45, 46, 47, 48, 49, 50] rfl rfl (by decide) (by decide) (by decide) rfl rfl (Nat.le_of_ble_eq_true rfl) dL_law_864 ⟨(by show _ ≤ 1080; omega), (by show _ ≤ 8624; omega)⟩ (fun r1 W1 z1 => ?_)
          obtain ⟨z0, z1⟩ := z1
          subst z0
          obtain ⟨h38, eh38⟩ : ∃ x9 : Int32, x9 = q_count (xs (4 * j + 1)) := ⟨_, rfl⟩
          rw [← eh38] at z1
          subst z1
          refine xr_sub (ws' := bw h a t ++ (cw yI yZ a K V ++ (cw yI yZ t Kt Vt ++ (mw yI g u v h38 K ++ (sw yI u (kMark K) aw wh V ++ (sw yI v z1 z2 z3 z4 ++ (([(ou, .inl (yL, 1, .inr (.inl f9)))] : va_W)))))))) [0, 1, 2, 3, 4, 5, 6, 7, 8, 9, 10, 11, 12, 13, 14, 15, 16, 17, 18, 19, 20, 21, 22, 23, 24, 37, 38, 39, 40, 41, 42, 43, 44, 45, 46, 47, 48, 49, 50, 25, 26, 27, 28, 29, 30, 31, 32, 33, 34, 35, 36] (by decide) rfl ?_
          refine xr_istore F [(6, .int (r_or0 (q_count (xs (4 * j + 1))) (m_tellW K V aw (ix (xs (4 * j + 1)))))), (5, .int (q_count (xs (4 * j + 1)))), (4, .int (nI (4 * j))), (0, .ref b), (1, .ref h), (2, .ref (g 0)), (3, .ref ou)] dL_law_867 (by decide) rfl ?_
          refine xr_aload_n F dL_law_869 rfl 5 rfl ?_
          refine xr_callVi F (wr := bw h a t ++ (cw yI yZ a K V ++ (cw yI yZ t Kt Vt ++ (sw yI u (kMark K) aw wh V ++ (sw yI v z1 z2 z3 z4 ++ (([(ou, .inl (yL, 1, .inr (.inl f9)))] : va_W))))))) (rest := []) (As := []) (k_X3_thrown l D yI yZ yL g u v h38 K ) (cwV 0 F.hts gL_law_X3_thrown rfl rfl rfl (by decide +kernel) ⟨Nat.le_of_ble_eq_true rfl, Nat.le_of_ble_eq_true rfl⟩) (q0 := 0) rfl rfl [25, 26, 27] [0, 1, 2, 3, 4, 5, 6, 7, 8, 9, 10, 11, 12, 13, 14, 15, 16, 17, 18, 19, 20, 21, 22, 23, 24, 28, 29, 30, 31, 32, 33, 34, 35, 36, 37, 38, 39, 40, 41, 42, 43, 44, 45, 46, 47, 48, 49, 50] rfl rfl (by decide) (by decide) (by decide) rfl rfl (Nat.le_of_ble_eq_true rfl) dL_law_870 ⟨(by show _ ≤ 1080; omega), (by show _ ≤ 8624; omega)⟩ (fun r1 W1 z1 => ?_)
          obtain ⟨z0, z1⟩ := z1
          rw [z0]
          subst z1
          refine xr_sub (ws' := bw h a t ++ (cw yI yZ a K V ++ (cw yI yZ t Kt Vt ++ (mw yI g u v h38 K ++ (sw yI u (kMark K) aw wh V ++ (sw yI v z1 z2 z3 z4 ++ (([(ou, .inl (yL, 1, .inr (.inl f9)))] : va_W)))))))) [0, 1, 2, 3, 4, 5, 6, 7, 8, 9, 10, 11, 12, 13, 14, 15, 16, 17, 18, 19, 20, 21, 22, 23, 24, 48, 49, 50, 25, 26, 27, 28, 29, 30, 31, 32, 33, 34, 35, 36, 37, 38, 39, 40, 41, 42, 43, 44, 45, 46, 47] (by decide) rfl ?_
          refine xr_iload F dL_law_873 1 rfl ?_
          refine xr_icmp_eq F 880 dL_law_875 (by decide) (fun c875 => ?_) (fun c875 => ?_)
          · skip
            refine xr_iload F dL_law_880 1 rfl ?_
            refine xr_if_ne F 897 dL_law_882 (by decide) (fun c882 => ?_) (fun c882 => ?_)
            · skip
              refine xr_goto F 1204 dL_law_897 (by decide) ?_
              refine xr_iinc F (nI (4 * (j + 1))) [(4, .int (nI (4 * (j + 1)))), (6, .int (r_or0 (q_count (xs (4 * j + 1))) (m_tellW K V aw (ix (xs (4 * j + 1)))))), (5, .int (q_count (xs (4 * j + 1)))), (0, .ref b), (1, .ref h), (2, .ref (g 0)), (3, .ref ou)] dL_law_1204 2 rfl (nI_add (4 * j) 4) (by decide) rfl ?_
              refine xr_goto F 23 dL_law_1207 (by decide) ?_
              refine xr_lv (lv' := [(4, .int (nI (4 * (j + 1)))), (0, .ref b), (1, .ref h), (2, .ref (g 0)), (3, .ref ou)]) [0, 3, 4, 5, 6] rfl ?_
              refine xr_ws (ws' := bw h a t ++ (cw yI yZ a K V ++ (cw yI yZ t Kt Vt ++ (mw yI g u v h38 K ++ (sw yI u (kMark K) aw wh V ++ (sw yI v z1 z2 z3 z4 ++ (([(ou, .inl (yL, 1, .inr (.inl f9)))] : va_W)))))))) rfl ?_
              refine xr_widen (k := 51 + (j + 1)) (n := 402 + 6 * (j + 1)) (by omega) (by omega) ?_
              exact ih (j + 1) K V aw wh h38 Kt Vt z1 z2 z3 z4 f9 (by omega) hK hV (by omega)
            · skip
              refine xr_aload_n F dL_law_885 rfl 6 rfl ?_
              refine xr_iconst F dL_law_886 (v := 0) (by decide) ?_
              refine xr_lald F 50 2 rfl rfl (0) rfl (by decide) (by decide) dL_law_887 ?_
              refine xr_iload F dL_law_888 0 rfl ?_
              refine xr_i2l F dL_law_890 (v := (r_or0 (q_count (xs (4 * j + 1))) (m_tellW K V aw (ix (xs (4 * j + 1))))).toInt64) rfl ?_
              refine xr_lcmp F dL_law_891 ?_
              refine xr_if_eq F 897 dL_law_892 (by decide) (fun c892 => ?_) (fun c892 => ?_)
              · skip
                refine xr_goto F 1204 dL_law_897 (by decide) ?_
                refine xr_iinc F (nI (4 * (j + 1))) [(4, .int (nI (4 * (j + 1)))), (6, .int (r_or0 (q_count (xs (4 * j + 1))) (m_tellW K V aw (ix (xs (4 * j + 1)))))), (5, .int (q_count (xs (4 * j + 1)))), (0, .ref b), (1, .ref h), (2, .ref (g 0)), (3, .ref ou)] dL_law_1204 2 rfl (nI_add (4 * j) 4) (by decide) rfl ?_
                refine xr_goto F 23 dL_law_1207 (by decide) ?_
                refine xr_lv (lv' := [(4, .int (nI (4 * (j + 1)))), (0, .ref b), (1, .ref h), (2, .ref (g 0)), (3, .ref ou)]) [0, 3, 4, 5, 6] rfl ?_
                refine xr_ws (ws' := bw h a t ++ (cw yI yZ a K V ++ (cw yI yZ t Kt Vt ++ (mw yI g u v h38 K ++ (sw yI u (kMark K) aw wh V ++ (sw yI v z1 z2 z3 z4 ++ (([(ou, .inl (yL, 1, .inr (.inl f9)))] : va_W)))))))) rfl ?_
                refine xr_widen (k := 51 + (j + 1)) (n := 402 + 6 * (j + 1)) (by omega) (by omega) ?_
                exact ih (j + 1) K V aw wh h38 Kt Vt z1 z2 z3 z4 f9 (by omega) hK hV (by omega)
              · exact absurd (law_cmp hf9 c882 (tellW_eq hV _)) c892
          · exact absurd eh38 c875
        · skip
          refine xr_tableIn F (off := 861) 900 dL_law_39 (by decide) (by decide) (by decide) (by decide) ?_
          refine xr_aload_n F dL_law_900 rfl 2 rfl ?_
          refine xr_aload_n F dL_law_901 rfl 1 rfl ?_
          refine xr_iload F dL_law_902 0 rfl ?_
          refine xr_iconst F dL_law_904 (v := 1) (by decide) ?_
          refine xr_iadd F (nI (4 * j + 1)) dL_law_905 (nI_add (4 * j) 1) ?_
          refine xr_sld F hX hbl hbA (4 * j + 1) rfl (by omega) (by omega) dL_law_906 ?_
          refine xr_aload_n F dL_law_907 rfl 4 rfl ?_
          refine xr_callXHi F G (wr := cw yI yZ t Kt Vt ++ (mw yI g u v th K ++ (sw yI u (kMark K) aw wh V ++ (sw yI v z1 z2 z3 z4)))) (rest := []) (As := [.ref h, .int (xs (4 * j + 1)), .ref ou]) (k_L_pass l D yI yZ yL hst h a t K V ou f (xs (4 * j + 1)) k1 k2 (by omega)) (vx_cwSW 3 F.hts gL_law_L_pass rfl rfl rfl (by decide +kernel) ⟨Nat.le_of_ble_eq_true rfl, Nat.le_of_ble_eq_true rfl⟩) [0, 1, 2, 3, 4, 5, 6, 7, 8, 9, 10, 11, 12, 50] [13, 14, 15, 16, 17, 18, 19, 20, 21, 22, 23, 24, 25, 26, 27, 28, 29, 30, 31, 32, 33, 34, 35, 36, 37, 38, 39, 40, 41, 42, 43, 44, 45, 46, 47, 48, 49] rfl rfl (by decide) (by decide) (by decide) rfl rfl (Nat.le_of_ble_eq_true rfl) dL_law_908 ⟨(by show _ ≤ 1080; omega), (by show _ ≤ 8624; omega)⟩ (fun E1 W1 z1 => z1.elim) (fun r1 W1 z1 => ?_)
          obtain ⟨z0, f9, hf9, z1⟩ := z1
          subst z0
          subst z1
          refine xr_sub (ws' := bw h a t ++ (cw yI yZ a K ((C_pass K V (xs (4 * j + 1))).1) ++ (cw yI yZ t Kt Vt ++ (mw yI g u v th K ++ (sw yI u (kMark K) aw wh V ++ (sw yI v z1 z2 z3 z4 ++ (([(ou, .inl (yL, 1, .inr (.inl f9)))] : va_W)))))))) [37, 38, 39, 40, 41, 42, 43, 44, 45, 46, 47, 48, 49, 0, 1, 2, 3, 4, 5, 6, 7, 8, 9, 10, 11, 12, 13, 14, 15, 16, 17, 18, 19, 20, 21, 22, 23, 24, 25, 26, 27, 28, 29, 30, 31, 32, 33, 34, 35, 36, 50] (by decide) rfl ?_
          refine xr_istore F [(5, .int (q_hours (xs (4 * j + 1)) 60)), (4, .int (nI (4 * j))), (0, .ref b), (1, .ref h), (2, .ref (g 0)), (3, .ref ou)] dL_law_911 (by decide) rfl ?_
          refine xr_aload_n F dL_law_913 rfl 4 rfl ?_
          refine xr_aload_n F dL_law_914 rfl 2 rfl ?_
          refine xr_iload F dL_law_915 1 rfl ?_
          refine xr_iconst F dL_law_917 (v := 1) (by decide) ?_
          refine xr_iadd F (nI (4 * j + 1)) dL_law_918 (nI_add (4 * j) 1) ?_
          refine xr_sld F hX hbl hbA (4 * j + 1) rfl (by omega) (by omega) dL_law_919 ?_
          refine xr_callVi F (wr := bw h a t ++ (cw yI yZ a K ((C_pass K V (xs (4 * j + 1))).1) ++ (cw yI yZ t Kt Vt ++ (sw yI v z1 z2 z3 z4 ++ (([(ou, .inl (yL, 1, .inr (.inl f9)))] : va_W)))))) (rest := []) (As := [.int (xs (4 * j + 1))]) (k_X3_pass_ l D yI yZ yL g u v th K aw wh V (xs (4 * j + 1)) (by assumption) (by assumption) (by omega)) (cwV 1 F.hts gL_law_X3_pass_ rfl rfl rfl (by decide +kernel) ⟨Nat.le_of_ble_eq_true rfl, Nat.le_of_ble_eq_true rfl⟩) (q0 := 0) rfl rfl [25, 26, 27, 28, 29, 30, 31, 32, 33, 34, 35, 36, 37, 38] [0, 1, 2, 3, 4, 5, 6, 7, 8, 9, 10, 11, 12, 13, 14, 15, 16, 17, 18, 19, 20, 21, 22, 23, 24, 39, 40, 41, 42, 43, 44, 45, 46, 47, 48, 49, 50] rfl rfl (by decide) (by decide) (by decide) rfl rfl (Nat.le_of_ble_eq_true rfl) dL_law_920 ⟨(by show _ ≤ 1080; omega), (by show _ ≤ 8624; omega)⟩ (fun r1 W1 z1 => ?_)
          obtain ⟨z0, z1⟩ := z1
          subst z0
          obtain ⟨h39, eh39⟩ : ∃ x9 : Int32, x9 = q_hours (xs (4 * j + 1)) 60 := ⟨_, rfl⟩
          rw [← eh39] at z1
          obtain ⟨V40, eV40⟩ : ∃ x9 : CD, x9 = (m_passX K V aw wh (xs (4 * j + 1))).1 := ⟨_, rfl⟩
          rw [← eV40] at z1
          obtain ⟨x41, ex41⟩ : ∃ x9 : Int32, x9 = (m_passX K V aw wh (xs (4 * j + 1))).2.1 := ⟨_, rfl⟩
          rw [← ex41] at z1
          obtain ⟨y42, ey42⟩ : ∃ x9 : Nat → Int32, x9 = (m_passX K V aw wh (xs (4 * j + 1))).2.2.1 := ⟨_, rfl⟩
          rw [← ey42] at z1
          subst z1
          refine xr_sub (ws' := bw h a t ++ (cw yI yZ a K ((C_pass K V (xs (4 * j + 1))).1) ++ (cw yI yZ t Kt Vt ++ (mw yI g u v h39 K ++ (sw yI u (kMark K) x41 y42 V40 ++ (sw yI v z1 z2 z3 z4 ++ (([(ou, .inl (yL, 1, .inr (.inl f9)))] : va_W)))))))) [0, 1, 2, 3, 4, 5, 6, 7, 8, 9, 10, 11, 12, 13, 14, 15, 16, 17, 18, 19, 20, 21, 22, 23, 24, 37, 38, 39, 40, 41, 42, 43, 44, 45, 46, 47, 48, 49, 50, 25, 26, 27, 28, 29, 30, 31, 32, 33, 34, 35, 36] (by decide) rfl ?_
          refine xr_istore F [(6, .int ((m_passX K V aw wh (xs (4 * j + 1))).2.2.2)), (5, .int (q_hours (xs (4 * j + 1)) 60)), (4, .int (nI (4 * j))), (0, .ref b), (1, .ref h), (2, .ref (g 0)), (3, .ref ou)] dL_law_923 (by decide) rfl ?_
          refine xr_aload_n F dL_law_925 rfl 5 rfl ?_
          refine xr_callVi F (wr := bw h a t ++ (cw yI yZ a K ((C_pass K V (xs (4 * j + 1))).1) ++ (cw yI yZ t Kt Vt ++ (sw yI u (kMark K) x41 y42 V40 ++ (sw yI v z1 z2 z3 z4 ++ (([(ou, .inl (yL, 1, .inr (.inl f9)))] : va_W))))))) (rest := []) (As := []) (k_X3_thrown l D yI yZ yL g u v h39 K ) (cwV 0 F.hts gL_law_X3_thrown rfl rfl rfl (by decide +kernel) ⟨Nat.le_of_ble_eq_true rfl, Nat.le_of_ble_eq_true rfl⟩) (q0 := 0) rfl rfl [25, 26, 27] [0, 1, 2, 3, 4, 5, 6, 7, 8, 9, 10, 11, 12, 13, 14, 15, 16, 17, 18, 19, 20, 21, 22, 23, 24, 28, 29, 30, 31, 32, 33, 34, 35, 36, 37, 38, 39, 40, 41, 42, 43, 44, 45, 46, 47, 48, 49, 50] rfl rfl (by decide) (by decide) (by decide) rfl rfl (Nat.le_of_ble_eq_true rfl) dL_law_926 ⟨(by show _ ≤ 1080; omega), (by show _ ≤ 8624; omega)⟩ (fun r1 W1 z1 => ?_)
          obtain ⟨z0, z1⟩ := z1
          rw [z0]
          subst z1
          refine xr_sub (ws' := bw h a t ++ (cw yI yZ a K ((C_pass K V (xs (4 * j + 1))).1) ++ (cw yI yZ t Kt Vt ++ (mw yI g u v h39 K ++ (sw yI u (kMark K) x41 y42 V40 ++ (sw yI v z1 z2 z3 z4 ++ (([(ou, .inl (yL, 1, .inr (.inl f9)))] : va_W)))))))) [0, 1, 2, 3, 4, 5, 6, 7, 8, 9, 10, 11, 12, 13, 14, 15, 16, 17, 18, 19, 20, 21, 22, 23, 24, 48, 49, 50, 25, 26, 27, 28, 29, 30, 31, 32, 33, 34, 35, 36, 37, 38, 39, 40, 41, 42, 43, 44, 45, 46, 47] (by decide) rfl ?_
          refine xr_iload F dL_law_929 1 rfl ?_
          refine xr_icmp_eq F 936 dL_law_931 (by decide) (fun c931 => ?_) (fun c931 => ?_)
          · skip
            refine xr_iload F dL_law_936 1 rfl ?_
            refine xr_if_ne F 953 dL_law_938 (by decide) (fun c938 => ?_) (fun c938 => ?_)
            · skip
              refine xr_goto F 1204 dL_law_953 (by decide) ?_
              refine xr_iinc F (nI (4 * (j + 1))) [(4, .int (nI (4 * (j + 1)))), (6, .int ((m_passX K V aw wh (xs (4 * j + 1))).2.2.2)), (5, .int (q_hours (xs (4 * j + 1)) 60)), (0, .ref b), (1, .ref h), (2, .ref (g 0)), (3, .ref ou)] dL_law_1204 2 rfl (nI_add (4 * j) 4) (by decide) rfl ?_
              refine xr_goto F 23 dL_law_1207 (by decide) ?_
              refine xr_lv (lv' := [(4, .int (nI (4 * (j + 1)))), (0, .ref b), (1, .ref h), (2, .ref (g 0)), (3, .ref ou)]) [0, 3, 4, 5, 6] rfl ?_
              refine xr_ws (ws' := bw h a t ++ (cw yI yZ a K ((C_pass K V (xs (4 * j + 1))).1) ++ (cw yI yZ t Kt Vt ++ (mw yI g u v h39 K ++ (sw yI u (kMark K) ((m_passX K V aw wh (xs (4 * j + 1))).2.1) ((m_passX K V aw wh (xs (4 * j + 1))).2.2.1) ((C_pass K V (xs (4 * j + 1))).1) ++ (sw yI v z1 z2 z3 z4 ++ (([(ou, .inl (yL, 1, .inr (.inl f9)))] : va_W)))))))) (by rw [ey42, ex41, eV40, (pass_eq (xs (4 * j + 1)) hK hV (by omega)).1]) ?_
              refine xr_widen (k := 51 + (j + 1)) (n := 402 + 6 * (j + 1)) (by omega) (by omega) ?_
              exact ih (j + 1) K ((C_pass K V (xs (4 * j + 1))).1) ((m_passX K V aw wh (xs (4 * j + 1))).2.1) ((m_passX K V aw wh (xs (4 * j + 1))).2.2.1) h39 Kt Vt z1 z2 z3 z4 f9 (by omega) hK (pass_eq (xs (4 * j + 1)) hK hV (by omega)).2.2.1 (Nat.le_trans (pass_eq (xs (4 * j + 1)) hK hV (by omega)).2.2.2 (by omega))
            · skip
              refine xr_aload_n F dL_law_941 rfl 6 rfl ?_
              refine xr_iconst F dL_law_942 (v := 0) (by decide) ?_
              refine xr_lald F 50 2 rfl rfl (0) rfl (by decide) (by decide) dL_law_943 ?_
              refine xr_iload F dL_law_944 0 rfl ?_
              refine xr_i2l F dL_law_946 (v := ((m_passX K V aw wh (xs (4 * j + 1))).2.2.2).toInt64) rfl ?_
              refine xr_lcmp F dL_law_947 ?_
              refine xr_if_eq F 953 dL_law_948 (by decide) (fun c948 => ?_) (fun c948 => ?_)
              · skip
                refine xr_goto F 1204 dL_law_953 (by decide) ?_
                refine xr_iinc F (nI (4 * (j + 1))) [(4, .int (nI (4 * (j + 1)))), (6, .int ((m_passX K V aw wh (xs (4 * j + 1))).2.2.2)), (5, .int (q_hours (xs (4 * j + 1)) 60)), (0, .ref b), (1, .ref h), (2, .ref (g 0)), (3, .ref ou)] dL_law_1204 2 rfl (nI_add (4 * j) 4) (by decide) rfl ?_
                refine xr_goto F 23 dL_law_1207 (by decide) ?_
                refine xr_lv (lv' := [(4, .int (nI (4 * (j + 1)))), (0, .ref b), (1, .ref h), (2, .ref (g 0)), (3, .ref ou)]) [0, 3, 4, 5, 6] rfl ?_
                refine xr_ws (ws' := bw h a t ++ (cw yI yZ a K ((C_pass K V (xs (4 * j + 1))).1) ++ (cw yI yZ t Kt Vt ++ (mw yI g u v h39 K ++ (sw yI u (kMark K) ((m_passX K V aw wh (xs (4 * j + 1))).2.1) ((m_passX K V aw wh (xs (4 * j + 1))).2.2.1) ((C_pass K V (xs (4 * j + 1))).1) ++ (sw yI v z1 z2 z3 z4 ++ (([(ou, .inl (yL, 1, .inr (.inl f9)))] : va_W)))))))) (by rw [ey42, ex41, eV40, (pass_eq (xs (4 * j + 1)) hK hV (by omega)).1]) ?_
                refine xr_widen (k := 51 + (j + 1)) (n := 402 + 6 * (j + 1)) (by omega) (by omega) ?_
                exact ih (j + 1) K ((C_pass K V (xs (4 * j + 1))).1) ((m_passX K V aw wh (xs (4 * j + 1))).2.1) ((m_passX K V aw wh (xs (4 * j + 1))).2.2.1) h39 Kt Vt z1 z2 z3 z4 f9 (by omega) hK (pass_eq (xs (4 * j + 1)) hK hV (by omega)).2.2.1 (Nat.le_trans (pass_eq (xs (4 * j + 1)) hK hV (by omega)).2.2.2 (by omega))
              · exact absurd (law_cmp0 hf9 c938 (pass_eq (xs (4 * j + 1)) hK hV (by omega)).2.1) c948
          · exact absurd eh39 c931
        · skip
          refine xr_tableIn F (off := 917) 956 dL_law_39 (by decide) (by decide) (by decide) (by decide) ?_
          refine xr_aload_n F dL_law_956 rfl 2 rfl ?_
          refine xr_aload_n F dL_law_957 rfl 1 rfl ?_
          refine xr_iload F dL_law_958 0 rfl ?_
          refine xr_iconst F dL_law_960 (v := 1) (by decide) ?_
          refine xr_iadd F (nI (4 * j + 1)) dL_law_961 (nI_add (4 * j) 1) ?_
          refine xr_sld F hX hbl hbA (4 * j + 1) rfl (by omega) (by omega) dL_law_962 ?_
          refine xr_aload_n F dL_law_963 rfl 4 rfl ?_
          refine xr_callXHi F G (wr := mw yI g u v th K ++ (sw yI u (kMark K) aw wh V ++ (sw yI v z1 z2 z3 z4))) (rest := []) (As := [.ref h, .int (xs (4 * j + 1)), .ref ou]) (k_L_arrives l D yI yZ yL hst h a t K V Kt Vt ou f (xs (4 * j + 1)) k3 hV.2.1 k1 k2 (by omega)) (vx_cwSW 3 F.hts gL_law_L_arrives rfl rfl rfl (by decide +kernel) ⟨Nat.le_of_ble_eq_true rfl, Nat.le_of_ble_eq_true rfl⟩) [0, 1, 2, 3, 4, 5, 6, 7, 8, 9, 10, 11, 12, 13, 14, 15, 16, 17, 18, 19, 20, 21, 22, 23, 24, 50] [25, 26, 27, 28, 29, 30, 31, 32, 33, 34, 35, 36, 37, 38, 39, 40, 41, 42, 43, 44, 45, 46, 47, 48, 49] rfl rfl (by decide) (by decide) (by decide) rfl rfl (Nat.le_of_ble_eq_true rfl) dL_law_964 ⟨(by show _ ≤ 1080; omega), (by show _ ≤ 8624; omega)⟩ (fun E1 W1 z1 => z1.elim) (fun r1 W1 z1 => ?_)
          obtain ⟨z0, K9, V9, f9, hf9, z1⟩ := z1
          subst z0
          subst z1
          refine xr_sub (ws' := bw h a t ++ (cw yI yZ a K V ++ (cw yI yZ t K9 V9 ++ (mw yI g u v th K ++ (sw yI u (kMark K) aw wh V ++ (sw yI v z1 z2 z3 z4 ++ (([(ou, .inl (yL, 1, .inr (.inl f9)))] : va_W)))))))) [25, 26, 27, 28, 29, 30, 31, 32, 33, 34, 35, 36, 37, 38, 39, 40, 41, 42, 43, 44, 45, 46, 47, 48, 49, 0, 1, 2, 3, 4, 5, 6, 7, 8, 9, 10, 11, 12, 13, 14, 15, 16, 17, 18, 19, 20, 21, 22, 23, 24, 50] (by decide) rfl ?_
          refine xr_istore F [(5, .int (q_arrives K (xs (4 * j + 1)))), (4, .int (nI (4 * j))), (0, .ref b), (1, .ref h), (2, .ref (g 0)), (3, .ref ou)] dL_law_967 (by decide) rfl ?_
          refine xr_aload_n F dL_law_969 rfl 4 rfl ?_
          refine xr_aload_n F dL_law_970 rfl 2 rfl ?_
          refine xr_iload F dL_law_971 1 rfl ?_
          refine xr_iconst F dL_law_973 (v := 1) (by decide) ?_
          refine xr_iadd F (nI (4 * j + 1)) dL_law_974 (nI_add (4 * j) 1) ?_
          refine xr_sld F hX hbl hbA (4 * j + 1) rfl (by omega) (by omega) dL_law_975 ?_
          refine xr_callVi F (wr := bw h a t ++ (cw yI yZ a K V ++ (cw yI yZ t K9 V9 ++ (([(ou, .inl (yL, 1, .inr (.inl f9)))] : va_W))))) (rest := []) (As := [.int (xs (4 * j + 1))]) (k_X3_arrives l D yI yZ yL g u v th K aw wh V z1 z2 z3 z4 (xs (4 * j + 1)) k1 k2 (by omega)) (cwV 1 F.hts gL_law_X3_arrives rfl rfl rfl (by decide +kernel) ⟨Nat.le_of_ble_eq_true rfl, Nat.le_of_ble_eq_true rfl⟩) (q0 := 0) rfl rfl [25, 26, 27, 28, 29, 30, 31, 32, 33, 34, 35, 36, 37, 38, 39, 40, 41, 42, 43, 44, 45, 46, 47, 48, 49] [0, 1, 2, 3, 4, 5, 6, 7, 8, 9, 10, 11, 12, 13, 14, 15, 16, 17, 18, 19, 20, 21, 22, 23, 24, 50] rfl rfl (by decide) (by decide) (by decide) rfl rfl (Nat.le_of_ble_eq_true rfl) dL_law_976 ⟨(by show _ ≤ 1080; omega), (by show _ ≤ 8624; omega)⟩ (fun r1 W1 y1 => ?_)
          obtain ⟨y0, u1, u2, u3, u4, y1⟩ := y1
          subst y0
          subst y1
          refine xr_sub (ws' := bw h a t ++ (cw yI yZ a K V ++ (cw yI yZ t K9 V9 ++ (mw yI g u v (q_arrives K (xs (4 * j + 1))) K ++ (sw yI u (kMark K) aw wh V ++ (sw yI v u1 u2 u3 u4 ++ (([(ou, .inl (yL, 1, .inr (.inl f9)))] : va_W)))))))) [0, 1, 2, 3, 4, 5, 6, 7, 8, 9, 10, 11, 12, 13, 14, 15, 16, 17, 18, 19, 20, 21, 22, 23, 24, 26, 27, 28, 29, 30, 31, 32, 33, 34, 35, 36, 37, 38, 39, 40, 41, 42, 43, 44, 45, 46, 47, 48, 49, 50, 25] (by decide) rfl ?_
          refine xr_istore F [(6, .int (r_or0 (q_arrives K (xs (4 * j + 1))) (m_arrL K (ix (xs (4 * j + 1))) 121 0 V aw wh))), (5, .int (q_arrives K (xs (4 * j + 1)))), (4, .int (nI (4 * j))), (0, .ref b), (1, .ref h), (2, .ref (g 0)), (3, .ref ou)] dL_law_979 (by decide) rfl ?_
          refine xr_aload_n F dL_law_981 rfl 5 rfl ?_
          refine xr_callVi F (wr := bw h a t ++ (cw yI yZ a K V ++ (cw yI yZ t K9 V9 ++ (sw yI u (kMark K) aw wh V ++ (sw yI v u1 u2 u3 u4 ++ (([(ou, .inl (yL, 1, .inr (.inl f9)))] : va_W))))))) (rest := []) (As := []) (k_X3_thrown l D yI yZ yL g u v (q_arrives K (xs (4 * j + 1))) K ) (cwV 0 F.hts gL_law_X3_thrown rfl rfl rfl (by decide +kernel) ⟨Nat.le_of_ble_eq_true rfl, Nat.le_of_ble_eq_true rfl⟩) (q0 := 0) rfl rfl [25, 26, 27] [0, 1, 2, 3, 4, 5, 6, 7, 8, 9, 10, 11, 12, 13, 14, 15, 16, 17, 18, 19, 20, 21, 22, 23, 24, 28, 29, 30, 31, 32, 33, 34, 35, 36, 37, 38, 39, 40, 41, 42, 43, 44, 45, 46, 47, 48, 49, 50] rfl rfl (by decide) (by decide) (by decide) rfl rfl (Nat.le_of_ble_eq_true rfl) dL_law_982 ⟨(by show _ ≤ 1080; omega), (by show _ ≤ 8624; omega)⟩ (fun r1 W1 z1 => ?_)
          obtain ⟨z0, z1⟩ := z1
          rw [z0]
          subst z1
          refine xr_sub (ws' := bw h a t ++ (cw yI yZ a K V ++ (cw yI yZ t K9 V9 ++ (mw yI g u v (q_arrives K (xs (4 * j + 1))) K ++ (sw yI u (kMark K) aw wh V ++ (sw yI v u1 u2 u3 u4 ++ (([(ou, .inl (yL, 1, .inr (.inl f9)))] : va_W)))))))) [0, 1, 2, 3, 4, 5, 6, 7, 8, 9, 10, 11, 12, 13, 14, 15, 16, 17, 18, 19, 20, 21, 22, 23, 24, 48, 49, 50, 25, 26, 27, 28, 29, 30, 31, 32, 33, 34, 35, 36, 37, 38, 39, 40, 41, 42, 43, 44, 45, 46, 47] (by decide) rfl ?_
          refine xr_iload F dL_law_985 1 rfl ?_
          refine xr_icmp_eq F 992 dL_law_987 (by decide) (fun c987 => ?_) (fun c987 => ?_)
          · skip
            refine xr_iload F dL_law_992 1 rfl ?_
            refine xr_if_ne F 1009 dL_law_994 (by decide) (fun c994 => ?_) (fun c994 => ?_)
            · skip
              refine xr_goto F 1204 dL_law_1009 (by decide) ?_
              refine xr_iinc F (nI (4 * (j + 1))) [(4, .int (nI (4 * (j + 1)))), (6, .int (r_or0 (q_arrives K (xs (4 * j + 1))) (m_arrL K (ix (xs (4 * j + 1))) 121 0 V aw wh))), (5, .int (q_arrives K (xs (4 * j + 1)))), (0, .ref b), (1, .ref h), (2, .ref (g 0)), (3, .ref ou)] dL_law_1204 2 rfl (nI_add (4 * j) 4) (by decide) rfl ?_
              refine xr_goto F 23 dL_law_1207 (by decide) ?_
              refine xr_lv (lv' := [(4, .int (nI (4 * (j + 1)))), (0, .ref b), (1, .ref h), (2, .ref (g 0)), (3, .ref ou)]) [0, 3, 4, 5, 6] rfl ?_
              refine xr_ws (ws' := bw h a t ++ (cw yI yZ a K V ++ (cw yI yZ t K9 V9 ++ (mw yI g u v (q_arrives K (xs (4 * j + 1))) K ++ (sw yI u (kMark K) aw wh V ++ (sw yI v u1 u2 u3 u4 ++ (([(ou, .inl (yL, 1, .inr (.inl f9)))] : va_W)))))))) rfl ?_
              refine xr_widen (k := 51 + (j + 1)) (n := 402 + 6 * (j + 1)) (by omega) (by omega) ?_
              exact ih (j + 1) K V aw wh (q_arrives K (xs (4 * j + 1))) K9 V9 u1 u2 u3 u4 f9 (by omega) hK hV (by omega)
            · skip
              refine xr_aload_n F dL_law_997 rfl 6 rfl ?_
              refine xr_iconst F dL_law_998 (v := 0) (by decide) ?_
              refine xr_lald F 50 2 rfl rfl (0) rfl (by decide) (by decide) dL_law_999 ?_
              refine xr_iload F dL_law_1000 0 rfl ?_
              refine xr_i2l F dL_law_1002 (v := (r_or0 (q_arrives K (xs (4 * j + 1))) (m_arrL K (ix (xs (4 * j + 1))) 121 0 V aw wh)).toInt64) rfl ?_
              refine xr_lcmp F dL_law_1003 ?_
              refine xr_if_eq F 1009 dL_law_1004 (by decide) (fun c1004 => ?_) (fun c1004 => ?_)
              · skip
                refine xr_goto F 1204 dL_law_1009 (by decide) ?_
                refine xr_iinc F (nI (4 * (j + 1))) [(4, .int (nI (4 * (j + 1)))), (6, .int (r_or0 (q_arrives K (xs (4 * j + 1))) (m_arrL K (ix (xs (4 * j + 1))) 121 0 V aw wh))), (5, .int (q_arrives K (xs (4 * j + 1)))), (0, .ref b), (1, .ref h), (2, .ref (g 0)), (3, .ref ou)] dL_law_1204 2 rfl (nI_add (4 * j) 4) (by decide) rfl ?_
                refine xr_goto F 23 dL_law_1207 (by decide) ?_
                refine xr_lv (lv' := [(4, .int (nI (4 * (j + 1)))), (0, .ref b), (1, .ref h), (2, .ref (g 0)), (3, .ref ou)]) [0, 3, 4, 5, 6] rfl ?_
                refine xr_ws (ws' := bw h a t ++ (cw yI yZ a K V ++ (cw yI yZ t K9 V9 ++ (mw yI g u v (q_arrives K (xs (4 * j + 1))) K ++ (sw yI u (kMark K) aw wh V ++ (sw yI v u1 u2 u3 u4 ++ (([(ou, .inl (yL, 1, .inr (.inl f9)))] : va_W)))))))) rfl ?_
                refine xr_widen (k := 51 + (j + 1)) (n := 402 + 6 * (j + 1)) (by omega) (by omega) ?_
                exact ih (j + 1) K V aw wh (q_arrives K (xs (4 * j + 1))) K9 V9 u1 u2 u3 u4 f9 (by omega) hK hV (by omega)
              · exact absurd (law_cmp hf9 c994 (arr_eq hK 120 0 V aw wh rfl (by omega) hV)) c1004
          · exact absurd rfl c987
        · skip
          refine xr_tableIn F (off := 973) 1012 dL_law_39 (by decide) (by decide) (by decide) (by decide) ?_
          refine xr_aload_n F dL_law_1012 rfl 2 rfl ?_
          refine xr_aload_n F dL_law_1013 rfl 1 rfl ?_
          refine xr_iload F dL_law_1014 0 rfl ?_
          refine xr_iconst F dL_law_1016 (v := 1) (by decide) ?_
          refine xr_iadd F (nI (4 * j + 1)) dL_law_1017 (nI_add (4 * j) 1) ?_
          refine xr_sld F hX hbl hbA (4 * j + 1) rfl (by omega) (by omega) dL_law_1018 ?_
          refine xr_aload_n F dL_law_1019 rfl 1 rfl ?_
          refine xr_iload F dL_law_1020 0 rfl ?_
          refine xr_iconst F dL_law_1022 (v := 2) (by decide) ?_
          refine xr_iadd F (nI (4 * j + 2)) dL_law_1023 (nI_add (4 * j) 2) ?_
          refine xr_sld F hX hbl hbA (4 * j + 2) rfl (by omega) (by omega) dL_law_1024 ?_
          refine xr_aload_n F dL_law_1025 rfl 4 rfl ?_
          refine xr_callXHi F G (wr := mw yI g u v th K ++ (sw yI u (kMark K) aw wh V ++ (sw yI v z1 z2 z3 z4))) (rest := []) (As := [.ref h, .int (xs (4 * j + 1)), .int (xs (4 * j + 2)), .ref ou]) (k_L_foresee l D yI yZ yL hst h a t K V Kt Vt ou f (xs (4 * j + 1)) (xs (4 * j + 2)) k3 hV.2.1 k1 k2 (by omega)) (vx_cwSW 4 F.hts gL_law_L_foresee rfl rfl rfl (by decide +kernel) ⟨Nat.le_of_ble_eq_true rfl, Nat.le_of_ble_eq_true rfl⟩) [0, 1, 2, 3, 4, 5, 6, 7, 8, 9, 10, 11, 12, 13, 14, 15, 16, 17, 18, 19, 20, 21, 22, 23, 24, 50] [25, 26, 27, 28, 29, 30, 31, 32, 33, 34, 35, 36, 37, 38, 39, 40, 41, 42, 43, 44, 45, 46, 47, 48, 49] rfl rfl (by decide) (by decide) (by decide) rfl rfl (Nat.le_of_ble_eq_true rfl) dL_law_1026 ⟨(by show _ ≤ 1080; omega), (by show _ ≤ 8624; omega)⟩ (fun E1 W1 z1 => z1.elim) (fun r1 W1 z1 => ?_)
          obtain ⟨z0, K9, V9, f9, hf9, z1⟩ := z1
          subst z0
          subst z1
          refine xr_sub (ws' := bw h a t ++ (cw yI yZ a K V ++ (cw yI yZ t K9 V9 ++ (mw yI g u v th K ++ (sw yI u (kMark K) aw wh V ++ (sw yI v z1 z2 z3 z4 ++ (([(ou, .inl (yL, 1, .inr (.inl f9)))] : va_W)))))))) [25, 26, 27, 28, 29, 30, 31, 32, 33, 34, 35, 36, 37, 38, 39, 40, 41, 42, 43, 44, 45, 46, 47, 48, 49, 0, 1, 2, 3, 4, 5, 6, 7, 8, 9, 10, 11, 12, 13, 14, 15, 16, 17, 18, 19, 20, 21, 22, 23, 24, 50] (by decide) rfl ?_
          refine xr_istore F [(5, .int (q_foresee (xs (4 * j + 1)) (xs (4 * j + 2)))), (4, .int (nI (4 * j))), (0, .ref b), (1, .ref h), (2, .ref (g 0)), (3, .ref ou)] dL_law_1029 (by decide) rfl ?_
          refine xr_aload_n F dL_law_1031 rfl 4 rfl ?_
          refine xr_aload_n F dL_law_1032 rfl 2 rfl ?_
          refine xr_iload F dL_law_1033 1 rfl ?_
          refine xr_iconst F dL_law_1035 (v := 1) (by decide) ?_
          refine xr_iadd F (nI (4 * j + 1)) dL_law_1036 (nI_add (4 * j) 1) ?_
          refine xr_sld F hX hbl hbA (4 * j + 1) rfl (by omega) (by omega) dL_law_1037 ?_
          refine xr_aload_n F dL_law_1038 rfl 2 rfl ?_
          refine xr_iload F dL_law_1039 1 rfl ?_
          refine xr_iconst F dL_law_1041 (v := 2) (by decide) ?_
          refine xr_iadd F (nI (4 * j + 2)) dL_law_1042 (nI_add (4 * j) 2) ?_
          refine xr_sld F hX hbl hbA (4 * j + 2) rfl (by omega) (by omega) dL_law_1043 ?_
          refine xr_callVi F (wr := bw h a t ++ (cw yI yZ a K V ++ (cw yI yZ t K9 V9 ++ (([(ou, .inl (yL, 1, .inr (.inl f9)))] : va_W))))) (rest := []) (As := [.int (xs (4 * j + 1)), .int (xs (4 * j + 2))]) (k_X3_foresee l D yI yZ yL g u v th K aw wh V z1 z2 z3 z4 (xs (4 * j + 1)) (xs (4 * j + 2)) k1 k2 (by omega)) (cwV 2 F.hts gL_law_X3_foresee rfl rfl rfl (by decide +kernel) ⟨Nat.le_of_ble_eq_true rfl, Nat.le_of_ble_eq_true rfl⟩) (q0 := 0) rfl rfl [25, 26, 27, 28, 29, 30, 31, 32, 33, 34, 35, 36, 37, 38, 39, 40, 41, 42, 43, 44, 45, 46, 47, 48, 49] [0, 1, 2, 3, 4, 5, 6, 7, 8, 9, 10, 11, 12, 13, 14, 15, 16, 17, 18, 19, 20, 21, 22, 23, 24, 50] rfl rfl (by decide) (by decide) (by decide) rfl rfl (Nat.le_of_ble_eq_true rfl) dL_law_1044 ⟨(by show _ ≤ 1080; omega), (by show _ ≤ 8624; omega)⟩ (fun r1 W1 y1 => ?_)
          obtain ⟨y0, u1, u2, u3, u4, y1⟩ := y1
          subst y0
          subst y1
          refine xr_sub (ws' := bw h a t ++ (cw yI yZ a K V ++ (cw yI yZ t K9 V9 ++ (mw yI g u v (q_foresee (xs (4 * j + 1)) (xs (4 * j + 2))) K ++ (sw yI u (kMark K) aw wh V ++ (sw yI v u1 u2 u3 u4 ++ (([(ou, .inl (yL, 1, .inr (.inl f9)))] : va_W)))))))) [0, 1, 2, 3, 4, 5, 6, 7, 8, 9, 10, 11, 12, 13, 14, 15, 16, 17, 18, 19, 20, 21, 22, 23, 24, 26, 27, 28, 29, 30, 31, 32, 33, 34, 35, 36, 37, 38, 39, 40, 41, 42, 43, 44, 45, 46, 47, 48, 49, 50, 25] (by decide) rfl ?_
          refine xr_istore F [(6, .int (r_or0 (q_foresee (xs (4 * j + 1)) (xs (4 * j + 2))) (m_tellW K (m_hours K (ix (xs (4 * j + 1))) V aw wh 0).1 (m_hours K (ix (xs (4 * j + 1))) V aw wh 0).2.1 (ix (xs (4 * j + 2)))))), (5, .int (q_foresee (xs (4 * j + 1)) (xs (4 * j + 2)))), (4, .int (nI (4 * j))), (0, .ref b), (1, .ref h), (2, .ref (g 0)), (3, .ref ou)] dL_law_1047 (by decide) rfl ?_
          refine xr_aload_n F dL_law_1049 rfl 5 rfl ?_
          refine xr_callVi F (wr := bw h a t ++ (cw yI yZ a K V ++ (cw yI yZ t K9 V9 ++ (sw yI u (kMark K) aw wh V ++ (sw yI v u1 u2 u3 u4 ++ (([(ou, .inl (yL, 1, .inr (.inl f9)))] : va_W))))))) (rest := []) (As := []) (k_X3_thrown l D yI yZ yL g u v (q_foresee (xs (4 * j + 1)) (xs (4 * j + 2))) K ) (cwV 0 F.hts gL_law_X3_thrown rfl rfl rfl (by decide +kernel) ⟨Nat.le_of_ble_eq_true rfl, Nat.le_of_ble_eq_true rfl⟩) (q0 := 0) rfl rfl [25, 26, 27] [0, 1, 2, 3, 4, 5, 6, 7, 8, 9, 10, 11, 12, 13, 14, 15, 16, 17, 18, 19, 20, 21, 22, 23, 24, 28, 29, 30, 31, 32, 33, 34, 35, 36, 37, 38, 39, 40, 41, 42, 43, 44, 45, 46, 47, 48, 49, 50] rfl rfl (by decide) (by decide) (by decide) rfl rfl (Nat.le_of_ble_eq_true rfl) dL_law_1050 ⟨(by show _ ≤ 1080; omega), (by show _ ≤ 8624; omega)⟩ (fun r1 W1 z1 => ?_)
          obtain ⟨z0, z1⟩ := z1
          rw [z0]
          subst z1
          refine xr_sub (ws' := bw h a t ++ (cw yI yZ a K V ++ (cw yI yZ t K9 V9 ++ (mw yI g u v (q_foresee (xs (4 * j + 1)) (xs (4 * j + 2))) K ++ (sw yI u (kMark K) aw wh V ++ (sw yI v u1 u2 u3 u4 ++ (([(ou, .inl (yL, 1, .inr (.inl f9)))] : va_W)))))))) [0, 1, 2, 3, 4, 5, 6, 7, 8, 9, 10, 11, 12, 13, 14, 15, 16, 17, 18, 19, 20, 21, 22, 23, 24, 48, 49, 50, 25, 26, 27, 28, 29, 30, 31, 32, 33, 34, 35, 36, 37, 38, 39, 40, 41, 42, 43, 44, 45, 46, 47] (by decide) rfl ?_
          refine xr_iload F dL_law_1053 1 rfl ?_
          refine xr_icmp_eq F 1060 dL_law_1055 (by decide) (fun c1055 => ?_) (fun c1055 => ?_)
          · skip
            refine xr_iload F dL_law_1060 1 rfl ?_
            refine xr_if_ne F 1077 dL_law_1062 (by decide) (fun c1062 => ?_) (fun c1062 => ?_)
            · skip
              refine xr_goto F 1204 dL_law_1077 (by decide) ?_
              refine xr_iinc F (nI (4 * (j + 1))) [(4, .int (nI (4 * (j + 1)))), (6, .int (r_or0 (q_foresee (xs (4 * j + 1)) (xs (4 * j + 2))) (m_tellW K (m_hours K (ix (xs (4 * j + 1))) V aw wh 0).1 (m_hours K (ix (xs (4 * j + 1))) V aw wh 0).2.1 (ix (xs (4 * j + 2)))))), (5, .int (q_foresee (xs (4 * j + 1)) (xs (4 * j + 2)))), (0, .ref b), (1, .ref h), (2, .ref (g 0)), (3, .ref ou)] dL_law_1204 2 rfl (nI_add (4 * j) 4) (by decide) rfl ?_
              refine xr_goto F 23 dL_law_1207 (by decide) ?_
              refine xr_lv (lv' := [(4, .int (nI (4 * (j + 1)))), (0, .ref b), (1, .ref h), (2, .ref (g 0)), (3, .ref ou)]) [0, 3, 4, 5, 6] rfl ?_
              refine xr_ws (ws' := bw h a t ++ (cw yI yZ a K V ++ (cw yI yZ t K9 V9 ++ (mw yI g u v (q_foresee (xs (4 * j + 1)) (xs (4 * j + 2))) K ++ (sw yI u (kMark K) aw wh V ++ (sw yI v u1 u2 u3 u4 ++ (([(ou, .inl (yL, 1, .inr (.inl f9)))] : va_W)))))))) rfl ?_
              refine xr_widen (k := 51 + (j + 1)) (n := 402 + 6 * (j + 1)) (by omega) (by omega) ?_
              exact ih (j + 1) K V aw wh (q_foresee (xs (4 * j + 1)) (xs (4 * j + 2))) K9 V9 u1 u2 u3 u4 f9 (by omega) hK hV (by omega)
            · skip
              refine xr_aload_n F dL_law_1065 rfl 6 rfl ?_
              refine xr_iconst F dL_law_1066 (v := 0) (by decide) ?_
              refine xr_lald F 50 2 rfl rfl (0) rfl (by decide) (by decide) dL_law_1067 ?_
              refine xr_iload F dL_law_1068 0 rfl ?_
              refine xr_i2l F dL_law_1070 (v := (r_or0 (q_foresee (xs (4 * j + 1)) (xs (4 * j + 2))) (m_tellW K (m_hours K (ix (xs (4 * j + 1))) V aw wh 0).1 (m_hours K (ix (xs (4 * j + 1))) V aw wh 0).2.1 (ix (xs (4 * j + 2))))).toInt64) rfl ?_
              refine xr_lcmp F dL_law_1071 ?_
              refine xr_if_eq F 1077 dL_law_1072 (by decide) (fun c1072 => ?_) (fun c1072 => ?_)
              · skip
                refine xr_goto F 1204 dL_law_1077 (by decide) ?_
                refine xr_iinc F (nI (4 * (j + 1))) [(4, .int (nI (4 * (j + 1)))), (6, .int (r_or0 (q_foresee (xs (4 * j + 1)) (xs (4 * j + 2))) (m_tellW K (m_hours K (ix (xs (4 * j + 1))) V aw wh 0).1 (m_hours K (ix (xs (4 * j + 1))) V aw wh 0).2.1 (ix (xs (4 * j + 2)))))), (5, .int (q_foresee (xs (4 * j + 1)) (xs (4 * j + 2)))), (0, .ref b), (1, .ref h), (2, .ref (g 0)), (3, .ref ou)] dL_law_1204 2 rfl (nI_add (4 * j) 4) (by decide) rfl ?_
                refine xr_goto F 23 dL_law_1207 (by decide) ?_
                refine xr_lv (lv' := [(4, .int (nI (4 * (j + 1)))), (0, .ref b), (1, .ref h), (2, .ref (g 0)), (3, .ref ou)]) [0, 3, 4, 5, 6] rfl ?_
                refine xr_ws (ws' := bw h a t ++ (cw yI yZ a K V ++ (cw yI yZ t K9 V9 ++ (mw yI g u v (q_foresee (xs (4 * j + 1)) (xs (4 * j + 2))) K ++ (sw yI u (kMark K) aw wh V ++ (sw yI v u1 u2 u3 u4 ++ (([(ou, .inl (yL, 1, .inr (.inl f9)))] : va_W)))))))) rfl ?_
                refine xr_widen (k := 51 + (j + 1)) (n := 402 + 6 * (j + 1)) (by omega) (by omega) ?_
                exact ih (j + 1) K V aw wh (q_foresee (xs (4 * j + 1)) (xs (4 * j + 2))) K9 V9 u1 u2 u3 u4 f9 (by omega) hK hV (by omega)
              · exact absurd (law_cmp hf9 c1062 (foresee_e hK (by omega) hV c1062)) c1072
          · exact absurd rfl c1055
        · skip
          refine xr_tableIn F (off := 1041) 1080 dL_law_39 (by decide) (by decide) (by decide) (by decide) ?_
          refine xr_aload_n F dL_law_1080 rfl 2 rfl ?_
          refine xr_aload_n F dL_law_1081 rfl 1 rfl ?_
          refine xr_iload F dL_law_1082 0 rfl ?_
          refine xr_iconst F dL_law_1084 (v := 1) (by decide) ?_
          refine xr_iadd F (nI (4 * j + 1)) dL_law_1085 (nI_add (4 * j) 1) ?_
          refine xr_sld F hX hbl hbA (4 * j + 1) rfl (by omega) (by omega) dL_law_1086 ?_
          refine xr_aload_n F dL_law_1087 rfl 4 rfl ?_
          refine xr_callXHi F G (wr := mw yI g u v th K ++ (sw yI u (kMark K) aw wh V ++ (sw yI v z1 z2 z3 z4))) (rest := []) (As := [.ref h, .int (xs (4 * j + 1)), .ref ou]) (k_L_advise l D yI yZ yL hst h a t K V Kt Vt ou f (xs (4 * j + 1)) k3 hV.2.1 k1 k2 (by omega)) (vx_cwSW 3 F.hts gL_law_L_advise rfl rfl rfl (by decide +kernel) ⟨Nat.le_of_ble_eq_true rfl, Nat.le_of_ble_eq_true rfl⟩) [0, 1, 2, 3, 4, 5, 6, 7, 8, 9, 10, 11, 12, 13, 14, 15, 16, 17, 18, 19, 20, 21, 22, 23, 24, 50] [25, 26, 27, 28, 29, 30, 31, 32, 33, 34, 35, 36, 37, 38, 39, 40, 41, 42, 43, 44, 45, 46, 47, 48, 49] rfl rfl (by decide) (by decide) (by decide) rfl rfl (Nat.le_of_ble_eq_true rfl) dL_law_1088 ⟨(by show _ ≤ 1080; omega), (by show _ ≤ 8624; omega)⟩ (fun E1 W1 z1 => z1.elim) (fun r1 W1 z1 => ?_)
          obtain ⟨z0, K9, V9, f9, hf9, z1⟩ := z1
          subst z0
          subst z1
          refine xr_sub (ws' := bw h a t ++ (cw yI yZ a K V ++ (cw yI yZ t K9 V9 ++ (mw yI g u v th K ++ (sw yI u (kMark K) aw wh V ++ (sw yI v z1 z2 z3 z4 ++ (([(ou, .inl (yL, 1, .inr (.inl f9)))] : va_W)))))))) [25, 26, 27, 28, 29, 30, 31, 32, 33, 34, 35, 36, 37, 38, 39, 40, 41, 42, 43, 44, 45, 46, 47, 48, 49, 0, 1, 2, 3, 4, 5, 6, 7, 8, 9, 10, 11, 12, 13, 14, 15, 16, 17, 18, 19, 20, 21, 22, 23, 24, 50] (by decide) rfl ?_
          refine xr_istore F [(5, .int (q_hours (xs (4 * j + 1)) 40)), (4, .int (nI (4 * j))), (0, .ref b), (1, .ref h), (2, .ref (g 0)), (3, .ref ou)] dL_law_1091 (by decide) rfl ?_
          refine xr_aload_n F dL_law_1093 rfl 4 rfl ?_
          refine xr_aload_n F dL_law_1094 rfl 2 rfl ?_
          refine xr_iload F dL_law_1095 1 rfl ?_
          refine xr_iconst F dL_law_1097 (v := 1) (by decide) ?_
          refine xr_iadd F (nI (4 * j + 1)) dL_law_1098 (nI_add (4 * j) 1) ?_
          refine xr_sld F hX hbl hbA (4 * j + 1) rfl (by omega) (by omega) dL_law_1099 ?_
          refine xr_callVi F (wr := bw h a t ++ (cw yI yZ a K V ++ (cw yI yZ t K9 V9 ++ (([(ou, .inl (yL, 1, .inr (.inl f9)))] : va_W))))) (rest := []) (As := [.int (xs (4 * j + 1))]) (k_X3_advise l D yI yZ yL g u v th K aw wh V z1 z2 z3 z4 (xs (4 * j + 1)) k1 k2 (by omega)) (cwV 1 F.hts gL_law_X3_advise rfl rfl rfl (by decide +kernel) ⟨Nat.le_of_ble_eq_true rfl, Nat.le_of_ble_eq_true rfl⟩) (q0 := 0) rfl rfl [25, 26, 27, 28, 29, 30, 31, 32, 33, 34, 35, 36, 37, 38, 39, 40, 41, 42, 43, 44, 45, 46, 47, 48, 49] [0, 1, 2, 3, 4, 5, 6, 7, 8, 9, 10, 11, 12, 13, 14, 15, 16, 17, 18, 19, 20, 21, 22, 23, 24, 50] rfl rfl (by decide) (by decide) (by decide) rfl rfl (Nat.le_of_ble_eq_true rfl) dL_law_1100 ⟨(by show _ ≤ 1080; omega), (by show _ ≤ 8624; omega)⟩ (fun r1 W1 y1 => ?_)
          obtain ⟨y0, u1, u2, u3, u4, y1⟩ := y1
          subst y0
          subst y1
          refine xr_sub (ws' := bw h a t ++ (cw yI yZ a K V ++ (cw yI yZ t K9 V9 ++ (mw yI g u v (q_hours (xs (4 * j + 1)) 40) K ++ (sw yI u (kMark K) aw wh V ++ (sw yI v u1 u2 u3 u4 ++ (([(ou, .inl (yL, 1, .inr (.inl f9)))] : va_W)))))))) [0, 1, 2, 3, 4, 5, 6, 7, 8, 9, 10, 11, 12, 13, 14, 15, 16, 17, 18, 19, 20, 21, 22, 23, 24, 26, 27, 28, 29, 30, 31, 32, 33, 34, 35, 36, 37, 38, 39, 40, 41, 42, 43, 44, 45, 46, 47, 48, 49, 50, 25] (by decide) rfl ?_
          refine xr_istore F [(6, .int (r_or0 (q_hours (xs (4 * j + 1)) 40) (m_advL K V aw wh (ix (xs (4 * j + 1))) 11 0 0 (-1)))), (5, .int (q_hours (xs (4 * j + 1)) 40)), (4, .int (nI (4 * j))), (0, .ref b), (1, .ref h), (2, .ref (g 0)), (3, .ref ou)] dL_law_1103 (by decide) rfl ?_
          refine xr_aload_n F dL_law_1105 rfl 5 rfl ?_
          refine xr_callVi F (wr := bw h a t ++ (cw yI yZ a K V ++ (cw yI yZ t K9 V9 ++ (sw yI u (kMark K) aw wh V ++ (sw yI v u1 u2 u3 u4 ++ (([(ou, .inl (yL, 1, .inr (.inl f9)))] : va_W))))))) (rest := []) (As := []) (k_X3_thrown l D yI yZ yL g u v (q_hours (xs (4 * j + 1)) 40) K ) (cwV 0 F.hts gL_law_X3_thrown rfl rfl rfl (by decide +kernel) ⟨Nat.le_of_ble_eq_true rfl, Nat.le_of_ble_eq_true rfl⟩) (q0 := 0) rfl rfl [25, 26, 27] [0, 1, 2, 3, 4, 5, 6, 7, 8, 9, 10, 11, 12, 13, 14, 15, 16, 17, 18, 19, 20, 21, 22, 23, 24, 28, 29, 30, 31, 32, 33, 34, 35, 36, 37, 38, 39, 40, 41, 42, 43, 44, 45, 46, 47, 48, 49, 50] rfl rfl (by decide) (by decide) (by decide) rfl rfl (Nat.le_of_ble_eq_true rfl) dL_law_1106 ⟨(by show _ ≤ 1080; omega), (by show _ ≤ 8624; omega)⟩ (fun r1 W1 z1 => ?_)
          obtain ⟨z0, z1⟩ := z1
          rw [z0]
          subst z1
          refine xr_sub (ws' := bw h a t ++ (cw yI yZ a K V ++ (cw yI yZ t K9 V9 ++ (mw yI g u v (q_hours (xs (4 * j + 1)) 40) K ++ (sw yI u (kMark K) aw wh V ++ (sw yI v u1 u2 u3 u4 ++ (([(ou, .inl (yL, 1, .inr (.inl f9)))] : va_W)))))))) [0, 1, 2, 3, 4, 5, 6, 7, 8, 9, 10, 11, 12, 13, 14, 15, 16, 17, 18, 19, 20, 21, 22, 23, 24, 48, 49, 50, 25, 26, 27, 28, 29, 30, 31, 32, 33, 34, 35, 36, 37, 38, 39, 40, 41, 42, 43, 44, 45, 46, 47] (by decide) rfl ?_
          refine xr_iload F dL_law_1109 1 rfl ?_
          refine xr_icmp_eq F 1116 dL_law_1111 (by decide) (fun c1111 => ?_) (fun c1111 => ?_)
          · skip
            refine xr_iload F dL_law_1116 1 rfl ?_
            refine xr_if_ne F 1133 dL_law_1118 (by decide) (fun c1118 => ?_) (fun c1118 => ?_)
            · skip
              refine xr_goto F 1204 dL_law_1133 (by decide) ?_
              refine xr_iinc F (nI (4 * (j + 1))) [(4, .int (nI (4 * (j + 1)))), (6, .int (r_or0 (q_hours (xs (4 * j + 1)) 40) (m_advL K V aw wh (ix (xs (4 * j + 1))) 11 0 0 (-1)))), (5, .int (q_hours (xs (4 * j + 1)) 40)), (0, .ref b), (1, .ref h), (2, .ref (g 0)), (3, .ref ou)] dL_law_1204 2 rfl (nI_add (4 * j) 4) (by decide) rfl ?_
              refine xr_goto F 23 dL_law_1207 (by decide) ?_
              refine xr_lv (lv' := [(4, .int (nI (4 * (j + 1)))), (0, .ref b), (1, .ref h), (2, .ref (g 0)), (3, .ref ou)]) [0, 3, 4, 5, 6] rfl ?_
              refine xr_ws (ws' := bw h a t ++ (cw yI yZ a K V ++ (cw yI yZ t K9 V9 ++ (mw yI g u v (q_hours (xs (4 * j + 1)) 40) K ++ (sw yI u (kMark K) aw wh V ++ (sw yI v u1 u2 u3 u4 ++ (([(ou, .inl (yL, 1, .inr (.inl f9)))] : va_W)))))))) rfl ?_
              refine xr_widen (k := 51 + (j + 1)) (n := 402 + 6 * (j + 1)) (by omega) (by omega) ?_
              exact ih (j + 1) K V aw wh (q_hours (xs (4 * j + 1)) 40) K9 V9 u1 u2 u3 u4 f9 (by omega) hK hV (by omega)
            · skip
              refine xr_aload_n F dL_law_1121 rfl 6 rfl ?_
              refine xr_iconst F dL_law_1122 (v := 0) (by decide) ?_
              refine xr_lald F 50 2 rfl rfl (0) rfl (by decide) (by decide) dL_law_1123 ?_
              refine xr_iload F dL_law_1124 0 rfl ?_
              refine xr_i2l F dL_law_1126 (v := (r_or0 (q_hours (xs (4 * j + 1)) 40) (m_advL K V aw wh (ix (xs (4 * j + 1))) 11 0 0 (-1))).toInt64) rfl ?_
              refine xr_lcmp F dL_law_1127 ?_
              refine xr_if_eq F 1133 dL_law_1128 (by decide) (fun c1128 => ?_) (fun c1128 => ?_)
              · skip
                refine xr_goto F 1204 dL_law_1133 (by decide) ?_
                refine xr_iinc F (nI (4 * (j + 1))) [(4, .int (nI (4 * (j + 1)))), (6, .int (r_or0 (q_hours (xs (4 * j + 1)) 40) (m_advL K V aw wh (ix (xs (4 * j + 1))) 11 0 0 (-1)))), (5, .int (q_hours (xs (4 * j + 1)) 40)), (0, .ref b), (1, .ref h), (2, .ref (g 0)), (3, .ref ou)] dL_law_1204 2 rfl (nI_add (4 * j) 4) (by decide) rfl ?_
                refine xr_goto F 23 dL_law_1207 (by decide) ?_
                refine xr_lv (lv' := [(4, .int (nI (4 * (j + 1)))), (0, .ref b), (1, .ref h), (2, .ref (g 0)), (3, .ref ou)]) [0, 3, 4, 5, 6] rfl ?_
                refine xr_ws (ws' := bw h a t ++ (cw yI yZ a K V ++ (cw yI yZ t K9 V9 ++ (mw yI g u v (q_hours (xs (4 * j + 1)) 40) K ++ (sw yI u (kMark K) aw wh V ++ (sw yI v u1 u2 u3 u4 ++ (([(ou, .inl (yL, 1, .inr (.inl f9)))] : va_W)))))))) rfl ?_
                refine xr_widen (k := 51 + (j + 1)) (n := 402 + 6 * (j + 1)) (by omega) (by omega) ?_
                exact ih (j + 1) K V aw wh (q_hours (xs (4 * j + 1)) 40) K9 V9 u1 u2 u3 u4 f9 (by omega) hK hV (by omega)
              · exact absurd (law_cmp hf9 c1118 (advise_e hK (by omega) hV c1118)) c1128
          · exact absurd rfl c1111
        · skip
          refine xr_tableIn F (off := 1097) 1136 dL_law_39 (by decide) (by decide) (by decide) (by decide) ?_
          refine xr_aload_n F dL_law_1136 rfl 2 rfl ?_
          refine xr_callVi F (wr := mw yI g u v th K ++ (sw yI u (kMark K) aw wh V ++ (sw yI v z1 z2 z3 z4 ++ (([(ou, .inl (yL, 1, .inr (.inl f)))] : va_W))))) (rest := []) (As := []) (k_X1_stops l D yI yZ yL h a t K V Kt Vt  k3 hV.2.1 k1 k2 (by omega)) (cwV 0 F.hts gL_law_X1_stops rfl rfl rfl (by decide +kernel) ⟨Nat.le_of_ble_eq_true rfl, Nat.le_of_ble_eq_true rfl⟩) (q0 := 0) rfl rfl [0, 1, 2, 3, 4, 5, 6, 7, 8, 9, 10, 11, 12, 13, 14, 15, 16, 17, 18, 19, 20, 21, 22, 23, 24] [25, 26, 27, 28, 29, 30, 31, 32, 33, 34, 35, 36, 37, 38, 39, 40, 41, 42, 43, 44, 45, 46, 47, 48, 49, 50] rfl rfl (by decide) (by decide) (by decide) rfl rfl (Nat.le_of_ble_eq_true rfl) dL_law_1137 ⟨(by show _ ≤ 1080; omega), (by show _ ≤ 8624; omega)⟩ (fun r1 W1 z1 => ?_)
          obtain ⟨z0, K9, V9, z1⟩ := z1
          subst z0
          subst z1
          refine xr_sub (ws' := bw h a t ++ (cw yI yZ a K V ++ (cw yI yZ t K9 V9 ++ (mw yI g u v th K ++ (sw yI u (kMark K) aw wh V ++ (sw yI v z1 z2 z3 z4 ++ (([(ou, .inl (yL, 1, .inr (.inl f)))] : va_W)))))))) [26, 27, 28, 29, 30, 31, 32, 33, 34, 35, 36, 37, 38, 39, 40, 41, 42, 43, 44, 45, 46, 47, 48, 49, 50, 0, 1, 2, 3, 4, 5, 6, 7, 8, 9, 10, 11, 12, 13, 14, 15, 16, 17, 18, 19, 20, 21, 22, 23, 24, 25] (by decide) rfl ?_
          refine xr_aload_n F dL_law_1140 rfl 3 rfl ?_
          refine xr_callVi F (wr := bw h a t ++ (cw yI yZ a K V ++ (cw yI yZ t K9 V9 ++ (([(ou, .inl (yL, 1, .inr (.inl f)))] : va_W))))) (rest := [.int (c_stopL K 60 0 V)]) (As := []) (k_X3_stops l D yI yZ yL g u v th K aw wh V z1 z2 z3 z4  k1 k2 (by omega)) (cwV 0 F.hts gL_law_X3_stops rfl rfl rfl (by decide +kernel) ⟨Nat.le_of_ble_eq_true rfl, Nat.le_of_ble_eq_true rfl⟩) (q0 := 0) rfl rfl [25, 26, 27, 28, 29, 30, 31, 32, 33, 34, 35, 36, 37, 38, 39, 40, 41, 42, 43, 44, 45, 46, 47, 48, 49] [0, 1, 2, 3, 4, 5, 6, 7, 8, 9, 10, 11, 12, 13, 14, 15, 16, 17, 18, 19, 20, 21, 22, 23, 24, 50] rfl rfl (by decide) (by decide) (by decide) rfl rfl (Nat.le_of_ble_eq_true rfl) dL_law_1141 ⟨(by show _ ≤ 1080; omega), (by show _ ≤ 8624; omega)⟩ (fun r1 W1 y1 => ?_)
          obtain ⟨y0, u1, u2, u3, u4, y1⟩ := y1
          subst y0
          subst y1
          refine xr_sub (ws' := bw h a t ++ (cw yI yZ a K V ++ (cw yI yZ t K9 V9 ++ (mw yI g u v 0 K ++ (sw yI u (kMark K) aw wh V ++ (sw yI v u1 u2 u3 u4 ++ (([(ou, .inl (yL, 1, .inr (.inl f)))] : va_W)))))))) [0, 1, 2, 3, 4, 5, 6, 7, 8, 9, 10, 11, 12, 13, 14, 15, 16, 17, 18, 19, 20, 21, 22, 23, 24, 26, 27, 28, 29, 30, 31, 32, 33, 34, 35, 36, 37, 38, 39, 40, 41, 42, 43, 44, 45, 46, 47, 48, 49, 50, 25] (by decide) rfl ?_
          refine xr_icmp_eq F 1204 dL_law_1144 (by decide) (fun c1144 => ?_) (fun c1144 => ?_)
          · skip
            refine xr_iinc F (nI (4 * (j + 1))) [(4, .int (nI (4 * (j + 1)))), (0, .ref b), (1, .ref h), (2, .ref (g 0)), (3, .ref ou)] dL_law_1204 0 rfl (nI_add (4 * j) 4) (by decide) rfl ?_
            refine xr_goto F 23 dL_law_1207 (by decide) ?_
            refine xr_lv (lv' := [(4, .int (nI (4 * (j + 1)))), (0, .ref b), (1, .ref h), (2, .ref (g 0)), (3, .ref ou)]) [0, 1, 2, 3, 4] rfl ?_
            refine xr_ws (ws' := bw h a t ++ (cw yI yZ a K V ++ (cw yI yZ t K9 V9 ++ (mw yI g u v 0 K ++ (sw yI u (kMark K) aw wh V ++ (sw yI v u1 u2 u3 u4 ++ (([(ou, .inl (yL, 1, .inr (.inl f)))] : va_W)))))))) rfl ?_
            refine xr_widen (k := 51 + (j + 1)) (n := 402 + 6 * (j + 1)) (by omega) (by omega) ?_
            exact ih (j + 1) K V aw wh 0 K9 V9 u1 u2 u3 u4 f (by omega) hK hV (by omega)
          · exact absurd (stop_eq hK 60 0 V aw wh (by omega) hV).symm c1144
        · skip
          refine xr_tableIn F (off := 1110) 1149 dL_law_39 (by decide) (by decide) (by decide) (by decide) ?_
          refine xr_aload_n F dL_law_1149 rfl 2 rfl ?_
          refine xr_callVd F (wr := cw yI yZ t Kt Vt ++ (mw yI g u v th K ++ (sw yI u (kMark K) aw wh V ++ (sw yI v z1 z2 z3 z4 ++ (([(ou, .inl (yL, 1, .inr (.inl f)))] : va_W)))))) (rest := []) (As := []) (k_X1_mean l D yI yZ yL h a t K V  (mean_n hV.1).1) (cwV 0 F.hts gL_law_X1_mean rfl rfl rfl (by decide +kernel) ⟨Nat.le_of_ble_eq_true rfl, Nat.le_of_ble_eq_true rfl⟩) (q0 := 0) rfl rfl [0, 1, 2, 3, 4, 5, 6, 7, 8, 9, 10, 11, 12] [13, 14, 15, 16, 17, 18, 19, 20, 21, 22, 23, 24, 25, 26, 27, 28, 29, 30, 31, 32, 33, 34, 35, 36, 37, 38, 39, 40, 41, 42, 43, 44, 45, 46, 47, 48, 49, 50] rfl rfl (by decide) (by decide) (by decide) rfl rfl (Nat.le_of_ble_eq_true rfl) dL_law_1150 ⟨(by show _ ≤ 1080; omega), (by show _ ≤ 8624; omega)⟩ (fun r1 W1 z1 => ?_)
          obtain ⟨z0, z1⟩ := z1
          subst z0
          subst z1
          refine xr_sub (ws' := bw h a t ++ (cw yI yZ a K V ++ (cw yI yZ t Kt Vt ++ (mw yI g u v th K ++ (sw yI u (kMark K) aw wh V ++ (sw yI v z1 z2 z3 z4 ++ (([(ou, .inl (yL, 1, .inr (.inl f)))] : va_W)))))))) [38, 39, 40, 41, 42, 43, 44, 45, 46, 47, 48, 49, 50, 0, 1, 2, 3, 4, 5, 6, 7, 8, 9, 10, 11, 12, 13, 14, 15, 16, 17, 18, 19, 20, 21, 22, 23, 24, 25, 26, 27, 28, 29, 30, 31, 32, 33, 34, 35, 36, 37] (by decide) rfl ?_
          refine xr_dstore F [(5, .double (FP.ddiv (FP.i2d (c_water V)) (4618441417868443648))), (4, .int (nI (4 * j))), (0, .ref b), (1, .ref h), (2, .ref (g 0)), (3, .ref ou)] dL_law_1153 (by decide) rfl ?_
          refine xr_aload_n F dL_law_1155 rfl 4 rfl ?_
          refine xr_callVd F (wr := bw h a t ++ (cw yI yZ a K V ++ (cw yI yZ t Kt Vt ++ (sw yI v z1 z2 z3 z4 ++ (([(ou, .inl (yL, 1, .inr (.inl f)))] : va_W)))))) (rest := []) (As := []) (k_X3_mean l D yI yZ yL g u v th K aw wh V (mean_n hV.1).1) (cwV 0 F.hts gL_law_X3_mean rfl rfl rfl (by decide +kernel) ⟨Nat.le_of_ble_eq_true rfl, Nat.le_of_ble_eq_true rfl⟩) (q0 := 0) rfl rfl [25, 26, 27, 28, 29, 30, 31, 32, 33, 34, 35, 36, 37, 38] [0, 1, 2, 3, 4, 5, 6, 7, 8, 9, 10, 11, 12, 13, 14, 15, 16, 17, 18, 19, 20, 21, 22, 23, 24, 39, 40, 41, 42, 43, 44, 45, 46, 47, 48, 49, 50] rfl rfl (by decide) (by decide) (by decide) rfl rfl (Nat.le_of_ble_eq_true rfl) dL_law_1156 ⟨(by show _ ≤ 1080; omega), (by show _ ≤ 8624; omega)⟩ (fun r1 W1 z1 => ?_)
          obtain ⟨z0, z1⟩ := z1
          subst z0
          subst z1
          refine xr_sub (ws' := bw h a t ++ (cw yI yZ a K V ++ (cw yI yZ t Kt Vt ++ (mw yI g u v 0 K ++ (sw yI u (kMark K) aw wh V ++ (sw yI v z1 z2 z3 z4 ++ (([(ou, .inl (yL, 1, .inr (.inl f)))] : va_W)))))))) [0, 1, 2, 3, 4, 5, 6, 7, 8, 9, 10, 11, 12, 13, 14, 15, 16, 17, 18, 19, 20, 21, 22, 23, 24, 37, 38, 39, 40, 41, 42, 43, 44, 45, 46, 47, 48, 49, 50, 25, 26, 27, 28, 29, 30, 31, 32, 33, 34, 35, 36] (by decide) rfl ?_
          refine xr_dstore F [(7, .double (FP.ddiv (FP.i2d (c_water V)) (4618441417868443648))), (5, .double (FP.ddiv (FP.i2d (c_water V)) (4618441417868443648))), (4, .int (nI (4 * j))), (0, .ref b), (1, .ref h), (2, .ref (g 0)), (3, .ref ou)] dL_law_1159 (by decide) rfl ?_
          refine xr_dload F dL_law_1161 1 rfl ?_
          refine xr_dload F dL_law_1163 0 rfl ?_
          refine xr_dcmp F dL_law_1165 ?_
          refine xr_if_eq F 1187 dL_law_1166 (by decide) (fun c1166 => ?_) (fun c1166 => ?_)
          · skip
            refine xr_goto F 1204 dL_law_1187 (by decide) ?_
            refine xr_iinc F (nI (4 * (j + 1))) [(4, .int (nI (4 * (j + 1)))), (7, .double (FP.ddiv (FP.i2d (c_water V)) (4618441417868443648))), (5, .double (FP.ddiv (FP.i2d (c_water V)) (4618441417868443648))), (0, .ref b), (1, .ref h), (2, .ref (g 0)), (3, .ref ou)] dL_law_1204 2 rfl (nI_add (4 * j) 4) (by decide) rfl ?_
            refine xr_goto F 23 dL_law_1207 (by decide) ?_
            refine xr_lv (lv' := [(4, .int (nI (4 * (j + 1)))), (0, .ref b), (1, .ref h), (2, .ref (g 0)), (3, .ref ou)]) [0, 3, 4, 5, 6] rfl ?_
            refine xr_ws (ws' := bw h a t ++ (cw yI yZ a K V ++ (cw yI yZ t Kt Vt ++ (mw yI g u v 0 K ++ (sw yI u (kMark K) aw wh V ++ (sw yI v z1 z2 z3 z4 ++ (([(ou, .inl (yL, 1, .inr (.inl f)))] : va_W)))))))) rfl ?_
            refine xr_widen (k := 51 + (j + 1)) (n := 402 + 6 * (j + 1)) (by omega) (by omega) ?_
            exact ih (j + 1) K V aw wh 0 Kt Vt z1 z2 z3 z4 f (by omega) hK hV (by omega)
          · exact absurd (mean_n hV.1).2 c1166
        · skip
          refine xr_tableIn F (off := 1151) 1190 dL_law_39 (by decide) (by decide) (by decide) (by decide) ?_
          refine xr_aload_n F dL_law_1190 rfl 2 rfl ?_
          refine xr_callVl F (wr := cw yI yZ t Kt Vt ++ (mw yI g u v th K ++ (sw yI u (kMark K) aw wh V ++ (sw yI v z1 z2 z3 z4 ++ (([(ou, .inl (yL, 1, .inr (.inl f)))] : va_W)))))) (rest := []) (As := []) (k_X1_digest l D yI yZ yL h a t K V  k1) (cwV 0 F.hts gL_law_X1_digest rfl rfl rfl (by decide +kernel) ⟨Nat.le_of_ble_eq_true rfl, Nat.le_of_ble_eq_true rfl⟩) (q0 := 0) rfl rfl [0, 1, 2, 3, 4, 5, 6, 7, 8, 9, 10, 11, 12] [13, 14, 15, 16, 17, 18, 19, 20, 21, 22, 23, 24, 25, 26, 27, 28, 29, 30, 31, 32, 33, 34, 35, 36, 37, 38, 39, 40, 41, 42, 43, 44, 45, 46, 47, 48, 49, 50] rfl rfl (by decide) (by decide) (by decide) rfl rfl (Nat.le_of_ble_eq_true rfl) dL_law_1191 ⟨(by show _ ≤ 1080; omega), (by show _ ≤ 8624; omega)⟩ (fun r1 W1 z1 => ?_)
          obtain ⟨z0, z1⟩ := z1
          subst z0
          subst z1
          refine xr_sub (ws' := bw h a t ++ (cw yI yZ a K V ++ (cw yI yZ t Kt Vt ++ (mw yI g u v th K ++ (sw yI u (kMark K) aw wh V ++ (sw yI v z1 z2 z3 z4 ++ (([(ou, .inl (yL, 1, .inr (.inl f)))] : va_W)))))))) [38, 39, 40, 41, 42, 43, 44, 45, 46, 47, 48, 49, 50, 0, 1, 2, 3, 4, 5, 6, 7, 8, 9, 10, 11, 12, 13, 14, 15, 16, 17, 18, 19, 20, 21, 22, 23, 24, 25, 26, 27, 28, 29, 30, 31, 32, 33, 34, 35, 36, 37] (by decide) rfl ?_
          refine xr_aload_n F dL_law_1194 rfl 3 rfl ?_
          refine xr_callVl F (wr := bw h a t ++ (cw yI yZ a K V ++ (cw yI yZ t Kt Vt ++ (sw yI v z1 z2 z3 z4 ++ (([(ou, .inl (yL, 1, .inr (.inl f)))] : va_W)))))) (rest := [.long (dgA (c_tellW K V) K (c_tellP K V) (c_tellL K V) (c_tellB K V))]) (As := []) (k_X3_digest l D yI yZ yL g u v th K aw wh V (by assumption)) (cwV 0 F.hts gL_law_X3_digest rfl rfl rfl (by decide +kernel) ⟨Nat.le_of_ble_eq_true rfl, Nat.le_of_ble_eq_true rfl⟩) (q0 := 0) rfl rfl [25, 26, 27, 28, 29, 30, 31, 32, 33, 34, 35, 36, 37, 38] [0, 1, 2, 3, 4, 5, 6, 7, 8, 9, 10, 11, 12, 13, 14, 15, 16, 17, 18, 19, 20, 21, 22, 23, 24, 39, 40, 41, 42, 43, 44, 45, 46, 47, 48, 49, 50] rfl rfl (by decide) (by decide) (by decide) rfl rfl (Nat.le_of_ble_eq_true rfl) dL_law_1195 ⟨(by show _ ≤ 1080; omega), (by show _ ≤ 8624; omega)⟩ (fun r1 W1 z1 => ?_)
          obtain ⟨z0, z1⟩ := z1
          subst z0
          subst z1
          refine xr_sub (ws' := bw h a t ++ (cw yI yZ a K V ++ (cw yI yZ t Kt Vt ++ (mw yI g u v 0 K ++ (sw yI u (kMark K) aw wh V ++ (sw yI v z1 z2 z3 z4 ++ (([(ou, .inl (yL, 1, .inr (.inl f)))] : va_W)))))))) [0, 1, 2, 3, 4, 5, 6, 7, 8, 9, 10, 11, 12, 13, 14, 15, 16, 17, 18, 19, 20, 21, 22, 23, 24, 37, 38, 39, 40, 41, 42, 43, 44, 45, 46, 47, 48, 49, 50, 25, 26, 27, 28, 29, 30, 31, 32, 33, 34, 35, 36] (by decide) rfl ?_
          refine xr_lcmp F dL_law_1198 ?_
          refine xr_if_eq F 1204 dL_law_1199 (by decide) (fun c1199 => ?_) (fun c1199 => ?_)
          · skip
            refine xr_iinc F (nI (4 * (j + 1))) [(4, .int (nI (4 * (j + 1)))), (0, .ref b), (1, .ref h), (2, .ref (g 0)), (3, .ref ou)] dL_law_1204 0 rfl (nI_add (4 * j) 4) (by decide) rfl ?_
            refine xr_goto F 23 dL_law_1207 (by decide) ?_
            refine xr_lv (lv' := [(4, .int (nI (4 * (j + 1)))), (0, .ref b), (1, .ref h), (2, .ref (g 0)), (3, .ref ou)]) [0, 1, 2, 3, 4] rfl ?_
            refine xr_ws (ws' := bw h a t ++ (cw yI yZ a K V ++ (cw yI yZ t Kt Vt ++ (mw yI g u v 0 K ++ (sw yI u (kMark K) aw wh V ++ (sw yI v z1 z2 z3 z4 ++ (([(ou, .inl (yL, 1, .inr (.inl f)))] : va_W)))))))) rfl ?_
            refine xr_widen (k := 51 + (j + 1)) (n := 402 + 6 * (j + 1)) (by omega) (by omega) ?_
            exact ih (j + 1) K V aw wh 0 Kt Vt z1 z2 z3 z4 f (by omega) hK hV (by omega)
          · exact absurd (by rw [digest_eq hK (by omega) hV]; exact lg_same _) c1199
        · skip
          refine xr_tableOut F 1204 dL_law_39 (by decide) (by decide) ?_
          refine xr_iinc F (nI (4 * (j + 1))) [(4, .int (nI (4 * (j + 1)))), (0, .ref b), (1, .ref h), (2, .ref (g 0)), (3, .ref ou)] dL_law_1204 0 rfl (nI_add (4 * j) 4) (by decide) rfl ?_
          refine xr_goto F 23 dL_law_1207 (by decide) ?_
          refine xr_lv (lv' := [(4, .int (nI (4 * (j + 1)))), (0, .ref b), (1, .ref h), (2, .ref (g 0)), (3, .ref ou)]) [0, 1, 2, 3, 4] rfl ?_
          refine xr_ws (ws' := bw h a t ++ (cw yI yZ a K V ++ (cw yI yZ t Kt Vt ++ (mw yI g u v th K ++ (sw yI u (kMark K) aw wh V ++ (sw yI v z1 z2 z3 z4 ++ (([(ou, .inl (yL, 1, .inr (.inl f)))] : va_W)))))))) rfl ?_
          refine xr_widen (k := 51 + (j + 1)) (n := 402 + 6 * (j + 1)) (by omega) (by omega) ?_
          exact ih (j + 1) K V aw wh th Kt Vt z1 z2 z3 z4 f (by omega) hK hV (by omega)
        · skip
          refine xr_tableOut F 1204 dL_law_39 (by decide) (by decide) ?_
          refine xr_iinc F (nI (4 * (j + 1))) [(4, .int (nI (4 * (j + 1)))), (0, .ref b), (1, .ref h), (2, .ref (g 0)), (3, .ref ou)] dL_law_1204 0 rfl (nI_add (4 * j) 4) (by decide) rfl ?_
          refine xr_goto F 23 dL_law_1207 (by decide) ?_
          refine xr_lv (lv' := [(4, .int (nI (4 * (j + 1)))), (0, .ref b), (1, .ref h), (2, .ref (g 0)), (3, .ref ou)]) [0, 1, 2, 3, 4] rfl ?_
          refine xr_ws (ws' := bw h a t ++ (cw yI yZ a K V ++ (cw yI yZ t Kt Vt ++ (mw yI g u v th K ++ (sw yI u (kMark K) aw wh V ++ (sw yI v z1 z2 z3 z4 ++ (([(ou, .inl (yL, 1, .inr (.inl f)))] : va_W)))))))) rfl ?_
          refine xr_widen (k := 51 + (j + 1)) (n := 402 + 6 * (j + 1)) (by omega) (by omega) ?_
          exact ih (j + 1) K V aw wh th Kt Vt z1 z2 z3 z4 f (by omega) hK hV (by omega)
        · skip
          refine xr_tableOut F 1204 dL_law_39 (by decide) (by decide) ?_
          refine xr_iinc F (nI (4 * (j + 1))) [(4, .int (nI (4 * (j + 1)))), (0, .ref b), (1, .ref h), (2, .ref (g 0)), (3, .ref ou)] dL_law_1204 0 rfl (nI_add (4 * j) 4) (by decide) rfl ?_
          refine xr_goto F 23 dL_law_1207 (by decide) ?_
          refine xr_lv (lv' := [(4, .int (nI (4 * (j + 1)))), (0, .ref b), (1, .ref h), (2, .ref (g 0)), (3, .ref ou)]) [0, 1, 2, 3, 4] rfl ?_
          refine xr_ws (ws' := bw h a t ++ (cw yI yZ a K V ++ (cw yI yZ t Kt Vt ++ (mw yI g u v th K ++ (sw yI u (kMark K) aw wh V ++ (sw yI v z1 z2 z3 z4 ++ (([(ou, .inl (yL, 1, .inr (.inl f)))] : va_W)))))))) rfl ?_
          refine xr_widen (k := 51 + (j + 1)) (n := 402 + 6 * (j + 1)) (by omega) (by omega) ?_
          exact ih (j + 1) K V aw wh th Kt Vt z1 z2 z3 z4 f (by omega) hK hV (by omega)
        · skip
          refine xr_tableOut F 1204 dL_law_39 (by decide) (by decide) ?_
          refine xr_iinc F (nI (4 * (j + 1))) [(4, .int (nI (4 * (j + 1)))), (0, .ref b), (1, .ref h), (2, .ref (g 0)), (3, .ref ou)] dL_law_1204 0 rfl (nI_add (4 * j) 4) (by decide) rfl ?_
          refine xr_goto F 23 dL_law_1207 (by decide) ?_
          refine xr_lv (lv' := [(4, .int (nI (4 * (j + 1)))), (0, .ref b), (1, .ref h), (2, .ref (g 0)), (3, .ref ou)]) [0, 1, 2, 3, 4] rfl ?_
          refine xr_ws (ws' := bw h a t ++ (cw yI yZ a K V ++ (cw yI yZ t Kt Vt ++ (mw yI g u v th K ++ (sw yI u (kMark K) aw wh V ++ (sw yI v z1 z2 z3 z4 ++ (([(ou, .inl (yL, 1, .inr (.inl f)))] : va_W)))))))) rfl ?_
          refine xr_widen (k := 51 + (j + 1)) (n := 402 + 6 * (j + 1)) (by omega) (by omega) ?_
          exact ih (j + 1) K V aw wh th Kt Vt z1 z2 z3 z4 f (by omega) hK hV (by omega)
        · skip
          refine xr_tableOut F 1204 dL_law_39 (by decide) (by decide) ?_
          refine xr_iinc F (nI (4 * (j + 1))) [(4, .int (nI (4 * (j + 1)))), (0, .ref b), (1, .ref h), (2, .ref (g 0)), (3, .ref ou)] dL_law_1204 0 rfl (nI_add (4 * j) 4) (by decide) rfl ?_
          refine xr_goto F 23 dL_law_1207 (by decide) ?_
          refine xr_lv (lv' := [(4, .int (nI (4 * (j + 1)))), (0, .ref b), (1, .ref h), (2, .ref (g 0)), (3, .ref ou)]) [0, 1, 2, 3, 4] rfl ?_
          refine xr_ws (ws' := bw h a t ++ (cw yI yZ a K V ++ (cw yI yZ t Kt Vt ++ (mw yI g u v th K ++ (sw yI u (kMark K) aw wh V ++ (sw yI v z1 z2 z3 z4 ++ (([(ou, .inl (yL, 1, .inr (.inl f)))] : va_W)))))))) rfl ?_
          refine xr_widen (k := 51 + (j + 1)) (n := 402 + 6 * (j + 1)) (by omega) (by omega) ?_
          exact ih (j + 1) K V aw wh th Kt Vt z1 z2 z3 z4 f (by omega) hK hV (by omega)
        · skip
          refine xr_tableOut F 1204 dL_law_39 (by decide) (by decide) ?_
          refine xr_iinc F (nI (4 * (j + 1))) [(4, .int (nI (4 * (j + 1)))), (0, .ref b), (1, .ref h), (2, .ref (g 0)), (3, .ref ou)] dL_law_1204 0 rfl (nI_add (4 * j) 4) (by decide) rfl ?_
          refine xr_goto F 23 dL_law_1207 (by decide) ?_
          refine xr_lv (lv' := [(4, .int (nI (4 * (j + 1)))), (0, .ref b), (1, .ref h), (2, .ref (g 0)), (3, .ref ou)]) [0, 1, 2, 3, 4] rfl ?_
          refine xr_ws (ws' := bw h a t ++ (cw yI yZ a K V ++ (cw yI yZ t Kt Vt ++ (mw yI g u v th K ++ (sw yI u (kMark K) aw wh V ++ (sw yI v z1 z2 z3 z4 ++ (([(ou, .inl (yL, 1, .inr (.inl f)))] : va_W)))))))) rfl ?_
          refine xr_widen (k := 51 + (j + 1)) (n := 402 + 6 * (j + 1)) (by omega) (by omega) ?_
          exact ih (j + 1) K V aw wh th Kt Vt z1 z2 z3 z4 f (by omega) hK hV (by omega)
        · skip
          refine xr_tableOut F 1204 dL_law_39 (by decide) (by decide) ?_
          refine xr_iinc F (nI (4 * (j + 1))) [(4, .int (nI (4 * (j + 1)))), (0, .ref b), (1, .ref h), (2, .ref (g 0)), (3, .ref ou)] dL_law_1204 0 rfl (nI_add (4 * j) 4) (by decide) rfl ?_
          refine xr_goto F 23 dL_law_1207 (by decide) ?_
          refine xr_lv (lv' := [(4, .int (nI (4 * (j + 1)))), (0, .ref b), (1, .ref h), (2, .ref (g 0)), (3, .ref ou)]) [0, 1, 2, 3, 4] rfl ?_
          refine xr_ws (ws' := bw h a t ++ (cw yI yZ a K V ++ (cw yI yZ t Kt Vt ++ (mw yI g u v th K ++ (sw yI u (kMark K) aw wh V ++ (sw yI v z1 z2 z3 z4 ++ (([(ou, .inl (yL, 1, .inr (.inl f)))] : va_W)))))))) rfl ?_
          refine xr_widen (k := 51 + (j + 1)) (n := 402 + 6 * (j + 1)) (by omega) (by omega) ?_
          exact ih (j + 1) K V aw wh th Kt Vt z1 z2 z3 z4 f (by omega) hK hV (by omega)
        · skip
          refine xr_tableOut F 1204 dL_law_39 (by decide) (by decide) ?_
          refine xr_iinc F (nI (4 * (j + 1))) [(4, .int (nI (4 * (j + 1)))), (0, .ref b), (1, .ref h), (2, .ref (g 0)), (3, .ref ou)] dL_law_1204 0 rfl (nI_add (4 * j) 4) (by decide) rfl ?_
          refine xr_goto F 23 dL_law_1207 (by decide) ?_
          refine xr_lv (lv' := [(4, .int (nI (4 * (j + 1)))), (0, .ref b), (1, .ref h), (2, .ref (g 0)), (3, .ref ou)]) [0, 1, 2, 3, 4] rfl ?_
          refine xr_ws (ws' := bw h a t ++ (cw yI yZ a K V ++ (cw yI yZ t Kt Vt ++ (mw yI g u v th K ++ (sw yI u (kMark K) aw wh V ++ (sw yI v z1 z2 z3 z4 ++ (([(ou, .inl (yL, 1, .inr (.inl f)))] : va_W)))))))) rfl ?_
          refine xr_widen (k := 51 + (j + 1)) (n := 402 + 6 * (j + 1)) (by omega) (by omega) ?_
          exact ih (j + 1) K V aw wh th Kt Vt z1 z2 z3 z4 f (by omega) hK hV (by omega)
        · skip
          refine xr_tableOut F 1204 dL_law_39 (by decide) (by decide) ?_
          refine xr_iinc F (nI (4 * (j + 1))) [(4, .int (nI (4 * (j + 1)))), (0, .ref b), (1, .ref h), (2, .ref (g 0)), (3, .ref ou)] dL_law_1204 0 rfl (nI_add (4 * j) 4) (by decide) rfl ?_
          refine xr_goto F 23 dL_law_1207 (by decide) ?_
          refine xr_lv (lv' := [(4, .int (nI (4 * (j + 1)))), (0, .ref b), (1, .ref h), (2, .ref (g 0)), (3, .ref ou)]) [0, 1, 2, 3, 4] rfl ?_
          refine xr_ws (ws' := bw h a t ++ (cw yI yZ a K V ++ (cw yI yZ t Kt Vt ++ (mw yI g u v th K ++ (sw yI u (kMark K) aw wh V ++ (sw yI v z1 z2 z3 z4 ++ (([(ou, .inl (yL, 1, .inr (.inl f)))] : va_W)))))))) rfl ?_
          refine xr_widen (k := 51 + (j + 1)) (n := 402 + 6 * (j + 1)) (by omega) (by omega) ?_
          exact ih (j + 1) K V aw wh th Kt Vt z1 z2 z3 z4 f (by omega) hK hV (by omega)
        · skip
          refine xr_tableOut F 1204 dL_law_39 (by decide) (by decide) ?_
          refine xr_iinc F (nI (4 * (j + 1))) [(4, .int (nI (4 * (j + 1)))), (0, .ref b), (1, .ref h), (2, .ref (g 0)), (3, .ref ou)] dL_law_1204 0 rfl (nI_add (4 * j) 4) (by decide) rfl ?_
          refine xr_goto F 23 dL_law_1207 (by decide) ?_
          refine xr_lv (lv' := [(4, .int (nI (4 * (j + 1)))), (0, .ref b), (1, .ref h), (2, .ref (g 0)), (3, .ref ou)]) [0, 1, 2, 3, 4] rfl ?_
          refine xr_ws (ws' := bw h a t ++ (cw yI yZ a K V ++ (cw yI yZ t Kt Vt ++ (mw yI g u v th K ++ (sw yI u (kMark K) aw wh V ++ (sw yI v z1 z2 z3 z4 ++ (([(ou, .inl (yL, 1, .inr (.inl f)))] : va_W)))))))) rfl ?_
          refine xr_widen (k := 51 + (j + 1)) (n := 402 + 6 * (j + 1)) (by omega) (by omega) ?_
          exact ih (j + 1) K V aw wh th Kt Vt z1 z2 z3 z4 f (by omega) hK hV (by omega)
        · skip
          refine xr_tableOut F 1204 dL_law_39 (by decide) (by decide) ?_
          refine xr_iinc F (nI (4 * (j + 1))) [(4, .int (nI (4 * (j + 1)))), (0, .ref b), (1, .ref h), (2, .ref (g 0)), (3, .ref ou)] dL_law_1204 0 rfl (nI_add (4 * j) 4) (by decide) rfl ?_
          refine xr_goto F 23 dL_law_1207 (by decide) ?_
          refine xr_lv (lv' := [(4, .int (nI (4 * (j + 1)))), (0, .ref b), (1, .ref h), (2, .ref (g 0)), (3, .ref ou)]) [0, 1, 2, 3, 4] rfl ?_
          refine xr_ws (ws' := bw h a t ++ (cw yI yZ a K V ++ (cw yI yZ t Kt Vt ++ (mw yI g u v th K ++ (sw yI u (kMark K) aw wh V ++ (sw yI v z1 z2 z3 z4 ++ (([(ou, .inl (yL, 1, .inr (.inl f)))] : va_W)))))))) rfl ?_
          refine xr_widen (k := 51 + (j + 1)) (n := 402 + 6 * (j + 1)) (by omega) (by omega) ?_
          exact ih (j + 1) K V aw wh th Kt Vt z1 z2 z3 z4 f (by omega) hK hV (by omega)
        · skip
          refine xr_tableOut F 1204 dL_law_39 (by decide) (by decide) ?_
          refine xr_iinc F (nI (4 * (j + 1))) [(4, .int (nI (4 * (j + 1)))), (0, .ref b), (1, .ref h), (2, .ref (g 0)), (3, .ref ou)] dL_law_1204 0 rfl (nI_add (4 * j) 4) (by decide) rfl ?_
          refine xr_goto F 23 dL_law_1207 (by decide) ?_
          refine xr_lv (lv' := [(4, .int (nI (4 * (j + 1)))), (0, .ref b), (1, .ref h), (2, .ref (g 0)), (3, .ref ou)]) [0, 1, 2, 3, 4] rfl ?_
          refine xr_ws (ws' := bw h a t ++ (cw yI yZ a K V ++ (cw yI yZ t Kt Vt ++ (mw yI g u v th K ++ (sw yI u (kMark K) aw wh V ++ (sw yI v z1 z2 z3 z4 ++ (([(ou, .inl (yL, 1, .inr (.inl f)))] : va_W)))))))) rfl ?_
          refine xr_widen (k := 51 + (j + 1)) (n := 402 + 6 * (j + 1)) (by omega) (by omega) ?_
          exact ih (j + 1) K V aw wh th Kt Vt z1 z2 z3 z4 f (by omega) hK hV (by omega)
        · skip
          refine xr_tableOut F 1204 dL_law_39 (by decide) (by decide) ?_
          refine xr_iinc F (nI (4 * (j + 1))) [(4, .int (nI (4 * (j + 1)))), (0, .ref b), (1, .ref h), (2, .ref (g 0)), (3, .ref ou)] dL_law_1204 0 rfl (nI_add (4 * j) 4) (by decide) rfl ?_
          refine xr_goto F 23 dL_law_1207 (by decide) ?_
          refine xr_lv (lv' := [(4, .int (nI (4 * (j + 1)))), (0, .ref b), (1, .ref h), (2, .ref (g 0)), (3, .ref ou)]) [0, 1, 2, 3, 4] rfl ?_
          refine xr_ws (ws' := bw h a t ++ (cw yI yZ a K V ++ (cw yI yZ t Kt Vt ++ (mw yI g u v th K ++ (sw yI u (kMark K) aw wh V ++ (sw yI v z1 z2 z3 z4 ++ (([(ou, .inl (yL, 1, .inr (.inl f)))] : va_W)))))))) rfl ?_
          refine xr_widen (k := 51 + (j + 1)) (n := 402 + 6 * (j + 1)) (by omega) (by omega) ?_
          exact ih (j + 1) K V aw wh th Kt Vt z1 z2 z3 z4 f (by omega) hK hV (by omega)
  refine xr_lv (lv' := [(4, .int 0), (0, .ref b), (1, .ref h), (2, .ref (g 0)), (3, .ref ou)]) [0, 4, 3, 2, 1] rfl ?_
  exact lp (L / 4) 0 K_start D_start 0 (fun _ => -1) 0 K_start D_start 50 0 (fun _ => -1) D_start (fun _ => 0) (by omega) ok_start.1 ok_start.2 (Nat.zero_le _)
