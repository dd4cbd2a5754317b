set_option maxHeartbeats 4000000 in
set_option maxRecDepth 100000 in
/-- 22 to 73 -/
theorem law_S0 {p : Program} {e : Env} {s : State} {m : MethodId} {below : List Frame} {meth : Method} {c : Code} {l : Launch} (hst : l.stackTraces = false) {b L : Nat} {xs : Nat → Int32} (hL : L ≤ 260) {D : va_G} {yI yZ yL : ClassId} {A : Nat → Prop} {Q : State → Prop} (F : XF p s m #[Value.ref b] c cL_law 32 wsL_law R_law D (tysG yI yZ yL) A) (G : XG l s meth A) (hX : va_X b L xs s s.heap) (hbl : b < s.heap.size) (hbA : ¬ A b) {h : Nat} {a t o : Nat → Nat} {ba : Nat} {pa la ra : Nat → Nat} {K : CK} {V : CD} {Kt : CK} {Vt : CD} {N tm : Nat} (htm : tm < 45) (hN : N < 50000) (hK : okK K) (hV : okV K V N) (hh : dHour V ≤ 100) (dh : Nat) (hdh : dHour V ≤ dh) (cl sl : Nat) (hcl : cl + 100 ≤ 610331) (hsl : sl + 1000 ≤ 7270474) (kk : ∀ (x : Int32) (K : CK) (V : CD) (Kt : CK) (Vt : CD) (ba : Nat) (ra : Nat → Nat), okK K → okV K V (N + 1) → dHour V ≤ dh → AW p l e room_1 s m #[Value.ref b] below meth c 32 D A (cl + 100) (sl + 1000) Q (bw h a t ++ (cw yI yZ a K V ++ (cw yI yZ t Kt Vt ++ (zw yI yL o ba pa la ra K V (zA V))))) [(4, .int x), (3, .int (nI tm)), (0, .ref b), (1, .ref h), (2, .ref (o 0))] 73 []) : AW p l e room_1 s m #[Value.ref b] below meth c 32 D A cl sl Q (bw h a t ++ (cw yI yZ a K V ++ (cw yI yZ t Kt Vt ++ (zw yI yL o ba pa la ra K V (zA V))))) [(3, .int (nI tm)), (0, .ref b), (1, .ref h), (2, .ref (o 0))] 28 [] := by
  have k1 : kNb K ≤ 10 := hK.1
  show AW p l e room_1 s m #[Value.ref b] below meth c 32 D A cl sl Q (bw h a t ++ (cw yI yZ a K V ++ (cw yI yZ t Kt Vt ++ (zw yI yL o ba pa la ra K V (zA V))))) [(3, .int (nI tm)), (0, .ref b), (1, .ref h), (2, .ref (o 0))] 28 []
  refine xr_aload_n F dL_law_28 rfl 1 rfl ?_
  refine xr_iload_n F dL_law_29 rfl 0 rfl ?_
  refine xr_bipush F dL_law_30 (v := 16) (by decide) ?_
  refine xr_irem F (nI (tm % 16)) dL_law_32 (by decide) (pk_rem (a := tm) (d := 16) (by omega) (by decide) (by decide)) ?_
  refine xr_ws (ws' := (bw h a t ++ (cw yI yZ a K V ++ (cw yI yZ t Kt Vt ++ (zw yI yL o ba pa la ra K V (zA V))))) ++ (([] : va_W) ++ ([] : va_W))) (by first | (simp only [List.append_assoc, List.append_nil, List.nil_append]; done) | rfl | (simp only [List.append_assoc, List.append_nil, List.nil_append]; rfl)) ?_
  refine xr_mcXSSi F G hX hbl hbA (rest := []) (As := [.ref b, .int (nI (tm % 16))]) (k_L_cell l D yI yZ yL hst b L xs (tm % 16) (by omega) (by omega)) (va_cwS 2 F.hts gL_law_L_cell rfl rfl rfl (by decide +kernel) ⟨Nat.le_of_ble_eq_true rfl, Nat.le_of_ble_eq_true rfl⟩) (bw h a t ++ (cw yI yZ a K V ++ (cw yI yZ t Kt Vt ++ (zw yI yL o ba pa la ra K V (zA V))))) ([] : va_W) rfl rfl rfl (Nat.le_of_ble_eq_true rfl) dL_law_33 ⟨(by show _ ≤ (610331 : Nat); omega), (by show _ ≤ (7270474 : Nat); omega)⟩ (fun E1 W1 z1 => z1.elim) (fun x1 W1 z1 => ?_)
  subst z1
  refine xr_ws (ws' := bw h a t ++ (cw yI yZ a K V ++ (cw yI yZ t Kt Vt ++ (zw yI yL o ba pa la ra K V (zA V))))) (by first | (simp only [List.append_assoc, List.append_nil, List.nil_append]; done) | rfl | (simp only [List.append_assoc, List.append_nil, List.nil_append]; rfl)) ?_
  refine xr_iload_n F dL_law_36 rfl 0 rfl ?_
  refine xr_bipush F dL_law_37 (v := 16) (by decide) ?_
  refine xr_idiv F ((nI tm) / 16) dL_law_39 (by decide) rfl ?_
  refine xr_iconst F dL_law_40 (v := 5) (by decide) ?_
  refine xr_imul F (((nI tm) / 16) * 5) dL_law_41 rfl ?_
  refine xr_ishr F (x1 >>> ((((nI tm) / 16) * 5) &&& 31)) dL_law_42 rfl ?_
  refine xr_bipush F dL_law_43 (v := 53) (by decide) ?_
  refine xr_iload_n F dL_law_45 rfl 0 rfl ?_
  refine xr_imul F (53 * (nI tm)) dL_law_46 rfl ?_
  refine xr_iadd F ((x1 >>> ((((nI tm) / 16) * 5) &&& 31)) + (53 * (nI tm))) dL_law_47 rfl ?_
  refine xr_istore F [(4, .int ((x1 >>> ((((nI tm) / 16) * 5) &&& 31)) + (53 * (nI tm)))), (3, .int (nI tm)), (0, .ref b), (1, .ref h), (2, .ref (o 0))] dL_law_48 (by decide) rfl ?_
  refine xr_iload F dL_law_50 0 rfl ?_
  refine xr_iconst F dL_law_52 (v := 3) (by decide) ?_
  refine xr_ws (ws' := (bw h a t ++ (cw yI yZ a K V ++ (cw yI yZ t Kt Vt ++ (zw yI yL o ba pa la ra K V (zA V))))) ++ (([] : va_W) ++ ([] : va_W))) (by first | (simp only [List.append_assoc, List.append_nil, List.nil_append]; done) | rfl | (simp only [List.append_assoc, List.append_nil, List.nil_append]; rfl)) ?_
  refine xr_mcSi F (rest := []) (As := [.int ((x1 >>> ((((nI tm) / 16) * 5) &&& 31)) + (53 * (nI tm))), .int 3]) (k_L_below l D yI yZ yL ((x1 >>> ((((nI tm) / 16) * 5) &&& 31)) + (53 * (nI tm))) 3 (by decide) (by decide)) (va_cwS 2 F.hts gL_law_L_below rfl rfl rfl (by decide +kernel) ⟨Nat.le_of_ble_eq_true rfl, Nat.le_of_ble_eq_true rfl⟩) (bw h a t ++ (cw yI yZ a K V ++ (cw yI yZ t Kt Vt ++ (zw yI yL o ba pa la ra K V (zA V))))) ([] : va_W) rfl rfl rfl (Nat.le_of_ble_eq_true rfl) dL_law_53 ⟨(by show _ ≤ (610331 : Nat); omega), (by show _ ≤ (7270474 : Nat); omega)⟩ (fun r1 W1 z1 => ?_)
  obtain ⟨⟨j9, hj9, z0⟩, z1⟩ := z1
  subst z0
  subst z1
  refine xr_ws (ws' := bw h a t ++ (cw yI yZ a K V ++ (cw yI yZ t Kt Vt ++ (zw yI yL o ba pa la ra K V (zA V))))) (by first | (simp only [List.append_assoc, List.append_nil, List.nil_append]; done) | rfl | (simp only [List.append_assoc, List.append_nil, List.nil_append]; rfl)) ?_
  refine xr_if_le F 73 dL_law_56 (by decide) (fun c56 => ?_) (fun c56 => ?_)
  · skip
    refine xr_lv (lv' := [(4, .int ((x1 >>> ((((nI tm) / 16) * 5) &&& 31)) + (53 * (nI tm)))), (3, .int (nI tm)), (0, .ref b), (1, .ref h), (2, .ref (o 0))]) [0, 1, 2, 3, 4] rfl ?_
    refine xr_widen (k := cl + 100) (n := sl + 1000) (by omega) (by omega) ?_
    exact kk ((x1 >>> ((((nI tm) / 16) * 5) &&& 31)) + (53 * (nI tm))) K V Kt Vt ba ra hK (okV_le hV (by omega)) hdh
  · skip
    refine xr_aload_n F dL_law_59 rfl 3 rfl ?_
    refine xr_aload_n F dL_law_60 rfl 4 rfl ?_
    refine xr_iload F dL_law_61 0 rfl ?_
    refine xr_iconst F dL_law_63 (v := 3) (by decide) ?_
    refine xr_idiv F (((x1 >>> ((((nI tm) / 16) * 5) &&& 31)) + (53 * (nI tm))) / 3) dL_law_64 (by decide) rfl ?_
    refine xr_ws (ws' := ([] : va_W) ++ ((bw h a t ++ (cw yI yZ a K V ++ (cw yI yZ t Kt Vt ++ (zw yI yL o ba pa la ra K V (zA V))))) ++ (([] : va_W)))) (by first | (simp only [List.append_assoc, List.append_nil, List.nil_append]; done) | rfl | (simp only [List.append_assoc, List.append_nil, List.nil_append]; rfl)) ?_
    refine xr_mcXHz F G (rest := []) (As := [.ref h, .ref (o 0), .int (((x1 >>> ((((nI tm) / 16) * 5) &&& 31)) + (53 * (nI tm))) / 3)]) (k_L_act l D yI yZ yL hst h a t o ba pa la ra K V Kt Vt (((x1 >>> ((((nI tm) / 16) * 5) &&& 31)) + (53 * (nI tm))) / 3) (N) (by omega) hK hV) (vx_cwSW 3 F.hts gL_law_L_act rfl rfl rfl (by decide +kernel) ⟨Nat.le_of_ble_eq_true rfl, Nat.le_of_ble_eq_true rfl⟩) (([] : va_W)) (([] : va_W)) rfl rfl rfl (Nat.le_of_ble_eq_true rfl) dL_law_65 ⟨(by show _ ≤ (610331 : Nat); omega), (by show _ ≤ (7270474 : Nat); omega)⟩ (fun E1 W1 z1 => z1.elim) (fun r1 W1 z1 => ?_)
    obtain ⟨z0, K1, V1, Kt1, Vt1, ba1, ra1, oK1, oV1, oh1, z1⟩ := z1
    subst z0
    subst z1
    refine xr_ws (ws' := bw h a t ++ (cw yI yZ a K1 V1 ++ (cw yI yZ t Kt1 Vt1 ++ (zw yI yL o ba1 pa la ra1 K1 V1 (zA V1))))) (by first | (simp only [List.append_assoc, List.append_nil, List.nil_append]; done) | rfl | (simp only [List.append_assoc, List.append_nil, List.nil_append]; rfl)) ?_
    refine xr_if_ne F 73 dL_law_68 (by decide) (fun c68 => ?_) (fun c68 => ?_)
    · skip
      refine xr_lv (lv' := [(4, .int ((x1 >>> ((((nI tm) / 16) * 5) &&& 31)) + (53 * (nI tm)))), (3, .int (nI tm)), (0, .ref b), (1, .ref h), (2, .ref (o 0))]) [0, 1, 2, 3, 4] rfl ?_
      refine xr_widen (k := cl + 100) (n := sl + 1000) (by omega) (by omega) ?_
      exact kk ((x1 >>> ((((nI tm) / 16) * 5) &&& 31)) + (53 * (nI tm))) K1 V1 Kt1 Vt1 ba1 ra1 oK1 oV1 (by omega)
    · exact absurd c68 (by decide)
