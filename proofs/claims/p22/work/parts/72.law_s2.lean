set_option maxHeartbeats 4000000 in
set_option maxRecDepth 100000 in
/-- the barges: 145 to 328 -/
theorem law_S2 {p : Program} {e : Env} {s : State} {m : MethodId} {below : List Frame} {meth : Method} {c : Code} {l : Launch} (hst : l.stackTraces = false) {b L : Nat} {xs : Nat → Int32} (hL : L ≤ 260) {D : va_G} {yI yZ yL : ClassId} {A : Nat → Prop} {Q : State → Prop} (F : XF p s m #[Value.ref b] c cL_law 32 wsL_law R_law D (tysG yI yZ yL) A) (G : XG l s meth A) (hX : va_X b L xs s s.heap) (hbl : b < s.heap.size) (hbA : ¬ A b) {h : Nat} {a t o : Nat → Nat} {ba : Nat} {pa la ra : Nat → Nat} {K : CK} {V : CD} {Kt : CK} {Vt : CD} {N tm : Nat} (htm : tm < 45) (hN : N < 50000) (hK : okK K) (hV : okV K V N) (hh : dHour V ≤ 100) {x : Int32} {qB qL qN : Nat} {rb rl : Nat → Nat} {FB FL : Nat → Nat → Int32} {NX : Nat → Int32} (cl sl : Nat) (hcl : cl + 100 ≤ 610331) (hsl : sl + 1000 ≤ 7270474) (kk : ∀ (FB : Nat → Nat → Int32) (cm : Int32) (hc : cm = c_comeN K V) (hFB : ∀ b9, b9 < kNb K → ∀ w9, w9 < 5 → FB b9 w9 = c_tellB K V b9 w9), AW p l e room_1 s m #[Value.ref b] below meth c 32 D A (cl + 100) (sl + 1000) Q (bw h a t ++ (cw yI yZ a K V ++ (cw yI yZ t Kt Vt ++ (zw yI yL o ba pa la ra K V (zA V) ++ (([(qB, .inl (yL, refs (kNb K) rb))] : va_W) ++ (rowsW yI rb 5 (kNb K) FB ++ (([(qL, .inl (yL, refs 5 rl))] : va_W) ++ (rowsW yI rl 5 5 FL ++ (([(qN, .inl (yI, 5, .inl NX))] : va_W)))))))))) [(10, .int cm), (9, .ref qN), (8, .ref qL), (7, .ref qB), (6, .int (wat V)), (5, .int (nI (kNb K))), (4, .int x), (3, .int (nI tm)), (0, .ref b), (1, .ref h), (2, .ref (o 0))] 328 []) : AW p l e room_1 s m #[Value.ref b] below meth c 32 D A cl sl Q (bw h a t ++ (cw yI yZ a K V ++ (cw yI yZ t Kt Vt ++ (zw yI yL o ba pa la ra K V (zA V) ++ (([(qB, .inl (yL, refs (kNb K) rb))] : va_W) ++ (rowsW yI rb 5 (kNb K) FB ++ (([(qL, .inl (yL, refs 5 rl))] : va_W) ++ (rowsW yI rl 5 5 FL ++ (([(qN, .inl (yI, 5, .inl NX))] : va_W)))))))))) [(9, .ref qN), (8, .ref qL), (7, .ref qB), (6, .int (wat V)), (5, .int (nI (kNb K))), (4, .int x), (3, .int (nI tm)), (0, .ref b), (1, .ref h), (2, .ref (o 0))] 145 [] := by
  have k1 : kNb K ≤ 10 := hK.1
  show AW p l e room_1 s m #[Value.ref b] below meth c 32 D A cl sl Q (bw h a t ++ (cw yI yZ a K V ++ (cw yI yZ t Kt Vt ++ (zw yI yL o ba pa la ra K V (zA V) ++ (([(qB, .inl (yL, refs (kNb K) rb))] : va_W) ++ (rowsW yI rb 5 (kNb K) FB ++ (([(qL, .inl (yL, refs 5 rl))] : va_W) ++ (rowsW yI rl 5 5 FL ++ (([(qN, .inl (yI, 5, .inl NX))] : va_W)))))))))) [(9, .ref qN), (8, .ref qL), (7, .ref qB), (6, .int (wat V)), (5, .int (nI (kNb K))), (4, .int x), (3, .int (nI tm)), (0, .ref b), (1, .ref h), (2, .ref (o 0))] 145 []
  refine xr_iconst F dL_law_145 (v := 0) (by decide) ?_
  refine xr_istore F [(10, .int 0), (9, .ref qN), (8, .ref qL), (7, .ref qB), (6, .int (wat V)), (5, .int (nI (kNb K))), (4, .int x), (3, .int (nI tm)), (0, .ref b), (1, .ref h), (2, .ref (o 0))] dL_law_146 (by decide) rfl ?_
  refine xr_iconst F dL_law_148 (v := 0) (by decide) ?_
  refine xr_istore F [(11, .int 0), (10, .int 0), (9, .ref qN), (8, .ref qL), (7, .ref qB), (6, .int (wat V)), (5, .int (nI (kNb K))), (4, .int x), (3, .int (nI tm)), (0, .ref b), (1, .ref h), (2, .ref (o 0))] dL_law_149 (by decide) rfl ?_
  have lp : ∀ (i : Nat) (e9 : Nat) (cm : Int32) (FB : Nat → Nat → Int32), i + e9 = kNb K → (∀ b9, b9 < e9 → ∀ w9, w9 < 5 → FB b9 w9 = c_tellB K V b9 w9) → c_comeL (c_come K V) i e9 cm = c_comeN K V → AW p l e room_1 s m #[Value.ref b] below meth c 32 D A (cl + 10 * e9) (sl + 60 * e9) Q (bw h a t ++ (cw yI yZ a K V ++ (cw yI yZ t Kt Vt ++ (zw yI yL o ba pa la ra K V (zA V) ++ (([(qB, .inl (yL, refs (kNb K) rb))] : va_W) ++ (rowsW yI rb 5 (kNb K) FB ++ (([(qL, .inl (yL, refs 5 rl))] : va_W) ++ (rowsW yI rl 5 5 FL ++ (([(qN, .inl (yI, 5, .inl NX))] : va_W)))))))))) [(11, .int (nI e9)), (10, .int cm), (9, .ref qN), (8, .ref qL), (7, .ref qB), (6, .int (wat V)), (5, .int (nI (kNb K))), (4, .int x), (3, .int (nI tm)), (0, .ref b), (1, .ref h), (2, .ref (o 0))] 151 [] := by
    intro i
    induction i with
    | zero =>
      intro e9 cm FB hb hF hc
      refine xr_iload F dL_law_151 0 rfl ?_
      refine xr_iload F dL_law_153 6 rfl ?_
      refine xr_icmp_ge F 328 dL_law_155 (by decide) (fun c155 => ?_) (fun c155 => ?_)
      · skip
        refine xr_lv (lv' := [(10, .int cm), (9, .ref qN), (8, .ref qL), (7, .ref qB), (6, .int (wat V)), (5, .int (nI (kNb K))), (4, .int x), (3, .int (nI tm)), (0, .ref b), (1, .ref h), (2, .ref (o 0))]) [1, 2, 3, 4, 5, 6, 7, 8, 9, 10, 11] rfl ?_
        refine xr_widen (k := cl + 100) (n := sl + 1000) (by omega) (by omega) ?_
        exact kk FB cm hc (fun b9 z9 => hF b9 (by omega))
      · exact (xk_ge (a := kNb K) (b := e9) (by omega) (by omega) c155).elim
    | succ i ih =>
      intro e9 cm FB hb hF hc
      refine xr_iload F dL_law_151 0 rfl ?_
      refine xr_iload F dL_law_153 6 rfl ?_
      refine xr_icmp_ge F 328 dL_law_155 (by decide) (fun c155 => ?_) (fun c155 => ?_)
      · exact (xk_nlt (a := e9) (b := kNb K) (by omega) (by omega) (by omega) c155).elim
      · skip
        refine xr_iconst F dL_law_158 (v := 0) (by decide) ?_
        refine xr_istore F [(12, .int 0), (11, .int (nI e9)), (10, .int cm), (9, .ref qN), (8, .ref qL), (7, .ref qB), (6, .int (wat V)), (5, .int (nI (kNb K))), (4, .int x), (3, .int (nI tm)), (0, .ref b), (1, .ref h), (2, .ref (o 0))] dL_law_159 (by decide) rfl ?_
        have lp2 : ∀ (j : Nat) (w9 : Nat) (FB : Nat → Nat → Int32), j + w9 = 5 → (∀ b9, b9 < e9 → ∀ w9, w9 < 5 → FB b9 w9 = c_tellB K V b9 w9) → (∀ w9', w9' < w9 → FB e9 w9' = c_tellB K V e9 w9') → AW p l e room_1 s m #[Value.ref b] below meth c 32 D A (cl + 10 * e9 + w9) (sl + 60 * e9 + 6 * w9) Q (bw h a t ++ (cw yI yZ a K V ++ (cw yI yZ t Kt Vt ++ (zw yI yL o ba pa la ra K V (zA V) ++ (([(qB, .inl (yL, refs (kNb K) rb))] : va_W) ++ (rowsW yI rb 5 (kNb K) FB ++ (([(qL, .inl (yL, refs 5 rl))] : va_W) ++ (rowsW yI rl 5 5 FL ++ (([(qN, .inl (yI, 5, .inl NX))] : va_W)))))))))) [(12, .int (nI w9)), (11, .int (nI e9)), (10, .int cm), (9, .ref qN), (8, .ref qL), (7, .ref qB), (6, .int (wat V)), (5, .int (nI (kNb K))), (4, .int x), (3, .int (nI tm)), (0, .ref b), (1, .ref h), (2, .ref (o 0))] 161 [] := by
          intro j
          induction j with
          | zero =>
            intro w9 FB hw hF hG
            refine xr_iload F dL_law_161 0 rfl ?_
            refine xr_iconst F dL_law_163 (v := 5) (by decide) ?_
            refine xr_icmp_ge F 189 dL_law_164 (by decide) (fun c164 => ?_) (fun c164 => ?_)
            · skip
              refine xr_aload F dL_law_189 5 rfl ?_
              refine xr_iload F dL_law_191 1 rfl ?_
              refine xr_aald F (1 + (12 + (12 + (16 + (kNb K) + (0))))) 2 (w_skip (1) rfl (w_skip (12) rfl (w_skip (12) rfl (w_skip (16 + (kNb K)) (zw_len _ _ _ _ _ _ _ _ _ _) (w_left rfl))))) rfl rfl (e9) rfl (by omega) (by omega) dL_law_193 ?_
              refine xr_astore F [(12, .ref (rb e9)), (11, .int (nI e9)), (10, .int cm), (9, .ref qN), (8, .ref qL), (7, .ref qB), (6, .int (wat V)), (5, .int (nI (kNb K))), (4, .int x), (3, .int (nI tm)), (0, .ref b), (1, .ref h), (2, .ref (o 0))] dL_law_194 (by decide) rfl ?_
              obtain ⟨t1, t2, t3, t4, t5, t6, t7, t8, -, -⟩ := told_facts hV (show e9 < kNb K by omega)
              refine xr_aload F dL_law_196 0 rfl ?_
              refine xr_iconst F dL_law_198 (v := 0) (by decide) ?_
              refine xr_iald F (1 + (12 + (12 + (16 + (kNb K) + (1 + (e9)))))) 0 (w_skip (1) rfl (w_skip (12) rfl (w_skip (12) rfl (w_skip (16 + (kNb K)) (zw_len _ _ _ _ _ _ _ _ _ _) (w_skip (1) rfl (w_left (rowsW_get (by omega)))))))) rfl (0) rfl (by decide) (by decide) dL_law_199 ?_
              refine xr_top (y := dAt V e9) (hG 0 (by omega)) ?_
              refine xr_if_lt F 303 dL_law_200 (by decide) (fun c200 => ?_) (fun c200 => ?_)
              · exact absurd c200 t1
              · skip
                refine xr_aload F dL_law_203 0 rfl ?_
                refine xr_iconst F dL_law_205 (v := 0) (by decide) ?_
                refine xr_iald F (1 + (12 + (12 + (16 + (kNb K) + (1 + (e9)))))) 0 (w_skip (1) rfl (w_skip (12) rfl (w_skip (12) rfl (w_skip (16 + (kNb K)) (zw_len _ _ _ _ _ _ _ _ _ _) (w_skip (1) rfl (w_left (rowsW_get (by omega)))))))) rfl (0) rfl (by decide) (by decide) dL_law_206 ?_
                refine xr_top (y := dAt V e9) (hG 0 (by omega)) ?_
                refine xr_iconst F dL_law_207 (v := 5) (by decide) ?_
                refine xr_icmp_gt F 303 dL_law_208 (by decide) (fun c208 => ?_) (fun c208 => ?_)
                · exact absurd c208 t2
                · skip
                  refine xr_aload F dL_law_211 0 rfl ?_
                  refine xr_iconst F dL_law_213 (v := 1) (by decide) ?_
                  refine xr_iald F (1 + (12 + (12 + (16 + (kNb K) + (1 + (e9)))))) 0 (w_skip (1) rfl (w_skip (12) rfl (w_skip (12) rfl (w_skip (16 + (kNb K)) (zw_len _ _ _ _ _ _ _ _ _ _) (w_skip (1) rfl (w_left (rowsW_get (by omega)))))))) rfl (1) rfl (by decide) (by decide) dL_law_214 ?_
                  refine xr_top (y := kGoal K e9) (hG 1 (by omega)) ?_
                  refine xr_if_lt F 303 dL_law_215 (by decide) (fun c215 => ?_) (fun c215 => ?_)
                  · exact absurd c215 t3
                  · skip
                    refine xr_aload F dL_law_218 0 rfl ?_
                    refine xr_iconst F dL_law_220 (v := 1) (by decide) ?_
                    refine xr_iald F (1 + (12 + (12 + (16 + (kNb K) + (1 + (e9)))))) 0 (w_skip (1) rfl (w_skip (12) rfl (w_skip (12) rfl (w_skip (16 + (kNb K)) (zw_len _ _ _ _ _ _ _ _ _ _) (w_skip (1) rfl (w_left (rowsW_get (by omega)))))))) rfl (1) rfl (by decide) (by decide) dL_law_221 ?_
                    refine xr_top (y := kGoal K e9) (hG 1 (by omega)) ?_
                    refine xr_iconst F dL_law_222 (v := 5) (by decide) ?_
                    refine xr_icmp_gt F 303 dL_law_223 (by decide) (fun c223 => ?_) (fun c223 => ?_)
                    · exact absurd c223 t4
                    · skip
                      refine xr_aload F dL_law_226 0 rfl ?_
                      refine xr_iconst F dL_law_228 (v := 2) (by decide) ?_
                      refine xr_iald F (1 + (12 + (12 + (16 + (kNb K) + (1 + (e9)))))) 0 (w_skip (1) rfl (w_skip (12) rfl (w_skip (12) rfl (w_skip (16 + (kNb K)) (zw_len _ _ _ _ _ _ _ _ _ _) (w_skip (1) rfl (w_left (rowsW_get (by omega)))))))) rfl (2) rfl (by decide) (by decide) dL_law_229 ?_
                      refine xr_top (y := dPur V e9) (hG 2 (by omega)) ?_
                      refine xr_if_lt F 303 dL_law_230 (by decide) (fun c230 => ?_) (fun c230 => ?_)
                      · exact absurd c230 t5
                      · skip
                        refine xr_aload F dL_law_233 0 rfl ?_
                        refine xr_iconst F dL_law_235 (v := 4) (by decide) ?_
                        refine xr_iald F (1 + (12 + (12 + (16 + (kNb K) + (1 + (e9)))))) 0 (w_skip (1) rfl (w_skip (12) rfl (w_skip (12) rfl (w_skip (16 + (kNb K)) (zw_len _ _ _ _ _ _ _ _ _ _) (w_skip (1) rfl (w_left (rowsW_get (by omega)))))))) rfl (4) rfl (by decide) (by decide) dL_law_236 ?_
                        refine xr_top (y := c_waits K V e9) (hG 4 (by omega)) ?_
                        refine xr_if_ge F 244 dL_law_237 (by decide) (fun c237 => ?_) (fun c237 => ?_)
                        · skip
                          refine xr_iconst F dL_law_244 (v := 0) (by decide) ?_
                          refine xr_aload F dL_law_245 0 rfl ?_
                          refine xr_iconst F dL_law_247 (v := 0) (by decide) ?_
                          refine xr_iald F (1 + (12 + (12 + (16 + (kNb K) + (1 + (e9)))))) 0 (w_skip (1) rfl (w_skip (12) rfl (w_skip (12) rfl (w_skip (16 + (kNb K)) (zw_len _ _ _ _ _ _ _ _ _ _) (w_skip (1) rfl (w_left (rowsW_get (by omega)))))))) rfl (0) rfl (by decide) (by decide) dL_law_248 ?_
                          refine xr_top (y := dAt V e9) (hG 0 (by omega)) ?_
                          refine xr_aload F dL_law_249 0 rfl ?_
                          refine xr_iconst F dL_law_251 (v := 1) (by decide) ?_
                          refine xr_iald F (1 + (12 + (12 + (16 + (kNb K) + (1 + (e9)))))) 0 (w_skip (1) rfl (w_skip (12) rfl (w_skip (12) rfl (w_skip (16 + (kNb K)) (zw_len _ _ _ _ _ _ _ _ _ _) (w_skip (1) rfl (w_left (rowsW_get (by omega)))))))) rfl (1) rfl (by decide) (by decide) dL_law_252 ?_
                          refine xr_top (y := kGoal K e9) (hG 1 (by omega)) ?_
                          refine xr_icmp_ne F 260 dL_law_253 (by decide) (fun c253 => ?_) (fun c253 => ?_)
                          · skip
                            refine xr_iconst F dL_law_260 (v := 0) (by decide) ?_
                            refine xr_icmp_ne F 303 dL_law_261 (by decide) (fun c261 => ?_) (fun c261 => ?_)
                            · exact absurd rfl c261
                            · skip
                              refine xr_aload F dL_law_264 0 rfl ?_
                              refine xr_iconst F dL_law_266 (v := 4) (by decide) ?_
                              refine xr_iald F (1 + (12 + (12 + (16 + (kNb K) + (1 + (e9)))))) 0 (w_skip (1) rfl (w_skip (12) rfl (w_skip (12) rfl (w_skip (16 + (kNb K)) (zw_len _ _ _ _ _ _ _ _ _ _) (w_skip (1) rfl (w_left (rowsW_get (by omega)))))))) rfl (4) rfl (by decide) (by decide) dL_law_267 ?_
                              refine xr_top (y := c_waits K V e9) (hG 4 (by omega)) ?_
                              refine xr_iconst F dL_law_268 (v := 4) (by decide) ?_
                              refine xr_icmp_gt F 303 dL_law_269 (by decide) (fun c269 => ?_) (fun c269 => ?_)
                              · exact absurd c269 t7
                              · skip
                                refine xr_aload F dL_law_272 0 rfl ?_
                                refine xr_iconst F dL_law_274 (v := 4) (by decide) ?_
                                refine xr_iald F (1 + (12 + (12 + (16 + (kNb K) + (1 + (e9)))))) 0 (w_skip (1) rfl (w_skip (12) rfl (w_skip (12) rfl (w_skip (16 + (kNb K)) (zw_len _ _ _ _ _ _ _ _ _ _) (w_skip (1) rfl (w_left (rowsW_get (by omega)))))))) rfl (4) rfl (by decide) (by decide) dL_law_275 ?_
                                refine xr_top (y := c_waits K V e9) (hG 4 (by omega)) ?_
                                refine xr_if_lt F 305 dL_law_276 (by decide) (fun c276 => ?_) (fun c276 => ?_)
                                · exact absurd c276 (Int32.not_lt.mpr c237)
                                · skip
                                  refine xr_aload F dL_law_279 0 rfl ?_
                                  refine xr_iconst F dL_law_281 (v := 4) (by decide) ?_
                                  refine xr_iald F (1 + (12 + (12 + (16 + (kNb K) + (1 + (e9)))))) 0 (w_skip (1) rfl (w_skip (12) rfl (w_skip (12) rfl (w_skip (16 + (kNb K)) (zw_len _ _ _ _ _ _ _ _ _ _) (w_skip (1) rfl (w_left (rowsW_get (by omega)))))))) rfl (4) rfl (by decide) (by decide) dL_law_282 ?_
                                  refine xr_top (y := c_waits K V e9) (hG 4 (by omega)) ?_
                                  refine xr_aload F dL_law_283 0 rfl ?_
                                  refine xr_iconst F dL_law_285 (v := 0) (by decide) ?_
                                  refine xr_iald F (1 + (12 + (12 + (16 + (kNb K) + (1 + (e9)))))) 0 (w_skip (1) rfl (w_skip (12) rfl (w_skip (12) rfl (w_skip (16 + (kNb K)) (zw_len _ _ _ _ _ _ _ _ _ _) (w_skip (1) rfl (w_left (rowsW_get (by omega)))))))) rfl (0) rfl (by decide) (by decide) dL_law_286 ?_
                                  refine xr_top (y := dAt V e9) (hG 0 (by omega)) ?_
                                  refine xr_icmp_eq F 305 dL_law_287 (by decide) (fun c287 => ?_) (fun c287 => ?_)
                                  · skip
                                    refine xr_iload F dL_law_305 2 rfl ?_
                                    refine xr_aload F dL_law_307 0 rfl ?_
                                    refine xr_iconst F dL_law_309 (v := 4) (by decide) ?_
                                    refine xr_iald F (1 + (12 + (12 + (16 + (kNb K) + (1 + (e9)))))) 0 (w_skip (1) rfl (w_skip (12) rfl (w_skip (12) rfl (w_skip (16 + (kNb K)) (zw_len _ _ _ _ _ _ _ _ _ _) (w_skip (1) rfl (w_left (rowsW_get (by omega)))))))) rfl (4) rfl (by decide) (by decide) dL_law_310 ?_
                                    refine xr_top (y := c_waits K V e9) (hG 4 (by omega)) ?_
                                    refine xr_if_ge F 318 dL_law_311 (by decide) (fun c311 => ?_) (fun c311 => ?_)
                                    · skip
                                      refine xr_iconst F dL_law_318 (v := 0) (by decide) ?_
                                      refine xr_iadd F (cm + 0) dL_law_319 rfl ?_
                                      refine xr_istore F [(10, .int (cm + 0)), (12, .ref (rb e9)), (11, .int (nI e9)), (9, .ref qN), (8, .ref qL), (7, .ref qB), (6, .int (wat V)), (5, .int (nI (kNb K))), (4, .int x), (3, .int (nI tm)), (0, .ref b), (1, .ref h), (2, .ref (o 0))] dL_law_320 (by decide) rfl ?_
                                      refine xr_iinc F (nI (e9 + 1)) [(11, .int (nI (e9 + 1))), (10, .int (cm + 0)), (12, .ref (rb e9)), (9, .ref qN), (8, .ref qL), (7, .ref qB), (6, .int (wat V)), (5, .int (nI (kNb K))), (4, .int x), (3, .int (nI tm)), (0, .ref b), (1, .ref h), (2, .ref (o 0))] dL_law_322 2 rfl (nI_add e9 1) (by decide) rfl ?_
                                      refine xr_goto F 151 dL_law_325 (by decide) ?_
                                      refine xr_lv (lv' := [(11, .int (nI (e9 + 1))), (10, .int (cm + 0)), (9, .ref qN), (8, .ref qL), (7, .ref qB), (6, .int (wat V)), (5, .int (nI (kNb K))), (4, .int x), (3, .int (nI tm)), (0, .ref b), (1, .ref h), (2, .ref (o 0))]) [0, 1, 3, 4, 5, 6, 7, 8, 9, 10, 11, 12] rfl ?_
                                      refine xr_widen (k := cl + 10 * (e9 + 1)) (n := sl + 60 * (e9 + 1)) (by omega) (by omega) ?_
                                      exact ih (e9 + 1) (cm + 0) FB (by omega) (rw_next (by omega) hF hG) (come_st hc ((come_step hV (show e9 < kNb K by omega)).trans (if_neg (Int32.not_lt.mpr c237))))
                                    · exact absurd c237 c311
                                  · skip
                                    refine xr_aload F dL_law_290 0 rfl ?_
                                    refine xr_iconst F dL_law_292 (v := 4) (by decide) ?_
                                    refine xr_iald F (1 + (12 + (12 + (16 + (kNb K) + (1 + (e9)))))) 0 (w_skip (1) rfl (w_skip (12) rfl (w_skip (12) rfl (w_skip (16 + (kNb K)) (zw_len _ _ _ _ _ _ _ _ _ _) (w_skip (1) rfl (w_left (rowsW_get (by omega)))))))) rfl (4) rfl (by decide) (by decide) dL_law_293 ?_
                                    refine xr_top (y := c_waits K V e9) (hG 4 (by omega)) ?_
                                    refine xr_aload F dL_law_294 0 rfl ?_
                                    refine xr_iconst F dL_law_296 (v := 0) (by decide) ?_
                                    refine xr_iald F (1 + (12 + (12 + (16 + (kNb K) + (1 + (e9)))))) 0 (w_skip (1) rfl (w_skip (12) rfl (w_skip (12) rfl (w_skip (16 + (kNb K)) (zw_len _ _ _ _ _ _ _ _ _ _) (w_skip (1) rfl (w_left (rowsW_get (by omega)))))))) rfl (0) rfl (by decide) (by decide) dL_law_297 ?_
                                    refine xr_top (y := dAt V e9) (hG 0 (by omega)) ?_
                                    refine xr_iconst F dL_law_298 (v := 1) (by decide) ?_
                                    refine xr_isub F ((dAt V e9) - 1) dL_law_299 rfl ?_
                                    refine xr_icmp_eq F 305 dL_law_300 (by decide) (fun c300 => ?_) (fun c300 => ?_)
                                    · skip
                                      refine xr_iload F dL_law_305 2 rfl ?_
                                      refine xr_aload F dL_law_307 0 rfl ?_
                                      refine xr_iconst F dL_law_309 (v := 4) (by decide) ?_
                                      refine xr_iald F (1 + (12 + (12 + (16 + (kNb K) + (1 + (e9)))))) 0 (w_skip (1) rfl (w_skip (12) rfl (w_skip (12) rfl (w_skip (16 + (kNb K)) (zw_len _ _ _ _ _ _ _ _ _ _) (w_skip (1) rfl (w_left (rowsW_get (by omega)))))))) rfl (4) rfl (by decide) (by decide) dL_law_310 ?_
                                      refine xr_top (y := c_waits K V e9) (hG 4 (by omega)) ?_
                                      refine xr_if_ge F 318 dL_law_311 (by decide) (fun c311 => ?_) (fun c311 => ?_)
                                      · skip
                                        refine xr_iconst F dL_law_318 (v := 0) (by decide) ?_
                                        refine xr_iadd F (cm + 0) dL_law_319 rfl ?_
                                        refine xr_istore F [(10, .int (cm + 0)), (12, .ref (rb e9)), (11, .int (nI e9)), (9, .ref qN), (8, .ref qL), (7, .ref qB), (6, .int (wat V)), (5, .int (nI (kNb K))), (4, .int x), (3, .int (nI tm)), (0, .ref b), (1, .ref h), (2, .ref (o 0))] dL_law_320 (by decide) rfl ?_
                                        refine xr_iinc F (nI (e9 + 1)) [(11, .int (nI (e9 + 1))), (10, .int (cm + 0)), (12, .ref (rb e9)), (9, .ref qN), (8, .ref qL), (7, .ref qB), (6, .int (wat V)), (5, .int (nI (kNb K))), (4, .int x), (3, .int (nI tm)), (0, .ref b), (1, .ref h), (2, .ref (o 0))] dL_law_322 2 rfl (nI_add e9 1) (by decide) rfl ?_
                                        refine xr_goto F 151 dL_law_325 (by decide) ?_
                                        refine xr_lv (lv' := [(11, .int (nI (e9 + 1))), (10, .int (cm + 0)), (9, .ref qN), (8, .ref qL), (7, .ref qB), (6, .int (wat V)), (5, .int (nI (kNb K))), (4, .int x), (3, .int (nI tm)), (0, .ref b), (1, .ref h), (2, .ref (o 0))]) [0, 1, 3, 4, 5, 6, 7, 8, 9, 10, 11, 12] rfl ?_
                                        refine xr_widen (k := cl + 10 * (e9 + 1)) (n := sl + 60 * (e9 + 1)) (by omega) (by omega) ?_
                                        exact ih (e9 + 1) (cm + 0) FB (by omega) (rw_next (by omega) hF hG) (come_st hc ((come_step hV (show e9 < kNb K by omega)).trans (if_neg (Int32.not_lt.mpr c237))))
                                      · exact absurd c237 c311
                                    · exact absurd ((t8 c276).resolve_left c287) c300
                          · skip
                            refine xr_iconst F dL_law_256 (v := 1) (by decide) ?_
                            refine xr_goto F 261 dL_law_257 (by decide) ?_
                            refine xr_icmp_ne F 303 dL_law_261 (by decide) (fun c261 => ?_) (fun c261 => ?_)
                            · exact absurd (t6.mpr c253) (Int32.not_lt.mpr c237)
                            · exact absurd c261 (by decide)
                        · skip
                          refine xr_iconst F dL_law_240 (v := 1) (by decide) ?_
                          refine xr_goto F 245 dL_law_241 (by decide) ?_
                          refine xr_aload F dL_law_245 0 rfl ?_
                          refine xr_iconst F dL_law_247 (v := 0) (by decide) ?_
                          refine xr_iald F (1 + (12 + (12 + (16 + (kNb K) + (1 + (e9)))))) 0 (w_skip (1) rfl (w_skip (12) rfl (w_skip (12) rfl (w_skip (16 + (kNb K)) (zw_len _ _ _ _ _ _ _ _ _ _) (w_skip (1) rfl (w_left (rowsW_get (by omega)))))))) rfl (0) rfl (by decide) (by decide) dL_law_248 ?_
                          refine xr_top (y := dAt V e9) (hG 0 (by omega)) ?_
                          refine xr_aload F dL_law_249 0 rfl ?_
                          refine xr_iconst F dL_law_251 (v := 1) (by decide) ?_
                          refine xr_iald F (1 + (12 + (12 + (16 + (kNb K) + (1 + (e9)))))) 0 (w_skip (1) rfl (w_skip (12) rfl (w_skip (12) rfl (w_skip (16 + (kNb K)) (zw_len _ _ _ _ _ _ _ _ _ _) (w_skip (1) rfl (w_left (rowsW_get (by omega)))))))) rfl (1) rfl (by decide) (by decide) dL_law_252 ?_
                          refine xr_top (y := kGoal K e9) (hG 1 (by omega)) ?_
                          refine xr_icmp_ne F 260 dL_law_253 (by decide) (fun c253 => ?_) (fun c253 => ?_)
                          · skip
                            refine xr_iconst F dL_law_260 (v := 0) (by decide) ?_
                            refine xr_icmp_ne F 303 dL_law_261 (by decide) (fun c261 => ?_) (fun c261 => ?_)
                            · exact absurd (t6.mp (Int32.not_le.mp c237)) c253
                            · exact absurd c261 (by decide)
                          · skip
                            refine xr_iconst F dL_law_256 (v := 1) (by decide) ?_
                            refine xr_goto F 261 dL_law_257 (by decide) ?_
                            refine xr_icmp_ne F 303 dL_law_261 (by decide) (fun c261 => ?_) (fun c261 => ?_)
                            · exact absurd rfl c261
                            · skip
                              refine xr_aload F dL_law_264 0 rfl ?_
                              refine xr_iconst F dL_law_266 (v := 4) (by decide) ?_
                              refine xr_iald F (1 + (12 + (12 + (16 + (kNb K) + (1 + (e9)))))) 0 (w_skip (1) rfl (w_skip (12) rfl (w_skip (12) rfl (w_skip (16 + (kNb K)) (zw_len _ _ _ _ _ _ _ _ _ _) (w_skip (1) rfl (w_left (rowsW_get (by omega)))))))) rfl (4) rfl (by decide) (by decide) dL_law_267 ?_
                              refine xr_top (y := c_waits K V e9) (hG 4 (by omega)) ?_
                              refine xr_iconst F dL_law_268 (v := 4) (by decide) ?_
                              refine xr_icmp_gt F 303 dL_law_269 (by decide) (fun c269 => ?_) (fun c269 => ?_)
                              · exact absurd c269 t7
                              · skip
                                refine xr_aload F dL_law_272 0 rfl ?_
                                refine xr_iconst F dL_law_274 (v := 4) (by decide) ?_
                                refine xr_iald F (1 + (12 + (12 + (16 + (kNb K) + (1 + (e9)))))) 0 (w_skip (1) rfl (w_skip (12) rfl (w_skip (12) rfl (w_skip (16 + (kNb K)) (zw_len _ _ _ _ _ _ _ _ _ _) (w_skip (1) rfl (w_left (rowsW_get (by omega)))))))) rfl (4) rfl (by decide) (by decide) dL_law_275 ?_
                                refine xr_top (y := c_waits K V e9) (hG 4 (by omega)) ?_
                                refine xr_if_lt F 305 dL_law_276 (by decide) (fun c276 => ?_) (fun c276 => ?_)
                                · skip
                                  refine xr_iload F dL_law_305 2 rfl ?_
                                  refine xr_aload F dL_law_307 0 rfl ?_
                                  refine xr_iconst F dL_law_309 (v := 4) (by decide) ?_
                                  refine xr_iald F (1 + (12 + (12 + (16 + (kNb K) + (1 + (e9)))))) 0 (w_skip (1) rfl (w_skip (12) rfl (w_skip (12) rfl (w_skip (16 + (kNb K)) (zw_len _ _ _ _ _ _ _ _ _ _) (w_skip (1) rfl (w_left (rowsW_get (by omega)))))))) rfl (4) rfl (by decide) (by decide) dL_law_310 ?_
                                  refine xr_top (y := c_waits K V e9) (hG 4 (by omega)) ?_
                                  refine xr_if_ge F 318 dL_law_311 (by decide) (fun c311 => ?_) (fun c311 => ?_)
                                  · exact absurd c311 c237
                                  · skip
                                    refine xr_iconst F dL_law_314 (v := 1) (by decide) ?_
                                    refine xr_goto F 319 dL_law_315 (by decide) ?_
                                    refine xr_iadd F (cm + 1) dL_law_319 rfl ?_
                                    refine xr_istore F [(10, .int (cm + 1)), (12, .ref (rb e9)), (11, .int (nI e9)), (9, .ref qN), (8, .ref qL), (7, .ref qB), (6, .int (wat V)), (5, .int (nI (kNb K))), (4, .int x), (3, .int (nI tm)), (0, .ref b), (1, .ref h), (2, .ref (o 0))] dL_law_320 (by decide) rfl ?_
                                    refine xr_iinc F (nI (e9 + 1)) [(11, .int (nI (e9 + 1))), (10, .int (cm + 1)), (12, .ref (rb e9)), (9, .ref qN), (8, .ref qL), (7, .ref qB), (6, .int (wat V)), (5, .int (nI (kNb K))), (4, .int x), (3, .int (nI tm)), (0, .ref b), (1, .ref h), (2, .ref (o 0))] dL_law_322 2 rfl (nI_add e9 1) (by decide) rfl ?_
                                    refine xr_goto F 151 dL_law_325 (by decide) ?_
                                    refine xr_lv (lv' := [(11, .int (nI (e9 + 1))), (10, .int (cm + 1)), (9, .ref qN), (8, .ref qL), (7, .ref qB), (6, .int (wat V)), (5, .int (nI (kNb K))), (4, .int x), (3, .int (nI tm)), (0, .ref b), (1, .ref h), (2, .ref (o 0))]) [0, 1, 3, 4, 5, 6, 7, 8, 9, 10, 11, 12] rfl ?_
                                    refine xr_widen (k := cl + 10 * (e9 + 1)) (n := sl + 60 * (e9 + 1)) (by omega) (by omega) ?_
                                    exact ih (e9 + 1) (cm + 1) FB (by omega) (rw_next (by omega) hF hG) (come_st hc ((come_step hV (show e9 < kNb K by omega)).trans (if_pos (Int32.not_le.mp c237))))
                                · exact absurd (Int32.not_le.mp c237) c276
            · exact (xk_ge (a := 5) (b := w9) (by omega) (by omega) c164).elim
          | succ j ih =>
            intro w9 FB hw hF hG
            refine xr_iload F dL_law_161 0 rfl ?_
            refine xr_iconst F dL_law_163 (v := 5) (by decide) ?_
            refine xr_icmp_ge F 189 dL_law_164 (by decide) (fun c164 => ?_) (fun c164 => ?_)
            · exact (xk_nlt (a := w9) (b := 5) (by omega) (by omega) (by omega) c164).elim
            · skip
              refine xr_aload F dL_law_167 5 rfl ?_
              refine xr_iload F dL_law_169 1 rfl ?_
              refine xr_aald F (1 + (12 + (12 + (16 + (kNb K) + (0))))) 2 (w_skip (1) rfl (w_skip (12) rfl (w_skip (12) rfl (w_skip (16 + (kNb K)) (zw_len _ _ _ _ _ _ _ _ _ _) (w_left rfl))))) rfl rfl (e9) rfl (by omega) (by omega) dL_law_171 ?_
              refine xr_iload F dL_law_172 0 rfl ?_
              refine xr_aload_n F dL_law_174 rfl 11 rfl ?_
              refine xr_iload F dL_law_175 1 rfl ?_
              refine xr_iload F dL_law_177 0 rfl ?_
              refine xr_ws (ws' := ([] : va_W) ++ ((bw h a t ++ (cw yI yZ a K V)) ++ (cw yI yZ t Kt Vt ++ (zw yI yL o ba pa la ra K V (zA V) ++ (([(qB, .inl (yL, refs (kNb K) rb))] : va_W) ++ (rowsW yI rb 5 (kNb K) FB ++ (([(qL, .inl (yL, refs 5 rl))] : va_W) ++ (rowsW yI rl 5 5 FL ++ (([(qN, .inl (yI, 5, .inl NX))] : va_W)))))))))) (by first | (simp only [List.append_assoc, List.append_nil, List.nil_append]; done) | rfl | (simp only [List.append_assoc, List.append_nil, List.nil_append]; rfl)) ?_
              have q179 : q_told K (nI e9) (nI w9) = 0 := (q_told_v (j := e9) (w := w9) hK.1 (by omega) (by omega))
              refine xr_mcXVi F G (rest := [.int (nI w9), .ref (rb e9)]) (As := [.int (nI e9), .int (nI w9)]) (k_X1_told l D yI yZ yL hst h a t K V (nI e9) (nI w9) hK.1) (cwV 2 F.hts gL_law_X1_told rfl rfl rfl (by decide +kernel) ⟨Nat.le_of_ble_eq_true rfl, Nat.le_of_ble_eq_true rfl⟩) (q0 := 0) rfl rfl (([] : va_W)) (cw yI yZ t Kt Vt ++ (zw yI yL o ba pa la ra K V (zA V) ++ (([(qB, .inl (yL, refs (kNb K) rb))] : va_W) ++ (rowsW yI rb 5 (kNb K) FB ++ (([(qL, .inl (yL, refs 5 rl))] : va_W) ++ (rowsW yI rl 5 5 FL ++ (([(qN, .inl (yI, 5, .inl NX))] : va_W)))))))) rfl rfl rfl (Nat.le_of_ble_eq_true rfl) dL_law_179 ⟨(by show _ ≤ (610331 : Nat); omega), (by show _ ≤ (7270474 : Nat); omega)⟩ (fun E1 W1 z1 => ?_) (fun r1 W1 z1 => ?_)
              · skip
                exact absurd (q179.symm.trans z1.1.1) (by decide)
              · skip
                obtain ⟨-, z0, z1⟩ := z1
                subst z0
                subst z1
                refine xr_ws (ws' := bw h a t ++ (cw yI yZ a K V ++ (cw yI yZ t Kt Vt ++ (zw yI yL o ba pa la ra K V (zA V) ++ (([(qB, .inl (yL, refs (kNb K) rb))] : va_W) ++ (rowsW yI rb 5 (kNb K) FB ++ (([(qL, .inl (yL, refs 5 rl))] : va_W) ++ (rowsW yI rl 5 5 FL ++ (([(qN, .inl (yI, 5, .inl NX))] : va_W)))))))))) (by first | (simp only [List.append_assoc, List.append_nil, List.nil_append]; done) | rfl | (simp only [List.append_assoc, List.append_nil, List.nil_append]; rfl)) ?_
                refine xr_top (y := c_tellB K V e9 w9) (by rw [ix_nI (n := e9) (by omega), ix_nI (n := w9) (by omega)]) ?_
                refine xr_iast F (1 + (12 + (12 + (16 + (kNb K) + (1 + (e9)))))) 0 (w_skip (1) rfl (w_skip (12) rfl (w_skip (12) rfl (w_skip (16 + (kNb K)) (zw_len _ _ _ _ _ _ _ _ _ _) (w_skip (1) rfl (w_left (rowsW_get (by omega)))))))) rfl (w9) rfl (by omega) (by decide) (bw h a t ++ (cw yI yZ a K V ++ (cw yI yZ t Kt Vt ++ (zw yI yL o ba pa la ra K V (zA V) ++ (([(qB, .inl (yL, refs (kNb K) rb))] : va_W) ++ (rowsW yI rb 5 (kNb K) (upd2 FB e9 w9 (c_tellB K V e9 w9)) ++ (([(qL, .inl (yL, refs 5 rl))] : va_W) ++ (rowsW yI rl 5 5 FL ++ (([(qN, .inl (yI, 5, .inl NX))] : va_W)))))))))) (s_skip (1) rfl (s_skip (12) rfl (s_skip (12) rfl (s_skip (16 + (kNb K)) (zw_len _ _ _ _ _ _ _ _ _ _) (s_skip (1) rfl (s_left (by rw [rowsW_len]; omega) (rowsW_set (by omega)))))))) dL_law_182 ?_
                refine xr_iinc F (nI (w9 + 1)) [(12, .int (nI (w9 + 1))), (11, .int (nI e9)), (10, .int cm), (9, .ref qN), (8, .ref qL), (7, .ref qB), (6, .int (wat V)), (5, .int (nI (kNb K))), (4, .int x), (3, .int (nI tm)), (0, .ref b), (1, .ref h), (2, .ref (o 0))] dL_law_183 0 rfl (nI_add w9 1) (by decide) rfl ?_
                refine xr_goto F 161 dL_law_186 (by decide) ?_
                refine xr_lv (lv' := [(12, .int (nI (w9 + 1))), (11, .int (nI e9)), (10, .int cm), (9, .ref qN), (8, .ref qL), (7, .ref qB), (6, .int (wat V)), (5, .int (nI (kNb K))), (4, .int x), (3, .int (nI tm)), (0, .ref b), (1, .ref h), (2, .ref (o 0))]) [0, 1, 2, 3, 4, 5, 6, 7, 8, 9, 10, 11, 12] rfl ?_
                refine xr_widen (k := cl + 10 * e9 + (w9 + 1)) (n := sl + 60 * e9 + 6 * (w9 + 1)) (by omega) (by omega) ?_
                exact ih (w9 + 1) (upd2 FB e9 w9 (c_tellB K V e9 w9)) (by omega) (rw_step hF hG).1 (rw_step hF hG).2
        refine xr_lv (lv' := [(12, .int 0), (11, .int (nI e9)), (10, .int cm), (9, .ref qN), (8, .ref qL), (7, .ref qB), (6, .int (wat V)), (5, .int (nI (kNb K))), (4, .int x), (3, .int (nI tm)), (0, .ref b), (1, .ref h), (2, .ref (o 0))]) [0, 1, 2, 3, 4, 5, 6, 7, 8, 9, 10, 11, 12] rfl ?_
        refine xr_widen (k := cl + 10 * e9 + 0) (n := sl + 60 * e9 + 6 * 0) (by omega) (by omega) ?_
        exact lp2 5 0 FB (by omega) hF (fun w9 z9 => absurd z9 (Nat.not_lt_zero _))
  refine xr_lv (lv' := [(11, .int 0), (10, .int 0), (9, .ref qN), (8, .ref qL), (7, .ref qB), (6, .int (wat V)), (5, .int (nI (kNb K))), (4, .int x), (3, .int (nI tm)), (0, .ref b), (1, .ref h), (2, .ref (o 0))]) [0, 1, 2, 3, 4, 5, 6, 7, 8, 9, 10, 11] rfl ?_
  refine xr_widen (k := cl + 10 * 0) (n := sl + 60 * 0) (by omega) (by omega) ?_
  exact lp (kNb K) 0 0 FB (by omega) (fun b9 z9 => absurd z9 (Nat.not_lt_zero _)) rfl
