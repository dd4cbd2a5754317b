set_option maxHeartbeats 4000000 in
set_option maxRecDepth 100000 in
/-- an hour -/
theorem law_hour {p : Program} {e : Env} {s : State} {m : MethodId} {below : List Frame} {meth : Method} {c : Code} {l : Launch} (hst : l.stackTraces = false) {b L : Nat} {xs : Nat → Int32} (hL : L ≤ 260) {D : va_G} {yI yZ yL : ClassId} {A : Nat → Prop} {Q : State → Prop} (F : XF p s m #[Value.ref b] c cL_law 32 wsL_law R_law D (tysG yI yZ yL) A) (G : XG l s meth A) (hX : va_X b L xs s s.heap) (hbl : b < s.heap.size) (hbA : ¬ A b) {h : Nat} {a t o : Nat → Nat} {ba : Nat} {pa la ra : Nat → Nat} {K : CK} {V : CD} {Kt : CK} {Vt : CD} {N tm : Nat} (htm : tm < 45) (hN : N < 40000) (hK : okK K) (hV : okV K V N) (dh : Nat) (hdh : dHour V ≤ dh) (hdl : dh ≤ 99) (cl sl : Nat) (hcl : cl + 1400 ≤ 610331) (hsl : sl + 14000 ≤ 7270474)
    (kk : ∀ (K : CK) (V : CD) (Kt : CK) (Vt : CD) (ba : Nat) (ra : Nat → Nat), okK K → okV K V (N + 2) → dHour V ≤ dh + 1 → AW p l e room_1 s m #[Value.ref b] below meth c 32 D A (cl + 1400) (sl + 14000) Q (bw h a t ++ (cw yI yZ a K V ++ (cw yI yZ t Kt Vt ++ (zw yI yL o ba pa la ra K V (zA V))))) [(3, .int (nI (tm + 1))), (0, .ref b), (1, .ref h), (2, .ref (o 0))] 22 []) :
    AW p l e room_1 s m #[Value.ref b] below meth c 32 D A cl sl Q (bw h a t ++ (cw yI yZ a K V ++ (cw yI yZ t Kt Vt ++ (zw yI yL o ba pa la ra K V (zA V))))) [(3, .int (nI tm)), (0, .ref b), (1, .ref h), (2, .ref (o 0))] 28 [] := by
  refine law_S0 hst hL F G hX hbl hbA htm (by omega) hK hV (by omega) dh hdh _ _ (by omega) (by omega) (fun x K V Kt Vt ba ra hK hV hdh => ?_)
  have hN1 : N + 1 < 50000 := by omega
  have hh : dHour V ≤ 100 := by omega
  refine law_S1 hst hL F G hX hbl hbA htm hN1 hK hV hh _ _ (by omega) (by omega) (fun qB rb qL rl qN FB FL NX => ?_)
  refine law_S2 hst hL F G hX hbl hbA htm hN1 hK hV hh _ _ (by omega) (by omega) (fun FB cm hc hFB => ?_)
  subst hc
  refine law_S3 hst hL F G hX hbl hbA htm hN1 hK hV hh _ _ (by omega) (by omega) (fun wa an hw ha => ?_)
  subst hw
  subst ha
  refine law_S4 hst hL F G hX hbl hbA htm hN1 hK hV hh hFB _ _ (by omega) (by omega) (fun FL NX fu wt hf hwt hFL => ?_)
  subst hf
  subst hwt
  refine law_S5 hst hL F G hX hbl hbA htm hN1 hK hV hh _ _ (by omega) (by omega) (fun qT fT Kt Vt dg edg hT => ?_)
  refine law_S6 hst hL F G hX hbl hbA htm hN1 hK hV hh _ _ (by omega) (by omega) (fun b0 ar Kt Vt hb0 => ?_)
  refine law_S7 hst hL F G hX hbl hbA htm hN1 hK hV hh _ _ (by omega) (by omega) (fun best Kt Vt hbest => ?_)
  refine law_S8 hst hL F G hX hbl hbA htm hN1 hK hV hh hFB hb0 hbest edg _ _ (by omega) (by omega) (fun Kt Vt => ?_)
  refine law_S9a hst hL F G hX hbl hbA htm hN1 hK hV hh _ _ (by omega) (by omega) ?_
  obtain ⟨tS, uS, hA⟩ := hr_all hK hV
  have hV2 := hour_ok hK hV
  have hd2 : dHour (c_hour K V).1 = dHour V + 1 := by rw [dHour_hour]
  have hh2 : dHour (c_hour K V).1 ≤ 101 := by omega
  refine law_S9b hst hL F G hX hbl hbA htm hN1 hK hV hh hA hV2 hh2 hA.2.1 (stop_facts K V).2.2 hb0 hT _ _ (by omega) (by omega) (fun Kt Vt => ?_)
  refine law_S10 hst hL F G hX hbl hbA htm hN1 hK hV hh hA hV2 hh2 hFB _ _ (by omega) (by omega) (fun mn pd hm hp => ?_)
  subst hm
  subst hp
  refine law_S11 hst hL F G hX hbl hbA htm hN1 hK hV hh hA hV2 hh2 hFL _ _ (by omega) (by omega) (fun by9 hm => ?_)
  subst hm
  refine law_S12 hst hL F G hX hbl hbA htm hN1 hK hV hh hA hV2 hh2 _ _ (by omega) (by omega) ?_
  refine xr_widen (k := cl + 1400) (n := sl + 14000) (by omega) (by omega) ?_
  exact kk K _ Kt Vt ba ra hK hV2 (by omega)
