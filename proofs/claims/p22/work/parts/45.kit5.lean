-- ===== methods of the law: a boolean with handlers, a reference, the script as an argument =====
/-- the script, that no cell of the world is -/
def xScr (b L : Nat) (xs : Nat → Int32) (W0 : va_W) (sz : Nat) (U : State) : Prop := va_X b L xs U U.heap ∧ b < U.heap.size ∧ ¬ va_A W0 sz b
theorem xScr.moved {b L : Nat} {xs : Nat → Int32} {W0 : va_W} {sz : Nat} {u U : State} (h : u.vm.Alike U.vm) (e : U.heap = u.heap) (z : xScr b L xs W0 sz u) : xScr b L xs W0 sz U := ⟨by rw [e]; exact va_X.moved h z.1, by rw [e]; exact z.2.1, z.2.2⟩
abbrev xPreXS (D : va_G) (tys : List (ClassId × FieldType)) (W0 : va_W) (sz : Nat) (av : List Value) (b L : Nat) (xs : Nat → Int32) : Array Value → State → Prop := va_Pc av (fun U => ((U.heap.size = sz ∧ va_P D vwCl W0 U.heap ∧ va_K D vwCl tys U ∧ va_D (fun _ => True) W0 ∧ xZ U) ∧ xT U ∧ xQ (va_A W0 sz) U U.heap) ∧ xScr b L xs W0 sz U)
theorem xk_blindXS {D : va_G} {tys : List (ClassId × FieldType)} {W0 : va_W} {sz : Nat} {av : List Value} {b L : Nat} {xs : Nat → Int32} : FrameBlind (xPreXS D tys W0 sz av b L xs) := fun a U g mk q => by
  obtain ⟨q0, ⟨⟨q1, qP, qK, qD, qZ⟩, qT, qQ⟩, qS⟩ := q
  exact ⟨q0, ⟨⟨q1, qP, va_K.moved (u := U) (U := U.calling g mk a) (Vm.Alike.refl U.vm) qK, qD, xk_nsame (u := U) (U := U.calling g mk a) rfl qZ⟩, xT.same (u := U) (U := U.calling g mk a) rfl qT, xQ.moved (u := U) (U := U.calling g mk a) (Vm.Alike.refl U.vm) qQ⟩, xScr.moved (u := U) (U := U.calling g mk a) (Vm.Alike.refl U.vm) rfl qS⟩
def xXSi (l : Launch) (y : MethodName) (wsC : List Cond) (rm : Room) (D : va_G) (tys : List (ClassId × FieldType)) (W0 : va_W) (av : List Value) (mc ms : Nat) (b L : Nat) (xs : Nat → Int32) (post : Int32 → va_W → Prop) (px : String → va_W → Prop) : Prop := ∀ sz : Nat, vx_Met l y wsC rm (xPreXS D tys W0 sz av b L xs) (va_Qi post (xPst D W0 sz) (va_A W0 sz)) (xXC D W0 sz px) mc ms (va_A W0 sz)
def xXSr (l : Launch) (y : MethodName) (wsC : List Cond) (rm : Room) (D : va_G) (tys : List (ClassId × FieldType)) (W0 : va_W) (av : List Value) (mc ms : Nat) (b L : Nat) (xs : Nat → Int32) (post : Nat → va_W → Prop) (px : String → va_W → Prop) : Prop := ∀ sz : Nat, vx_Met l y wsC rm (xPreXS D tys W0 sz av b L xs) (va_Qr (fun u : Nat × va_W => post u.1 u.2) (fun u a t => a = u.1 ∧ xPst D W0 sz u.2 t) (va_A W0 sz)) (xXC D W0 sz px) mc ms (va_A W0 sz)
section XMET5
variable {l : Launch} {y : MethodName} {wsC ws' : List Cond} {rm : Room} {D : va_G} {tys : List (ClassId × FieldType)} {W0 : va_W} {av : List Value} {mc ms nL : Nat} {cc : ByteArray}
theorem xEXH_z {post : Int32 → va_W → Prop} {px : String → va_W → Prop} {hh : List (Nat × Nat × Nat × Nat)} (hst : l.stackTraces = false) (hy : plainName y.cls = true) (hw : wsC = Cond.codeWith y cc nL (some .boolean) hh :: ws') (hav : (lg_sl av).length ≤ nL)
    (body : ∀ (p : Program) (e : Env) (s : State) (m : MethodId) (args : Array Value) (below : List Frame) (meth : Method) (c : Code) (A : Nat → Prop) (Q : State → Prop), XF p s m args c cc nL wsC y.cls D tys A → XG l s meth A → c.exceptionTable.toList = tableOf hh → (∀ (pc : Nat) (r : Int32) (W1 : va_W) (lv : List (Nat × Value)), decode cc pc = .ok (.ireturn, 1) → narrow .boolean (.int r) = .int r → post r W1 → AW p l e rm s m args below meth c nL D A mc ms Q W1 lv pc [.int r]) → AW p l e rm s m args below meth c nL D A 0 0 Q W0 (lv_args 0 av) 0 []) : xXi l y wsC rm D tys W0 av mc ms post px := by
  intro sz
  refine vx_ofWH (cc := cc) (maxL := nL) (ret := some .boolean) (hh := hh) hy hw ?_
  intro p e s m args below meth c s₁ B hml hv
  obtain ⟨rfl, ⟨hsz, hP, hK, hD0, hZ⟩, hT, hQ⟩ := hv
  subst hsz
  have hown : s.vm.findClass y.cls = some m.cls := findClass_of_methodNamed B.named
  rw [lg_entry_eq]
  refine body p e s m _ below meth c (va_A W0 s.heap.size) _ ⟨B.exec, B.bytes, hml, hown, atoms_spec (ws := wsC) B.pre, hK, fun q h => Or.inr h, hZ⟩ ⟨hst, B.notSynchronized, hT, hQ⟩ (vx_table (x := y) B (atoms_spec (ws := wsC) B.pre _ (by rw [hw]; exact List.mem_cons_self))) ?_ s.heap [] _ hP (hD0.self (sz := s.heap.size)) va_S.rf (lv_entry av (n := nL) hav)
  intro pc r W1 lv hdg hnr hpost H locs ls hP hD hS hl
  exact vx_ret (W.zret B.exec B.bytes B.returns hnr (fun t ht hW => ⟨⟨r, W1, rfl, hpost, by rw [ht]; exact hP, hD⟩, hS.F ht⟩) hS.2.2 hdg B.notSynchronized)
theorem xEXS_i {post : Int32 → va_W → Prop} {px : String → va_W → Prop} {b L : Nat} {xs : Nat → Int32} (hst : l.stackTraces = false) (hy : plainName y.cls = true) (hw : wsC = Cond.code y cc nL (some .int) :: ws') (hav : (lg_sl av).length ≤ nL)
    (body : ∀ (p : Program) (e : Env) (s : State) (m : MethodId) (args : Array Value) (below : List Frame) (meth : Method) (c : Code) (A : Nat → Prop) (Q : State → Prop), XF p s m args c cc nL wsC y.cls D tys A → XG l s meth A → va_X b L xs s s.heap → b < s.heap.size → ¬ A b → (∀ (pc : Nat) (r : Int32) (W1 : va_W) (lv : List (Nat × Value)), decode cc pc = .ok (.ireturn, 1) → post r W1 → AW p l e rm s m args below meth c nL D A mc ms Q W1 lv pc [.int r]) → AW p l e rm s m args below meth c nL D A 0 0 Q W0 (lv_args 0 av) 0 []) : xXSi l y wsC rm D tys W0 av mc ms b L xs post px := by
  intro sz
  refine vx_ofW (cc := cc) (maxL := nL) (ret := some .int) hy hw ?_
  intro p e s m args below meth c s₁ B hml hno hv
  obtain ⟨rfl, ⟨⟨hsz, hP, hK, hD0, hZ⟩, hT, hQ⟩, hSc⟩ := hv
  subst hsz
  have hown : s.vm.findClass y.cls = some m.cls := findClass_of_methodNamed B.named
  rw [lg_entry_eq]
  refine body p e s m _ below meth c (va_A W0 s.heap.size) _ ⟨B.exec, B.bytes, hml, hown, atoms_spec (ws := wsC) B.pre, hK, fun q h => Or.inr h, hZ⟩ ⟨hst, B.notSynchronized, hT, hQ⟩ hSc.1 hSc.2.1 hSc.2.2 ?_ s.heap [] _ hP (hD0.self (sz := s.heap.size)) va_S.rf (lv_entry av (n := nL) hav)
  intro pc r W1 lv hdg hpost H locs ls hP hD hS hl
  exact vx_ret (W.iret B.exec B.bytes B.returns (fun t ht hW => ⟨⟨r, W1, rfl, hpost, by rw [ht]; exact hP, hD⟩, hS.F ht⟩) hS.2.2 hdg B.notSynchronized)
theorem xEXS_r {rt : FieldType} {post : Nat → va_W → Prop} {px : String → va_W → Prop} {b L : Nat} {xs : Nat → Int32} (hst : l.stackTraces = false) (hy : plainName y.cls = true) (hw : wsC = Cond.code y cc nL (some rt) :: ws') (hav : (lg_sl av).length ≤ nL) (hrt : (∃ n, rt = .object n) ∨ ∃ t, rt = .array t)
    (body : ∀ (p : Program) (e : Env) (s : State) (m : MethodId) (args : Array Value) (below : List Frame) (meth : Method) (c : Code) (A : Nat → Prop) (Q : State → Prop), XF p s m args c cc nL wsC y.cls D tys A → XG l s meth A → va_X b L xs s s.heap → b < s.heap.size → ¬ A b → (∀ (pc : Nat) (r : Nat) (W1 : va_W) (lv : List (Nat × Value)), decode cc pc = .ok (.areturn, 1) → post r W1 → AW p l e rm s m args below meth c nL D A mc ms Q W1 lv pc [.ref r]) → AW p l e rm s m args below meth c nL D A 0 0 Q W0 (lv_args 0 av) 0 []) : xXSr l y wsC rm D tys W0 av mc ms b L xs post px := by
  intro sz
  refine vx_ofW (cc := cc) (maxL := nL) (ret := some rt) hy hw ?_
  intro p e s m args below meth c s₁ B hml hno hv
  obtain ⟨rfl, ⟨⟨hsz, hP, hK, hD0, hZ⟩, hT, hQ⟩, hSc⟩ := hv
  subst hsz
  have hown : s.vm.findClass y.cls = some m.cls := findClass_of_methodNamed B.named
  rw [lg_entry_eq]
  refine body p e s m _ below meth c (va_A W0 s.heap.size) _ ⟨B.exec, B.bytes, hml, hown, atoms_spec (ws := wsC) B.pre, hK, fun q h => Or.inr h, hZ⟩ ⟨hst, B.notSynchronized, hT, hQ⟩ hSc.1 hSc.2.1 hSc.2.2 ?_ s.heap [] _ hP (hD0.self (sz := s.heap.size)) va_S.rf (lv_entry av (n := nL) hav)
  intro pc r W1 lv hdg hpost H locs ls hP hD hS hl
  exact vx_ret (W.aret (v := .ref r) B.exec B.bytes B.returns hrt (Or.inr ⟨r, rfl⟩) (fun t ht hW => ⟨⟨(r, W1), r, rfl, hpost, rfl, by rw [ht]; exact hP, hD⟩, hS.F ht⟩) hS.2.2 hdg B.notSynchronized)
end XMET5
section XCALL5
variable {p : Program} {l : Launch} {e : Env} {R : Room} {s : State} {m : MethodId} {args : Array Value} {below : List Frame} {meth : Method} {c : Code} {Q : State → Prop}
variable {cc : ByteArray} {nL : Nat} {Ts : List Cond} {own : String} {D : va_G} {tys : List (ClassId × FieldType)} {A : Nat → Prop} {cells slots : Nat}
variable {ws Wc wA wB : va_W} {lv : List (Nat × Value)} {pc : Nat} {st rest : List Value}
variable {y : MethodName} {index n maxL mc ms : Nat} {bytes : ByteArray} {wsC : List Cond} {rm : Room} {As : List Value}
/-- a call that answers a reference or throws -/
theorem xk_callr {H H0 : Heap} {locs : List Loc} {ls : Array Slot} {st0 : List Value} {A0 A1 AX free : Nat → Prop} {a : Array Value} {S SX : Type} {post : S → Prop} {px : SX → Prop} {B : S → Nat → State → Prop} {BX : String → SX → State → Prop} (hr : vx_Run p l e R s m args below meth c H locs cells slots mc ms (F0 m pc ls st0) rest (va_Qr post B A1 a) (vx_X px BX AX) free) (hS : va_S A0 H0 H locs) (hA : ∀ q, q < H.size → A1 q → A0 q) (hf : ∀ q, free q → A0 q) (hAX : ∀ q, q < H.size → AX q → A0 q)
    (kx : ∀ (E : String) (ce : Cell) (q9 : Addr) (u : SX) (t : State) (H1 : Heap) (locs1 : List Loc), t.heap = H1 → s.vm.Alike t.vm → px u → BX E u t → H.size ≤ H1.size → (∀ q : Nat, q < H.size → ¬ AX q → H1[q]? = H[q]?) → va_S A0 H0 H1 locs1 → H1[q9]? = some ce → ce.vm = .none → s.vm.findClass E = some ce.cls → vx_W p l e R s m args below meth c H1 locs1 (cells + mc) (slots + ms) Q (F0 m pc ls rest) q9)
    (kk : ∀ (u : S) (ra : Nat) (t : State) (H1 : Heap) (locs1 : List Loc), t.heap = H1 → s.vm.Alike t.vm → post u → B u ra t → H.size ≤ H1.size → (∀ q : Nat, q < H.size → ¬ A1 q → H1[q]? = H[q]?) → va_S A0 H0 H1 locs1 → W p l e R s m args below meth c H1 locs1 (cells + mc) (slots + ms) Q (F0 m (pc + 3) ls (.ref ra :: rest))) : W p l e R s m args below meth c H locs cells slots Q (F0 m pc ls st0) := by
  intro T hT X
  rcases hr T hT X with ⟨v, st₀, t, T', L, h0, X', hL, e1, e2, ⟨⟨u, ra, hv, hp, hb⟩, hF⟩, st⟩ | ⟨q, st₀, t, T', L, E, ce, h0, X', hL, e1, e2, ⟨u, hp, hb, hF⟩, hce, hcv, hcl, st⟩
  · cases hv
    obtain ⟨k1, k2, k3⟩ := vx_keep h0 e1 hS hA hf hL hF
    obtain ⟨t2, a1, b1⟩ := kk u ra t T'.heap (locs ++ L) e1.symm (by rw [← e2]; exact X'.warmed.alike) hp hb k1 k2 k3 T' rfl X'
    exact ⟨t2, st t2 a1, b1⟩
  · obtain ⟨k1, k2, k3⟩ := vx_keep h0 e1 hS hAX hf hL hF
    obtain ⟨t2, a1, b1⟩ := kx E ce q u t T'.heap (locs ++ L) e1.symm (by rw [← e2]; exact X'.warmed.alike) hp hb k1 k2 k3 (by rw [e1]; exact hce) hcv hcl T' rfl X'
    exact ⟨t2, st.trans a1, b1⟩
theorem xr_mcXHz {hh : List (Nat × Nat × Nat × Nat)} {post : Int32 → va_W → Prop} {px : String → va_W → Prop} (F : XF p s m args c cc nL Ts own D tys A) (G : XG l s meth A) (hM : xXi l y wsC rm D tys Wc As mc ms post px) (cw : vx_CSW R s args own index y bytes maxL (some .boolean) hh wsC rm mc ms n) (wA wB : va_W) (hws : ws = wA ++ (Wc ++ wB)) (hn : As.length = n) (hst : st = As.reverse ++ rest) (hW : (rest.map fun v => v.category).sum ≤ 8) (hdg : decode cc pc = .ok (.invokestatic index, 3)) (hf : cells + mc ≤ R.cells ∧ slots + ms ≤ R.slots)
    (kx : ∀ (E : String) (W1 : va_W), px E W1 → AX p l e R s m args below meth c nL D A (cells + mc) (slots + ms) Q (wA ++ (W1 ++ wB)) lv pc rest E)
    (kk : ∀ (r : Int32) (W1 : va_W), post r W1 → AW p l e R s m args below meth c nL D A (cells + mc) (slots + ms) Q (wA ++ (W1 ++ wB)) lv (pc + 3) (.int r :: rest)) : AW p l e R s m args below meth c nL D A (cells) (slots) Q (ws) lv (pc) (st) := by
  intro H locs ls hP hD hS hl
  subst hst
  subst hws
  have hPc := xk_psub hP (List.range' wA.length Wc.length) (xk_midC wA Wc wB)
  have hDc := hD.sub (List.range' wA.length Wc.length) (xk_nd_range _ _) (xk_midC wA Wc wB)
  have hFc := va_free hD hS F.hA (List.range' wA.length Wc.length) (xk_midC wA Wc wB)
  refine vx_calli (vx_runSX (As := As) (rest := rest) F.fix (hM H.size) cw ⟨xk_blindX, fun U hU hW => ⟨rfl, ⟨by rw [hU], by rw [hU]; exact hPc, va_K.moved hW.alike F.hK, hDc.weaken (fun _ _ _ _ => trivial), xk_nwarm hW F.hZ⟩, xT.warm hW G.2.2.1, xQ.moved hW.alike (by rw [hU]; exact (G.2.2.2.kept hS.2.1).narrow hFc)⟩⟩ rfl hn hl.1 rfl (lv_room hW) hdg hf) hS (fun q _ h => hFc q h) hFc (fun q _ h => hFc q h) (fun E ce q9 W1 t H1 locs1 ht hvm _ hB hz1 hk1 hS1 hce hcv hcl => ?_) (fun r W1 t H1 locs1 ht hvm hw hB hz1 hk1 hS1 => ?_)
  · obtain ⟨hpx, hP1, hD1⟩ := hB
    rw [ht] at hP1
    obtain ⟨hP2, hD2⟩ := va_join hP hD (List.range' wA.length Wc.length) (List.range' 0 wA.length ++ List.range' (wA.length + Wc.length) wB.length) (xk_midC wA Wc wB) (xk_midR wA Wc wB) (xk_midN wA Wc wB) (xk_midD wA Wc wB) hk1 hFc hP1 hD1
    exact kx E W1 hpx H1 locs1 ls q9 ce (xk_permP (xk_midP _ _ _) hP2) (xk_permD (xk_midP _ _ _) hD2) hS1 hl hce hcv hcl
  · obtain ⟨hP1, hD1⟩ := hB
    rw [ht] at hP1
    obtain ⟨hP2, hD2⟩ := va_join hP hD (List.range' wA.length Wc.length) (List.range' 0 wA.length ++ List.range' (wA.length + Wc.length) wB.length) (xk_midC wA Wc wB) (xk_midR wA Wc wB) (xk_midN wA Wc wB) (xk_midD wA Wc wB) hk1 hFc hP1 hD1
    exact kk r W1 hw H1 locs1 ls (xk_permP (xk_midP _ _ _) hP2) (xk_permD (xk_midP _ _ _) hD2) hS1 hl
theorem xr_mcXSSi {post : Int32 → va_W → Prop} {px : String → va_W → Prop} (F : XF p s m args c cc nL Ts own D tys A) (G : XG l s meth A) {b L : Nat} {xs : Nat → Int32} (hX : va_X b L xs s s.heap) (hbl : b < s.heap.size) (hbA : ¬ A b) (hM : xXSi l y wsC rm D tys Wc As mc ms b L xs post px) (cw : CallB R s args own index y bytes maxL (some .int) wsC rm mc ms n ∧ (Cond.static y).before args s = true) (wA wB : va_W) (hws : ws = wA ++ (Wc ++ wB)) (hn : As.length = n) (hst : st = As.reverse ++ rest) (hW : (rest.map fun v => v.category).sum ≤ 8) (hdg : decode cc pc = .ok (.invokestatic index, 3)) (hf : cells + mc ≤ R.cells ∧ slots + ms ≤ R.slots)
    (kx : ∀ (E : String) (W1 : va_W), px E W1 → AX p l e R s m args below meth c nL D A (cells + mc) (slots + ms) Q (wA ++ (W1 ++ wB)) lv pc rest E)
    (kk : ∀ (r : Int32) (W1 : va_W), post r W1 → AW p l e R s m args below meth c nL D A (cells + mc) (slots + ms) Q (wA ++ (W1 ++ wB)) lv (pc + 3) (.int r :: rest)) : AW p l e R s m args below meth c nL D A (cells) (slots) Q (ws) lv (pc) (st) := by
  intro H locs ls hP hD hS hl
  subst hst
  subst hws
  have hPc := xk_psub hP (List.range' wA.length Wc.length) (xk_midC wA Wc wB)
  have hDc := hD.sub (List.range' wA.length Wc.length) (xk_nd_range _ _) (xk_midC wA Wc wB)
  have hFc := va_free hD hS F.hA (List.range' wA.length Wc.length) (xk_midC wA Wc wB)
  refine vx_calli (vx_runS (As := As) (rest := rest) F.fix (hM H.size) cw ⟨xk_blindXS, fun U hU hW => ⟨rfl, ⟨⟨by rw [hU], by rw [hU]; exact hPc, va_K.moved hW.alike F.hK, hDc.weaken (fun _ _ _ _ => trivial), xk_nwarm hW F.hZ⟩, xT.warm hW G.2.2.1, xQ.moved hW.alike (by rw [hU]; exact (G.2.2.2.kept hS.2.1).narrow hFc)⟩, ⟨by rw [hU]; exact va_X.moved hW.alike (hX.kept (hS.2.1 b hbl hbA)), by rw [hU]; exact Nat.lt_of_lt_of_le hbl hS.1, fun h => hbA (hFc b h)⟩⟩⟩ rfl hn hl.1 rfl (lv_room hW) hdg hf) hS (fun q _ h => hFc q h) hFc (fun q _ h => hFc q h) (fun E ce q9 W1 t H1 locs1 ht hvm _ hB hz1 hk1 hS1 hce hcv hcl => ?_) (fun r W1 t H1 locs1 ht hvm hw hB hz1 hk1 hS1 => ?_)
  · obtain ⟨hpx, hP1, hD1⟩ := hB
    rw [ht] at hP1
    obtain ⟨hP2, hD2⟩ := va_join hP hD (List.range' wA.length Wc.length) (List.range' 0 wA.length ++ List.range' (wA.length + Wc.length) wB.length) (xk_midC wA Wc wB) (xk_midR wA Wc wB) (xk_midN wA Wc wB) (xk_midD wA Wc wB) hk1 hFc hP1 hD1
    exact kx E W1 hpx H1 locs1 ls q9 ce (xk_permP (xk_midP _ _ _) hP2) (xk_permD (xk_midP _ _ _) hD2) hS1 hl hce hcv hcl
  · obtain ⟨hP1, hD1⟩ := hB
    rw [ht] at hP1
    obtain ⟨hP2, hD2⟩ := va_join hP hD (List.range' wA.length Wc.length) (List.range' 0 wA.length ++ List.range' (wA.length + Wc.length) wB.length) (xk_midC wA Wc wB) (xk_midR wA Wc wB) (xk_midN wA Wc wB) (xk_midD wA Wc wB) hk1 hFc hP1 hD1
    exact kk r W1 hw H1 locs1 ls (xk_permP (xk_midP _ _ _) hP2) (xk_permD (xk_midP _ _ _) hD2) hS1 hl
theorem xr_mcXSSr {rt : FieldType} {post : Nat → va_W → Prop} {px : String → va_W → Prop} (F : XF p s m args c cc nL Ts own D tys A) (G : XG l s meth A) {b L : Nat} {xs : Nat → Int32} (hX : va_X b L xs s s.heap) (hbl : b < s.heap.size) (hbA : ¬ A b) (hM : xXSr l y wsC rm D tys Wc As mc ms b L xs post px) (cw : CallB R s args own index y bytes maxL (some rt) wsC rm mc ms n ∧ (Cond.static y).before args s = true) (wA wB : va_W) (hws : ws = wA ++ (Wc ++ wB)) (hn : As.length = n) (hst : st = As.reverse ++ rest) (hW : (rest.map fun v => v.category).sum ≤ 8) (hdg : decode cc pc = .ok (.invokestatic index, 3)) (hf : cells + mc ≤ R.cells ∧ slots + ms ≤ R.slots)
    (kx : ∀ (E : String) (W1 : va_W), px E W1 → AX p l e R s m args below meth c nL D A (cells + mc) (slots + ms) Q (wA ++ (W1 ++ wB)) lv pc rest E)
    (kk : ∀ (r : Nat) (W1 : va_W), post r W1 → AW p l e R s m args below meth c nL D A (cells + mc) (slots + ms) Q (wA ++ (W1 ++ wB)) lv (pc + 3) (.ref r :: rest)) : AW p l e R s m args below meth c nL D A (cells) (slots) Q (ws) lv (pc) (st) := by
  intro H locs ls hP hD hS hl
  subst hst
  subst hws
  have hPc := xk_psub hP (List.range' wA.length Wc.length) (xk_midC wA Wc wB)
  have hDc := hD.sub (List.range' wA.length Wc.length) (xk_nd_range _ _) (xk_midC wA Wc wB)
  have hFc := va_free hD hS F.hA (List.range' wA.length Wc.length) (xk_midC wA Wc wB)
  refine xk_callr (vx_runS (As := As) (rest := rest) F.fix (hM H.size) cw ⟨xk_blindXS, fun U hU hW => ⟨rfl, ⟨⟨by rw [hU], by rw [hU]; exact hPc, va_K.moved hW.alike F.hK, hDc.weaken (fun _ _ _ _ => trivial), xk_nwarm hW F.hZ⟩, xT.warm hW G.2.2.1, xQ.moved hW.alike (by rw [hU]; exact (G.2.2.2.kept hS.2.1).narrow hFc)⟩, ⟨by rw [hU]; exact va_X.moved hW.alike (hX.kept (hS.2.1 b hbl hbA)), by rw [hU]; exact Nat.lt_of_lt_of_le hbl hS.1, fun h => hbA (hFc b h)⟩⟩⟩ rfl hn hl.1 rfl (lv_room hW) hdg hf) hS (fun q _ h => hFc q h) hFc (fun q _ h => hFc q h) (fun E ce q9 W1 t H1 locs1 ht hvm _ hB hz1 hk1 hS1 hce hcv hcl => ?_) (fun u ra t H1 locs1 ht hvm hw hB hz1 hk1 hS1 => ?_)
  · obtain ⟨hpx, hP1, hD1⟩ := hB
    rw [ht] at hP1
    obtain ⟨hP2, hD2⟩ := va_join hP hD (List.range' wA.length Wc.length) (List.range' 0 wA.length ++ List.range' (wA.length + Wc.length) wB.length) (xk_midC wA Wc wB) (xk_midR wA Wc wB) (xk_midN wA Wc wB) (xk_midD wA Wc wB) hk1 hFc hP1 hD1
    exact kx E W1 hpx H1 locs1 ls q9 ce (xk_permP (xk_midP _ _ _) hP2) (xk_permD (xk_midP _ _ _) hD2) hS1 hl hce hcv hcl
  · obtain ⟨rfl, hP1, hD1⟩ := hB
    rw [ht] at hP1
    obtain ⟨hP2, hD2⟩ := va_join hP hD (List.range' wA.length Wc.length) (List.range' 0 wA.length ++ List.range' (wA.length + Wc.length) wB.length) (xk_midC wA Wc wB) (xk_midR wA Wc wB) (xk_midN wA Wc wB) (xk_midD wA Wc wB) hk1 hFc hP1 hD1
    exact kk u.1 u.2 hw H1 locs1 ls (xk_permP (xk_midP _ _ _) hP2) (xk_permD (xk_midP _ _ _) hD2) hS1 hl
/-- an int of the script -/
theorem xr_sld {b L : Nat} {xs : Nat → Int32} (F : XF p s m args c cc nL Ts own D tys A) (hX : va_X b L xs s s.heap) (hbl : b < s.heap.size) (hbA : ¬ A b) {i : Int32} (k : Nat) (hi : i = nI k) (hk : k < L) (hL : L < 2147483648) (hdg : decode cc pc = .ok (.iaload, 1))
    (kk : AW p l e R s m args below meth c nL D A cells slots Q ws lv (pc + 1) (.int (xs k) :: rest)) : AW p l e R s m args below meth c nL D A cells slots Q ws lv pc (.int i :: .ref b :: rest) := by
  subst hi
  intro H locs ls hP hD hS hl
  have hc := nI_clamp (show k < 2 ^ 31 by omega)
  refine va_sld F.1 F.2.1 hX hbl hbA hS (nI_in hk (by omega)) hdg ?_
  rw [hc]
  exact kk H locs ls hP hD hS hl
theorem xr_slen {b L : Nat} {xs : Nat → Int32} (F : XF p s m args c cc nL Ts own D tys A) (hX : va_X b L xs s s.heap) (hbl : b < s.heap.size) (hbA : ¬ A b) (hdg : decode cc pc = .ok (.arraylength, 1))
    (kk : AW p l e R s m args below meth c nL D A cells slots Q ws lv (pc + 1) (.int (nI L) :: rest)) : AW p l e R s m args below meth c nL D A cells slots Q ws lv pc (.ref b :: rest) :=
  fun H locs ls hP hD hS hl => va_slen F.1 F.2.1 hX hbl hbA hS hdg (kk H locs ls hP hD hS hl)
end XCALL5
