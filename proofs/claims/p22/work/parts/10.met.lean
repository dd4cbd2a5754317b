/-- a method's start: its arguments, its world, the tables -/
abbrev xPre (D : va_G) (tys : List (ClassId × FieldType)) (W0 : va_W) (sz : Nat) (av : List Value) : Array Value → State → Prop := va_Pc av (fun U => U.heap.size = sz ∧ va_P D vwCl W0 U.heap ∧ va_K D vwCl tys U ∧ va_D (fun _ => True) W0 ∧ xZ U)
/-- the world behind it -/
abbrev xPst (D : va_G) (W0 : va_W) (sz : Nat) : va_W → State → Prop := fun W1 t => va_P D vwCl W1 t.heap ∧ va_D (va_A W0 sz) W1
theorem xk_blind {D : va_G} {tys : List (ClassId × FieldType)} {W0 : va_W} {sz : Nat} {av : List Value} : FrameBlind (xPre D tys W0 sz av) := fun a U g mk q => by
  obtain ⟨q0, q1, qP, qK, qD, qZ⟩ := q
  exact ⟨q0, q1, qP, va_K.moved (u := U) (U := U.calling g mk a) (Vm.Alike.refl U.vm) qK, qD, xk_nsame (u := U) (U := U.calling g mk a) rfl qZ⟩

def xMi (l : Launch) (y : MethodName) (wsC : List Cond) (rm : Room) (D : va_G) (tys : List (ClassId × FieldType)) (W0 : va_W) (av : List Value) (mc ms : Nat) (post : Int32 → va_W → Prop) : Prop := ∀ sz : Nat, Met l y wsC rm (xPre D tys W0 sz av) (va_Qi post (xPst D W0 sz) (va_A W0 sz)) mc ms (va_A W0 sz)
def xMl (l : Launch) (y : MethodName) (wsC : List Cond) (rm : Room) (D : va_G) (tys : List (ClassId × FieldType)) (W0 : va_W) (av : List Value) (mc ms : Nat) (post : Int64 → va_W → Prop) : Prop := ∀ sz : Nat, Met l y wsC rm (xPre D tys W0 sz av) (va_Ql post (xPst D W0 sz) (va_A W0 sz)) mc ms (va_A W0 sz)
def xMd (l : Launch) (y : MethodName) (wsC : List Cond) (rm : Room) (D : va_G) (tys : List (ClassId × FieldType)) (W0 : va_W) (av : List Value) (mc ms : Nat) (post : UInt64 → va_W → Prop) : Prop := ∀ sz : Nat, Met l y wsC rm (xPre D tys W0 sz av) (va_Qd post (xPst D W0 sz) (va_A W0 sz)) mc ms (va_A W0 sz)
def xMv (l : Launch) (y : MethodName) (wsC : List Cond) (rm : Room) (D : va_G) (tys : List (ClassId × FieldType)) (W0 : va_W) (av : List Value) (mc ms : Nat) (post : va_W → Prop) : Prop := ∀ sz : Nat, Met l y wsC rm (xPre D tys W0 sz av) (va_Qv post (xPst D W0 sz) (va_A W0 sz)) mc ms (va_A W0 sz)
def xMr (l : Launch) (y : MethodName) (wsC : List Cond) (rm : Room) (D : va_G) (tys : List (ClassId × FieldType)) (W0 : va_W) (av : List Value) (mc ms : Nat) (post : Nat → va_W → Prop) : Prop := ∀ sz : Nat, Met l y wsC rm (xPre D tys W0 sz av) (va_Qr (fun u : Nat × va_W => post u.1 u.2) (fun u a t => a = u.1 ∧ xPst D W0 sz u.2 t) (va_A W0 sz)) mc ms (va_A W0 sz)
theorem xk_ofWF {l : Launch} {y : MethodName} {ws ws' : List Cond} {rm : Room} {Pc : Array Value → State → Prop} {Qc : Array Value → State → Outcome → State → Prop} {mc ms : Nat} {free : Addr → Prop} {cc : ByteArray} {maxL : Nat} {ret : Option FieldType}
    (hy : plainFor y = true) (hw : ws = Cond.code y cc maxL ret :: ws')
    (body : ∀ p e s m args below meth c s₁, BodyLoose p l y (headSpec ws rm) cc maxL ret e s m args below meth c s₁ → c.maxLocals = maxL → Pc args s →
      W p l e (headSpec ws rm).room s m args below meth c s.heap [] 0 0 (MQ below Qc args s mc ms free) (entryFrame m args maxL)) : Met l y ws rm Pc Qc mc ms free := by
  refine MetFree.of_bodySF (code := cc) (maxLocals := maxL) (ret := ret) hy ?_ ?_
  · intro args s m h hn
    obtain ⟨meth, c, h1, h2, h3, h4, h5, h6, -, -⟩ := Cond.code_spec hn (atoms_spec (ws := ws) h _ (by rw [hw]; exact List.mem_cons_self))
    exact ⟨meth, c, h1, h2, h3, h4, h5, h6⟩
  · intro p e s m args below meth c s₁ B hml hP _
    have hh0 : s₁.heap = s.heap := by rw [B.state]; rfl
    obtain ⟨t, a1, o, b1, b2, b3⟩ := body p e s m args below meth c s₁ B hml hP s₁ hh0 (Stand.of_body B)
    exact ⟨t, o, a1, b1, b2, ⟨b3.1, b3.2⟩⟩
section XMET
variable {l : Launch} {y : MethodName} {wsC ws' : List Cond} {rm : Room} {D : va_G} {tys : List (ClassId × FieldType)} {W0 : va_W} {av : List Value} {mc ms nL : Nat} {cc : ByteArray}
theorem xE_i {post : Int32 → va_W → Prop} (hy : plainName y.cls = true) (hw : wsC = Cond.code y cc nL (some .int) :: ws') (hav : (lg_sl av).length ≤ nL)
    (body : ∀ (p : Program) (e : Env) (s : State) (m : MethodId) (args : Array Value) (below : List Frame) (meth : Method) (c : Code) (A : Nat → Prop) (Q : State → Prop), XF p s m args c cc nL wsC y.cls D tys A → meth.name = y.name → (∀ (pc : Nat) (r : Int32) (W1 : va_W) (lv : List (Nat × Value)), decode cc pc = .ok (.ireturn, 1) → post r W1 → AW p l e rm s m args below meth c nL D A mc ms Q W1 lv pc [.int r]) → AW p l e rm s m args below meth c nL D A 0 0 Q W0 (lv_args 0 av) 0 []) : xMi l y wsC rm D tys W0 av mc ms post := by
  intro sz
  refine Met.ofW (cc := cc) (maxL := nL) (ret := some .int) hy hw ?_
  intro p e s m args below meth c s₁ B hml hv
  obtain ⟨rfl, hsz, hP, hK, hD0, hZ⟩ := hv
  subst hsz
  have hown : s.vm.findClass y.cls = some m.cls := findClass_of_methodNamed B.named
  rw [lg_entry_eq]
  refine body p e s m _ below meth c (va_A W0 s.heap.size) _ ⟨B.exec, B.bytes, hml, hown, atoms_spec (ws := wsC) B.pre, hK, fun q h => Or.inr h, hZ⟩ (name_of_methodNamed B.named B.method).1 ?_ s.heap [] _ hP (hD0.self (sz := s.heap.size)) va_S.rf (lv_entry av (n := nL) hav)
  intro pc r W1 lv hdg hpost H locs ls hP hD hS hl
  exact W.iret B.exec B.bytes B.returns (fun t ht hW => ⟨⟨r, W1, rfl, hpost, by rw [ht]; exact hP, hD⟩, hS.F ht⟩) hS.2.2 hdg B.notSynchronized
theorem xE_z {post : Int32 → va_W → Prop} (hy : plainName y.cls = true) (hw : wsC = Cond.code y cc nL (some .boolean) :: ws') (hav : (lg_sl av).length ≤ nL)
    (body : ∀ (p : Program) (e : Env) (s : State) (m : MethodId) (args : Array Value) (below : List Frame) (meth : Method) (c : Code) (A : Nat → Prop) (Q : State → Prop), XF p s m args c cc nL wsC y.cls D tys A → meth.name = y.name → (∀ (pc : Nat) (r : Int32) (W1 : va_W) (lv : List (Nat × Value)), decode cc pc = .ok (.ireturn, 1) → narrow .boolean (.int r) = .int r → post r W1 → AW p l e rm s m args below meth c nL D A mc ms Q W1 lv pc [.int r]) → AW p l e rm s m args below meth c nL D A 0 0 Q W0 (lv_args 0 av) 0 []) : xMi l y wsC rm D tys W0 av mc ms post := by
  intro sz
  refine Met.ofW (cc := cc) (maxL := nL) (ret := some .boolean) hy hw ?_
  intro p e s m args below meth c s₁ B hml hv
  obtain ⟨rfl, hsz, hP, hK, hD0, hZ⟩ := hv
  subst hsz
  have hown : s.vm.findClass y.cls = some m.cls := findClass_of_methodNamed B.named
  rw [lg_entry_eq]
  refine body p e s m _ below meth c (va_A W0 s.heap.size) _ ⟨B.exec, B.bytes, hml, hown, atoms_spec (ws := wsC) B.pre, hK, fun q h => Or.inr h, hZ⟩ (name_of_methodNamed B.named B.method).1 ?_ s.heap [] _ hP (hD0.self (sz := s.heap.size)) va_S.rf (lv_entry av (n := nL) hav)
  intro pc r W1 lv hdg hnr hpost H locs ls hP hD hS hl
  exact W.zret B.exec B.bytes B.returns hnr (fun t ht hW => ⟨⟨r, W1, rfl, hpost, by rw [ht]; exact hP, hD⟩, hS.F ht⟩) hS.2.2 hdg B.notSynchronized
theorem xE_l {post : Int64 → va_W → Prop} (hy : plainName y.cls = true) (hw : wsC = Cond.code y cc nL (some .long) :: ws') (hav : (lg_sl av).length ≤ nL)
    (body : ∀ (p : Program) (e : Env) (s : State) (m : MethodId) (args : Array Value) (below : List Frame) (meth : Method) (c : Code) (A : Nat → Prop) (Q : State → Prop), XF p s m args c cc nL wsC y.cls D tys A → meth.name = y.name → (∀ (pc : Nat) (r : Int64) (W1 : va_W) (lv : List (Nat × Value)), decode cc pc = .ok (.lreturn, 1) → post r W1 → AW p l e rm s m args below meth c nL D A mc ms Q W1 lv pc [.long r]) → AW p l e rm s m args below meth c nL D A 0 0 Q W0 (lv_args 0 av) 0 []) : xMl l y wsC rm D tys W0 av mc ms post := by
  intro sz
  refine Met.ofW (cc := cc) (maxL := nL) (ret := some .long) hy hw ?_
  intro p e s m args below meth c s₁ B hml hv
  obtain ⟨rfl, hsz, hP, hK, hD0, hZ⟩ := hv
  subst hsz
  have hown : s.vm.findClass y.cls = some m.cls := findClass_of_methodNamed B.named
  rw [lg_entry_eq]
  refine body p e s m _ below meth c (va_A W0 s.heap.size) _ ⟨B.exec, B.bytes, hml, hown, atoms_spec (ws := wsC) B.pre, hK, fun q h => Or.inr h, hZ⟩ (name_of_methodNamed B.named B.method).1 ?_ s.heap [] _ hP (hD0.self (sz := s.heap.size)) va_S.rf (lv_entry av (n := nL) hav)
  intro pc r W1 lv hdg hpost H locs ls hP hD hS hl
  exact W.lret B.exec B.bytes B.returns (fun t ht hW => ⟨⟨r, W1, rfl, hpost, by rw [ht]; exact hP, hD⟩, hS.F ht⟩) hS.2.2 hdg B.notSynchronized
theorem xE_d {post : UInt64 → va_W → Prop} (hy : plainName y.cls = true) (hw : wsC = Cond.code y cc nL (some .double) :: ws') (hav : (lg_sl av).length ≤ nL)
    (body : ∀ (p : Program) (e : Env) (s : State) (m : MethodId) (args : Array Value) (below : List Frame) (meth : Method) (c : Code) (A : Nat → Prop) (Q : State → Prop), XF p s m args c cc nL wsC y.cls D tys A → meth.name = y.name → (∀ (pc : Nat) (r : UInt64) (W1 : va_W) (lv : List (Nat × Value)), decode cc pc = .ok (.dreturn, 1) → post r W1 → AW p l e rm s m args below meth c nL D A mc ms Q W1 lv pc [.double r]) → AW p l e rm s m args below meth c nL D A 0 0 Q W0 (lv_args 0 av) 0 []) : xMd l y wsC rm D tys W0 av mc ms post := by
  intro sz
  refine Met.ofW (cc := cc) (maxL := nL) (ret := some .double) hy hw ?_
  intro p e s m args below meth c s₁ B hml hv
  obtain ⟨rfl, hsz, hP, hK, hD0, hZ⟩ := hv
  subst hsz
  have hown : s.vm.findClass y.cls = some m.cls := findClass_of_methodNamed B.named
  rw [lg_entry_eq]
  refine body p e s m _ below meth c (va_A W0 s.heap.size) _ ⟨B.exec, B.bytes, hml, hown, atoms_spec (ws := wsC) B.pre, hK, fun q h => Or.inr h, hZ⟩ (name_of_methodNamed B.named B.method).1 ?_ s.heap [] _ hP (hD0.self (sz := s.heap.size)) va_S.rf (lv_entry av (n := nL) hav)
  intro pc r W1 lv hdg hpost H locs ls hP hD hS hl
  exact W.dret B.exec B.bytes B.returns (fun t ht hW => ⟨⟨r, W1, rfl, hpost, by rw [ht]; exact hP, hD⟩, hS.F ht⟩) hS.2.2 hdg B.notSynchronized
theorem xE_v {post : va_W → Prop} (hy : plainName y.cls = true) (hw : wsC = Cond.code y cc nL (none) :: ws') (hav : (lg_sl av).length ≤ nL)
    (body : ∀ (p : Program) (e : Env) (s : State) (m : MethodId) (args : Array Value) (below : List Frame) (meth : Method) (c : Code) (A : Nat → Prop) (Q : State → Prop), XF p s m args c cc nL wsC y.cls D tys A → meth.name = y.name → (∀ (pc : Nat) (W1 : va_W) (lv : List (Nat × Value)), decode cc pc = .ok (.return_, 1) → post W1 → AW p l e rm s m args below meth c nL D A mc ms Q W1 lv pc []) → AW p l e rm s m args below meth c nL D A 0 0 Q W0 (lv_args 0 av) 0 []) : xMv l y wsC rm D tys W0 av mc ms post := by
  intro sz
  refine Met.ofW (cc := cc) (maxL := nL) (ret := none) hy hw ?_
  intro p e s m args below meth c s₁ B hml hv
  obtain ⟨rfl, hsz, hP, hK, hD0, hZ⟩ := hv
  subst hsz
  have hown : s.vm.findClass y.cls = some m.cls := findClass_of_methodNamed B.named
  rw [lg_entry_eq]
  refine body p e s m _ below meth c (va_A W0 s.heap.size) _ ⟨B.exec, B.bytes, hml, hown, atoms_spec (ws := wsC) B.pre, hK, fun q h => Or.inr h, hZ⟩ (name_of_methodNamed B.named B.method).1 ?_ s.heap [] _ hP (hD0.self (sz := s.heap.size)) va_S.rf (lv_entry av (n := nL) hav)
  intro pc W1 lv hdg hpost H locs ls hP hD hS hl
  exact W.vret B.exec B.bytes B.returns (fun t ht hW => ⟨⟨W1, rfl, hpost, by rw [ht]; exact hP, hD⟩, hS.F ht⟩) hS.2.2 hdg B.notSynchronized
theorem xE_iF {post : Int32 → va_W → Prop} (hy : plainFor y = true) (hw : wsC = Cond.code y cc nL (some .int) :: ws') (hav : (lg_sl av).length ≤ nL)
    (body : ∀ (p : Program) (e : Env) (s : State) (m : MethodId) (args : Array Value) (below : List Frame) (meth : Method) (c : Code) (A : Nat → Prop) (Q : State → Prop), XF p s m args c cc nL wsC y.cls D tys A → meth.name = y.name → (∀ (pc : Nat) (r : Int32) (W1 : va_W) (lv : List (Nat × Value)), decode cc pc = .ok (.ireturn, 1) → post r W1 → AW p l e rm s m args below meth c nL D A mc ms Q W1 lv pc [.int r]) → AW p l e rm s m args below meth c nL D A 0 0 Q W0 (lv_args 0 av) 0 []) : xMi l y wsC rm D tys W0 av mc ms post := by
  intro sz
  refine xk_ofWF (cc := cc) (maxL := nL) (ret := some .int) hy hw ?_
  intro p e s m args below meth c s₁ B hml hv
  obtain ⟨rfl, hsz, hP, hK, hD0, hZ⟩ := hv
  subst hsz
  have hown : s.vm.findClass y.cls = some m.cls := findClass_of_methodNamed B.named
  rw [lg_entry_eq]
  refine body p e s m _ below meth c (va_A W0 s.heap.size) _ ⟨B.exec, B.bytes, hml, hown, atoms_spec (ws := wsC) B.pre, hK, fun q h => Or.inr h, hZ⟩ (name_of_methodNamed B.named B.method).1 ?_ s.heap [] _ hP (hD0.self (sz := s.heap.size)) va_S.rf (lv_entry av (n := nL) hav)
  intro pc r W1 lv hdg hpost H locs ls hP hD hS hl
  exact W.iret B.exec B.bytes B.returns (fun t ht hW => ⟨⟨r, W1, rfl, hpost, by rw [ht]; exact hP, hD⟩, hS.F ht⟩) hS.2.2 hdg B.notSynchronized
theorem xE_r {rt : FieldType} {post : Nat → va_W → Prop} (hy : plainName y.cls = true) (hw : wsC = Cond.code y cc nL (some rt) :: ws') (hav : (lg_sl av).length ≤ nL) (hrt : (∃ n, rt = .object n) ∨ ∃ t, rt = .array t)
    (body : ∀ (p : Program) (e : Env) (s : State) (m : MethodId) (args : Array Value) (below : List Frame) (meth : Method) (c : Code) (A : Nat → Prop) (Q : State → Prop), XF p s m args c cc nL wsC y.cls D tys A → meth.name = y.name → (∀ (pc : Nat) (r : Nat) (W1 : va_W) (lv : List (Nat × Value)), decode cc pc = .ok (.areturn, 1) → post r W1 → AW p l e rm s m args below meth c nL D A mc ms Q W1 lv pc [.ref r]) → AW p l e rm s m args below meth c nL D A 0 0 Q W0 (lv_args 0 av) 0 []) : xMr l y wsC rm D tys W0 av mc ms post := by
  intro sz
  refine Met.ofW (cc := cc) (maxL := nL) (ret := some rt) hy hw ?_
  intro p e s m args below meth c s₁ B hml hv
  obtain ⟨rfl, hsz, hP, hK, hD0, hZ⟩ := hv
  subst hsz
  have hown : s.vm.findClass y.cls = some m.cls := findClass_of_methodNamed B.named
  rw [lg_entry_eq]
  refine body p e s m _ below meth c (va_A W0 s.heap.size) _ ⟨B.exec, B.bytes, hml, hown, atoms_spec (ws := wsC) B.pre, hK, fun q h => Or.inr h, hZ⟩ (name_of_methodNamed B.named B.method).1 ?_ s.heap [] _ hP (hD0.self (sz := s.heap.size)) va_S.rf (lv_entry av (n := nL) hav)
  intro pc r W1 lv hdg hpost H locs ls hP hD hS hl
  exact W.aret (v := .ref r) B.exec B.bytes B.returns hrt (Or.inr ⟨r, rfl⟩) (fun t ht hW => ⟨⟨(r, W1), r, rfl, hpost, rfl, by rw [ht]; exact hP, hD⟩, hS.F ht⟩) hS.2.2 hdg B.notSynchronized
end XMET
section XCALL
variable {p : Program} {l : Launch} {e : Env} {R : Room} {s : State} {m : MethodId} {args : Array Value} {below : List Frame} {meth : Method} {c : Code} {Q : State → Prop}
variable {cc : ByteArray} {nL : Nat} {Ts : List Cond} {own : String} {D : va_G} {tys : List (ClassId × FieldType)} {A : Nat → Prop} {cells slots : Nat}
variable {ws wr Wc : va_W} {lv : List (Nat × Value)} {pc : Nat} {st rest : List Value}
variable {y : MethodName} {C host : String} {T : u_T} {N ci q0 b index n maxL mc ms : Nat} {fs : List Value} {bytes : ByteArray} {wsC : List Cond} {rm : Room} {As : List Value}

theorem xr_callVi {post : Int32 → va_W → Prop} (F : XF p s m args c cc nL Ts own D tys A) (hM : xMi l y wsC rm D tys Wc (.ref b :: As) mc ms post) (cw : CallW R s args own C index y bytes maxL (some .int) wsC rm mc ms n) (hrc : Wc[q0]? = some (b, .inr (ci, fs))) (hci : vwCl[ci]? = some (C, T, N)) (isC isR : List Nat) (hC : isC.map (fun i => ws[i]?) = Wc.map some) (hR : isR.map (fun i => ws[i]?) = wr.map some) (hnC : va_nd isC = true) (hnR : va_nd isR = true) (hdis : ∀ i ∈ isR, i ∉ isC) (hn : As.length = n) (hst : st = As.reverse ++ .ref b :: rest) (hW : (rest.map fun v => v.category).sum ≤ 8) (hdg : decode cc pc = .ok (.invokevirtual index, 3)) (hf : cells + mc ≤ R.cells ∧ slots + ms ≤ R.slots)
    (kk : ∀ (r : Int32) (W1 : va_W), post r W1 → AW p l e R s m args below meth c nL D A (cells + mc) (slots + ms) Q (wr ++ W1) lv (pc + 3) (.int r :: rest)) : AW p l e R s m args below meth c nL D A (cells) (slots) Q (ws) lv (pc) (st) := by
  intro H locs ls hP hD hS hl
  subst hst
  have hPc := xk_psub hP isC hC
  have hDc := hD.sub isC hnC hC
  have hFc := va_free hD hS F.hA isC hC
  refine va_calli (va_runV (As := As) (rest := rest) F.fix (hM H.size) cw ⟨xk_blind, va_recv F.hK hPc hci hrc, fun U hU hW => ⟨rfl, by rw [hU], by rw [hU]; exact hPc, va_K.moved hW.alike F.hK, hDc.weaken (fun _ _ _ _ => trivial), xk_nwarm hW F.hZ⟩⟩ rfl hn hl.1 rfl (lv_room hW) hdg hf) hS (fun q _ h => hFc q h) hFc (fun r W1 t H1 locs1 ht hvm hw hB hz1 hk1 hS1 => ?_)
  obtain ⟨hP1, hD1⟩ := hB
  rw [ht] at hP1
  obtain ⟨hP2, hD2⟩ := va_join hP hD isC isR hC hR hnR hdis hk1 hFc hP1 hD1
  exact kk r W1 hw H1 locs1 ls hP2 hD2 hS1 hl
theorem xr_callVl {post : Int64 → va_W → Prop} (F : XF p s m args c cc nL Ts own D tys A) (hM : xMl l y wsC rm D tys Wc (.ref b :: As) mc ms post) (cw : CallW R s args own C index y bytes maxL (some .long) wsC rm mc ms n) (hrc : Wc[q0]? = some (b, .inr (ci, fs))) (hci : vwCl[ci]? = some (C, T, N)) (isC isR : List Nat) (hC : isC.map (fun i => ws[i]?) = Wc.map some) (hR : isR.map (fun i => ws[i]?) = wr.map some) (hnC : va_nd isC = true) (hnR : va_nd isR = true) (hdis : ∀ i ∈ isR, i ∉ isC) (hn : As.length = n) (hst : st = As.reverse ++ .ref b :: rest) (hW : (rest.map fun v => v.category).sum ≤ 8) (hdg : decode cc pc = .ok (.invokevirtual index, 3)) (hf : cells + mc ≤ R.cells ∧ slots + ms ≤ R.slots)
    (kk : ∀ (r : Int64) (W1 : va_W), post r W1 → AW p l e R s m args below meth c nL D A (cells + mc) (slots + ms) Q (wr ++ W1) lv (pc + 3) (.long r :: rest)) : AW p l e R s m args below meth c nL D A (cells) (slots) Q (ws) lv (pc) (st) := by
  intro H locs ls hP hD hS hl
  subst hst
  have hPc := xk_psub hP isC hC
  have hDc := hD.sub isC hnC hC
  have hFc := va_free hD hS F.hA isC hC
  refine va_calll (va_runV (As := As) (rest := rest) F.fix (hM H.size) cw ⟨xk_blind, va_recv F.hK hPc hci hrc, fun U hU hW => ⟨rfl, by rw [hU], by rw [hU]; exact hPc, va_K.moved hW.alike F.hK, hDc.weaken (fun _ _ _ _ => trivial), xk_nwarm hW F.hZ⟩⟩ rfl hn hl.1 rfl (lv_room hW) hdg hf) hS (fun q _ h => hFc q h) hFc (fun r W1 t H1 locs1 ht hvm hw hB hz1 hk1 hS1 => ?_)
  obtain ⟨hP1, hD1⟩ := hB
  rw [ht] at hP1
  obtain ⟨hP2, hD2⟩ := va_join hP hD isC isR hC hR hnR hdis hk1 hFc hP1 hD1
  exact kk r W1 hw H1 locs1 ls hP2 hD2 hS1 hl
theorem xr_callVd {post : UInt64 → va_W → Prop} (F : XF p s m args c cc nL Ts own D tys A) (hM : xMd l y wsC rm D tys Wc (.ref b :: As) mc ms post) (cw : CallW R s args own C index y bytes maxL (some .double) wsC rm mc ms n) (hrc : Wc[q0]? = some (b, .inr (ci, fs))) (hci : vwCl[ci]? = some (C, T, N)) (isC isR : List Nat) (hC : isC.map (fun i => ws[i]?) = Wc.map some) (hR : isR.map (fun i => ws[i]?) = wr.map some) (hnC : va_nd isC = true) (hnR : va_nd isR = true) (hdis : ∀ i ∈ isR, i ∉ isC) (hn : As.length = n) (hst : st = As.reverse ++ .ref b :: rest) (hW : (rest.map fun v => v.category).sum ≤ 8) (hdg : decode cc pc = .ok (.invokevirtual index, 3)) (hf : cells + mc ≤ R.cells ∧ slots + ms ≤ R.slots)
    (kk : ∀ (r : UInt64) (W1 : va_W), post r W1 → AW p l e R s m args below meth c nL D A (cells + mc) (slots + ms) Q (wr ++ W1) lv (pc + 3) (.double r :: rest)) : AW p l e R s m args below meth c nL D A (cells) (slots) Q (ws) lv (pc) (st) := by
  intro H locs ls hP hD hS hl
  subst hst
  have hPc := xk_psub hP isC hC
  have hDc := hD.sub isC hnC hC
  have hFc := va_free hD hS F.hA isC hC
  refine va_calld (va_runV (As := As) (rest := rest) F.fix (hM H.size) cw ⟨xk_blind, va_recv F.hK hPc hci hrc, fun U hU hW => ⟨rfl, by rw [hU], by rw [hU]; exact hPc, va_K.moved hW.alike F.hK, hDc.weaken (fun _ _ _ _ => trivial), xk_nwarm hW F.hZ⟩⟩ rfl hn hl.1 rfl (lv_room hW) hdg hf) hS (fun q _ h => hFc q h) hFc (fun r W1 t H1 locs1 ht hvm hw hB hz1 hk1 hS1 => ?_)
  obtain ⟨hP1, hD1⟩ := hB
  rw [ht] at hP1
  obtain ⟨hP2, hD2⟩ := va_join hP hD isC isR hC hR hnR hdis hk1 hFc hP1 hD1
  exact kk r W1 hw H1 locs1 ls hP2 hD2 hS1 hl
theorem xr_callVz {post : Int32 → va_W → Prop} (F : XF p s m args c cc nL Ts own D tys A) (hM : xMi l y wsC rm D tys Wc (.ref b :: As) mc ms post) (cw : CallW R s args own C index y bytes maxL (some .boolean) wsC rm mc ms n) (hrc : Wc[q0]? = some (b, .inr (ci, fs))) (hci : vwCl[ci]? = some (C, T, N)) (isC isR : List Nat) (hC : isC.map (fun i => ws[i]?) = Wc.map some) (hR : isR.map (fun i => ws[i]?) = wr.map some) (hnC : va_nd isC = true) (hnR : va_nd isR = true) (hdis : ∀ i ∈ isR, i ∉ isC) (hn : As.length = n) (hst : st = As.reverse ++ .ref b :: rest) (hW : (rest.map fun v => v.category).sum ≤ 8) (hdg : decode cc pc = .ok (.invokevirtual index, 3)) (hf : cells + mc ≤ R.cells ∧ slots + ms ≤ R.slots)
    (kk : ∀ (r : Int32) (W1 : va_W), post r W1 → AW p l e R s m args below meth c nL D A (cells + mc) (slots + ms) Q (wr ++ W1) lv (pc + 3) (.int r :: rest)) : AW p l e R s m args below meth c nL D A (cells) (slots) Q (ws) lv (pc) (st) := by
  intro H locs ls hP hD hS hl
  subst hst
  have hPc := xk_psub hP isC hC
  have hDc := hD.sub isC hnC hC
  have hFc := va_free hD hS F.hA isC hC
  refine va_calli (va_runV (As := As) (rest := rest) F.fix (hM H.size) cw ⟨xk_blind, va_recv F.hK hPc hci hrc, fun U hU hW => ⟨rfl, by rw [hU], by rw [hU]; exact hPc, va_K.moved hW.alike F.hK, hDc.weaken (fun _ _ _ _ => trivial), xk_nwarm hW F.hZ⟩⟩ rfl hn hl.1 rfl (lv_room hW) hdg hf) hS (fun q _ h => hFc q h) hFc (fun r W1 t H1 locs1 ht hvm hw hB hz1 hk1 hS1 => ?_)
  obtain ⟨hP1, hD1⟩ := hB
  rw [ht] at hP1
  obtain ⟨hP2, hD2⟩ := va_join hP hD isC isR hC hR hnR hdis hk1 hFc hP1 hD1
  exact kk r W1 hw H1 locs1 ls hP2 hD2 hS1 hl
theorem xr_callVv {post : va_W → Prop} (F : XF p s m args c cc nL Ts own D tys A) (hM : xMv l y wsC rm D tys Wc (.ref b :: As) mc ms post) (cw : CallW R s args own C index y bytes maxL (none) wsC rm mc ms n) (hrc : Wc[q0]? = some (b, .inr (ci, fs))) (hci : vwCl[ci]? = some (C, T, N)) (isC isR : List Nat) (hC : isC.map (fun i => ws[i]?) = Wc.map some) (hR : isR.map (fun i => ws[i]?) = wr.map some) (hnC : va_nd isC = true) (hnR : va_nd isR = true) (hdis : ∀ i ∈ isR, i ∉ isC) (hn : As.length = n) (hst : st = As.reverse ++ .ref b :: rest) (hW : (rest.map fun v => v.category).sum ≤ 8) (hdg : decode cc pc = .ok (.invokevirtual index, 3)) (hf : cells + mc ≤ R.cells ∧ slots + ms ≤ R.slots)
    (kk : ∀ W1 : va_W, post W1 → AW p l e R s m args below meth c nL D A (cells + mc) (slots + ms) Q (wr ++ W1) lv (pc + 3) (rest)) : AW p l e R s m args below meth c nL D A (cells) (slots) Q (ws) lv (pc) (st) := by
  intro H locs ls hP hD hS hl
  subst hst
  have hPc := xk_psub hP isC hC
  have hDc := hD.sub isC hnC hC
  have hFc := va_free hD hS F.hA isC hC
  refine va_callv (va_runV (As := As) (rest := rest) F.fix (hM H.size) cw ⟨xk_blind, va_recv F.hK hPc hci hrc, fun U hU hW => ⟨rfl, by rw [hU], by rw [hU]; exact hPc, va_K.moved hW.alike F.hK, hDc.weaken (fun _ _ _ _ => trivial), xk_nwarm hW F.hZ⟩⟩ rfl hn hl.1 rfl (lv_room hW) hdg hf) hS (fun q _ h => hFc q h) hFc (fun W1 t H1 locs1 ht hvm hw hB hz1 hk1 hS1 => ?_)
  obtain ⟨hP1, hD1⟩ := hB
  rw [ht] at hP1
  obtain ⟨hP2, hD2⟩ := va_join hP hD isC isR hC hR hnR hdis hk1 hFc hP1 hD1
  exact kk W1 hw H1 locs1 ls hP2 hD2 hS1 hl
theorem xr_callSi {post : Int32 → va_W → Prop} (F : XF p s m args c cc nL Ts own D tys A) (hM : xMi l y wsC rm D tys Wc As mc ms post) (cw : CallB R s args own index y bytes maxL (some .int) wsC rm mc ms n ∧ (Cond.static y).before args s = true) (isC isR : List Nat) (hC : isC.map (fun i => ws[i]?) = Wc.map some) (hR : isR.map (fun i => ws[i]?) = wr.map some) (hnC : va_nd isC = true) (hnR : va_nd isR = true) (hdis : ∀ i ∈ isR, i ∉ isC) (hn : As.length = n) (hst : st = As.reverse ++ rest) (hW : (rest.map fun v => v.category).sum ≤ 8) (hdg : decode cc pc = .ok (.invokestatic index, 3)) (hf : cells + mc ≤ R.cells ∧ slots + ms ≤ R.slots)
    (kk : ∀ (r : Int32) (W1 : va_W), post r W1 → AW p l e R s m args below meth c nL D A (cells + mc) (slots + ms) Q (wr ++ W1) lv (pc + 3) (.int r :: rest)) : AW p l e R s m args below meth c nL D A (cells) (slots) Q (ws) lv (pc) (st) := by
  intro H locs ls hP hD hS hl
  subst hst
  have hPc := xk_psub hP isC hC
  have hDc := hD.sub isC hnC hC
  have hFc := va_free hD hS F.hA isC hC
  refine va_calli (va_runS (As := As) (rest := rest) F.fix (hM H.size) cw ⟨xk_blind, fun U hU hW => ⟨rfl, by rw [hU], by rw [hU]; exact hPc, va_K.moved hW.alike F.hK, hDc.weaken (fun _ _ _ _ => trivial), xk_nwarm hW F.hZ⟩⟩ rfl hn hl.1 rfl (lv_room hW) hdg hf) hS (fun q _ h => hFc q h) hFc (fun r W1 t H1 locs1 ht hvm hw hB hz1 hk1 hS1 => ?_)
  obtain ⟨hP1, hD1⟩ := hB
  rw [ht] at hP1
  obtain ⟨hP2, hD2⟩ := va_join hP hD isC isR hC hR hnR hdis hk1 hFc hP1 hD1
  exact kk r W1 hw H1 locs1 ls hP2 hD2 hS1 hl
theorem xr_callSl {post : Int64 → va_W → Prop} (F : XF p s m args c cc nL Ts own D tys A) (hM : xMl l y wsC rm D tys Wc As mc ms post) (cw : CallB R s args own index y bytes maxL (some .long) wsC rm mc ms n ∧ (Cond.static y).before args s = true) (isC isR : List Nat) (hC : isC.map (fun i => ws[i]?) = Wc.map some) (hR : isR.map (fun i => ws[i]?) = wr.map some) (hnC : va_nd isC = true) (hnR : va_nd isR = true) (hdis : ∀ i ∈ isR, i ∉ isC) (hn : As.length = n) (hst : st = As.reverse ++ rest) (hW : (rest.map fun v => v.category).sum ≤ 8) (hdg : decode cc pc = .ok (.invokestatic index, 3)) (hf : cells + mc ≤ R.cells ∧ slots + ms ≤ R.slots)
    (kk : ∀ (r : Int64) (W1 : va_W), post r W1 → AW p l e R s m args below meth c nL D A (cells + mc) (slots + ms) Q (wr ++ W1) lv (pc + 3) (.long r :: rest)) : AW p l e R s m args below meth c nL D A (cells) (slots) Q (ws) lv (pc) (st) := by
  intro H locs ls hP hD hS hl
  subst hst
  have hPc := xk_psub hP isC hC
  have hDc := hD.sub isC hnC hC
  have hFc := va_free hD hS F.hA isC hC
  refine va_calll (va_runS (As := As) (rest := rest) F.fix (hM H.size) cw ⟨xk_blind, fun U hU hW => ⟨rfl, by rw [hU], by rw [hU]; exact hPc, va_K.moved hW.alike F.hK, hDc.weaken (fun _ _ _ _ => trivial), xk_nwarm hW F.hZ⟩⟩ rfl hn hl.1 rfl (lv_room hW) hdg hf) hS (fun q _ h => hFc q h) hFc (fun r W1 t H1 locs1 ht hvm hw hB hz1 hk1 hS1 => ?_)
  obtain ⟨hP1, hD1⟩ := hB
  rw [ht] at hP1
  obtain ⟨hP2, hD2⟩ := va_join hP hD isC isR hC hR hnR hdis hk1 hFc hP1 hD1
  exact kk r W1 hw H1 locs1 ls hP2 hD2 hS1 hl
theorem xr_callSd {post : UInt64 → va_W → Prop} (F : XF p s m args c cc nL Ts own D tys A) (hM : xMd l y wsC rm D tys Wc As mc ms post) (cw : CallB R s args own index y bytes maxL (some .double) wsC rm mc ms n ∧ (Cond.static y).before args s = true) (isC isR : List Nat) (hC : isC.map (fun i => ws[i]?) = Wc.map some) (hR : isR.map (fun i => ws[i]?) = wr.map some) (hnC : va_nd isC = true) (hnR : va_nd isR = true) (hdis : ∀ i ∈ isR, i ∉ isC) (hn : As.length = n) (hst : st = As.reverse ++ rest) (hW : (rest.map fun v => v.category).sum ≤ 8) (hdg : decode cc pc = .ok (.invokestatic index, 3)) (hf : cells + mc ≤ R.cells ∧ slots + ms ≤ R.slots)
    (kk : ∀ (r : UInt64) (W1 : va_W), post r W1 → AW p l e R s m args below meth c nL D A (cells + mc) (slots + ms) Q (wr ++ W1) lv (pc + 3) (.double r :: rest)) : AW p l e R s m args below meth c nL D A (cells) (slots) Q (ws) lv (pc) (st) := by
  intro H locs ls hP hD hS hl
  subst hst
  have hPc := xk_psub hP isC hC
  have hDc := hD.sub isC hnC hC
  have hFc := va_free hD hS F.hA isC hC
  refine va_calld (va_runS (As := As) (rest := rest) F.fix (hM H.size) cw ⟨xk_blind, fun U hU hW => ⟨rfl, by rw [hU], by rw [hU]; exact hPc, va_K.moved hW.alike F.hK, hDc.weaken (fun _ _ _ _ => trivial), xk_nwarm hW F.hZ⟩⟩ rfl hn hl.1 rfl (lv_room hW) hdg hf) hS (fun q _ h => hFc q h) hFc (fun r W1 t H1 locs1 ht hvm hw hB hz1 hk1 hS1 => ?_)
  obtain ⟨hP1, hD1⟩ := hB
  rw [ht] at hP1
  obtain ⟨hP2, hD2⟩ := va_join hP hD isC isR hC hR hnR hdis hk1 hFc hP1 hD1
  exact kk r W1 hw H1 locs1 ls hP2 hD2 hS1 hl
theorem xr_callSz {post : Int32 → va_W → Prop} (F : XF p s m args c cc nL Ts own D tys A) (hM : xMi l y wsC rm D tys Wc As mc ms post) (cw : CallB R s args own index y bytes maxL (some .boolean) wsC rm mc ms n ∧ (Cond.static y).before args s = true) (isC isR : List Nat) (hC : isC.map (fun i => ws[i]?) = Wc.map some) (hR : isR.map (fun i => ws[i]?) = wr.map some) (hnC : va_nd isC = true) (hnR : va_nd isR = true) (hdis : ∀ i ∈ isR, i ∉ isC) (hn : As.length = n) (hst : st = As.reverse ++ rest) (hW : (rest.map fun v => v.category).sum ≤ 8) (hdg : decode cc pc = .ok (.invokestatic index, 3)) (hf : cells + mc ≤ R.cells ∧ slots + ms ≤ R.slots)
    (kk : ∀ (r : Int32) (W1 : va_W), post r W1 → AW p l e R s m args below meth c nL D A (cells + mc) (slots + ms) Q (wr ++ W1) lv (pc + 3) (.int r :: rest)) : AW p l e R s m args below meth c nL D A (cells) (slots) Q (ws) lv (pc) (st) := by
  intro H locs ls hP hD hS hl
  subst hst
  have hPc := xk_psub hP isC hC
  have hDc := hD.sub isC hnC hC
  have hFc := va_free hD hS F.hA isC hC
  refine va_calli (va_runS (As := As) (rest := rest) F.fix (hM H.size) cw ⟨xk_blind, fun U hU hW => ⟨rfl, by rw [hU], by rw [hU]; exact hPc, va_K.moved hW.alike F.hK, hDc.weaken (fun _ _ _ _ => trivial), xk_nwarm hW F.hZ⟩⟩ rfl hn hl.1 rfl (lv_room hW) hdg hf) hS (fun q _ h => hFc q h) hFc (fun r W1 t H1 locs1 ht hvm hw hB hz1 hk1 hS1 => ?_)
  obtain ⟨hP1, hD1⟩ := hB
  rw [ht] at hP1
  obtain ⟨hP2, hD2⟩ := va_join hP hD isC isR hC hR hnR hdis hk1 hFc hP1 hD1
  exact kk r W1 hw H1 locs1 ls hP2 hD2 hS1 hl
theorem xr_callSv {post : va_W → Prop} (F : XF p s m args c cc nL Ts own D tys A) (hM : xMv l y wsC rm D tys Wc As mc ms post) (cw : CallB R s args own index y bytes maxL (none) wsC rm mc ms n ∧ (Cond.static y).before args s = true) (isC isR : List Nat) (hC : isC.map (fun i => ws[i]?) = Wc.map some) (hR : isR.map (fun i => ws[i]?) = wr.map some) (hnC : va_nd isC = true) (hnR : va_nd isR = true) (hdis : ∀ i ∈ isR, i ∉ isC) (hn : As.length = n) (hst : st = As.reverse ++ rest) (hW : (rest.map fun v => v.category).sum ≤ 8) (hdg : decode cc pc = .ok (.invokestatic index, 3)) (hf : cells + mc ≤ R.cells ∧ slots + ms ≤ R.slots)
    (kk : ∀ W1 : va_W, post W1 → AW p l e R s m args below meth c nL D A (cells + mc) (slots + ms) Q (wr ++ W1) lv (pc + 3) (rest)) : AW p l e R s m args below meth c nL D A (cells) (slots) Q (ws) lv (pc) (st) := by
  intro H locs ls hP hD hS hl
  subst hst
  have hPc := xk_psub hP isC hC
  have hDc := hD.sub isC hnC hC
  have hFc := va_free hD hS F.hA isC hC
  refine va_callv (va_runS (As := As) (rest := rest) F.fix (hM H.size) cw ⟨xk_blind, fun U hU hW => ⟨rfl, by rw [hU], by rw [hU]; exact hPc, va_K.moved hW.alike F.hK, hDc.weaken (fun _ _ _ _ => trivial), xk_nwarm hW F.hZ⟩⟩ rfl hn hl.1 rfl (lv_room hW) hdg hf) hS (fun q _ h => hFc q h) hFc (fun W1 t H1 locs1 ht hvm hw hB hz1 hk1 hS1 => ?_)
  obtain ⟨hP1, hD1⟩ := hB
  rw [ht] at hP1
  obtain ⟨hP2, hD2⟩ := va_join hP hD isC isR hC hR hnR hdis hk1 hFc hP1 hD1
  exact kk W1 hw H1 locs1 ls hP2 hD2 hS1 hl
theorem xr_callIv {post : va_W → Prop} (F : XF p s m args c cc nL Ts own D tys A) (hM : xMv l y wsC rm D tys Wc (.ref b :: As) mc ms post) (cw : CallB R s args own index y bytes maxL none wsC rm mc ms n ∧ y.name = "<init>" ∧ (Cond.instanceMethod y).before args s = true) (isC isR : List Nat) (hC : isC.map (fun i => ws[i]?) = Wc.map some) (hR : isR.map (fun i => ws[i]?) = wr.map some) (hnC : va_nd isC = true) (hnR : va_nd isR = true) (hdis : ∀ i ∈ isR, i ∉ isC) (hn : As.length = n) (hst : st = As.reverse ++ .ref b :: rest) (hW : (rest.map fun v => v.category).sum ≤ 8) (hdg : decode cc pc = .ok (.invokespecial index, 3)) (hf : cells + mc ≤ R.cells ∧ slots + ms ≤ R.slots)
    (kk : ∀ W1 : va_W, post W1 → AW p l e R s m args below meth c nL D A (cells + mc) (slots + ms) Q (wr ++ W1) lv (pc + 3) (rest)) : AW p l e R s m args below meth c nL D A (cells) (slots) Q (ws) lv (pc) (st) := by
  intro H locs ls hP hD hS hl
  subst hst
  have hPc := xk_psub hP isC hC
  have hDc := hD.sub isC hnC hC
  have hFc := va_free hD hS F.hA isC hC
  refine va_callv (va_runI (As := As) (rest := rest) F.fix (hM H.size) cw ⟨xk_blind, fun U hU hW => ⟨rfl, by rw [hU], by rw [hU]; exact hPc, va_K.moved hW.alike F.hK, hDc.weaken (fun _ _ _ _ => trivial), xk_nwarm hW F.hZ⟩⟩ rfl hn hl.1 rfl (lv_room hW) hdg hf) hS (fun q _ h => hFc q h) hFc (fun W1 t H1 locs1 ht hvm hw hB hz1 hk1 hS1 => ?_)
  obtain ⟨hP1, hD1⟩ := hB
  rw [ht] at hP1
  obtain ⟨hP2, hD2⟩ := va_join hP hD isC isR hC hR hnR hdis hk1 hFc hP1 hD1
  exact kk W1 hw H1 locs1 ls hP2 hD2 hS1 hl
theorem xr_callVNi {post : Int32 → va_W → Prop} (F : XF p s m args c cc nL Ts own D tys A) (hM : xMi l y wsC rm D tys Wc (.ref b :: As) mc ms post) (cw : va_CN R s args own index y host bytes maxL (some .int) wsC rm mc ms n ∧ (Cond.instanceMethod y).before args s = true ∧ (Cond.selects C y y).before args s = true) (hrc : Wc[q0]? = some (b, .inr (ci, fs))) (hci : vwCl[ci]? = some (C, T, N)) (isC isR : List Nat) (hC : isC.map (fun i => ws[i]?) = Wc.map some) (hR : isR.map (fun i => ws[i]?) = wr.map some) (hnC : va_nd isC = true) (hnR : va_nd isR = true) (hdis : ∀ i ∈ isR, i ∉ isC) (hn : As.length = n) (hst : st = As.reverse ++ .ref b :: rest) (hW : (rest.map fun v => v.category).sum ≤ 8) (hdg : decode cc pc = .ok (.invokevirtual index, 3)) (hf : cells + mc ≤ R.cells ∧ slots + ms ≤ R.slots)
    (kk : ∀ (r : Int32) (W1 : va_W), post r W1 → AW p l e R s m args below meth c nL D A (cells + mc) (slots + ms) Q (wr ++ W1) lv (pc + 3) (.int r :: rest)) : AW p l e R s m args below meth c nL D A (cells) (slots) Q (ws) lv (pc) (st) := by
  intro H locs ls hP hD hS hl
  subst hst
  have hPc := xk_psub hP isC hC
  have hDc := hD.sub isC hnC hC
  have hFc := va_free hD hS F.hA isC hC
  refine va_calli (va_runVN (As := As) (rest := rest) F.fix (hM H.size) cw ⟨xk_blind, va_recv F.hK hPc hci hrc, fun U hU hW => ⟨rfl, by rw [hU], by rw [hU]; exact hPc, va_K.moved hW.alike F.hK, hDc.weaken (fun _ _ _ _ => trivial), xk_nwarm hW F.hZ⟩⟩ rfl hn hl.1 rfl (lv_room hW) hdg hf) hS (fun q _ h => hFc q h) hFc (fun r W1 t H1 locs1 ht hvm hw hB hz1 hk1 hS1 => ?_)
  obtain ⟨hP1, hD1⟩ := hB
  rw [ht] at hP1
  obtain ⟨hP2, hD2⟩ := va_join hP hD isC isR hC hR hnR hdis hk1 hFc hP1 hD1
  exact kk r W1 hw H1 locs1 ls hP2 hD2 hS1 hl
theorem xr_callVNz {post : Int32 → va_W → Prop} (F : XF p s m args c cc nL Ts own D tys A) (hM : xMi l y wsC rm D tys Wc (.ref b :: As) mc ms post) (cw : va_CN R s args own index y host bytes maxL (some .boolean) wsC rm mc ms n ∧ (Cond.instanceMethod y).before args s = true ∧ (Cond.selects C y y).before args s = true) (hrc : Wc[q0]? = some (b, .inr (ci, fs))) (hci : vwCl[ci]? = some (C, T, N)) (isC isR : List Nat) (hC : isC.map (fun i => ws[i]?) = Wc.map some) (hR : isR.map (fun i => ws[i]?) = wr.map some) (hnC : va_nd isC = true) (hnR : va_nd isR = true) (hdis : ∀ i ∈ isR, i ∉ isC) (hn : As.length = n) (hst : st = As.reverse ++ .ref b :: rest) (hW : (rest.map fun v => v.category).sum ≤ 8) (hdg : decode cc pc = .ok (.invokevirtual index, 3)) (hf : cells + mc ≤ R.cells ∧ slots + ms ≤ R.slots)
    (kk : ∀ (r : Int32) (W1 : va_W), post r W1 → AW p l e R s m args below meth c nL D A (cells + mc) (slots + ms) Q (wr ++ W1) lv (pc + 3) (.int r :: rest)) : AW p l e R s m args below meth c nL D A (cells) (slots) Q (ws) lv (pc) (st) := by
  intro H locs ls hP hD hS hl
  subst hst
  have hPc := xk_psub hP isC hC
  have hDc := hD.sub isC hnC hC
  have hFc := va_free hD hS F.hA isC hC
  refine va_calli (va_runVN (As := As) (rest := rest) F.fix (hM H.size) cw ⟨xk_blind, va_recv F.hK hPc hci hrc, fun U hU hW => ⟨rfl, by rw [hU], by rw [hU]; exact hPc, va_K.moved hW.alike F.hK, hDc.weaken (fun _ _ _ _ => trivial), xk_nwarm hW F.hZ⟩⟩ rfl hn hl.1 rfl (lv_room hW) hdg hf) hS (fun q _ h => hFc q h) hFc (fun r W1 t H1 locs1 ht hvm hw hB hz1 hk1 hS1 => ?_)
  obtain ⟨hP1, hD1⟩ := hB
  rw [ht] at hP1
  obtain ⟨hP2, hD2⟩ := va_join hP hD isC isR hC hR hnR hdis hk1 hFc hP1 hD1
  exact kk r W1 hw H1 locs1 ls hP2 hD2 hS1 hl
theorem xr_callVNv {post : va_W → Prop} (F : XF p s m args c cc nL Ts own D tys A) (hM : xMv l y wsC rm D tys Wc (.ref b :: As) mc ms post) (cw : va_CN R s args own index y host bytes maxL (none) wsC rm mc ms n ∧ (Cond.instanceMethod y).before args s = true ∧ (Cond.selects C y y).before args s = true) (hrc : Wc[q0]? = some (b, .inr (ci, fs))) (hci : vwCl[ci]? = some (C, T, N)) (isC isR : List Nat) (hC : isC.map (fun i => ws[i]?) = Wc.map some) (hR : isR.map (fun i => ws[i]?) = wr.map some) (hnC : va_nd isC = true) (hnR : va_nd isR = true) (hdis : ∀ i ∈ isR, i ∉ isC) (hn : As.length = n) (hst : st = As.reverse ++ .ref b :: rest) (hW : (rest.map fun v => v.category).sum ≤ 8) (hdg : decode cc pc = .ok (.invokevirtual index, 3)) (hf : cells + mc ≤ R.cells ∧ slots + ms ≤ R.slots)
    (kk : ∀ W1 : va_W, post W1 → AW p l e R s m args below meth c nL D A (cells + mc) (slots + ms) Q (wr ++ W1) lv (pc + 3) (rest)) : AW p l e R s m args below meth c nL D A (cells) (slots) Q (ws) lv (pc) (st) := by
  intro H locs ls hP hD hS hl
  subst hst
  have hPc := xk_psub hP isC hC
  have hDc := hD.sub isC hnC hC
  have hFc := va_free hD hS F.hA isC hC
  refine va_callv (va_runVN (As := As) (rest := rest) F.fix (hM H.size) cw ⟨xk_blind, va_recv F.hK hPc hci hrc, fun U hU hW => ⟨rfl, by rw [hU], by rw [hU]; exact hPc, va_K.moved hW.alike F.hK, hDc.weaken (fun _ _ _ _ => trivial), xk_nwarm hW F.hZ⟩⟩ rfl hn hl.1 rfl (lv_room hW) hdg hf) hS (fun q _ h => hFc q h) hFc (fun W1 t H1 locs1 ht hvm hw hB hz1 hk1 hS1 => ?_)
  obtain ⟨hP1, hD1⟩ := hB
  rw [ht] at hP1
  obtain ⟨hP2, hD2⟩ := va_join hP hD isC isR hC hR hnR hdis hk1 hFc hP1 hD1
  exact kk W1 hw H1 locs1 ls hP2 hD2 hS1 hl
theorem xr_callSNi {post : Int32 → va_W → Prop} (F : XF p s m args c cc nL Ts own D tys A) (hM : xMi l y wsC rm D tys Wc As mc ms post) (cw : va_CN R s args own index y host bytes maxL (some .int) wsC rm mc ms n ∧ (Cond.static y).before args s = true ∧ True) (isC isR : List Nat) (hC : isC.map (fun i => ws[i]?) = Wc.map some) (hR : isR.map (fun i => ws[i]?) = wr.map some) (hnC : va_nd isC = true) (hnR : va_nd isR = true) (hdis : ∀ i ∈ isR, i ∉ isC) (hn : As.length = n) (hst : st = As.reverse ++ rest) (hW : (rest.map fun v => v.category).sum ≤ 8) (hdg : decode cc pc = .ok (.invokestatic index, 3)) (hf : cells + mc ≤ R.cells ∧ slots + ms ≤ R.slots)
    (kk : ∀ (r : Int32) (W1 : va_W), post r W1 → AW p l e R s m args below meth c nL D A (cells + mc) (slots + ms) Q (wr ++ W1) lv (pc + 3) (.int r :: rest)) : AW p l e R s m args below meth c nL D A (cells) (slots) Q (ws) lv (pc) (st) := by
  intro H locs ls hP hD hS hl
  subst hst
  have hPc := xk_psub hP isC hC
  have hDc := hD.sub isC hnC hC
  have hFc := va_free hD hS F.hA isC hC
  refine va_calli (va_runSN (As := As) (rest := rest) F.fix (hM H.size) cw ⟨xk_blind, fun U hU hW => ⟨rfl, by rw [hU], by rw [hU]; exact hPc, va_K.moved hW.alike F.hK, hDc.weaken (fun _ _ _ _ => trivial), xk_nwarm hW F.hZ⟩⟩ rfl hn hl.1 rfl (lv_room hW) hdg hf) hS (fun q _ h => hFc q h) hFc (fun r W1 t H1 locs1 ht hvm hw hB hz1 hk1 hS1 => ?_)
  obtain ⟨hP1, hD1⟩ := hB
  rw [ht] at hP1
  obtain ⟨hP2, hD2⟩ := va_join hP hD isC isR hC hR hnR hdis hk1 hFc hP1 hD1
  exact kk r W1 hw H1 locs1 ls hP2 hD2 hS1 hl
theorem xr_callSNz {post : Int32 → va_W → Prop} (F : XF p s m args c cc nL Ts own D tys A) (hM : xMi l y wsC rm D tys Wc As mc ms post) (cw : va_CN R s args own index y host bytes maxL (some .boolean) wsC rm mc ms n ∧ (Cond.static y).before args s = true ∧ True) (isC isR : List Nat) (hC : isC.map (fun i => ws[i]?) = Wc.map some) (hR : isR.map (fun i => ws[i]?) = wr.map some) (hnC : va_nd isC = true) (hnR : va_nd isR = true) (hdis : ∀ i ∈ isR, i ∉ isC) (hn : As.length = n) (hst : st = As.reverse ++ rest) (hW : (rest.map fun v => v.category).sum ≤ 8) (hdg : decode cc pc = .ok (.invokestatic index, 3)) (hf : cells + mc ≤ R.cells ∧ slots + ms ≤ R.slots)
    (kk : ∀ (r : Int32) (W1 : va_W), post r W1 → AW p l e R s m args below meth c nL D A (cells + mc) (slots + ms) Q (wr ++ W1) lv (pc + 3) (.int r :: rest)) : AW p l e R s m args below meth c nL D A (cells) (slots) Q (ws) lv (pc) (st) := by
  intro H locs ls hP hD hS hl
  subst hst
  have hPc := xk_psub hP isC hC
  have hDc := hD.sub isC hnC hC
  have hFc := va_free hD hS F.hA isC hC
  refine va_calli (va_runSN (As := As) (rest := rest) F.fix (hM H.size) cw ⟨xk_blind, fun U hU hW => ⟨rfl, by rw [hU], by rw [hU]; exact hPc, va_K.moved hW.alike F.hK, hDc.weaken (fun _ _ _ _ => trivial), xk_nwarm hW F.hZ⟩⟩ rfl hn hl.1 rfl (lv_room hW) hdg hf) hS (fun q _ h => hFc q h) hFc (fun r W1 t H1 locs1 ht hvm hw hB hz1 hk1 hS1 => ?_)
  obtain ⟨hP1, hD1⟩ := hB
  rw [ht] at hP1
  obtain ⟨hP2, hD2⟩ := va_join hP hD isC isR hC hR hnR hdis hk1 hFc hP1 hD1
  exact kk r W1 hw H1 locs1 ls hP2 hD2 hS1 hl
theorem xr_callSNv {post : va_W → Prop} (F : XF p s m args c cc nL Ts own D tys A) (hM : xMv l y wsC rm D tys Wc As mc ms post) (cw : va_CN R s args own index y host bytes maxL (none) wsC rm mc ms n ∧ (Cond.static y).before args s = true ∧ True) (isC isR : List Nat) (hC : isC.map (fun i => ws[i]?) = Wc.map some) (hR : isR.map (fun i => ws[i]?) = wr.map some) (hnC : va_nd isC = true) (hnR : va_nd isR = true) (hdis : ∀ i ∈ isR, i ∉ isC) (hn : As.length = n) (hst : st = As.reverse ++ rest) (hW : (rest.map fun v => v.category).sum ≤ 8) (hdg : decode cc pc = .ok (.invokestatic index, 3)) (hf : cells + mc ≤ R.cells ∧ slots + ms ≤ R.slots)
    (kk : ∀ W1 : va_W, post W1 → AW p l e R s m args below meth c nL D A (cells + mc) (slots + ms) Q (wr ++ W1) lv (pc + 3) (rest)) : AW p l e R s m args below meth c nL D A (cells) (slots) Q (ws) lv (pc) (st) := by
  intro H locs ls hP hD hS hl
  subst hst
  have hPc := xk_psub hP isC hC
  have hDc := hD.sub isC hnC hC
  have hFc := va_free hD hS F.hA isC hC
  refine va_callv (va_runSN (As := As) (rest := rest) F.fix (hM H.size) cw ⟨xk_blind, fun U hU hW => ⟨rfl, by rw [hU], by rw [hU]; exact hPc, va_K.moved hW.alike F.hK, hDc.weaken (fun _ _ _ _ => trivial), xk_nwarm hW F.hZ⟩⟩ rfl hn hl.1 rfl (lv_room hW) hdg hf) hS (fun q _ h => hFc q h) hFc (fun W1 t H1 locs1 ht hvm hw hB hz1 hk1 hS1 => ?_)
  obtain ⟨hP1, hD1⟩ := hB
  rw [ht] at hP1
  obtain ⟨hP2, hD2⟩ := va_join hP hD isC isR hC hR hnR hdis hk1 hFc hP1 hD1
  exact kk W1 hw H1 locs1 ls hP2 hD2 hS1 hl
theorem xr_callINv {post : va_W → Prop} (F : XF p s m args c cc nL Ts own D tys A) (hM : xMv l y wsC rm D tys Wc (.ref b :: As) mc ms post) (cw : va_CN R s args own index y host bytes maxL none wsC rm mc ms n ∧ y.name = "<init>" ∧ (Cond.instanceMethod y).before args s = true) (isC isR : List Nat) (hC : isC.map (fun i => ws[i]?) = Wc.map some) (hR : isR.map (fun i => ws[i]?) = wr.map some) (hnC : va_nd isC = true) (hnR : va_nd isR = true) (hdis : ∀ i ∈ isR, i ∉ isC) (hn : As.length = n) (hst : st = As.reverse ++ .ref b :: rest) (hW : (rest.map fun v => v.category).sum ≤ 8) (hdg : decode cc pc = .ok (.invokespecial index, 3)) (hf : cells + mc ≤ R.cells ∧ slots + ms ≤ R.slots)
    (kk : ∀ W1 : va_W, post W1 → AW p l e R s m args below meth c nL D A (cells + mc) (slots + ms) Q (wr ++ W1) lv (pc + 3) (rest)) : AW p l e R s m args below meth c nL D A (cells) (slots) Q (ws) lv (pc) (st) := by
  intro H locs ls hP hD hS hl
  subst hst
  have hPc := xk_psub hP isC hC
  have hDc := hD.sub isC hnC hC
  have hFc := va_free hD hS F.hA isC hC
  refine va_callv (va_runIN (As := As) (rest := rest) F.fix (hM H.size) cw ⟨xk_blind, fun U hU hW => ⟨rfl, by rw [hU], by rw [hU]; exact hPc, va_K.moved hW.alike F.hK, hDc.weaken (fun _ _ _ _ => trivial), xk_nwarm hW F.hZ⟩⟩ rfl hn hl.1 rfl (lv_room hW) hdg hf) hS (fun q _ h => hFc q h) hFc (fun W1 t H1 locs1 ht hvm hw hB hz1 hk1 hS1 => ?_)
  obtain ⟨hP1, hD1⟩ := hB
  rw [ht] at hP1
  obtain ⟨hP2, hD2⟩ := va_join hP hD isC isR hC hR hnR hdis hk1 hFc hP1 hD1
  exact kk W1 hw H1 locs1 ls hP2 hD2 hS1 hl
end XCALL
