abbrev xE1 : String := "java/lang/IndexOutOfBoundsException"
abbrev xE2 : String := "java/lang/IllegalArgumentException"
abbrev xE3 : String := "java/lang/IllegalStateException"
abbrev xNs : List String := ["java/lang/RuntimeException", "java/lang/Exception"]
def xTc : List String := [xE1, xE2, xE3]
def xTn : List (String × String) := [(xE1, xE3), (xE2, xE3)]
def xTd : List MethodName := [⟨"java/lang/RuntimeException", "<init>", "(Ljava/lang/String;)V"⟩, ⟨"java/lang/Exception", "<init>", "(Ljava/lang/String;)V"⟩, ⟨"java/lang/Throwable", "<init>", "(Ljava/lang/String;)V"⟩]
def xTs : List (Nat × String) := [(129, "there is no such one"), (134, "the number is out of its range"), (49, "the bank has not so many coins"), (66, "no filling can be had"), (75, "no more barges can come")]
/-- what the tables say of the exceptions and of their texts -/
def xT (U : State) : Prop := (∀ E ∈ xTc, va_Nw (.castable E E) U) ∧ (∀ q ∈ xTn, va_Nc q.1 q.2 U) ∧ (∀ q ∈ xTs, ∃ a, vk_R RX1 q.1 q.2 a U) ∧ ∀ x ∈ xTd, va_Nw (.declares x) U
theorem xT.same {u U : State} (h : U.vm = u.vm) (z : xT u) : xT U := ⟨fun E hE => va_Nw.same rfl h.symm (z.1 E hE), fun q hq => va_Nc.moved (by rw [h]; exact Vm.Alike.refl u.vm) (z.2.1 q hq), fun q hq => let ⟨a, ha⟩ := z.2.2.1 q hq; ⟨a, vk_R.same h ha⟩, fun x hx => va_Nw.same rfl h.symm (z.2.2.2 x hx)⟩
theorem xT.warm {s U : State} (hW : s.WarmedH U.vm) (z : xT s) : xT U := ⟨fun E hE => va_Nw.warmC hW (z.1 E hE), fun q hq => va_Nc.moved hW.alike (z.2.1 q hq), fun q hq => let ⟨a, ha⟩ := z.2.2.1 q hq; ⟨a, vk_R.warm hW ha⟩, fun x hx => va_Nw.warmD hW (z.2.2.2 x hx)⟩
/-- the two statics of Throwable -/
def xQ (A : Nat → Prop) (U : State) (H : Heap) : Prop := vx_Zq Bundle.tN "UNASSIGNED_STACK" Bundle.steD A U H ∧ vx_Zq Bundle.tN "SUPPRESSED_SENTINEL" Bundle.listD A U H
theorem xQ.moved {A : Nat → Prop} {u U : State} {H : Heap} (h : u.vm.Alike U.vm) (z : xQ A u H) : xQ A U H := ⟨vx_Zq.moved h z.1, vx_Zq.moved h z.2⟩
theorem xQ.kept {A : Nat → Prop} {U : State} {H H1 : Heap} (z : xQ A U H) (hq : ∀ a : Nat, a < H.size → ¬ A a → H1[a]? = H[a]?) : xQ A U H1 := ⟨z.1.kept hq, z.2.kept hq⟩
theorem xQ.narrow {A B : Nat → Prop} {U : State} {H : Heap} (z : xQ A U H) (h : ∀ q, B q → A q) : xQ B U H := ⟨z.1.narrow h, z.2.narrow h⟩
abbrev xPreX (D : va_G) (tys : List (ClassId × FieldType)) (W0 : va_W) (sz : Nat) (av : List Value) : Array Value → State → Prop := va_Pc av (fun U => (U.heap.size = sz ∧ va_P D vwCl W0 U.heap ∧ va_K D vwCl tys U ∧ va_D (fun _ => True) W0 ∧ xZ U) ∧ xT U ∧ xQ (va_A W0 sz) U U.heap)
theorem xk_blindX {D : va_G} {tys : List (ClassId × FieldType)} {W0 : va_W} {sz : Nat} {av : List Value} : FrameBlind (xPreX D tys W0 sz av) := fun a U g mk q => by
  obtain ⟨q0, ⟨q1, qP, qK, qD, qZ⟩, qT, qQ⟩ := q
  exact ⟨q0, ⟨q1, qP, va_K.moved (u := U) (U := U.calling g mk a) (Vm.Alike.refl U.vm) qK, qD, xk_nsame (u := U) (U := U.calling g mk a) rfl qZ⟩, xT.same (u := U) (U := U.calling g mk a) rfl qT, xQ.moved (u := U) (U := U.calling g mk a) (Vm.Alike.refl U.vm) qQ⟩
abbrev xXC (D : va_G) (W0 : va_W) (sz : Nat) (px : String → va_W → Prop) : String → State → State → Prop := vx_X (fun _ : va_W => True) (fun E W1 t => px E W1 ∧ xPst D W0 sz W1 t) (va_A W0 sz)
/-- what a body that may throw knows besides -/
def XG (l : Launch) (s : State) (meth : Method) (A : Nat → Prop) : Prop := l.stackTraces = false ∧ meth.locks = false ∧ xT s ∧ xQ A s s.heap
/-- an exception of the class E is under way at pc -/
def AX (p : Program) (l : Launch) (e : Env) (R : Room) (s : State) (m : MethodId) (args : Array Value) (below : List Frame) (meth : Method) (c : Code) (nL : Nat) (D : va_G) (A : Nat → Prop) (cells slots : Nat) (Q : State → Prop) (ws : va_W) (lv : List (Nat × Value)) (pc : Nat) (st : List Value) (E : String) : Prop :=
  ∀ (H : Heap) (locs : List Loc) (ls : Array Slot) (q : Addr) (ce : Cell), va_P D vwCl ws H → va_D A ws → va_S A s.heap H locs → lv_has ls nL lv → H[q]? = some ce → ce.vm = .none → s.vm.findClass E = some ce.cls → vx_W p l e R s m args below meth c H locs cells slots Q (F0 m pc ls st) q
theorem xk_hat {Ts : List Cond} {args : Array Value} {s : State} {ic : Nat} {E : String} (hts : ∀ w ∈ Ts, w.before args s = true) (hm : ∀ w ∈ (vx_atS RX1 ic E xNs).filter goodWord, w ∈ Ts) (hn : ∀ w ∈ (vx_atS RX1 ic E xNs).filter (fun w => !goodWord w), w ∈ Cond.castable E E :: xTd.map .declares) (z : xT s) (hE : E ∈ xTc) : ∀ w ∈ vx_atS RX1 ic E xNs, w.before args s = true :=
  vx_hat (fun w h => hts w (hm w h)) hn (vx_c (va_Nw.use rfl (z.1 E hE)) (fun w hw => by obtain ⟨x, hx, rfl⟩ := List.mem_map.mp hw; exact va_Nw.use rfl (z.2.2.2 x hx)))
theorem xk_n131 : ∀ w ∈ (vx_atS RX1 131 xE1 xNs).filter (fun w => !goodWord w), w ∈ Cond.castable xE1 xE1 :: xTd.map .declares := by decide +kernel
theorem xk_n136 : ∀ w ∈ (vx_atS RX1 136 xE2 xNs).filter (fun w => !goodWord w), w ∈ Cond.castable xE2 xE2 :: xTd.map .declares := by decide +kernel
theorem xk_n51 : ∀ w ∈ (vx_atS RX1 51 xE3 xNs).filter (fun w => !goodWord w), w ∈ Cond.castable xE3 xE3 :: xTd.map .declares := by decide +kernel
theorem xk_o131 : ∀ w ∈ Cond.classLink RX1 127 xE1 :: Cond.initialized xE1 :: vx_atS RX1 131 xE1 xNs, vx_ot w = true := by decide +kernel
theorem xk_o136 : ∀ w ∈ Cond.classLink RX1 132 xE2 :: Cond.initialized xE2 :: vx_atS RX1 136 xE2 xNs, vx_ot w = true := by decide +kernel
theorem xk_o51 : ∀ w ∈ Cond.classLink RX1 47 xE3 :: Cond.initialized xE3 :: vx_atS RX1 51 xE3 xNs, vx_ot w = true := by decide +kernel
theorem xk_fit1 : Bundle.fit xE1 = true := by decide +kernel
theorem xk_fit2 : Bundle.fit xE2 = true := by decide +kernel
theorem xk_fit3 : Bundle.fit xE3 = true := by decide +kernel
theorem xk_fitN : ∀ n ∈ xNs, Bundle.fit n = true := by decide +kernel
def xXi (l : Launch) (y : MethodName) (wsC : List Cond) (rm : Room) (D : va_G) (tys : List (ClassId × FieldType)) (W0 : va_W) (av : List Value) (mc ms : Nat) (post : Int32 → va_W → Prop) (px : String → va_W → Prop) : Prop := ∀ sz : Nat, vx_Met l y wsC rm (xPreX D tys W0 sz av) (va_Qi post (xPst D W0 sz) (va_A W0 sz)) (xXC D W0 sz px) mc ms (va_A W0 sz)
def xXv (l : Launch) (y : MethodName) (wsC : List Cond) (rm : Room) (D : va_G) (tys : List (ClassId × FieldType)) (W0 : va_W) (av : List Value) (mc ms : Nat) (post : va_W → Prop) (px : String → va_W → Prop) : Prop := ∀ sz : Nat, vx_Met l y wsC rm (xPreX D tys W0 sz av) (va_Qv post (xPst D W0 sz) (va_A W0 sz)) (xXC D W0 sz px) mc ms (va_A W0 sz)
section XMETX
variable {l : Launch} {y : MethodName} {wsC ws' : List Cond} {rm : Room} {D : va_G} {tys : List (ClassId × FieldType)} {W0 : va_W} {av : List Value} {mc ms nL : Nat} {cc : ByteArray}
theorem xEX_i {post : Int32 → va_W → Prop} {px : String → va_W → Prop} (hst : l.stackTraces = false) (hy : plainName y.cls = true) (hw : wsC = Cond.code y cc nL (some .int) :: ws') (hav : (lg_sl av).length ≤ nL)
    (body : ∀ (p : Program) (e : Env) (s : State) (m : MethodId) (args : Array Value) (below : List Frame) (meth : Method) (c : Code) (A : Nat → Prop) (Q : State → Prop), XF p s m args c cc nL wsC y.cls D tys A → XG l s meth A → (∀ (pc : Nat) (r : Int32) (W1 : va_W) (lv : List (Nat × Value)), decode cc pc = .ok (.ireturn, 1) → post r W1 → AW p l e rm s m args below meth c nL D A mc ms Q W1 lv pc [.int r]) → (∀ (pc : Nat) (E : String) (W1 : va_W) (lv : List (Nat × Value)) (st : List Value), px E W1 → AX p l e rm s m args below meth c nL D A mc ms Q W1 lv pc st E) → (∀ (pc ik is ic sa : Nat) (E text : String) (W1 : va_W) (lv : List (Nat × Value)), decode cc pc = .ok (.new ik, 3) → decode cc (pc + 3) = .ok (.dup, 1) → decode cc (pc + 4) = .ok (.ldc is, 2) → decode cc (pc + 6) = .ok (.invokespecial ic, 3) → decode cc (pc + 9) = .ok (.athrow, 1) → Bundle.fit E = true → Cond.classLink y.cls ik E ∈ wsC → Cond.initialized E ∈ wsC → vk_R y.cls is text sa s → (∀ w ∈ vx_atS y.cls ic E xNs, w.before args s = true) → (∀ w ∈ Cond.classLink y.cls ik E :: Cond.initialized E :: vx_atS y.cls ic E xNs, vx_ot w = true) → px E W1 → 6 ≤ rm.frames → 82 ≤ rm.locals → 1 ≤ rm.cells → 6 ≤ rm.slots → 1 ≤ mc → 6 ≤ ms → AW p l e rm s m args below meth c nL D A 0 0 Q W1 lv pc []) → AW p l e rm s m args below meth c nL D A 0 0 Q W0 (lv_args 0 av) 0 []) : xXi l y wsC rm D tys W0 av mc ms post px := by
  intro sz
  refine vx_ofW (cc := cc) (maxL := nL) (ret := some .int) hy hw ?_
  intro p e s m args below meth c s₁ B hml hno hv
  obtain ⟨rfl, ⟨hsz, hP, hK, hD0, hZ⟩, hT, hQ⟩ := hv
  subst hsz
  have hown : s.vm.findClass y.cls = some m.cls := findClass_of_methodNamed B.named
  rw [lg_entry_eq]
  refine body p e s m _ below meth c (va_A W0 s.heap.size) _ ⟨B.exec, B.bytes, hml, hown, atoms_spec (ws := wsC) B.pre, hK, fun q h => Or.inr h, hZ⟩ ⟨hst, B.notSynchronized, hT, hQ⟩ ?_ ?_ ?_ s.heap [] _ hP (hD0.self (sz := s.heap.size)) va_S.rf (lv_entry av (n := nL) hav)
  · intro pc r W1 lv hdg hpost H locs ls hP hD hS hl
    exact vx_ret (W.iret B.exec B.bytes B.returns (fun t ht hW => ⟨⟨r, W1, rfl, hpost, by rw [ht]; exact hP, hD⟩, hS.F ht⟩) hS.2.2 hdg B.notSynchronized)
  · intro pc E W1 lv st hpx H locs ls q ce hP hD hS hl hce hcv hcl
    exact vx_out (fun x hx => (hno x hx).elim) B.notSynchronized hce hcv hcl (fun t ht _ => ⟨W1, trivial, ⟨hpx, by rw [ht]; exact hP, hD⟩, hS.F ht⟩) hS.2.2 (Nat.le_refl _) (Nat.le_refl _)
  · intro pc ik is ic sa E text W1 lv d0 d3 d4 d6 d9 hfit hk hini hstr hat hgood hpx r1 r2 r3 r4 r5 r6 H locs ls hP hD hS hl
    refine vx_throwS (rest := []) (names := xNs) B.exec B.bytes hst hown hfit xk_fitN (atoms_spec (ws := wsC) B.pre _ hk) (atoms_spec (ws := wsC) B.pre _ hini) hstr hat hgood hQ.1 hQ.2 hS (hl.1.trans hml.symm) d0 d3 d4 d6 d9 (fun x hx => (hno x hx).elim) r1 (by simpa using r2) (by simpa using r3) (by simpa using r4) B.notSynchronized (fun t _ h1 h2 => ?_) hS.2.2 (by simpa using r5) (by simpa using r6)
    exact ⟨W1, trivial, ⟨hpx, hP.kept (fun k x hx => h2 x.1 ((hP k x hx).lt)), hD⟩, ⟨Nat.le_trans hS.1 h1, fun q g1 g2 => (h2 q (Nat.lt_of_lt_of_le g1 hS.1)).trans (hS.2.1 q g1 g2)⟩⟩
theorem xEXH_i {post : Int32 → va_W → Prop} {px : String → va_W → Prop} {hh : List (Nat × Nat × Nat × Nat)} (hst : l.stackTraces = false) (hy : plainName y.cls = true) (hw : wsC = Cond.codeWith y cc nL (some .int) hh :: ws') (hav : (lg_sl av).length ≤ nL)
    (body : ∀ (p : Program) (e : Env) (s : State) (m : MethodId) (args : Array Value) (below : List Frame) (meth : Method) (c : Code) (A : Nat → Prop) (Q : State → Prop), XF p s m args c cc nL wsC y.cls D tys A → XG l s meth A → c.exceptionTable.toList = tableOf hh → (∀ (pc : Nat) (r : Int32) (W1 : va_W) (lv : List (Nat × Value)), decode cc pc = .ok (.ireturn, 1) → post r W1 → AW p l e rm s m args below meth c nL D A mc ms Q W1 lv pc [.int r]) → AW p l e rm s m args below meth c nL D A 0 0 Q W0 (lv_args 0 av) 0 []) : xXi l y wsC rm D tys W0 av mc ms post px := by
  intro sz
  refine vx_ofWH (cc := cc) (maxL := nL) (ret := some .int) (hh := hh) hy hw ?_
  intro p e s m args below meth c s₁ B hml hv
  obtain ⟨rfl, ⟨hsz, hP, hK, hD0, hZ⟩, hT, hQ⟩ := hv
  subst hsz
  have hown : s.vm.findClass y.cls = some m.cls := findClass_of_methodNamed B.named
  rw [lg_entry_eq]
  refine body p e s m _ below meth c (va_A W0 s.heap.size) _ ⟨B.exec, B.bytes, hml, hown, atoms_spec (ws := wsC) B.pre, hK, fun q h => Or.inr h, hZ⟩ ⟨hst, B.notSynchronized, hT, hQ⟩ (vx_table (x := y) B (atoms_spec (ws := wsC) B.pre _ (by rw [hw]; exact List.mem_cons_self))) ?_ s.heap [] _ hP (hD0.self (sz := s.heap.size)) va_S.rf (lv_entry av (n := nL) hav)
  · intro pc r W1 lv hdg hpost H locs ls hP hD hS hl
    exact vx_ret (W.iret B.exec B.bytes B.returns (fun t ht hW => ⟨⟨r, W1, rfl, hpost, by rw [ht]; exact hP, hD⟩, hS.F ht⟩) hS.2.2 hdg B.notSynchronized)
theorem xEX_z {post : Int32 → va_W → Prop} {px : String → va_W → Prop} (hst : l.stackTraces = false) (hy : plainName y.cls = true) (hw : wsC = Cond.code y cc nL (some .boolean) :: ws') (hav : (lg_sl av).length ≤ nL)
    (body : ∀ (p : Program) (e : Env) (s : State) (m : MethodId) (args : Array Value) (below : List Frame) (meth : Method) (c : Code) (A : Nat → Prop) (Q : State → Prop), XF p s m args c cc nL wsC y.cls D tys A → XG l s meth A → (∀ (pc : Nat) (r : Int32) (W1 : va_W) (lv : List (Nat × Value)), decode cc pc = .ok (.ireturn, 1) → narrow .boolean (.int r) = .int r → post r W1 → AW p l e rm s m args below meth c nL D A mc ms Q W1 lv pc [.int r]) → (∀ (pc : Nat) (E : String) (W1 : va_W) (lv : List (Nat × Value)) (st : List Value), px E W1 → AX p l e rm s m args below meth c nL D A mc ms Q W1 lv pc st E) → (∀ (pc ik is ic sa : Nat) (E text : String) (W1 : va_W) (lv : List (Nat × Value)), decode cc pc = .ok (.new ik, 3) → decode cc (pc + 3) = .ok (.dup, 1) → decode cc (pc + 4) = .ok (.ldc is, 2) → decode cc (pc + 6) = .ok (.invokespecial ic, 3) → decode cc (pc + 9) = .ok (.athrow, 1) → Bundle.fit E = true → Cond.classLink y.cls ik E ∈ wsC → Cond.initialized E ∈ wsC → vk_R y.cls is text sa s → (∀ w ∈ vx_atS y.cls ic E xNs, w.before args s = true) → (∀ w ∈ Cond.classLink y.cls ik E :: Cond.initialized E :: vx_atS y.cls ic E xNs, vx_ot w = true) → px E W1 → 6 ≤ rm.frames → 82 ≤ rm.locals → 1 ≤ rm.cells → 6 ≤ rm.slots → 1 ≤ mc → 6 ≤ ms → AW p l e rm s m args below meth c nL D A 0 0 Q W1 lv pc []) → AW p l e rm s m args below meth c nL D A 0 0 Q W0 (lv_args 0 av) 0 []) : xXi l y wsC rm D tys W0 av mc ms post px := by
  intro sz
  refine vx_ofW (cc := cc) (maxL := nL) (ret := some .boolean) hy hw ?_
  intro p e s m args below meth c s₁ B hml hno hv
  obtain ⟨rfl, ⟨hsz, hP, hK, hD0, hZ⟩, hT, hQ⟩ := hv
  subst hsz
  have hown : s.vm.findClass y.cls = some m.cls := findClass_of_methodNamed B.named
  rw [lg_entry_eq]
  refine body p e s m _ below meth c (va_A W0 s.heap.size) _ ⟨B.exec, B.bytes, hml, hown, atoms_spec (ws := wsC) B.pre, hK, fun q h => Or.inr h, hZ⟩ ⟨hst, B.notSynchronized, hT, hQ⟩ ?_ ?_ ?_ s.heap [] _ hP (hD0.self (sz := s.heap.size)) va_S.rf (lv_entry av (n := nL) hav)
  · intro pc r W1 lv hdg hnr hpost H locs ls hP hD hS hl
    exact vx_ret (W.zret B.exec B.bytes B.returns hnr (fun t ht hW => ⟨⟨r, W1, rfl, hpost, by rw [ht]; exact hP, hD⟩, hS.F ht⟩) hS.2.2 hdg B.notSynchronized)
  · intro pc E W1 lv st hpx H locs ls q ce hP hD hS hl hce hcv hcl
    exact vx_out (fun x hx => (hno x hx).elim) B.notSynchronized hce hcv hcl (fun t ht _ => ⟨W1, trivial, ⟨hpx, by rw [ht]; exact hP, hD⟩, hS.F ht⟩) hS.2.2 (Nat.le_refl _) (Nat.le_refl _)
  · intro pc ik is ic sa E text W1 lv d0 d3 d4 d6 d9 hfit hk hini hstr hat hgood hpx r1 r2 r3 r4 r5 r6 H locs ls hP hD hS hl
    refine vx_throwS (rest := []) (names := xNs) B.exec B.bytes hst hown hfit xk_fitN (atoms_spec (ws := wsC) B.pre _ hk) (atoms_spec (ws := wsC) B.pre _ hini) hstr hat hgood hQ.1 hQ.2 hS (hl.1.trans hml.symm) d0 d3 d4 d6 d9 (fun x hx => (hno x hx).elim) r1 (by simpa using r2) (by simpa using r3) (by simpa using r4) B.notSynchronized (fun t _ h1 h2 => ?_) hS.2.2 (by simpa using r5) (by simpa using r6)
    exact ⟨W1, trivial, ⟨hpx, hP.kept (fun k x hx => h2 x.1 ((hP k x hx).lt)), hD⟩, ⟨Nat.le_trans hS.1 h1, fun q g1 g2 => (h2 q (Nat.lt_of_lt_of_le g1 hS.1)).trans (hS.2.1 q g1 g2)⟩⟩
theorem xEX_v {post : va_W → Prop} {px : String → va_W → Prop} (hst : l.stackTraces = false) (hy : plainName y.cls = true) (hw : wsC = Cond.code y cc nL (none) :: ws') (hav : (lg_sl av).length ≤ nL)
    (body : ∀ (p : Program) (e : Env) (s : State) (m : MethodId) (args : Array Value) (below : List Frame) (meth : Method) (c : Code) (A : Nat → Prop) (Q : State → Prop), XF p s m args c cc nL wsC y.cls D tys A → XG l s meth A → (∀ (pc : Nat) (W1 : va_W) (lv : List (Nat × Value)), decode cc pc = .ok (.return_, 1) → post W1 → AW p l e rm s m args below meth c nL D A mc ms Q W1 lv pc []) → (∀ (pc : Nat) (E : String) (W1 : va_W) (lv : List (Nat × Value)) (st : List Value), px E W1 → AX p l e rm s m args below meth c nL D A mc ms Q W1 lv pc st E) → (∀ (pc ik is ic sa : Nat) (E text : String) (W1 : va_W) (lv : List (Nat × Value)), decode cc pc = .ok (.new ik, 3) → decode cc (pc + 3) = .ok (.dup, 1) → decode cc (pc + 4) = .ok (.ldc is, 2) → decode cc (pc + 6) = .ok (.invokespecial ic, 3) → decode cc (pc + 9) = .ok (.athrow, 1) → Bundle.fit E = true → Cond.classLink y.cls ik E ∈ wsC → Cond.initialized E ∈ wsC → vk_R y.cls is text sa s → (∀ w ∈ vx_atS y.cls ic E xNs, w.before args s = true) → (∀ w ∈ Cond.classLink y.cls ik E :: Cond.initialized E :: vx_atS y.cls ic E xNs, vx_ot w = true) → px E W1 → 6 ≤ rm.frames → 82 ≤ rm.locals → 1 ≤ rm.cells → 6 ≤ rm.slots → 1 ≤ mc → 6 ≤ ms → AW p l e rm s m args below meth c nL D A 0 0 Q W1 lv pc []) → AW p l e rm s m args below meth c nL D A 0 0 Q W0 (lv_args 0 av) 0 []) : xXv l y wsC rm D tys W0 av mc ms post px := by
  intro sz
  refine vx_ofW (cc := cc) (maxL := nL) (ret := none) hy hw ?_
  intro p e s m args below meth c s₁ B hml hno hv
  obtain ⟨rfl, ⟨hsz, hP, hK, hD0, hZ⟩, hT, hQ⟩ := hv
  subst hsz
  have hown : s.vm.findClass y.cls = some m.cls := findClass_of_methodNamed B.named
  rw [lg_entry_eq]
  refine body p e s m _ below meth c (va_A W0 s.heap.size) _ ⟨B.exec, B.bytes, hml, hown, atoms_spec (ws := wsC) B.pre, hK, fun q h => Or.inr h, hZ⟩ ⟨hst, B.notSynchronized, hT, hQ⟩ ?_ ?_ ?_ s.heap [] _ hP (hD0.self (sz := s.heap.size)) va_S.rf (lv_entry av (n := nL) hav)
  · intro pc W1 lv hdg hpost H locs ls hP hD hS hl
    exact vx_ret (W.vret B.exec B.bytes B.returns (fun t ht hW => ⟨⟨W1, rfl, hpost, by rw [ht]; exact hP, hD⟩, hS.F ht⟩) hS.2.2 hdg B.notSynchronized)
  · intro pc E W1 lv st hpx H locs ls q ce hP hD hS hl hce hcv hcl
    exact vx_out (fun x hx => (hno x hx).elim) B.notSynchronized hce hcv hcl (fun t ht _ => ⟨W1, trivial, ⟨hpx, by rw [ht]; exact hP, hD⟩, hS.F ht⟩) hS.2.2 (Nat.le_refl _) (Nat.le_refl _)
  · intro pc ik is ic sa E text W1 lv d0 d3 d4 d6 d9 hfit hk hini hstr hat hgood hpx r1 r2 r3 r4 r5 r6 H locs ls hP hD hS hl
    refine vx_throwS (rest := []) (names := xNs) B.exec B.bytes hst hown hfit xk_fitN (atoms_spec (ws := wsC) B.pre _ hk) (atoms_spec (ws := wsC) B.pre _ hini) hstr hat hgood hQ.1 hQ.2 hS (hl.1.trans hml.symm) d0 d3 d4 d6 d9 (fun x hx => (hno x hx).elim) r1 (by simpa using r2) (by simpa using r3) (by simpa using r4) B.notSynchronized (fun t _ h1 h2 => ?_) hS.2.2 (by simpa using r5) (by simpa using r6)
    exact ⟨W1, trivial, ⟨hpx, hP.kept (fun k x hx => h2 x.1 ((hP k x hx).lt)), hD⟩, ⟨Nat.le_trans hS.1 h1, fun q g1 g2 => (h2 q (Nat.lt_of_lt_of_le g1 hS.1)).trans (hS.2.1 q g1 g2)⟩⟩
end XMETX
section XCALLX
variable {p : Program} {l : Launch} {e : Env} {R : Room} {s : State} {m : MethodId} {args : Array Value} {below : List Frame} {meth : Method} {c : Code} {Q : State → Prop}
variable {cc : ByteArray} {nL : Nat} {Ts : List Cond} {own : String} {D : va_G} {tys : List (ClassId × FieldType)} {A : Nat → Prop} {cells slots : Nat}
variable {ws wr Wc : va_W} {lv : List (Nat × Value)} {pc : Nat} {st rest : List Value}
variable {y : MethodName} {C host : String} {T : u_T} {N ci q0 b index n maxL mc ms : Nat} {fs : List Value} {bytes : ByteArray} {wsC : List Cond} {rm : Room} {As : List Value}

theorem xr_callXVi {post : Int32 → va_W → Prop} {px : String → va_W → Prop} (F : XF p s m args c cc nL Ts own D tys A) (G : XG l s meth A) (hM : xXi l y wsC rm D tys Wc (.ref b :: As) mc ms post px) (cw : CallW R s args own C index y bytes maxL (some .int) wsC rm mc ms n) (hrc : Wc[q0]? = some (b, .inr (ci, fs))) (hci : vwCl[ci]? = some (C, T, N)) (isC isR : List Nat) (hC : isC.map (fun i => ws[i]?) = Wc.map some) (hR : isR.map (fun i => ws[i]?) = wr.map some) (hnC : va_nd isC = true) (hnR : va_nd isR = true) (hdis : ∀ i ∈ isR, i ∉ isC) (hn : As.length = n) (hst : st = As.reverse ++ .ref b :: rest) (hW : (rest.map fun v => v.category).sum ≤ 8) (hdg : decode cc pc = .ok (.invokevirtual index, 3)) (hf : cells + mc ≤ R.cells ∧ slots + ms ≤ R.slots)
    (kx : ∀ (E : String) (W1 : va_W), px E W1 → AX p l e R s m args below meth c nL D A (cells + mc) (slots + ms) Q (wr ++ W1) lv pc rest E)
    (kk : ∀ (r : Int32) (W1 : va_W), post r W1 → AW p l e R s m args below meth c nL D A (cells + mc) (slots + ms) Q (wr ++ W1) lv (pc + 3) (.int r :: rest)) : AW p l e R s m args below meth c nL D A (cells) (slots) Q (ws) lv (pc) (st) := by
  intro H locs ls hP hD hS hl
  subst hst
  have hPc := xk_psub hP isC hC
  have hDc := hD.sub isC hnC hC
  have hFc := va_free hD hS F.hA isC hC
  refine vx_calli (vx_runV (As := As) (rest := rest) F.fix (hM H.size) cw ⟨xk_blindX, va_recv F.hK hPc hci hrc, fun U hU hW => ⟨rfl, ⟨by rw [hU], by rw [hU]; exact hPc, va_K.moved hW.alike F.hK, hDc.weaken (fun _ _ _ _ => trivial), xk_nwarm hW F.hZ⟩, xT.warm hW G.2.2.1, xQ.moved hW.alike (by rw [hU]; exact (G.2.2.2.kept hS.2.1).narrow hFc)⟩⟩ rfl hn hl.1 rfl (lv_room hW) hdg hf) hS (fun q _ h => hFc q h) hFc (fun q _ h => hFc q h) (fun E ce q9 W1 t H1 locs1 ht hvm _ hB hz1 hk1 hS1 hce hcv hcl => ?_) (fun r W1 t H1 locs1 ht hvm hw hB hz1 hk1 hS1 => ?_)
  · obtain ⟨hpx, hP1, hD1⟩ := hB
    rw [ht] at hP1
    obtain ⟨hP2, hD2⟩ := va_join hP hD isC isR hC hR hnR hdis hk1 hFc hP1 hD1
    exact kx E W1 hpx H1 locs1 ls q9 ce hP2 hD2 hS1 hl hce hcv hcl
  · obtain ⟨hP1, hD1⟩ := hB
    rw [ht] at hP1
    obtain ⟨hP2, hD2⟩ := va_join hP hD isC isR hC hR hnR hdis hk1 hFc hP1 hD1
    exact kk r W1 hw H1 locs1 ls hP2 hD2 hS1 hl
theorem xr_callXVz {post : Int32 → va_W → Prop} {px : String → va_W → Prop} (F : XF p s m args c cc nL Ts own D tys A) (G : XG l s meth A) (hM : xXi l y wsC rm D tys Wc (.ref b :: As) mc ms post px) (cw : CallW R s args own C index y bytes maxL (some .boolean) wsC rm mc ms n) (hrc : Wc[q0]? = some (b, .inr (ci, fs))) (hci : vwCl[ci]? = some (C, T, N)) (isC isR : List Nat) (hC : isC.map (fun i => ws[i]?) = Wc.map some) (hR : isR.map (fun i => ws[i]?) = wr.map some) (hnC : va_nd isC = true) (hnR : va_nd isR = true) (hdis : ∀ i ∈ isR, i ∉ isC) (hn : As.length = n) (hst : st = As.reverse ++ .ref b :: rest) (hW : (rest.map fun v => v.category).sum ≤ 8) (hdg : decode cc pc = .ok (.invokevirtual index, 3)) (hf : cells + mc ≤ R.cells ∧ slots + ms ≤ R.slots)
    (kx : ∀ (E : String) (W1 : va_W), px E W1 → AX p l e R s m args below meth c nL D A (cells + mc) (slots + ms) Q (wr ++ W1) lv pc rest E)
    (kk : ∀ (r : Int32) (W1 : va_W), post r W1 → AW p l e R s m args below meth c nL D A (cells + mc) (slots + ms) Q (wr ++ W1) lv (pc + 3) (.int r :: rest)) : AW p l e R s m args below meth c nL D A (cells) (slots) Q (ws) lv (pc) (st) := by
  intro H locs ls hP hD hS hl
  subst hst
  have hPc := xk_psub hP isC hC
  have hDc := hD.sub isC hnC hC
  have hFc := va_free hD hS F.hA isC hC
  refine vx_calli (vx_runV (As := As) (rest := rest) F.fix (hM H.size) cw ⟨xk_blindX, va_recv F.hK hPc hci hrc, fun U hU hW => ⟨rfl, ⟨by rw [hU], by rw [hU]; exact hPc, va_K.moved hW.alike F.hK, hDc.weaken (fun _ _ _ _ => trivial), xk_nwarm hW F.hZ⟩, xT.warm hW G.2.2.1, xQ.moved hW.alike (by rw [hU]; exact (G.2.2.2.kept hS.2.1).narrow hFc)⟩⟩ rfl hn hl.1 rfl (lv_room hW) hdg hf) hS (fun q _ h => hFc q h) hFc (fun q _ h => hFc q h) (fun E ce q9 W1 t H1 locs1 ht hvm _ hB hz1 hk1 hS1 hce hcv hcl => ?_) (fun r W1 t H1 locs1 ht hvm hw hB hz1 hk1 hS1 => ?_)
  · obtain ⟨hpx, hP1, hD1⟩ := hB
    rw [ht] at hP1
    obtain ⟨hP2, hD2⟩ := va_join hP hD isC isR hC hR hnR hdis hk1 hFc hP1 hD1
    exact kx E W1 hpx H1 locs1 ls q9 ce hP2 hD2 hS1 hl hce hcv hcl
  · obtain ⟨hP1, hD1⟩ := hB
    rw [ht] at hP1
    obtain ⟨hP2, hD2⟩ := va_join hP hD isC isR hC hR hnR hdis hk1 hFc hP1 hD1
    exact kk r W1 hw H1 locs1 ls hP2 hD2 hS1 hl
theorem xr_callXSv {post : va_W → Prop} {px : String → va_W → Prop} (F : XF p s m args c cc nL Ts own D tys A) (G : XG l s meth A) (hM : xXv l y wsC rm D tys Wc As mc ms post px) (cw : CallB R s args own index y bytes maxL (none) wsC rm mc ms n ∧ (Cond.static y).before args s = true) (isC isR : List Nat) (hC : isC.map (fun i => ws[i]?) = Wc.map some) (hR : isR.map (fun i => ws[i]?) = wr.map some) (hnC : va_nd isC = true) (hnR : va_nd isR = true) (hdis : ∀ i ∈ isR, i ∉ isC) (hn : As.length = n) (hst : st = As.reverse ++ rest) (hW : (rest.map fun v => v.category).sum ≤ 8) (hdg : decode cc pc = .ok (.invokestatic index, 3)) (hf : cells + mc ≤ R.cells ∧ slots + ms ≤ R.slots)
    (kx : ∀ (E : String) (W1 : va_W), px E W1 → AX p l e R s m args below meth c nL D A (cells + mc) (slots + ms) Q (wr ++ W1) lv pc rest E)
    (kk : ∀ W1 : va_W, post W1 → AW p l e R s m args below meth c nL D A (cells + mc) (slots + ms) Q (wr ++ W1) lv (pc + 3) (rest)) : AW p l e R s m args below meth c nL D A (cells) (slots) Q (ws) lv (pc) (st) := by
  intro H locs ls hP hD hS hl
  subst hst
  have hPc := xk_psub hP isC hC
  have hDc := hD.sub isC hnC hC
  have hFc := va_free hD hS F.hA isC hC
  refine vx_callv (vx_runS (As := As) (rest := rest) F.fix (hM H.size) cw ⟨xk_blindX, fun U hU hW => ⟨rfl, ⟨by rw [hU], by rw [hU]; exact hPc, va_K.moved hW.alike F.hK, hDc.weaken (fun _ _ _ _ => trivial), xk_nwarm hW F.hZ⟩, xT.warm hW G.2.2.1, xQ.moved hW.alike (by rw [hU]; exact (G.2.2.2.kept hS.2.1).narrow hFc)⟩⟩ rfl hn hl.1 rfl (lv_room hW) hdg hf) hS (fun q _ h => hFc q h) hFc (fun q _ h => hFc q h) (fun E ce q9 W1 t H1 locs1 ht hvm _ hB hz1 hk1 hS1 hce hcv hcl => ?_) (fun W1 t H1 locs1 ht hvm hw hB hz1 hk1 hS1 => ?_)
  · obtain ⟨hpx, hP1, hD1⟩ := hB
    rw [ht] at hP1
    obtain ⟨hP2, hD2⟩ := va_join hP hD isC isR hC hR hnR hdis hk1 hFc hP1 hD1
    exact kx E W1 hpx H1 locs1 ls q9 ce hP2 hD2 hS1 hl hce hcv hcl
  · obtain ⟨hP1, hD1⟩ := hB
    rw [ht] at hP1
    obtain ⟨hP2, hD2⟩ := va_join hP hD isC isR hC hR hnR hdis hk1 hFc hP1 hD1
    exact kk W1 hw H1 locs1 ls hP2 hD2 hS1 hl
theorem xr_callXHi {hh : List (Nat × Nat × Nat × Nat)} {post : Int32 → va_W → Prop} {px : String → va_W → Prop} (F : XF p s m args c cc nL Ts own D tys A) (G : XG l s meth A) (hM : xXi l y wsC rm D tys Wc As mc ms post px) (cw : vx_CSW R s args own index y bytes maxL (some .int) hh wsC rm mc ms n) (isC isR : List Nat) (hC : isC.map (fun i => ws[i]?) = Wc.map some) (hR : isR.map (fun i => ws[i]?) = wr.map some) (hnC : va_nd isC = true) (hnR : va_nd isR = true) (hdis : ∀ i ∈ isR, i ∉ isC) (hn : As.length = n) (hst : st = As.reverse ++ rest) (hW : (rest.map fun v => v.category).sum ≤ 8) (hdg : decode cc pc = .ok (.invokestatic index, 3)) (hf : cells + mc ≤ R.cells ∧ slots + ms ≤ R.slots)
    (kx : ∀ (E : String) (W1 : va_W), px E W1 → AX p l e R s m args below meth c nL D A (cells + mc) (slots + ms) Q (wr ++ W1) lv pc rest E)
    (kk : ∀ (r : Int32) (W1 : va_W), post r W1 → AW p l e R s m args below meth c nL D A (cells + mc) (slots + ms) Q (wr ++ W1) lv (pc + 3) (.int r :: rest)) : AW p l e R s m args below meth c nL D A (cells) (slots) Q (ws) lv (pc) (st) := by
  intro H locs ls hP hD hS hl
  subst hst
  have hPc := xk_psub hP isC hC
  have hDc := hD.sub isC hnC hC
  have hFc := va_free hD hS F.hA isC hC
  refine vx_calli (vx_runSX (As := As) (rest := rest) F.fix (hM H.size) cw ⟨xk_blindX, fun U hU hW => ⟨rfl, ⟨by rw [hU], by rw [hU]; exact hPc, va_K.moved hW.alike F.hK, hDc.weaken (fun _ _ _ _ => trivial), xk_nwarm hW F.hZ⟩, xT.warm hW G.2.2.1, xQ.moved hW.alike (by rw [hU]; exact (G.2.2.2.kept hS.2.1).narrow hFc)⟩⟩ rfl hn hl.1 rfl (lv_room hW) hdg hf) hS (fun q _ h => hFc q h) hFc (fun q _ h => hFc q h) (fun E ce q9 W1 t H1 locs1 ht hvm _ hB hz1 hk1 hS1 hce hcv hcl => ?_) (fun r W1 t H1 locs1 ht hvm hw hB hz1 hk1 hS1 => ?_)
  · obtain ⟨hpx, hP1, hD1⟩ := hB
    rw [ht] at hP1
    obtain ⟨hP2, hD2⟩ := va_join hP hD isC isR hC hR hnR hdis hk1 hFc hP1 hD1
    exact kx E W1 hpx H1 locs1 ls q9 ce hP2 hD2 hS1 hl hce hcv hcl
  · obtain ⟨hP1, hD1⟩ := hB
    rw [ht] at hP1
    obtain ⟨hP2, hD2⟩ := va_join hP hD isC isR hC hR hnR hdis hk1 hFc hP1 hD1
    exact kk r W1 hw H1 locs1 ls hP2 hD2 hS1 hl
/-- caught here -/
theorem xr_catch (F : XF p s m args c cc nL Ts own D tys A) (G : XG l s meth A) {hh : List (Nat × Nat × Nat × Nat)} (htab : c.exceptionTable.toList = tableOf hh) {E : String} (pre : List ExceptionTableEntry) (x : ExceptionTableEntry) (suf : List ExceptionTableEntry) (hsplit : tableOf hh = pre ++ x :: suf)
    (hpass : ∀ z ∈ pre, covers z pc = false ∨ (z.catchType ≠ 0 ∧ ∃ nm : String, Cond.classLink own z.catchType nm ∈ Ts ∧ (E, nm) ∈ xTn)) (hx : covers x pc = true) (h0 : x.catchType ≠ 0) (hlink : Cond.classLink own x.catchType E ∈ Ts) (hE : E ∈ xTc)
    (kk : ∀ q : Nat, AW p l e R s m args below meth c nL D A cells slots Q ws lv x.handlerPc [.ref q]) : AX p l e R s m args below meth c nL D A cells slots Q ws lv pc rest E := by
  intro H locs ls q ce hP hD hS hl hce hcv hcl
  exact vx_catch F.owns pre x suf (htab.trans hsplit) (fun z hz => by
    rcases hpass z hz with h | ⟨h1, nm, h2, h3⟩
    · exact Or.inl h
    · exact Or.inr ⟨h1, nm, F.hts _ h2, G.2.2.1.2.1 _ h3⟩) hx h0 (F.hts _ hlink) (va_Nw.use rfl (G.2.2.1.1 E hE)) hce hcv hcl (kk q H locs ls hP hD hS hl)
end XCALLX
