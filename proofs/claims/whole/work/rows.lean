section
-- ===== PART A: goes FIRST, ahead of the names: the tables' words, and 'selects' of the private methods out of them =====
/-- a private method of a class that the tables say can be made, by its rows of tables_1 -/
def lw_okq (q : MethodName × Nat) : Prop := (q.1.cls ≠ "java/lang/invoke/MethodHandle" ∧ q.1.cls ≠ "java/lang/invoke/VarHandle") ∧ Cond.instantiable q.1.cls q.2 ∈ tables_1 ∧ Cond.privateMethod q.1 ∈ tables_1 ∧ Cond.instanceMethod q.1 ∈ tables_1
theorem lw_p0 : lw_okq (⟨"java/lang/Throwable", "fillInStackTrace", "(I)Ljava/lang/Throwable;"⟩, 6) := ⟨⟨by decide +kernel, by decide +kernel⟩, List.mem_of_getElem? (i := 273) (by decide +kernel), List.mem_of_getElem? (i := 271) (by decide +kernel), List.mem_of_getElem? (i := 272) (by decide +kernel)⟩
theorem lw_p1 : lw_okq (⟨"LockBankModel", "no", "(I)I"⟩, 9) := ⟨⟨by decide +kernel, by decide +kernel⟩, List.mem_of_getElem? (i := 448) (by decide +kernel), List.mem_of_getElem? (i := 556) (by decide +kernel), List.mem_of_getElem? (i := 557) (by decide +kernel)⟩
theorem lw_p2 : lw_okq (⟨"LockBankModel", "isBarge", "(I)Z"⟩, 9) := ⟨⟨by decide +kernel, by decide +kernel⟩, List.mem_of_getElem? (i := 448) (by decide +kernel), List.mem_of_getElem? (i := 608) (by decide +kernel), List.mem_of_getElem? (i := 609) (by decide +kernel)⟩
theorem lw_p3 : lw_okq (⟨"LockBankModel", "bargeTold", "(II)I"⟩, 9) := ⟨⟨by decide +kernel, by decide +kernel⟩, List.mem_of_getElem? (i := 448) (by decide +kernel), List.mem_of_getElem? (i := 616) (by decide +kernel), List.mem_of_getElem? (i := 617) (by decide +kernel)⟩
theorem lw_p4 : lw_okq (⟨"LockBankModel", "lockOf", "(LLockBankModel$State;I)I"⟩, 9) := ⟨⟨by decide +kernel, by decide +kernel⟩, List.mem_of_getElem? (i := 448) (by decide +kernel), List.mem_of_getElem? (i := 620) (by decide +kernel), List.mem_of_getElem? (i := 621) (by decide +kernel)⟩
theorem lw_p5 : lw_okq (⟨"LockBankModel", "poundTold", "(II)I"⟩, 9) := ⟨⟨by decide +kernel, by decide +kernel⟩, List.mem_of_getElem? (i := 448) (by decide +kernel), List.mem_of_getElem? (i := 628) (by decide +kernel), List.mem_of_getElem? (i := 629) (by decide +kernel)⟩
theorem lw_p6 : lw_okq (⟨"LockBankModel", "bargesAt", "(I)I"⟩, 9) := ⟨⟨by decide +kernel, by decide +kernel⟩, List.mem_of_getElem? (i := 448) (by decide +kernel), List.mem_of_getElem? (i := 632) (by decide +kernel), List.mem_of_getElem? (i := 633) (by decide +kernel)⟩
theorem lw_p7 : lw_okq (⟨"LockBankModel", "lockTold", "(II)I"⟩, 9) := ⟨⟨by decide +kernel, by decide +kernel⟩, List.mem_of_getElem? (i := 448) (by decide +kernel), List.mem_of_getElem? (i := 640) (by decide +kernel), List.mem_of_getElem? (i := 641) (by decide +kernel)⟩
theorem lw_p8 : lw_okq (⟨"LockBankModel", "waitingAt", "(I)I"⟩, 9) := ⟨⟨by decide +kernel, by decide +kernel⟩, List.mem_of_getElem? (i := 448) (by decide +kernel), List.mem_of_getElem? (i := 644) (by decide +kernel), List.mem_of_getElem? (i := 645) (by decide +kernel)⟩
theorem lw_p9 : lw_okq (⟨"LockBankModel", "nextAt", "(LLockBankModel$State;I)I"⟩, 9) := ⟨⟨by decide +kernel, by decide +kernel⟩, List.mem_of_getElem? (i := 448) (by decide +kernel), List.mem_of_getElem? (i := 648) (by decide +kernel), List.mem_of_getElem? (i := 649) (by decide +kernel)⟩
theorem lw_p10 : lw_okq (⟨"LockBankModel", "isWaiting", "(LLockBankModel$State;II)Z"⟩, 9) := ⟨⟨by decide +kernel, by decide +kernel⟩, List.mem_of_getElem? (i := 448) (by decide +kernel), List.mem_of_getElem? (i := 652) (by decide +kernel), List.mem_of_getElem? (i := 653) (by decide +kernel)⟩
theorem lw_p11 : lw_okq (⟨"LockBankModel", "canServe", "(LLockBankModel$State;II)Z"⟩, 9) := ⟨⟨by decide +kernel, by decide +kernel⟩, List.mem_of_getElem? (i := 448) (by decide +kernel), List.mem_of_getElem? (i := 656) (by decide +kernel), List.mem_of_getElem? (i := 657) (by decide +kernel)⟩
theorem lw_p12 : lw_okq (⟨"LockBankModel", "fits", "(LLockBankModel$State;II)Z"⟩, 9) := ⟨⟨by decide +kernel, by decide +kernel⟩, List.mem_of_getElem? (i := 448) (by decide +kernel), List.mem_of_getElem? (i := 660) (by decide +kernel), List.mem_of_getElem? (i := 661) (by decide +kernel)⟩
theorem lw_p13 : lw_okq (⟨"LockBankModel", "goesDown", "(LLockBankModel$State;I)Z"⟩, 9) := ⟨⟨by decide +kernel, by decide +kernel⟩, List.mem_of_getElem? (i := 448) (by decide +kernel), List.mem_of_getElem? (i := 664) (by decide +kernel), List.mem_of_getElem? (i := 665) (by decide +kernel)⟩
theorem lw_p14 : lw_okq (⟨"LockBankModel", "counted", "(LLockBankModel$State;I)I"⟩, 9) := ⟨⟨by decide +kernel, by decide +kernel⟩, List.mem_of_getElem? (i := 448) (by decide +kernel), List.mem_of_getElem? (i := 672) (by decide +kernel), List.mem_of_getElem? (i := 673) (by decide +kernel)⟩
theorem lw_p15 : lw_okq (⟨"LockBankModel", "come", "(LLockBankModel$State;)I"⟩, 9) := ⟨⟨by decide +kernel, by decide +kernel⟩, List.mem_of_getElem? (i := 448) (by decide +kernel), List.mem_of_getElem? (i := 676) (by decide +kernel), List.mem_of_getElem? (i := 677) (by decide +kernel)⟩
def lw_privs_1 : List (MethodName × Nat) := [(⟨"java/lang/Throwable", "fillInStackTrace", "(I)Ljava/lang/Throwable;"⟩, 6), (⟨"LockBankModel", "no", "(I)I"⟩, 9), (⟨"LockBankModel", "isBarge", "(I)Z"⟩, 9), (⟨"LockBankModel", "bargeTold", "(II)I"⟩, 9), (⟨"LockBankModel", "lockOf", "(LLockBankModel$State;I)I"⟩, 9), (⟨"LockBankModel", "poundTold", "(II)I"⟩, 9), (⟨"LockBankModel", "bargesAt", "(I)I"⟩, 9), (⟨"LockBankModel", "lockTold", "(II)I"⟩, 9), (⟨"LockBankModel", "waitingAt", "(I)I"⟩, 9), (⟨"LockBankModel", "nextAt", "(LLockBankModel$State;I)I"⟩, 9), (⟨"LockBankModel", "isWaiting", "(LLockBankModel$State;II)Z"⟩, 9), (⟨"LockBankModel", "canServe", "(LLockBankModel$State;II)Z"⟩, 9), (⟨"LockBankModel", "fits", "(LLockBankModel$State;II)Z"⟩, 9), (⟨"LockBankModel", "goesDown", "(LLockBankModel$State;I)Z"⟩, 9), (⟨"LockBankModel", "counted", "(LLockBankModel$State;I)I"⟩, 9), (⟨"LockBankModel", "come", "(LLockBankModel$State;)I"⟩, 9)]
theorem lw_r1 : ∀ q ∈ lw_privs_1, lw_okq q := List.forall_mem_cons.mpr ⟨lw_p0, List.forall_mem_cons.mpr ⟨lw_p1, List.forall_mem_cons.mpr ⟨lw_p2, List.forall_mem_cons.mpr ⟨lw_p3, List.forall_mem_cons.mpr ⟨lw_p4, List.forall_mem_cons.mpr ⟨lw_p5, List.forall_mem_cons.mpr ⟨lw_p6, List.forall_mem_cons.mpr ⟨lw_p7, List.forall_mem_cons.mpr ⟨lw_p8, List.forall_mem_cons.mpr ⟨lw_p9, List.forall_mem_cons.mpr ⟨lw_p10, List.forall_mem_cons.mpr ⟨lw_p11, List.forall_mem_cons.mpr ⟨lw_p12, List.forall_mem_cons.mpr ⟨lw_p13, List.forall_mem_cons.mpr ⟨lw_p14, List.forall_mem_cons.mpr ⟨lw_p15, fun _ h => absurd h List.not_mem_nil⟩⟩⟩⟩⟩⟩⟩⟩⟩⟩⟩⟩⟩⟩⟩⟩
theorem lw_p16 : lw_okq (⟨"LockBankModel", "passAll", "(LLockBankModel$State;I)I"⟩, 9) := ⟨⟨by decide +kernel, by decide +kernel⟩, List.mem_of_getElem? (i := 448) (by decide +kernel), List.mem_of_getElem? (i := 692) (by decide +kernel), List.mem_of_getElem? (i := 693) (by decide +kernel)⟩
theorem lw_p17 : lw_okq (⟨"LockBankModel", "pass", "(LLockBankModel$State;)I"⟩, 9) := ⟨⟨by decide +kernel, by decide +kernel⟩, List.mem_of_getElem? (i := 448) (by decide +kernel), List.mem_of_getElem? (i := 696) (by decide +kernel), List.mem_of_getElem? (i := 697) (by decide +kernel)⟩
theorem lw_p18 : lw_okq (⟨"LockBankModel", "grind", "(LLockBankModel$State;)V"⟩, 9) := ⟨⟨by decide +kernel, by decide +kernel⟩, List.mem_of_getElem? (i := 448) (by decide +kernel), List.mem_of_getElem? (i := 700) (by decide +kernel), List.mem_of_getElem? (i := 701) (by decide +kernel)⟩
theorem lw_p19 : lw_okq (⟨"LockBankModel", "serve", "(LLockBankModel$State;II)V"⟩, 9) := ⟨⟨by decide +kernel, by decide +kernel⟩, List.mem_of_getElem? (i := 448) (by decide +kernel), List.mem_of_getElem? (i := 705) (by decide +kernel), List.mem_of_getElem? (i := 706) (by decide +kernel)⟩
def lw_privs_2 : List (MethodName × Nat) := [(⟨"LockBankModel", "passAll", "(LLockBankModel$State;I)I"⟩, 9), (⟨"LockBankModel", "pass", "(LLockBankModel$State;)I"⟩, 9), (⟨"LockBankModel", "grind", "(LLockBankModel$State;)V"⟩, 9), (⟨"LockBankModel", "serve", "(LLockBankModel$State;II)V"⟩, 9)]
theorem lw_r2 : ∀ q ∈ lw_privs_2, lw_okq q := List.forall_mem_cons.mpr ⟨lw_p16, List.forall_mem_cons.mpr ⟨lw_p17, List.forall_mem_cons.mpr ⟨lw_p18, List.forall_mem_cons.mpr ⟨lw_p19, fun _ h => absurd h List.not_mem_nil⟩⟩⟩⟩
def lw_privs : List (MethodName × Nat) := lw_privs_1 ++ (lw_privs_2)
def lw_tbl : List Cond := k2_sels lw_privs ++ tables_1
theorem lw_privs_ok : ∀ q ∈ lw_privs, lw_okq q := by
  show ∀ q ∈ lw_privs_1 ++ (lw_privs_2), lw_okq q
  exact List.forall_mem_append.mpr ⟨lw_r1, lw_r2⟩
/-- the streams that the claim lets the run draw from -/
abbrev lw_cs : List Choice := [Jvm.Choice.named "NaN.bits"]
theorem lw_bits : nanBits ∈ lw_cs := by first | decide | exact List.mem_cons_self | simp [lw_cs, nanBits]
-- ===== end of PART A; then your names; then what follows =====
end
section
/-! ===== BEGIN words of one list among another's, by their places ===== -/
theorem goodIn_r {big : List Cond} (ws : List Cond) (ps : List Nat) (hp : ws = ps.filterMap (fun i => big[i]?)) (h : ws.all goodWord = true) : GoodIn big ws := by
  intro w hw
  have h1 := List.all_eq_true.mp h w hw
  rw [hp] at hw
  obtain ⟨i, -, hi⟩ := List.mem_filterMap.mp hw
  have hm : w ∈ big := by first | exact List.mem_of_getElem? hi | exact List.getElem?_mem hi
  exact ⟨hm, good_of_word h1⟩
theorem goodIn_app {big a b : List Cond} (ha : GoodIn big a) (hb : GoodIn big b) : GoodIn big (a ++ b) := fun w h => (List.mem_append.mp h).elim (ha w) (hb w)
theorem goodIn_ca {big a b : List Cond} {c : Cond} (ha : GoodIn big (c :: a)) (hb : GoodIn big b) : GoodIn big (c :: (a ++ b)) := fun w h => (List.mem_cons.mp h).elim (fun e => ha w (List.mem_cons.mpr (Or.inl e))) (fun h => (List.mem_append.mp h).elim (fun h => ha w (List.mem_cons.mpr (Or.inr h))) (hb w))
theorem goodIn_sub {big ws : List Cond} (hm : ∀ w ∈ ws, w ∈ big) (h : ws.all goodWord = true) : GoodIn big ws := fun w hw => ⟨hm w hw, good_of_word (List.all_eq_true.mp h w hw)⟩
/-! ===== END ===== -/

/-! ===== BEGIN exceptions that leave a method, and their catching by the caller (launches without stack traces) ===== -/
section VXA
/-! The laws vx_back, vx_callV, vx_callS, vx_callSW, vx_throw0, vx_throwS follow proofs of the library, with one case more: JvmDerived/Free/Laws.lean (Back.of_free), Shelf42/LK1.lean (callV, callS), Shelf/KitTraced.lean (throwNew0V, throwNewS). -/
/-- where a method has thrown q: the class by its name, the cell, what was written, the world -/
def vx_T (XC : String → State → State → Prop) (st : State) (q : Addr) (t : State) (mc ms : Nat) (free : Addr → Prop) : Prop :=
  ∃ (E : String) (ce : Cell) (L : List Loc), XC E st t ∧ t.heap[q]? = some ce ∧ ce.vm = .none ∧ st.vm.findClass E = some ce.cls ∧ st.WarmedH t.vm ∧ st.sameButNew ({ t with vm := st.vm } : State) L mc ms ∧ ∀ z ∈ L, free z.base
def vx_Q (Qc : Array Value → State → Outcome → State → Prop) (XC : String → State → State → Prop) (mc ms : Nat) (free : Addr → Prop) : Array Value → State → Outcome → State → Prop := fun a st o t =>
  (Qc a st o t ∧ ∃ L, FrameEnd st o t L mc ms ∧ ∀ q ∈ L, free q.base) ∨ ∃ q, o = .threw q ∧ vx_T XC st q t mc ms free
/-- a callee that returns or throws -/
def vx_Met (l : Launch) (y : MethodName) (ws : List Cond) (rm : Room) (Pc : Array Value → State → Prop) (Qc : Array Value → State → Outcome → State → Prop) (XC : String → State → State → Prop) (mc ms : Nat) (free : Addr → Prop) : Prop :=
  MetFree l y (headSpec ws rm) Pc (fun _ _ _ _ _ => True) (vx_Q Qc XC mc ms free)
def vx_Post (XC : String → State → State → Prop) (mc ms : Nat) (free : Addr → Prop) : Pt → Array Value → Addr → Pt → Prop := fun A a q B =>
  ∃ (g : JFrame) (mk : MethodId) (t : State) (L : List Loc) (E : String) (ce : Cell), B.U.heap = t.heap ∧ B.U.vm = t.vm ∧ XC E (A.U.calling g mk a) t ∧ t.heap[q]? = some ce ∧ ce.vm = .none ∧ A.U.vm.findClass E = some ce.cls ∧ B.locs = A.locs ++ L ∧ (∀ z ∈ L, free z.base) ∧ B.cells = A.cells + mc ∧ B.slots = A.slots + ms
def vx_Back (l : Launch) (R : Room) (p : Program) (e : Env) (below : List Frame) (s : State) (sargs : Array Value) (y : MethodName) (len W9 : Nat)
    (Pre : Pt → Array Value → Prop) (Post : Pt → Array Value → Option Value → Pt → Prop) (PostX : Pt → Array Value → Addr → Pt → Prop) : Prop :=
  ∀ (m : MethodId) (meth : Method) (c : Code) (A : Pt) (g : JFrame) (ig : Instr) (mk : MethodId) (a : Array Value),
    Stand p l e R s m sargs below meth c A.U A.locs A.cells A.slots → g.method = m → g.locals.size = c.maxLocals → decode c.code g.pc = .ok (ig, len) →
    2 * g.monitorRoom + (g.stack.map fun v => v.category).sum ≤ W9 → A.U.methodNamed? y = some mk → Pre A a →
    (∃ (v : Option Value) (B : Pt), Stand p l e R s m sargs below meth c B.U B.locs B.cells B.slots ∧ Post A a v B ∧
      Steps p.tables e below (doInvoke e (A.U.setTop g) [] mk a).1 (B.U.setTop { g with pc := g.pc + len, stack := v.toList ++ g.stack })) ∨
    (∃ (q : Addr) (B : Pt), Stand p l e R s m sargs below meth c B.U B.locs B.cells B.slots ∧ PostX A a q B ∧
      Steps p.tables e below (doInvoke e (A.U.setTop g) [] mk a).1 ((B.U.setTop g).pushFrame (.throwing q)))
section Payer
variable {l : Launch} {R : Room} {p : Program} {e : Env} {below : List Frame} {s : State} {sargs : Array Value} {y : MethodName} {len W9 : Nat}
theorem vx_back {ws : List Cond} {rm : Room} {Pc : Array Value → State → Prop} {Qc : Array Value → State → Outcome → State → Prop} {XC : String → State → State → Prop} {mc ms : Nat} {free : Addr → Prop} {bytes : ByteArray} {maxL : Nat} {ret : Option FieldType}
    (hM : vx_Met l y ws rm Pc Qc XC mc ms free) (hblind : FrameBlind Pc) (hrc : rm.cells = mc) (hrs : rm.slots = ms)
    (hframes : rm.frames + 1 ≤ R.frames) (hlocals : W9 + (maxL + 11) + rm.locals ≤ R.locals)
    (hws : ∀ w ∈ ws, ∀ a' U, s.WarmedH U.vm → w.before a' U = true) (hcode : Cond.code y bytes maxL ret ∈ ws) (hinit : ∀ a' U, s.WarmedH U.vm → (Cond.initialized y.cls).before a' U = true) :
    vx_Back l R p e below s sargs y len W9 (PreOf R mc ms Pc) (PostOf Qc mc ms free) (vx_Post XC mc ms free) := by
  intro m meth c A g ig mk a X hg hsize hdg hW hn hp
  have h1 : (headSpec ws rm).pre.before a A.U = true := atoms_intro fun w hw => hws w hw _ _ X.warmed
  have h2 : (Cond.code y bytes maxL ret).before a A.U = true := hws _ hcode _ _ X.warmed
  have h3 : (Cond.initialized y.cls).before a A.U = true := hinit _ _ X.warmed
  have h4 : A.cells + (headSpec ws rm).room.cells ≤ R.cells := by rw [show (headSpec ws rm).room.cells = mc from hrc]; exact hp.1
  have h5 : A.slots + (headSpec ws rm).room.slots ≤ R.slots := by rw [show (headSpec ws rm).room.slots = ms from hrs]; exact hp.2.1
  have hPc : Pc a (A.U.calling g mk a) := hblind _ _ _ _ hp.2.2
  obtain ⟨U, Ls, c0, s0⟩ := A
  dsimp only [Pt.U, Pt.locs, Pt.cells, Pt.slots] at h1 h2 h3 h4 h5 X hn hPc ⊢
  obtain ⟨methY, cY, hmY, hcY, -, hlY, -, -, -, -⟩ := Cond.code_spec hn h2
  obtain ⟨kY, hkY, -⟩ := className_of_methodNamed hn
  have hinitY : kY.init = .initialized := Cond.initialized_spec (findClass_of_methodNamed hn) hkY h3
  have h : At U g.method c below := by rw [hg]; exact X.here
  have hlocals9 : W9 + (maxL + 11) + (headSpec ws rm).room.locals ≤ R.locals := hlocals
  have happ : (headSpec ws rm).appliesLoose y e.platform (U.calling g mk a) = true :=
    Spec.appliesLoose_calling (g := g) h hdg hn hkY hinitY
      (X.room_calling (g := g) (R' := (headSpec ws rm).room) hsize hmY hcY hframes (by rw [hlY]; omega) h4 h5) h1
  obtain ⟨mid, hmid⟩ := h.above
  have hfr : (U.setTop g).frames = (.java g :: mid) ++ below := by rw [State.frames_setTop' g h.top, hmid]; rfl
  obtain ⟨o, s₂, hsteps, -, hend, hq⟩ := Steps.callFree hM p X.admits X.cas X.clock (acts := []) hfr happ hPc trivial
  have hq' : vx_Q Qc XC mc ms free a (U.calling g mk a) o s₂ := hq
  rw [State.frames_setTop' g h.top] at hend
  obtain ⟨g₀, hg0⟩ := Option.isSome_iff_exists.mp h.top
  obtain ⟨r, hr⟩ := State.topJava?_eq_some.mp hg0
  have hr' : (({ U with heap := s₂.heap, slotsUsed := s₂.slotsUsed } : State).setVm s₂.vm).frames = .java g₀ :: r := hr
  rcases hq' with ⟨hqc, L, hfe, hL⟩ | ⟨q, rfl, E, ce, L, hx, hce, hcv, hcl, hW₂, hsm, hL⟩
  · obtain ⟨⟨v, rfl⟩, hW₂, e2, q2, q3, q4, q5, q6⟩ := id hfe
    have e3 : s₂ = ({ (U.calling g mk a).setFrames s₂.frames with heap := s₂.heap, slotsUsed := s₂.slotsUsed } : State).setVm s₂.vm := by
      have : s₂ = ({ s₂ with vm := (U.calling g mk a).vm } : State).setVm s₂.vm := rfl
      rw [e2] at this
      exact this
    obtain ⟨c₂, i₂, len₂, hc₂, hd₂, hf₂⟩ := hend
    have hW' : U.WarmedH s₂.vm := hW₂
    have hcc : c₂ = c := by
      have h1 : s₂.code? g.method = U.code? g.method := by
        rw [State.code?_eq, State.code?_eq, hW'.alike.method?]
      exact Option.some.inj (hc₂.symm.trans (h1.trans h.code))
    subst hcc
    have hlen : len₂ = len := by rw [hdg] at hd₂; cases hd₂; rfl
    subst hlen
    have hs₂ : s₂ = (({ U with heap := s₂.heap, slotsUsed := s₂.slotsUsed } : State).setVm s₂.vm).setTop { g with pc := g.pc + len₂, stack := v.toList ++ g.stack } := by
      refine e3.trans ?_
      rw [hf₂, State.calling_eq h.top, State.setFrames_setFrames, State.setTop_of_frames _ hr', hr]
      rfl
    have hsame : U.sameButNew ({ U with heap := s₂.heap, slotsUsed := s₂.slotsUsed } : State) L mc ms := by
      refine ⟨?_, q2, q3, q4, q5, q6⟩
      obtain ⟨t, ht, -⟩ := State.frames_cons hr
      show ({ U with heap := s₂.heap, slotsUsed := s₂.slotsUsed } : State) = { U.setFrames U.frames with heap := s₂.heap, slotsUsed := s₂.slotsUsed }
      rw [State.setFrames_self ht]
    subst hg
    refine Or.inl ⟨v, ⟨(({ U with heap := s₂.heap, slotsUsed := s₂.slotsUsed } : State).setVm s₂.vm), Ls ++ L, c0 + mc, s0 + ms⟩,
      ⟨X.admits, X.cas, X.clock, X.frames, X.room, X.hears, X.method, X.code, (X.here.setHeapUsed s₂.heap s₂.slotsUsed).setVm hW'.alike, X.tail, State.WarmedH.trans X.warmed hW', X.limits, X.bytes, X.same.trans (hsame.setVm s.vm)⟩,
      ⟨g, mk, s₂, L, rfl, rfl, hqc, rfl, hL, rfl, rfl⟩, ?_⟩
    show Steps p.tables e below _ ((({ U with heap := s₂.heap, slotsUsed := s₂.slotsUsed } : State).setVm s₂.vm).setTop { g with pc := g.pc + len₂, stack := v.toList ++ g.stack })
    rw [← hs₂]
    exact hsteps
  · obtain ⟨e2, q2, q3, q4, q5, q6⟩ := id hsm
    have e3 : s₂ = ({ (U.calling g mk a).setFrames s₂.frames with heap := s₂.heap, slotsUsed := s₂.slotsUsed } : State).setVm s₂.vm := by
      have : s₂ = ({ s₂ with vm := (U.calling g mk a).vm } : State).setVm s₂.vm := rfl
      rw [e2] at this
      exact this
    have hf₂ : s₂.frames = .throwing q :: .java g :: U.frames.tail := hend
    have hW' : U.WarmedH s₂.vm := hW₂
    have hs₂ : s₂ = ((({ U with heap := s₂.heap, slotsUsed := s₂.slotsUsed } : State).setVm s₂.vm).setTop g).pushFrame (.throwing q) := by
      refine e3.trans ?_
      rw [hf₂, State.calling_eq h.top, State.setFrames_setFrames, State.pushFrame, State.frames_setTop _ hr', State.setTop_of_frames _ hr', State.setFrames_setFrames, hr]
      rfl
    have hsame : U.sameButNew ({ U with heap := s₂.heap, slotsUsed := s₂.slotsUsed } : State) L mc ms := by
      refine ⟨?_, q2, q3, q4, q5, q6⟩
      obtain ⟨t, ht, -⟩ := State.frames_cons hr
      show ({ U with heap := s₂.heap, slotsUsed := s₂.slotsUsed } : State) = { U.setFrames U.frames with heap := s₂.heap, slotsUsed := s₂.slotsUsed }
      rw [State.setFrames_self ht]
    subst hg
    refine Or.inr ⟨q, ⟨(({ U with heap := s₂.heap, slotsUsed := s₂.slotsUsed } : State).setVm s₂.vm), Ls ++ L, c0 + mc, s0 + ms⟩,
      ⟨X.admits, X.cas, X.clock, X.frames, X.room, X.hears, X.method, X.code, (X.here.setHeapUsed s₂.heap s₂.slotsUsed).setVm hW'.alike, X.tail, State.WarmedH.trans X.warmed hW', X.limits, X.bytes, X.same.trans (hsame.setVm s.vm)⟩,
      ⟨g, mk, s₂, L, E, ce, rfl, rfl, hx, hce, hcv, hcl, rfl, hL, rfl, rfl⟩, ?_⟩
    show Steps p.tables e below _ (((({ U with heap := s₂.heap, slotsUsed := s₂.slotsUsed } : State).setVm s₂.vm).setTop g).pushFrame (.throwing q))
    rw [← hs₂]
    exact hsteps
end Payer
section Calls
variable {p : Program} {l : Launch} {e : Env} {R : Room} {s : State} {m : MethodId} {args : Array Value} {below : List Frame} {meth : Method} {c : Code} {T : State} {locs : List Loc} {cells slots : Nat}
theorem vx_callV (X : Stand p l e R s m args below meth c T locs cells slots) (hexec : p.tables.exec = Jvm.exec) {own C : String} {index : Nat} {y : MethodName} {bytes : ByteArray} {maxL : Nat} {ret : Option FieldType}
    (hown : s.vm.findClass own = some m.cls) (hlink : (Cond.methodLink own index y).before args s = true) (hinst : (Cond.instanceMethod y).before args s = true) (hsel : (Cond.selects C y y).before args s = true)
    (hcode : (Cond.code y bytes maxL ret).before args s = true) (hy : y.cls ≠ "java/lang/invoke/MethodHandle" ∧ y.cls ≠ "java/lang/invoke/VarHandle")
    {W9 : Nat} {Pre : Pt → Array Value → Prop} {Post : Pt → Array Value → Option Value → Pt → Prop} {PostX : Pt → Array Value → Addr → Pt → Prop} (hK : vx_Back l R p e below s args y 3 W9 Pre Post PostX)
    {b : Addr} {cellB : Cell} (hcell : T.heap[b]? = some cellB) (hobj : cellB.vm.isStatics = false) (hcls : s.vm.findClass C = some cellB.cls)
    {g : JFrame} (hg : g.method = m) (hsize : g.locals.size = c.maxLocals) {argsL rest : List Value} (hlen : ∀ sig, parseMethodDescriptor y.desc = some sig → argsL.length = sig.parameters.length)
    (hstack : g.stack = argsL.reverse ++ .ref b :: rest) (hW : 2 * g.monitorRoom + (rest.map fun v => v.category).sum ≤ W9) (hdg : decode c.code g.pc = .ok (.invokevirtual index, 3))
    (hpre : ∀ vm₁, s.WarmedH vm₁ → Pre ⟨T.setVm vm₁, locs, cells, slots⟩ (Value.ref b :: argsL).toArray) :
    (∃ (v : Option Value) (vm₁ : Vm) (B : Pt), s.WarmedH vm₁ ∧ Stand p l e R s m args below meth c B.U B.locs B.cells B.slots ∧ Post ⟨T.setVm vm₁, locs, cells, slots⟩ (Value.ref b :: argsL).toArray v B ∧
      ∀ target, Steps p.tables e below (B.U.setTop { g with pc := g.pc + 3, stack := v.toList ++ rest }) target → Steps p.tables e below (T.setTop g) target) ∨
    (∃ (q : Addr) (vm₁ : Vm) (B : Pt), s.WarmedH vm₁ ∧ Stand p l e R s m args below meth c B.U B.locs B.cells B.slots ∧ PostX ⟨T.setVm vm₁, locs, cells, slots⟩ (Value.ref b :: argsL).toArray q B ∧
      Steps p.tables e below (T.setTop g) ((B.U.setTop { g with stack := rest }).pushFrame (.throwing q))) := by
  obtain ⟨mk, methM, hnamed, hmethM, hstM, habM⟩ := Cond.instanceMethod_spec hinst
  obtain ⟨methM', cM, hmethM', -, -, -, -, -, -, hsigM⟩ := Cond.code_spec hnamed hcode
  cases hmethM.symm.trans hmethM'
  obtain ⟨c2, r2, m2, q1, q2, q3, q4, kP, hkP, hkPi⟩ := Cond.selects_spec hsel
  cases hcls.symm.trans q1
  cases (State.methodFound?_of_named hnamed hy).symm.trans q2
  cases hnamed.symm.trans q3
  have hselP : selectMethod e.platform s.vm cellB.cls mk = .method mk := by rw [Launch.admits_selectMethod X.admits]; exact q4
  obtain ⟨vm₁, X₁, hstep₁⟩ := X.invokevirtual hexec hown hlink hnamed hmethM hstM hkP hkPi hy (a := b) (cell := cellB) hcell
    (fun z h => by rw [h] at hobj; cases hobj) hselP hmethM habM hkP hkPi (g := g) hg (argsL := argsL) (rest := rest) (hlen _ hsigM) hstack hdg
  rcases hK m meth c ⟨T.setVm vm₁, locs, cells, slots⟩ { g with stack := rest } (.invokevirtual index) mk (Value.ref b :: argsL).toArray X₁ hg hsize hdg hW (X₁.named hnamed) (hpre vm₁ X₁.warmed) with ⟨v, B, X', hpost, hsteps⟩ | ⟨q, B, X', hpost, hsteps⟩
  · exact Or.inl ⟨v, vm₁, B, X₁.warmed, X', hpost, fun target h => hstep₁ _ fun acts => by rw [doInvoke_state]; exact hsteps.trans h⟩
  · exact Or.inr ⟨q, vm₁, B, X₁.warmed, X', hpost, hstep₁ _ fun acts => by rw [doInvoke_state]; exact hsteps⟩
theorem vx_callS (X : Stand p l e R s m args below meth c T locs cells slots) (hexec : p.tables.exec = Jvm.exec) {own : String} {index : Nat} {y : MethodName} {bytes : ByteArray} {maxL : Nat} {ret : Option FieldType}
    (hown : s.vm.findClass own = some m.cls) (hlink : (Cond.methodLink own index y).before args s = true) (hstat : (Cond.static y).before args s = true) (hinit : (Cond.initialized y.cls).before args s = true)
    (hcode : (Cond.code y bytes maxL ret).before args s = true) (hy : y.cls ≠ "java/lang/invoke/MethodHandle" ∧ y.cls ≠ "java/lang/invoke/VarHandle")
    {W9 : Nat} {Pre : Pt → Array Value → Prop} {Post : Pt → Array Value → Option Value → Pt → Prop} {PostX : Pt → Array Value → Addr → Pt → Prop} (hK : vx_Back l R p e below s args y 3 W9 Pre Post PostX)
    {g : JFrame} (hg : g.method = m) (hsize : g.locals.size = c.maxLocals) {argsL rest : List Value} (hlen : ∀ sig, parseMethodDescriptor y.desc = some sig → argsL.length = sig.parameters.length)
    (hstack : g.stack = argsL.reverse ++ rest) (hW : 2 * g.monitorRoom + (rest.map fun v => v.category).sum ≤ W9) (hdg : decode c.code g.pc = .ok (.invokestatic index, 3))
    (hpre : ∀ vm₁, s.WarmedH vm₁ → Pre ⟨T.setVm vm₁, locs, cells, slots⟩ argsL.toArray) :
    (∃ (v : Option Value) (vm₁ : Vm) (B : Pt), s.WarmedH vm₁ ∧ Stand p l e R s m args below meth c B.U B.locs B.cells B.slots ∧ Post ⟨T.setVm vm₁, locs, cells, slots⟩ argsL.toArray v B ∧
      ∀ target, Steps p.tables e below (B.U.setTop { g with pc := g.pc + 3, stack := v.toList ++ rest }) target → Steps p.tables e below (T.setTop g) target) ∨
    (∃ (q : Addr) (vm₁ : Vm) (B : Pt), s.WarmedH vm₁ ∧ Stand p l e R s m args below meth c B.U B.locs B.cells B.slots ∧ PostX ⟨T.setVm vm₁, locs, cells, slots⟩ argsL.toArray q B ∧
      Steps p.tables e below (T.setTop g) ((B.U.setTop { g with stack := rest }).pushFrame (.throwing q))) := by
  obtain ⟨mk, hnamed⟩ := Cond.code_named hcode
  obtain ⟨methM, cM, hmethM, -, -, -, -, -, -, hsigM⟩ := Cond.code_spec hnamed hcode
  have hstatic : methM.isStatic = true := Cond.static_spec hnamed hmethM hstat
  obtain ⟨kP, hkP, -⟩ := className_of_methodNamed hnamed
  have hinitP : kP.init = .initialized := Cond.initialized_spec (findClass_of_methodNamed hnamed) hkP hinit
  obtain ⟨vm₁, X₁, hstep₁⟩ := X.invokestatic hexec hown hlink hnamed hmethM hstatic hkP hinitP hy (g := g) hg (argsL := argsL) (rest := rest) (hlen _ hsigM) hstack hdg
  rcases hK m meth c ⟨T.setVm vm₁, locs, cells, slots⟩ { g with stack := rest } (.invokestatic index) mk argsL.toArray X₁ hg hsize hdg hW (X₁.named hnamed) (hpre vm₁ X₁.warmed) with ⟨v, B, X', hpost, hsteps⟩ | ⟨q, B, X', hpost, hsteps⟩
  · exact Or.inl ⟨v, vm₁, B, X₁.warmed, X', hpost, fun target h => hstep₁ _ fun acts => by rw [doInvoke_state]; exact hsteps.trans h⟩
  · exact Or.inr ⟨q, vm₁, B, X₁.warmed, X', hpost, hstep₁ _ fun acts => by rw [doInvoke_state]; exact hsteps⟩
end Calls
theorem vx_cls {s : State} {T : State} {vm₁ : Vm} {E : String} {k : ClassId} (hW : s.WarmedH vm₁) (h : (T.setVm vm₁).vm.findClass E = some k) : s.vm.findClass E = some k := by
  have h1 : vm₁.findClass E = some k := h
  rw [hW.alike.findClass] at h1
  exact h1
/-- the method's frame g, with q thrown over it -/
def vx_W (p : Program) (l : Launch) (e : Env) (R : Room) (s : State) (m : MethodId) (args : Array Value) (below : List Frame) (meth : Method) (c : Code) (H : Heap) (locs : List Loc) (cells slots : Nat) (Q : State → Prop) (g : JFrame) (q : Addr) : Prop :=
  ∀ T : State, T.heap = H → Stand p l e R s m args below meth c T locs cells slots → ∃ t, Steps p.tables e below ((T.setTop g).pushFrame (.throwing q)) t ∧ Q t
def vx_Run (p : Program) (l : Launch) (e : Env) (R : Room) (s : State) (m : MethodId) (args : Array Value) (below : List Frame) (meth : Method) (c : Code) (H : Heap) (locs : List Loc) (cells slots mc ms : Nat) (g : JFrame) (rest : List Value) (Qa : State → Outcome → State → Prop) (XC : String → State → State → Prop) (free : Addr → Prop) : Prop :=
  ∀ T : State, T.heap = H → Stand p l e R s m args below meth c T locs cells slots →
    (∃ (v : Option Value) (st₀ t T' : State) (L : List Loc), st₀.heap = H ∧ Stand p l e R s m args below meth c T' (locs ++ L) (cells + mc) (slots + ms) ∧ (∀ q ∈ L, free q.base) ∧ T'.heap = t.heap ∧ T'.vm = t.vm ∧ Qa st₀ (.returned v) t ∧
      Goes p e below T g T' { g with pc := g.pc + 3, stack := v.toList ++ rest }) ∨
    (∃ (q : Addr) (st₀ t T' : State) (L : List Loc) (E : String) (ce : Cell), st₀.heap = H ∧ Stand p l e R s m args below meth c T' (locs ++ L) (cells + mc) (slots + ms) ∧ (∀ z ∈ L, free z.base) ∧ T'.heap = t.heap ∧ T'.vm = t.vm ∧ XC E st₀ t ∧ t.heap[q]? = some ce ∧ ce.vm = .none ∧ s.vm.findClass E = some ce.cls ∧
      Steps p.tables e below (T.setTop g) ((T'.setTop { g with stack := rest }).pushFrame (.throwing q)))
def vx_X {S : Type} (px : S → Prop) (B : String → S → State → Prop) (A : Nat → Prop) : String → State → State → Prop := fun E st t => ∃ u : S, px u ∧ B E u t ∧ va_F A st t
section Runs
variable {p : Program} {l : Launch} {e : Env} {R : Room} {s : State} {m : MethodId} {args : Array Value} {below : List Frame} {meth : Method} {c : Code} {H : Heap} {locs : List Loc} {cells slots : Nat}
variable {y : MethodName} {bytes cc : ByteArray} {maxL nL mc ms n index : Nat} {ret : Option FieldType} {ws : List Cond} {rm : Room} {Pc : Array Value → State → Prop} {Qc : Array Value → State → Outcome → State → Prop} {XC : String → State → State → Prop} {free : Addr → Prop} {Ts : List Cond} {own C : String} {b : Addr} {As rest : List Value} {g : JFrame}
theorem vx_callBack (cb : CallB R s args own index y bytes maxL ret ws rm mc ms n) (hM : vx_Met l y ws rm Pc Qc XC mc ms free) (hbl : FrameBlind Pc) : vx_Back l R p e below s args y 3 8 (PreOf R mc ms Pc) (PostOf Qc mc ms free) (vx_Post XC mc ms free) := by
  obtain ⟨hrc, hrs, hfr, hlo, hws, hcw, -, hini, -⟩ := cb
  exact vx_back (bytes := bytes) (maxL := maxL) (ret := ret) hM hbl hrc hrs hfr hlo hws hcw (fun a' U hW => word_at hW (Or.inl (by first | rfl | simp [Cond.onTables, Cond.keeps, Cond.steady])) hini)
theorem vx_runV (S : CallFix p m c cc nL s args Ts own) (hM : vx_Met l y ws rm Pc Qc XC mc ms free) (cw : CallW R s args own C index y bytes maxL ret ws rm mc ms n) (hp : PreV s H C b Pc As)
    (hg : g.method = m) (hn : As.length = n) (hsize : g.locals.size = nL) (hstack : g.stack = As.reverse ++ .ref b :: rest) (hW : 2 * g.monitorRoom + (rest.map fun v => v.category).sum ≤ 8) (hdg : decode cc g.pc = .ok (.invokevirtual index, 3)) (hf : cells + mc ≤ R.cells ∧ slots + ms ≤ R.slots) :
    vx_Run p l e R s m args below meth c H locs cells slots mc ms g rest (Qc (Value.ref b :: As).toArray) XC free := by
  have hK : vx_Back l R p e below s args y 3 8 (PreOf R mc ms Pc) (PostOf Qc mc ms free) (vx_Post XC mc ms free) := vx_callBack cw.1 hM hp.1
  obtain ⟨⟨-, -, -, -, -, -, hcode, -, hy, hlen, hl⟩, hin, hse⟩ := cw
  obtain ⟨hx, hb, hml, ho, -⟩ := S
  obtain ⟨-, ⟨cellB, hcB, hoB, hclB⟩, hPc⟩ := hp
  intro T hT X
  rcases vx_callV X hx (C := C) (bytes := bytes) (maxL := maxL) (ret := ret) ho hl hin hse hcode hy hK (by rw [hT]; exact hcB) hoB hclB hg (hsize.trans hml.symm) (argsL := As) (rest := rest) (fun sig h => hn.trans (hlen sig h)) hstack hW (by rw [hb]; exact hdg)
    (fun vm₁ hW₁ => ⟨hf.1, hf.2, hPc (T.setVm vm₁) hT hW₁⟩) with ⟨v, vm₁, ⟨U', l2, c2, s2⟩, hW₁, X', ⟨g', mk, t, L, e1, e2, hq, h1, hL, h2, h3⟩, st⟩ | ⟨q, vm₁, ⟨U', l2, c2, s2⟩, hW₁, X', ⟨g', mk, t, L, E, ce, e1, e2, hq, hce, hcv, hcl, h1, hL, h2, h3⟩, st⟩
  · dsimp only [Pt.U, Pt.locs, Pt.cells, Pt.slots] at X' e1 e2 h1 h2 h3 st
    subst h1; subst h2; subst h3
    exact Or.inl ⟨v, (T.setVm vm₁).calling g' mk (Value.ref b :: As).toArray, t, U', L, hT, X', hL, e1, e2, hq, st⟩
  · dsimp only [Pt.U, Pt.locs, Pt.cells, Pt.slots] at X' e1 e2 h1 h2 h3 st hcl
    subst h1; subst h2; subst h3
    exact Or.inr ⟨q, (T.setVm vm₁).calling g' mk (Value.ref b :: As).toArray, t, U', L, E, ce, hT, X', hL, e1, e2, hq, hce, hcv, vx_cls hW₁ hcl, st⟩
theorem vx_runS (S : CallFix p m c cc nL s args Ts own) (hM : vx_Met l y ws rm Pc Qc XC mc ms free) (cw : CallB R s args own index y bytes maxL ret ws rm mc ms n ∧ (Cond.static y).before args s = true) (hp : PreS s H Pc As)
    (hg : g.method = m) (hn : As.length = n) (hsize : g.locals.size = nL) (hstack : g.stack = As.reverse ++ rest) (hW : 2 * g.monitorRoom + (rest.map fun v => v.category).sum ≤ 8) (hdg : decode cc g.pc = .ok (.invokestatic index, 3)) (hf : cells + mc ≤ R.cells ∧ slots + ms ≤ R.slots) :
    vx_Run p l e R s m args below meth c H locs cells slots mc ms g rest (Qc As.toArray) XC free := by
  have hK : vx_Back l R p e below s args y 3 8 (PreOf R mc ms Pc) (PostOf Qc mc ms free) (vx_Post XC mc ms free) := vx_callBack cw.1 hM hp.1
  obtain ⟨⟨-, -, -, -, -, -, hcode, hini, hy, hlen, hl⟩, hstt⟩ := cw
  obtain ⟨hx, hb, hml, ho, -⟩ := S
  intro T hT X
  rcases vx_callS X hx (bytes := bytes) (maxL := maxL) (ret := ret) ho hl hstt hini hcode hy hK hg (hsize.trans hml.symm) (argsL := As) (rest := rest) (fun sig h => hn.trans (hlen sig h)) hstack hW (by rw [hb]; exact hdg)
    (fun vm₁ hW₁ => ⟨hf.1, hf.2, hp.2 (T.setVm vm₁) hT hW₁⟩) with ⟨v, vm₁, ⟨U', l2, c2, s2⟩, hW₁, X', ⟨g', mk, t, L, e1, e2, hq, h1, hL, h2, h3⟩, st⟩ | ⟨q, vm₁, ⟨U', l2, c2, s2⟩, hW₁, X', ⟨g', mk, t, L, E, ce, e1, e2, hq, hce, hcv, hcl, h1, hL, h2, h3⟩, st⟩
  · dsimp only [Pt.U, Pt.locs, Pt.cells, Pt.slots] at X' e1 e2 h1 h2 h3 st
    subst h1; subst h2; subst h3
    exact Or.inl ⟨v, (T.setVm vm₁).calling g' mk As.toArray, t, U', L, hT, X', hL, e1, e2, hq, st⟩
  · dsimp only [Pt.U, Pt.locs, Pt.cells, Pt.slots] at X' e1 e2 h1 h2 h3 st hcl
    subst h1; subst h2; subst h3
    exact Or.inr ⟨q, (T.setVm vm₁).calling g' mk As.toArray, t, U', L, E, ce, hT, X', hL, e1, e2, hq, hce, hcv, vx_cls hW₁ hcl, st⟩
end Runs
section Rows
variable {p : Program} {l : Launch} {e : Env} {R : Room} {s : State} {m : MethodId} {args : Array Value} {below : List Frame} {meth : Method} {c : Code} {H : Heap} {locs : List Loc} {cells slots : Nat} {Q : State → Prop}
variable {mc ms : Nat} {free : Addr → Prop} {A0 A1 : Nat → Prop} {H0 : Heap} {a : Array Value} {pc : Nat} {ls : Array Slot} {st0 rest : List Value}
theorem vx_keep {st₀ t T' : State} {L : List Loc} (h0 : st₀.heap = H) (e1 : T'.heap = t.heap) (hS : va_S A0 H0 H locs) (hA : ∀ q, q < H.size → A1 q → A0 q) (hf : ∀ q, free q → A0 q) (hL : ∀ q ∈ L, free q.base) (hF : va_F A1 st₀ t) :
    H.size ≤ T'.heap.size ∧ (∀ q : Nat, q < H.size → ¬ A1 q → T'.heap[q]? = H[q]?) ∧ va_S A0 H0 T'.heap (locs ++ L) := by
  obtain ⟨hz, hk⟩ := hF
  rw [h0] at hz hk
  exact ⟨by rw [e1]; exact hz, fun q h1 h2 => by rw [e1]; exact hk q h1 h2,
    ⟨Nat.le_trans hS.1 (by rw [e1]; exact hz), fun q h1 h2 => by rw [e1, hk q (Nat.lt_of_lt_of_le h1 hS.1) (fun z => h2 (hA q (Nat.lt_of_lt_of_le h1 hS.1) z))]; exact hS.2.1 q h1 h2, fun q hq => by
      rcases List.mem_append.mp hq with h | h
      · exact hS.2.2 q h
      · exact hf _ (hL q h)⟩⟩
theorem vx_calli {S SX : Type} {post : Int32 → S → Prop} {px : SX → Prop} {B : S → State → Prop} {BX : String → SX → State → Prop} {AX : Nat → Prop} (hr : vx_Run p l e R s m args below meth c H locs cells slots mc ms (F0 m pc ls st0) rest (va_Qi post B A1 a) (vx_X px BX AX) free) (hS : va_S A0 H0 H locs) (hA : ∀ q, q < H.size → A1 q → A0 q) (hf : ∀ q, free q → A0 q) (hAX : ∀ q, q < H.size → AX q → A0 q)
    (kx : ∀ (E : String) (ce : Cell) (q9 : Addr) (u : SX) (t : State) (H1 : Heap) (locs1 : List Loc), t.heap = H1 → s.vm.Alike t.vm → px u → BX E u t → H.size ≤ H1.size → (∀ q : Nat, q < H.size → ¬ AX q → H1[q]? = H[q]?) → va_S A0 H0 H1 locs1 → H1[q9]? = some ce → ce.vm = .none → s.vm.findClass E = some ce.cls → vx_W p l e R s m args below meth c H1 locs1 (cells + mc) (slots + ms) Q (F0 m pc ls rest) q9)
    (kk : ∀ (r : Int32) (u : S) (t : State) (H1 : Heap) (locs1 : List Loc), t.heap = H1 → s.vm.Alike t.vm → post r u → B u t → H.size ≤ H1.size → (∀ q : Nat, q < H.size → ¬ A1 q → H1[q]? = H[q]?) → va_S A0 H0 H1 locs1 → W p l e R s m args below meth c H1 locs1 (cells + mc) (slots + ms) Q (F0 m (pc + 3) ls (.int r :: rest))) : W p l e R s m args below meth c H locs cells slots Q (F0 m pc ls st0) := by
  intro T hT X
  rcases hr T hT X with ⟨v, st₀, t, T', L, h0, X', hL, e1, e2, ⟨⟨r, u, hv, hp, hb⟩, hF⟩, st⟩ | ⟨q, st₀, t, T', L, E, ce, h0, X', hL, e1, e2, ⟨u, hp, hb, hF⟩, hce, hcv, hcl, st⟩
  · cases hv
    obtain ⟨k1, k2, k3⟩ := vx_keep h0 e1 hS hA hf hL hF
    obtain ⟨t2, a1, b1⟩ := kk r u t T'.heap (locs ++ L) e1.symm (by rw [← e2]; exact X'.warmed.alike) hp hb k1 k2 k3 T' rfl X'
    exact ⟨t2, st t2 a1, b1⟩
  · obtain ⟨k1, k2, k3⟩ := vx_keep h0 e1 hS hAX hf hL hF
    obtain ⟨t2, a1, b1⟩ := kx E ce q u t T'.heap (locs ++ L) e1.symm (by rw [← e2]; exact X'.warmed.alike) hp hb k1 k2 k3 (by rw [e1]; exact hce) hcv hcl T' rfl X'
    exact ⟨t2, st.trans a1, b1⟩
theorem vx_calll {S SX : Type} {post : Int64 → S → Prop} {px : SX → Prop} {B : S → State → Prop} {BX : String → SX → State → Prop} {AX : Nat → Prop} (hr : vx_Run p l e R s m args below meth c H locs cells slots mc ms (F0 m pc ls st0) rest (va_Ql post B A1 a) (vx_X px BX AX) free) (hS : va_S A0 H0 H locs) (hA : ∀ q, q < H.size → A1 q → A0 q) (hf : ∀ q, free q → A0 q) (hAX : ∀ q, q < H.size → AX q → A0 q)
    (kx : ∀ (E : String) (ce : Cell) (q9 : Addr) (u : SX) (t : State) (H1 : Heap) (locs1 : List Loc), t.heap = H1 → s.vm.Alike t.vm → px u → BX E u t → H.size ≤ H1.size → (∀ q : Nat, q < H.size → ¬ AX q → H1[q]? = H[q]?) → va_S A0 H0 H1 locs1 → H1[q9]? = some ce → ce.vm = .none → s.vm.findClass E = some ce.cls → vx_W p l e R s m args below meth c H1 locs1 (cells + mc) (slots + ms) Q (F0 m pc ls rest) q9)
    (kk : ∀ (r : Int64) (u : S) (t : State) (H1 : Heap) (locs1 : List Loc), t.heap = H1 → s.vm.Alike t.vm → post r u → B u t → H.size ≤ H1.size → (∀ q : Nat, q < H.size → ¬ A1 q → H1[q]? = H[q]?) → va_S A0 H0 H1 locs1 → W p l e R s m args below meth c H1 locs1 (cells + mc) (slots + ms) Q (F0 m (pc + 3) ls (.long r :: rest))) : W p l e R s m args below meth c H locs cells slots Q (F0 m pc ls st0) := by
  intro T hT X
  rcases hr T hT X with ⟨v, st₀, t, T', L, h0, X', hL, e1, e2, ⟨⟨r, u, hv, hp, hb⟩, hF⟩, st⟩ | ⟨q, st₀, t, T', L, E, ce, h0, X', hL, e1, e2, ⟨u, hp, hb, hF⟩, hce, hcv, hcl, st⟩
  · cases hv
    obtain ⟨k1, k2, k3⟩ := vx_keep h0 e1 hS hA hf hL hF
    obtain ⟨t2, a1, b1⟩ := kk r u t T'.heap (locs ++ L) e1.symm (by rw [← e2]; exact X'.warmed.alike) hp hb k1 k2 k3 T' rfl X'
    exact ⟨t2, st t2 a1, b1⟩
  · obtain ⟨k1, k2, k3⟩ := vx_keep h0 e1 hS hAX hf hL hF
    obtain ⟨t2, a1, b1⟩ := kx E ce q u t T'.heap (locs ++ L) e1.symm (by rw [← e2]; exact X'.warmed.alike) hp hb k1 k2 k3 (by rw [e1]; exact hce) hcv hcl T' rfl X'
    exact ⟨t2, st.trans a1, b1⟩
theorem vx_callf {S SX : Type} {post : UInt32 → S → Prop} {px : SX → Prop} {B : S → State → Prop} {BX : String → SX → State → Prop} {AX : Nat → Prop} (hr : vx_Run p l e R s m args below meth c H locs cells slots mc ms (F0 m pc ls st0) rest (va_Qf post B A1 a) (vx_X px BX AX) free) (hS : va_S A0 H0 H locs) (hA : ∀ q, q < H.size → A1 q → A0 q) (hf : ∀ q, free q → A0 q) (hAX : ∀ q, q < H.size → AX q → A0 q)
    (kx : ∀ (E : String) (ce : Cell) (q9 : Addr) (u : SX) (t : State) (H1 : Heap) (locs1 : List Loc), t.heap = H1 → s.vm.Alike t.vm → px u → BX E u t → H.size ≤ H1.size → (∀ q : Nat, q < H.size → ¬ AX q → H1[q]? = H[q]?) → va_S A0 H0 H1 locs1 → H1[q9]? = some ce → ce.vm = .none → s.vm.findClass E = some ce.cls → vx_W p l e R s m args below meth c H1 locs1 (cells + mc) (slots + ms) Q (F0 m pc ls rest) q9)
    (kk : ∀ (r : UInt32) (u : S) (t : State) (H1 : Heap) (locs1 : List Loc), t.heap = H1 → s.vm.Alike t.vm → post r u → B u t → H.size ≤ H1.size → (∀ q : Nat, q < H.size → ¬ A1 q → H1[q]? = H[q]?) → va_S A0 H0 H1 locs1 → W p l e R s m args below meth c H1 locs1 (cells + mc) (slots + ms) Q (F0 m (pc + 3) ls (.float r :: rest))) : W p l e R s m args below meth c H locs cells slots Q (F0 m pc ls st0) := by
  intro T hT X
  rcases hr T hT X with ⟨v, st₀, t, T', L, h0, X', hL, e1, e2, ⟨⟨r, u, hv, hp, hb⟩, hF⟩, st⟩ | ⟨q, st₀, t, T', L, E, ce, h0, X', hL, e1, e2, ⟨u, hp, hb, hF⟩, hce, hcv, hcl, st⟩
  · cases hv
    obtain ⟨k1, k2, k3⟩ := vx_keep h0 e1 hS hA hf hL hF
    obtain ⟨t2, a1, b1⟩ := kk r u t T'.heap (locs ++ L) e1.symm (by rw [← e2]; exact X'.warmed.alike) hp hb k1 k2 k3 T' rfl X'
    exact ⟨t2, st t2 a1, b1⟩
  · obtain ⟨k1, k2, k3⟩ := vx_keep h0 e1 hS hAX hf hL hF
    obtain ⟨t2, a1, b1⟩ := kx E ce q u t T'.heap (locs ++ L) e1.symm (by rw [← e2]; exact X'.warmed.alike) hp hb k1 k2 k3 (by rw [e1]; exact hce) hcv hcl T' rfl X'
    exact ⟨t2, st.trans a1, b1⟩
theorem vx_calld {S SX : Type} {post : UInt64 → S → Prop} {px : SX → Prop} {B : S → State → Prop} {BX : String → SX → State → Prop} {AX : Nat → Prop} (hr : vx_Run p l e R s m args below meth c H locs cells slots mc ms (F0 m pc ls st0) rest (va_Qd post B A1 a) (vx_X px BX AX) free) (hS : va_S A0 H0 H locs) (hA : ∀ q, q < H.size → A1 q → A0 q) (hf : ∀ q, free q → A0 q) (hAX : ∀ q, q < H.size → AX q → A0 q)
    (kx : ∀ (E : String) (ce : Cell) (q9 : Addr) (u : SX) (t : State) (H1 : Heap) (locs1 : List Loc), t.heap = H1 → s.vm.Alike t.vm → px u → BX E u t → H.size ≤ H1.size → (∀ q : Nat, q < H.size → ¬ AX q → H1[q]? = H[q]?) → va_S A0 H0 H1 locs1 → H1[q9]? = some ce → ce.vm = .none → s.vm.findClass E = some ce.cls → vx_W p l e R s m args below meth c H1 locs1 (cells + mc) (slots + ms) Q (F0 m pc ls rest) q9)
    (kk : ∀ (r : UInt64) (u : S) (t : State) (H1 : Heap) (locs1 : List Loc), t.heap = H1 → s.vm.Alike t.vm → post r u → B u t → H.size ≤ H1.size → (∀ q : Nat, q < H.size → ¬ A1 q → H1[q]? = H[q]?) → va_S A0 H0 H1 locs1 → W p l e R s m args below meth c H1 locs1 (cells + mc) (slots + ms) Q (F0 m (pc + 3) ls (.double r :: rest))) : W p l e R s m args below meth c H locs cells slots Q (F0 m pc ls st0) := by
  intro T hT X
  rcases hr T hT X with ⟨v, st₀, t, T', L, h0, X', hL, e1, e2, ⟨⟨r, u, hv, hp, hb⟩, hF⟩, st⟩ | ⟨q, st₀, t, T', L, E, ce, h0, X', hL, e1, e2, ⟨u, hp, hb, hF⟩, hce, hcv, hcl, st⟩
  · cases hv
    obtain ⟨k1, k2, k3⟩ := vx_keep h0 e1 hS hA hf hL hF
    obtain ⟨t2, a1, b1⟩ := kk r u t T'.heap (locs ++ L) e1.symm (by rw [← e2]; exact X'.warmed.alike) hp hb k1 k2 k3 T' rfl X'
    exact ⟨t2, st t2 a1, b1⟩
  · obtain ⟨k1, k2, k3⟩ := vx_keep h0 e1 hS hAX hf hL hF
    obtain ⟨t2, a1, b1⟩ := kx E ce q u t T'.heap (locs ++ L) e1.symm (by rw [← e2]; exact X'.warmed.alike) hp hb k1 k2 k3 (by rw [e1]; exact hce) hcv hcl T' rfl X'
    exact ⟨t2, st.trans a1, b1⟩
theorem vx_callv {S SX : Type} {post : S → Prop} {px : SX → Prop} {B : S → State → Prop} {BX : String → SX → State → Prop} {AX : Nat → Prop} (hr : vx_Run p l e R s m args below meth c H locs cells slots mc ms (F0 m pc ls st0) rest (va_Qv post B A1 a) (vx_X px BX AX) free) (hS : va_S A0 H0 H locs) (hA : ∀ q, q < H.size → A1 q → A0 q) (hf : ∀ q, free q → A0 q) (hAX : ∀ q, q < H.size → AX q → A0 q)
    (kx : ∀ (E : String) (ce : Cell) (q9 : Addr) (u : SX) (t : State) (H1 : Heap) (locs1 : List Loc), t.heap = H1 → s.vm.Alike t.vm → px u → BX E u t → H.size ≤ H1.size → (∀ q : Nat, q < H.size → ¬ AX q → H1[q]? = H[q]?) → va_S A0 H0 H1 locs1 → H1[q9]? = some ce → ce.vm = .none → s.vm.findClass E = some ce.cls → vx_W p l e R s m args below meth c H1 locs1 (cells + mc) (slots + ms) Q (F0 m pc ls rest) q9)
    (kk : ∀ (u : S) (t : State) (H1 : Heap) (locs1 : List Loc), t.heap = H1 → s.vm.Alike t.vm → post u → B u t → H.size ≤ H1.size → (∀ q : Nat, q < H.size → ¬ A1 q → H1[q]? = H[q]?) → va_S A0 H0 H1 locs1 → W p l e R s m args below meth c H1 locs1 (cells + mc) (slots + ms) Q (F0 m (pc + 3) ls (rest))) : W p l e R s m args below meth c H locs cells slots Q (F0 m pc ls st0) := by
  intro T hT X
  rcases hr T hT X with ⟨v, st₀, t, T', L, h0, X', hL, e1, e2, ⟨⟨u, hv, hp, hb⟩, hF⟩, st⟩ | ⟨q, st₀, t, T', L, E, ce, h0, X', hL, e1, e2, ⟨u, hp, hb, hF⟩, hce, hcv, hcl, st⟩
  · cases hv
    obtain ⟨k1, k2, k3⟩ := vx_keep h0 e1 hS hA hf hL hF
    obtain ⟨t2, a1, b1⟩ := kk u t T'.heap (locs ++ L) e1.symm (by rw [← e2]; exact X'.warmed.alike) hp hb k1 k2 k3 T' rfl X'
    exact ⟨t2, st t2 a1, b1⟩
  · obtain ⟨k1, k2, k3⟩ := vx_keep h0 e1 hS hAX hf hL hF
    obtain ⟨t2, a1, b1⟩ := kx E ce q u t T'.heap (locs ++ L) e1.symm (by rw [← e2]; exact X'.warmed.alike) hp hb k1 k2 k3 (by rw [e1]; exact hce) hcv hcl T' rfl X'
    exact ⟨t2, st.trans a1, b1⟩
/-- caught by the row x of this method's table; the rows ahead don't take it -/
theorem vx_catch {own name : String} {E : String} {ce : Cell} {q : Addr} (hown : s.vm.findClass own = some m.cls) (pre : List ExceptionTableEntry) (x : ExceptionTableEntry) (suf : List ExceptionTableEntry) (hsplit : c.exceptionTable.toList = pre ++ x :: suf)
    (hpass : ∀ z ∈ pre, covers z pc = false ∨ (z.catchType ≠ 0 ∧ ∃ nm : String, (Cond.classLink own z.catchType nm).before args s = true ∧ va_Nc E nm s)) (hx : covers x pc = true) (h0 : x.catchType ≠ 0)
    (hlink : (Cond.classLink own x.catchType name).before args s = true) (hcast : (Cond.castable E name).before args s = true) (hcell : H[q]? = some ce) (hv : ce.vm = .none) (hcl : s.vm.findClass E = some ce.cls)
    (kk : W p l e R s m args below meth c H locs cells slots Q (F0 m x.handlerPc ls [.ref q])) : vx_W p l e R s m args below meth c H locs cells slots Q (F0 m pc ls rest) q := by
  intro T hT X
  have hpl : e.platform.magicAccessors = ({} : Platform).magicAccessors := by rw [X.admits.platform]
  obtain ⟨c3, c4, hc3, hc4, hasg⟩ := Cond.castable_spec hcast
  cases Option.some.inj (hc3.symm.trans hcl)
  obtain ⟨c5, hc5, hcl5⟩ := Cond.classLink_spec hown hlink e.platform hpl
  cases Option.some.inj (hc4.symm.trans hc5)
  obtain ⟨vm', X', st⟩ := X.thenCaughtThrough q (g := F0 m pc ls rest) rfl (Steps.refl _) (by rw [hT]; exact hcell) (by rw [hv]; rfl) (by obtain ⟨k9, h9, -⟩ := Vm.findClass_spec hcl; exact ⟨k9, h9⟩) pre x suf hsplit
    (fun z hz => by
      rcases hpass z hz with h | ⟨hz0, nm, hl1, hn1⟩
      · exact Or.inl h
      · obtain ⟨c6, hc6, hcl6⟩ := Cond.classLink_spec hown hl1 e.platform hpl
        obtain ⟨a8, b8, h1, h2, h3⟩ := hn1
        cases Option.some.inj (h1.symm.trans hcl)
        cases Option.some.inj (h2.symm.trans hc6)
        exact Or.inr ⟨hz0, _, hcl6, h3⟩) hx (Or.inr ⟨h0, c4, hcl5, hasg⟩)
  obtain ⟨t, a1, b1⟩ := kk (T.setVm vm') hT X'
  exact ⟨t, st.trans a1, b1⟩
end Rows
section Ends
variable {p : Program} {l : Launch} {e : Env} {R : Room} {s : State} {m : MethodId} {args : Array Value} {below : List Frame} {meth : Method} {c : Code} {H : Heap} {locs : List Loc} {cells slots : Nat} {Q : State → Prop}
variable {mc ms : Nat} {free : Addr → Prop} {A0 A1 : Nat → Prop} {H0 : Heap} {a : Array Value} {ls : Array Slot} {st0 rest : List Value}
variable {Qc : Array Value → State → Outcome → State → Prop} {XC : String → State → State → Prop}
/-- what a body that may throw owes at its end -/
def vx_MQ (below : List Frame) (Qc : Array Value → State → Outcome → State → Prop) (XC : String → State → State → Prop) (a : Array Value) (s : State) (mc ms : Nat) (free : Addr → Prop) : State → Prop := fun t =>
  ∃ o, t.status = .running ∧ Ended t below o ∧ vx_Q Qc XC mc ms free a s o t
theorem vx_ret {g : JFrame} {mc ms : Nat} (k : W p l e R s m args below meth c H locs cells slots (MQ below Qc args s mc ms free) g) : W p l e R s m args below meth c H locs cells slots (vx_MQ below Qc XC args s mc ms free) g := by
  intro T hT X
  obtain ⟨t, a1, o, b1, b2, b3, b4⟩ := k T hT X
  exact ⟨t, a1, o, b1, b2, Or.inl ⟨b3, b4⟩⟩
/-- not caught here: it goes on to the caller -/
theorem vx_widen {g : JFrame} {q : Addr} {k n : Nat} (h1 : cells ≤ k) (h2 : slots ≤ n) (kk : vx_W p l e R s m args below meth c H locs k n Q g q) : vx_W p l e R s m args below meth c H locs cells slots Q g q := fun T hT X => kk T hT (stand_widen X h1 h2)
theorem vx_out {pc : Nat} {E : String} {ce : Cell} {q : Addr} {mc ms : Nat} (hout : ∀ x ∈ c.exceptionTable.toList, covers x pc = false) (hlocks : meth.locks = false) (hcell : H[q]? = some ce) (hv : ce.vm = .none) (hcl : s.vm.findClass E = some ce.cls)
    (hx : ∀ t : State, t.heap = H → s.vm.Alike t.vm → XC E s t) (hf : ∀ z ∈ locs, free z.base) (hc : cells ≤ mc) (hs : slots ≤ ms) :
    vx_W p l e R s m args below meth c H locs cells slots (vx_MQ below Qc XC args s mc ms free) (F0 m pc ls rest) q := by
  intro T hT X
  obtain ⟨st1, hrun, hend, hW, hsm⟩ := X.leaveThrown q (g := F0 m pc ls rest) rfl rfl rfl hout hlocks
  have hcell9 : (T.setFrames (.throwing q :: below)).heap[q]? = some ce := by
    show T.heap[q]? = some ce
    rw [hT]; exact hcell
  exact ⟨_, st1, .threw q, hrun, hend, Or.inr ⟨q, rfl, E, ce, locs, hx _ hT hW.alike, hcell9, hv, hcl, hW, hsm.mono hc hs, hf⟩⟩
theorem vx_frame {U : State} {k n : Nat} (h : s.sameButNew ({ U with vm := s.vm } : State) locs k n) : s.heap.size ≤ U.heap.size ∧ ∀ q : Nat, q < s.heap.size → (∀ z ∈ locs, z.base ≠ q) → U.heap[q]? = s.heap[q]? := by
  obtain ⟨-, h2, -, -, -, h6⟩ := h
  refine ⟨h2, fun q hq hz => ?_⟩
  obtain ⟨c9, e1, e2, e3, e4⟩ := h6 q _ (Array.getElem?_eq_getElem hq)
  have hs : c9.slots = (s.heap[q]).slots := Array.ext_getElem? fun i => e4 i fun hm => hz _ hm rfl
  have h9 : c9 = s.heap[q] := by
    rw [hs] at e2
    exact e2
  have e5 : U.heap[q]? = some c9 := e1
  rw [e5, h9, Array.getElem?_eq_getElem hq]
/-- the words of a throw but the four that speak of the heap -/
def vx_no (w : Cond) : Bool := decide (w ≠ .isRef (.static Bundle.tN "UNASSIGNED_STACK" Bundle.steD)) && decide (w ≠ .isRef (.static Bundle.tN "SUPPRESSED_SENTINEL" Bundle.listD)) && decide (w ≠ .laysStatic Bundle.tN "UNASSIGNED_STACK" Bundle.steD) && decide (w ≠ .laysStatic Bundle.tN "SUPPRESSED_SENTINEL" Bundle.listD)
def vx_at0 (own : String) (ic : Nat) (X : String) (names : List String) : List Cond := (Bundle.ownAtoms0 own ic X names).filter vx_no
def vx_atS (own : String) (ic : Nat) (X : String) (names : List String) : List Cond := (Bundle.ownAtoms own ic X names).filter vx_no
/-- a word that the tables alone decide, or a good one -/
def vx_ot (w : Cond) : Bool := w.onTables || goodWord w
theorem vx_ot_at {args a' : Array Value} {s U : State} {w : Cond} (hW : s.WarmedH U.vm) (hvm : s.vm = U.vm) (hg : vx_ot w = true) (h : w.before args s = true) : w.before a' U = true := by
  simp only [vx_ot, Bool.or_eq_true] at hg
  rcases hg with hg | hg
  · exact va_tabs hg hvm h
  · exact word_at hW (good_of_word hg) h
/-- a list's words: the good ones out of the method's own list, the others by premises of their own -/
theorem vx_hat {args : Array Value} {s : State} {L B : List Cond} (h1 : ∀ w ∈ L.filter goodWord, w.before args s = true) (h2 : ∀ w ∈ L.filter (fun w => !goodWord w), w ∈ B) (h3 : ∀ w ∈ B, w.before args s = true) : ∀ w ∈ L, w.before args s = true := by
  intro w hw
  by_cases g : goodWord w = true
  · exact h1 w (List.mem_filter.mpr ⟨hw, g⟩)
  · refine h3 w (h2 w (List.mem_filter.mpr ⟨hw, ?_⟩))
    show (!goodWord w) = true
    cases hgw : goodWord w
    · rfl
    · exact absurd hgw g
theorem vx_c {args : Array Value} {s : State} {w : Cond} {B : List Cond} (h : w.before args s = true) (t : ∀ w ∈ B, w.before args s = true) : ∀ w' ∈ w :: B, w'.before args s = true := fun w' h' => (List.mem_cons.mp h').elim (fun e => by rw [e]; exact h) (t w')
theorem vx_n {args : Array Value} {s : State} : ∀ w ∈ ([] : List Cond), w.before args s = true := fun _ h => nomatch h
theorem vx_own {args : Array Value} {s : State} {L : List Cond} (h1 : ∀ w ∈ L.filter vx_no, w.before args s = true)
    (hU : (Cond.isRef (.static Bundle.tN "UNASSIGNED_STACK" Bundle.steD)).before args s = true) (hN : (Cond.isRef (.static Bundle.tN "SUPPRESSED_SENTINEL" Bundle.listD)).before args s = true)
    (lU : (Cond.laysStatic Bundle.tN "UNASSIGNED_STACK" Bundle.steD).before args s = true) (lN : (Cond.laysStatic Bundle.tN "SUPPRESSED_SENTINEL" Bundle.listD).before args s = true) : ∀ w ∈ L, w.before args s = true := by
  intro w hw
  by_cases e1 : w = .isRef (.static Bundle.tN "UNASSIGNED_STACK" Bundle.steD)
  · rw [e1]; exact hU
  · by_cases e2 : w = .isRef (.static Bundle.tN "SUPPRESSED_SENTINEL" Bundle.listD)
    · rw [e2]; exact hN
    · by_cases e3 : w = .laysStatic Bundle.tN "UNASSIGNED_STACK" Bundle.steD
      · rw [e3]; exact lU
      · by_cases e4 : w = .laysStatic Bundle.tN "SUPPRESSED_SENTINEL" Bundle.listD
        · rw [e4]; exact lN
        · exact h1 w (List.mem_filter.mpr ⟨hw, by unfold vx_no; rw [decide_eq_true e1, decide_eq_true e2, decide_eq_true e3, decide_eq_true e4]; rfl⟩)
/-- where a static field lies, its class's statics cell in H -/
def vx_L (C n d : String) (A : Nat → Prop) (U : State) (H : Heap) : Prop := ∃ (c : ClassId) (k : Class) (i : Nat) (f : Field) (a : Nat) (cell : Cell), U.vm.findClass C = some c ∧ U.fieldFound? C n d = some (c, k, i, f) ∧ f.isStatic = true ∧ k.statics = some a ∧ H[a]? = some cell ∧ cell.vm.isStatics = true ∧ cell.cls = c ∧ f.slot < cell.slots.size ∧ k.staticTypes[f.slot]? = some f.type ∧ ¬ A a
theorem vx_L.moved {C n d : String} {A : Nat → Prop} {u U : State} {H : Heap} (hvm : u.vm.Alike U.vm) (h : vx_L C n d A u H) : vx_L C n d A U H := by
  obtain ⟨c, k, i, f, a, cell, h1, h2, h3, h4, h5, h6, h7, h8, h9, h10⟩ := h
  obtain ⟨k', hi', he⟩ := State.fieldFound?_setVm hvm h2
  exact ⟨c, k', i, f, a, cell, by rw [hvm.findClass]; exact h1, hi', h3, by rw [he]; exact h4, h5, h6, h7, h8, by rw [he]; exact h9, h10⟩
theorem vx_L.kept {C n d : String} {A : Nat → Prop} {U : State} {H H1 : Heap} (h : vx_L C n d A U H) (hq : ∀ a : Nat, a < H.size → ¬ A a → H1[a]? = H[a]?) : vx_L C n d A U H1 := by
  obtain ⟨c, k, i, f, a, cell, h1, h2, h3, h4, h5, h6, h7, h8, h9, h10⟩ := h
  exact ⟨c, k, i, f, a, cell, h1, h2, h3, h4, by rw [hq a (Array.getElem?_eq_some_iff.mp h5).1 h10]; exact h5, h6, h7, h8, h9, h10⟩
theorem vx_L.narrow {C n d : String} {A B : Nat → Prop} {U : State} {H : Heap} (h : vx_L C n d A U H) (hAB : ∀ q, B q → A q) : vx_L C n d B U H := by
  obtain ⟨c, k, i, f, a, cell, h1, h2, h3, h4, h5, h6, h7, h8, h9, h10⟩ := h
  exact ⟨c, k, i, f, a, cell, h1, h2, h3, h4, h5, h6, h7, h8, h9, fun z => h10 (hAB _ z)⟩
theorem vx_L.word {C n d : String} {A : Nat → Prop} {s : State} {args : Array Value} (h : vx_L C n d A s s.heap) : (Cond.laysStatic C n d).before args s = true := by
  obtain ⟨c, k, i, f, a, cell, h1, h2, h3, h4, h5, h6, h7, h8, h9, -⟩ := h
  show (Cond.laysStatic C n d).holds args s none s [] = true
  exact Cond.laysStatic_of h1 h2 h3 h4 h5 h6 h7 h8 h9
/-- .. and what it holds: null or some reference -/
def vx_Zq (C n d : String) (A : Nat → Prop) (U : State) (H : Heap) : Prop := va_Zq C n d A U H ∧ vx_L C n d A U H
theorem vx_Zq.moved {C n d : String} {A : Nat → Prop} {u U : State} {H : Heap} (hvm : u.vm.Alike U.vm) (h : vx_Zq C n d A u H) : vx_Zq C n d A U H := ⟨va_Zq.moved hvm h.1, vx_L.moved hvm h.2⟩
theorem vx_Zq.kept {C n d : String} {A : Nat → Prop} {U : State} {H H1 : Heap} (h : vx_Zq C n d A U H) (hq : ∀ a : Nat, a < H.size → ¬ A a → H1[a]? = H[a]?) : vx_Zq C n d A U H1 := ⟨va_Zq.kept h.1 hq, vx_L.kept h.2 hq⟩
theorem vx_Zq.narrow {C n d : String} {A B : Nat → Prop} {U : State} {H : Heap} (h : vx_Zq C n d A U H) (hAB : ∀ q, B q → A q) : vx_Zq C n d B U H := ⟨va_Zq.narrow h.1 hAB, vx_L.narrow h.2 hAB⟩
theorem vx_Zqof {args : Array Value} {s : State} {C n d : String} {A : Nat → Prop} (hl : (Cond.laysStatic C n d).before args s = true) (hini : (Cond.initialized C).before args s = true) (h : (Cond.isRef (.static C n d)).before args s = true) (hA : ∀ a : Nat, a < s.heap.size → ¬ A a) : vx_Zq C n d A s s.heap := by
  refine ⟨va_Zqof hl hini h hA, ?_⟩
  obtain ⟨c, k, i, f, a, cell, h1, h2, h3, h4, h5, h6, h7, h8, h9⟩ := Cond.laysStatic_spec hl
  exact ⟨c, k, i, f, a, cell, h1, h2, h3, h4, h5, h6, h7, h8, h9, hA a (Array.getElem?_eq_some_iff.mp h5).1⟩
theorem vx_isRef {C n d : String} {v : Value} {A : Nat → Prop} {s : State} {args : Array Value} (h : va_Z C n d v A s s.heap) (hv : v.isRef = true) : (Cond.isRef (.static C n d)).before args s = true := by
  obtain ⟨cf, kf, fi, f, a, cell, h1, h2, h3, h4, h5, h6, h7, -⟩ := h
  have he : (Term.static C n d).eval args s none [] s = some v := by
    simp [Term.eval, State.fieldNamed?, h1, h2, h4, h5, h6, h7]
  simp only [Cond.before, Cond.holds, Cond.value, he]
  cases v <;> simp_all [Value.isRef]
theorem vx_isRefq {C n d : String} {A : Nat → Prop} {s : State} {args : Array Value} (h : va_Zq C n d A s s.heap) : (Cond.isRef (.static C n d)).before args s = true := by
  rcases h with h | ⟨t, h⟩
  · exact vx_isRef h rfl
  · exact vx_isRef h rfl
/-- the same frame, seen from here: as if the method were called anew in this heap -/
theorem vx_rebase {T : State} (X : Stand p l e R s m args below meth c T locs cells slots) {R' : Room} (hf : R'.frames ≤ R.frames) (hl : R'.locals ≤ R.locals) (hc : cells + R'.cells ≤ R.cells) (hs : slots + R'.slots ≤ R.slots) :
    Stand p l e R' ((T.setVm s.vm).setFrames (.invoking m args :: below)) m args below meth c T [] 0 0 := by
  have htop : (T.setVm s.vm).topJava?.isSome := X.here.top
  have hF : ((T.setVm s.vm).setFrames (.invoking m args :: below)).frames = .invoking m args :: below := State.frames_setFrames _ (State.cur_lt_of_top htop)
  obtain ⟨g₀, hg0⟩ := Option.isSome_iff_exists.mp htop
  obtain ⟨r, hr⟩ := State.topJava?_eq_some.mp hg0
  have hl9 : e.platform.stackLimits (T.setVm s.vm).me = e.platform.stackLimits s.me := X.limits
  have hb9 : (T.setVm s.vm).me.stackBytes = s.me.stackBytes := X.bytes
  refine ⟨X.admits, X.cas, X.clock, hF, ?_, X.hears, X.method, X.code, X.here, X.tail, X.warmed, ?_, ?_, ?_⟩
  · have h := X.room
    have hU : ((T.setVm s.vm).setFrames (.invoking m args :: below)).localsInUse = s.localsInUse := by
      rw [State.localsInUse_invoking hF (meth := meth) (c := c) X.method X.code, State.localsInUse_invoking X.frames X.method X.code]
    simp only [State.hasRoom, Bool.and_eq_true, decide_eq_true_eq] at h ⊢
    obtain ⟨⟨⟨⟨h1, h2, h3, h4, h5, h6⟩, h7⟩, h8⟩, h9⟩ := h
    rw [X.frames, List.length_cons] at h2 h3
    have q1 := X.heapSize
    have q2 := X.used
    simp only [hF, hU, List.length_cons, State.stackLimits_setFrames, State.stackBytes_setFrames, hl9, hb9]
    refine ⟨⟨⟨⟨by omega, by omega, by omega, by omega, by omega, h6⟩, ?_⟩, ?_⟩, X.book⟩
    · show T.heap.size + R'.cells ≤ e.platform.maxCells
      omega
    · show T.slotsUsed + R'.slots ≤ e.platform.maxSlots
      omega
  · rw [State.stackLimits_setFrames]; rfl
  · rw [State.stackBytes_setFrames]; rfl
  · refine ⟨?_, Nat.le_refl _, Nat.le_refl _, ?_, ?_, fun a c9 h9 => ⟨c9, h9, rfl, rfl, fun _ _ => rfl⟩⟩
    · obtain ⟨t, ht, -⟩ := State.frames_cons hr
      show T.setVm s.vm = { ((T.setVm s.vm).setFrames (.invoking m args :: below)).setFrames (T.setVm s.vm).frames with heap := T.heap, slotsUsed := T.slotsUsed }
      rw [State.setFrames_setFrames, State.setFrames_self ht]
      rfl
    · show T.slotsUsed = T.slotsUsed + ((T.heap.toList.drop T.heap.size).map (·.slots.size)).sum
      rw [List.drop_eq_nil_of_le (Nat.le_of_eq Array.length_toList)]
      rfl
    · show ((T.heap.toList.drop T.heap.size).map (·.slots.size)).sum ≤ 0
      rw [List.drop_eq_nil_of_le (Nat.le_of_eq Array.length_toList)]
      exact Nat.le_refl _
/-- 'throw new E()': new; dup; invokespecial; athrow -/
theorem vx_throw0 {cc : ByteArray} {pc : Nat} (hexec : p.tables.exec = Jvm.exec) (hb : c.code = cc) (hl : l.stackTraces = false) {own cls : String} {names : List String} {ik ic mc ms : Nat} {A : Nat → Prop}
    (hown : s.vm.findClass own = some m.cls) (hcls : Bundle.fit cls = true) (hnames : ∀ n ∈ names, Bundle.fit n = true)
    (hk : (Cond.classLink own ik cls).before args s = true) (hini : (Cond.initialized cls).before args s = true) (hat : ∀ w ∈ vx_at0 own ic cls names, w.before args s = true)
    (hgood : ∀ w ∈ Cond.classLink own ik cls :: Cond.initialized cls :: vx_at0 own ic cls names, vx_ot w = true)
    (hU : vx_Zq Bundle.tN "UNASSIGNED_STACK" Bundle.steD A s s.heap) (hN : vx_Zq Bundle.tN "SUPPRESSED_SENTINEL" Bundle.listD A s s.heap) (hS : va_S A s.heap H locs) (hsize : ls.size = c.maxLocals)
    (d0 : decode cc pc = .ok (.new ik, 3)) (d3 : decode cc (pc + 3) = .ok (.dup, 1)) (d4 : decode cc (pc + 4) = .ok (.invokespecial ic, 3)) (d7 : decode cc (pc + 7) = .ok (.athrow, 1))
    (hout : ∀ x ∈ c.exceptionTable.toList, covers x (pc + 7) = false)
    (hRframes : names.length + 3 < R.frames) (hRlocals : (rest.map fun v => v.category).sum + (13 * (names.length + 1) + 42) ≤ R.locals) (hRcells : cells + 1 ≤ R.cells) (hRslots : slots + 6 ≤ R.slots) (hlocks : meth.locks = false)
    (hx : ∀ t : State, s.vm.Alike t.vm → H.size ≤ t.heap.size → (∀ q : Nat, q < H.size → t.heap[q]? = H[q]?) → XC cls s t)
    (hf : ∀ z ∈ locs, free z.base) (hc : cells + 1 ≤ mc) (hs : slots + 6 ≤ ms) :
    W p l e R s m args below meth c H locs cells slots (vx_MQ below Qc XC args s mc ms free) (F0 m pc ls rest) := by
  intro T hT X
  have htr : e.platform.stackTraces = false := (show e.platform.stackTraces = l.stackTraces by rw [X.admits.platform]).trans hl
  have Y := vx_rebase X (R' := { frames := R.frames, locals := R.locals, cells := 1, slots := 6 }) (Nat.le_refl _) (Nat.le_refl _) hRcells hRslots
  obtain ⟨s', hA⟩ : ∃ z, z = (T.setVm s.vm).setFrames (.invoking m args :: below) := ⟨_, rfl⟩
  rw [← hA] at Y
  have hvm : s'.vm = s.vm := by rw [hA]; rfl
  have hhp : s'.heap = H := by rw [hA]; exact hT
  have hW0 : s.WarmedH s'.vm := by rw [hvm]; exact State.WarmedH.refl s
  have hat' : ∀ w ∈ vx_at0 own ic cls names, w.before args s' = true := fun w hw => vx_ot_at hW0 hvm.symm (hgood w (List.mem_cons_of_mem _ (List.mem_cons_of_mem _ hw))) (hat w hw)
  have hk' : (Cond.classLink own ik cls).before args s' = true := vx_ot_at hW0 hvm.symm (hgood _ List.mem_cons_self) hk
  have hini' : (Cond.initialized cls).before args s' = true := vx_ot_at hW0 hvm.symm (hgood _ (List.mem_cons_of_mem _ List.mem_cons_self)) hini
  have hU' : vx_Zq Bundle.tN "UNASSIGNED_STACK" Bundle.steD A s' s'.heap := by rw [hhp]; exact vx_Zq.moved hW0.alike (hU.kept hS.2.1)
  have hN' : vx_Zq Bundle.tN "SUPPRESSED_SENTINEL" Bundle.listD A s' s'.heap := by rw [hhp]; exact vx_Zq.moved hW0.alike (hN.kept hS.2.1)
  have h : ∀ w ∈ Bundle.ownAtoms0 own ic cls names, w.before args s' = true := vx_own hat' (vx_isRefq hU'.1) (vx_isRefq hN'.1) hU'.2.word hN'.2.word
  have hown' : s'.vm.findClass own = some m.cls := by rw [hvm]; exact hown
  have hins : (Cond.instantiable cls 6).before args s' = true := h _ (by simp [Bundle.ownAtoms0])
  obtain ⟨vm₁, cX, kX, hfX, hkX, -, -, X₁, st1⟩ := Y.newCold hexec (own := own) (C := cls) (index := ik) (n := 6) hown' hk' hins hini'
    (g := F0 m pc ls rest) rfl (by rw [hb]; exact d0) (Nat.le_refl _) (Nat.le_refl _)
  generalize hT1 : (T.setVm vm₁).pushCell { cls := cX, slots := kX.instanceTypes.map defaultValue, vm := .none } = T1 at X₁ st1
  have hcat : (Value.ref T.heap.size).category = 1 := rfl
  have hcellA : T1.heap[T.heap.size]? = some (freshCell cX kX) := by rw [← hT1]; exact State.heap_pushCell_size _ _
  have d3' : decode c.code (pc + 3) = .ok (.dup, 1) := by rw [hb]; exact d3
  obtain ⟨U, hsteps, hrun, hend, hW, hsame, ce, hce, hO⟩ := X₁.ctorThrow0 hexec htr (own := own) (cls := cls) (names := names) (ic := ic) hown' hcls hnames h (fun x hx => nomatch hx) hfX hkX hcellA (by rw [hhp, hT]; exact Nat.le_refl _)
    (g := { method := m, pc := pc + 4, locals := ls, stack := .ref T.heap.size :: .ref T.heap.size :: rest, locked := none }) rfl hsize rfl rfl (rest := rest) rfl
    (by rw [hb]; exact d4) (by rw [hb]; exact d7) hout hRframes (by simp only [List.map_cons, List.sum_cons, hcat]; omega) hlocks
  obtain ⟨f1, f2⟩ := vx_frame hsame
  rw [hhp] at f1 f2
  have hWs : s.WarmedH U.vm := State.WarmedH.trans hW0 hW
  have hcl : s.vm.findClass cls = some ce.cls := by
    have h9 := hO.cls
    rw [hvm] at h9
    exact h9
  have hall : s.sameButNew ({ U with vm := s.vm } : State) locs mc ms := by
    subst hA
    obtain ⟨e1, e2⟩ := hsame
    rw [State.setFrames_setFrames] at e1
    have h2 : (T.setVm s.vm).sameButNew ({ U with vm := s.vm } : State) [] (0 + 1) (0 + 6) := ⟨e1, e2⟩
    have h3 := X.same.trans h2
    rw [List.append_nil] at h3
    exact h3.mono hc hs
  refine ⟨U, ?_, .threw T.heap.size, hrun, hend, Or.inr ⟨T.heap.size, rfl, cls, ce, locs, hx U hWs.alike f1 (fun q hq => f2 q hq (fun z hz => nomatch hz)), hce, hO.vm, hcl, hWs, hall, hf⟩⟩
  refine st1 _ ?_
  show Steps p.tables e below (T1.setTop { method := m, pc := pc + 3, locals := ls, stack := .ref T.heap.size :: rest, locked := none }) _
  jvm_step X₁.here [X₁.here.top, hexec, d3', Value.category]
  exact hsteps
/-- 'throw new E("text")': new; dup; ldc; invokespecial; athrow -/
theorem vx_throwS {cc : ByteArray} {pc : Nat} (hexec : p.tables.exec = Jvm.exec) (hb : c.code = cc) (hl : l.stackTraces = false) {own cls text : String} {names : List String} {ik is ic mc ms sa : Nat} {A : Nat → Prop}
    (hown : s.vm.findClass own = some m.cls) (hcls : Bundle.fit cls = true) (hnames : ∀ n ∈ names, Bundle.fit n = true)
    (hk : (Cond.classLink own ik cls).before args s = true) (hini : (Cond.initialized cls).before args s = true) (hstr : vk_R own is text sa s) (hat : ∀ w ∈ vx_atS own ic cls names, w.before args s = true)
    (hgood : ∀ w ∈ Cond.classLink own ik cls :: Cond.initialized cls :: vx_atS own ic cls names, vx_ot w = true)
    (hU : vx_Zq Bundle.tN "UNASSIGNED_STACK" Bundle.steD A s s.heap) (hN : vx_Zq Bundle.tN "SUPPRESSED_SENTINEL" Bundle.listD A s s.heap) (hS : va_S A s.heap H locs) (hsize : ls.size = c.maxLocals)
    (d0 : decode cc pc = .ok (.new ik, 3)) (d3 : decode cc (pc + 3) = .ok (.dup, 1)) (d4 : decode cc (pc + 4) = .ok (.ldc is, 2)) (d6 : decode cc (pc + 6) = .ok (.invokespecial ic, 3)) (d9 : decode cc (pc + 9) = .ok (.athrow, 1))
    (hout : ∀ x ∈ c.exceptionTable.toList, covers x (pc + 9) = false)
    (hRframes : names.length + 3 < R.frames) (hRlocals : (rest.map fun v => v.category).sum + (13 * (names.length + 1) + 43) ≤ R.locals) (hRcells : cells + 1 ≤ R.cells) (hRslots : slots + 6 ≤ R.slots) (hlocks : meth.locks = false)
    (hx : ∀ t : State, s.vm.Alike t.vm → H.size ≤ t.heap.size → (∀ q : Nat, q < H.size → t.heap[q]? = H[q]?) → XC cls s t)
    (hf : ∀ z ∈ locs, free z.base) (hc : cells + 1 ≤ mc) (hs : slots + 6 ≤ ms) :
    W p l e R s m args below meth c H locs cells slots (vx_MQ below Qc XC args s mc ms free) (F0 m pc ls rest) := by
  intro T hT X
  have htr : e.platform.stackTraces = false := (show e.platform.stackTraces = l.stackTraces by rw [X.admits.platform]).trans hl
  have Y := vx_rebase X (R' := { frames := R.frames, locals := R.locals, cells := 1, slots := 6 }) (Nat.le_refl _) (Nat.le_refl _) hRcells hRslots
  obtain ⟨s', hA⟩ : ∃ z, z = (T.setVm s.vm).setFrames (.invoking m args :: below) := ⟨_, rfl⟩
  rw [← hA] at Y
  have hvm : s'.vm = s.vm := by rw [hA]; rfl
  have hhp : s'.heap = H := by rw [hA]; exact hT
  have hW0 : s.WarmedH s'.vm := by rw [hvm]; exact State.WarmedH.refl s
  have hat' : ∀ w ∈ vx_atS own ic cls names, w.before args s' = true := fun w hw => vx_ot_at hW0 hvm.symm (hgood w (List.mem_cons_of_mem _ (List.mem_cons_of_mem _ hw))) (hat w hw)
  have hk' : (Cond.classLink own ik cls).before args s' = true := vx_ot_at hW0 hvm.symm (hgood _ List.mem_cons_self) hk
  have hini' : (Cond.initialized cls).before args s' = true := vx_ot_at hW0 hvm.symm (hgood _ (List.mem_cons_of_mem _ List.mem_cons_self)) hini
  have hU' : vx_Zq Bundle.tN "UNASSIGNED_STACK" Bundle.steD A s' s'.heap := by rw [hhp]; exact vx_Zq.moved hW0.alike (hU.kept hS.2.1)
  have hN' : vx_Zq Bundle.tN "SUPPRESSED_SENTINEL" Bundle.listD A s' s'.heap := by rw [hhp]; exact vx_Zq.moved hW0.alike (hN.kept hS.2.1)
  have h : ∀ w ∈ Bundle.ownAtoms own ic cls names, w.before args s' = true := vx_own hat' (vx_isRefq hU'.1) (vx_isRefq hN'.1) hU'.2.word hN'.2.word
  have hown' : s'.vm.findClass own = some m.cls := by rw [hvm]; exact hown
  have hins : (Cond.instantiable cls 6).before args s' = true := h _ (by simp [Bundle.ownAtoms])
  obtain ⟨vm₁, cX, kX, hfX, hkX, -, -, X₁, st1⟩ := Y.newCold hexec (own := own) (C := cls) (index := ik) (n := 6) hown' hk' hins hini'
    (g := F0 m pc ls rest) rfl (by rw [hb]; exact d0) (Nat.le_refl _) (Nat.le_refl _)
  generalize hT1 : (T.setVm vm₁).pushCell { cls := cX, slots := kX.instanceTypes.map defaultValue, vm := .none } = T1 at X₁ st1
  have hcat : (Value.ref T.heap.size).category = 1 := rfl
  have hcellA : T1.heap[T.heap.size]? = some (freshCell cX kX) := by rw [← hT1]; exact State.heap_pushCell_size _ _
  have d3' : decode c.code (pc + 3) = .ok (.dup, 1) := by rw [hb]; exact d3
  have d4' : decode c.code (pc + 4) = .ok (.ldc is, 2) := by rw [hb]; exact d4
  have hstr' : vk_R own is text sa s' := vk_R.warm hW0 hstr
  obtain ⟨U, hsteps, hrun, hend, hW, hsame, ce, hce, hO⟩ := X₁.ctorThrowS hexec htr (own := own) (cls := cls) (names := names) (ic := ic) hown' hcls hnames h (fun x hx => nomatch hx) hfX hkX hcellA (by rw [hhp, hT]; exact Nat.le_refl _) (msg := .ref sa) rfl
    (g := { method := m, pc := pc + 6, locals := ls, stack := .ref sa :: .ref T.heap.size :: .ref T.heap.size :: rest, locked := none }) rfl hsize rfl rfl (rest := rest) rfl
    (by rw [hb]; exact d6) (by rw [hb]; exact d9) hout hRframes (by simp only [List.map_cons, List.sum_cons, hcat]; omega) hlocks
  obtain ⟨f1, f2⟩ := vx_frame hsame
  rw [hhp] at f1 f2
  have hWs : s.WarmedH U.vm := State.WarmedH.trans hW0 hW
  have hcl : s.vm.findClass cls = some ce.cls := by
    have h9 := hO.cls
    rw [hvm] at h9
    exact h9
  have hall : s.sameButNew ({ U with vm := s.vm } : State) locs mc ms := by
    subst hA
    obtain ⟨e1, e2⟩ := hsame
    rw [State.setFrames_setFrames] at e1
    have h2 : (T.setVm s.vm).sameButNew ({ U with vm := s.vm } : State) [] (0 + 1) (0 + 6) := ⟨e1, e2⟩
    have h3 := X.same.trans h2
    rw [List.append_nil] at h3
    exact h3.mono hc hs
  refine ⟨U, ?_, .threw T.heap.size, hrun, hend, Or.inr ⟨T.heap.size, rfl, cls, ce, locs, hx U hWs.alike f1 (fun q hq => f2 q hq (fun z hz => nomatch hz)), hce, hO.vm, hcl, hWs, hall, hf⟩⟩
  refine st1 _ ?_
  show Steps p.tables e below (T1.setTop { method := m, pc := pc + 3, locals := ls, stack := .ref T.heap.size :: rest, locked := none }) _
  jvm_step X₁.here [X₁.here.top, hexec, d3', Value.category]
  exact X₁.ldcString hexec (own := own) (text := text) (index := is) (a := sa) hown' hstr'.1 hstr'.2
    (g := { method := m, pc := pc + 4, locals := ls, stack := .ref T.heap.size :: .ref T.heap.size :: rest, locked := none }) rfl d4' _ hsteps
/-- 'throw new E("text")', the text by a wide index -/
theorem vx_throwSW {cc : ByteArray} {pc : Nat} (hexec : p.tables.exec = Jvm.exec) (hb : c.code = cc) (hl : l.stackTraces = false) {own cls text : String} {names : List String} {ik is ic mc ms sa : Nat} {A : Nat → Prop}
    (hown : s.vm.findClass own = some m.cls) (hcls : Bundle.fit cls = true) (hnames : ∀ n ∈ names, Bundle.fit n = true)
    (hk : (Cond.classLink own ik cls).before args s = true) (hini : (Cond.initialized cls).before args s = true) (hstr : vk_R own is text sa s) (hat : ∀ w ∈ vx_atS own ic cls names, w.before args s = true)
    (hgood : ∀ w ∈ Cond.classLink own ik cls :: Cond.initialized cls :: vx_atS own ic cls names, vx_ot w = true)
    (hU : vx_Zq Bundle.tN "UNASSIGNED_STACK" Bundle.steD A s s.heap) (hN : vx_Zq Bundle.tN "SUPPRESSED_SENTINEL" Bundle.listD A s s.heap) (hS : va_S A s.heap H locs) (hsize : ls.size = c.maxLocals)
    (d0 : decode cc pc = .ok (.new ik, 3)) (d3 : decode cc (pc + 3) = .ok (.dup, 1)) (d4 : decode cc (pc + 4) = .ok (.ldc_w is, 3)) (d7 : decode cc (pc + 7) = .ok (.invokespecial ic, 3)) (d10 : decode cc (pc + 10) = .ok (.athrow, 1))
    (hout : ∀ x ∈ c.exceptionTable.toList, covers x (pc + 10) = false)
    (hRframes : names.length + 3 < R.frames) (hRlocals : (rest.map fun v => v.category).sum + (13 * (names.length + 1) + 43) ≤ R.locals) (hRcells : cells + 1 ≤ R.cells) (hRslots : slots + 6 ≤ R.slots) (hlocks : meth.locks = false)
    (hx : ∀ t : State, s.vm.Alike t.vm → H.size ≤ t.heap.size → (∀ q : Nat, q < H.size → t.heap[q]? = H[q]?) → XC cls s t)
    (hf : ∀ z ∈ locs, free z.base) (hc : cells + 1 ≤ mc) (hs : slots + 6 ≤ ms) :
    W p l e R s m args below meth c H locs cells slots (vx_MQ below Qc XC args s mc ms free) (F0 m pc ls rest) := by
  intro T hT X
  have htr : e.platform.stackTraces = false := (show e.platform.stackTraces = l.stackTraces by rw [X.admits.platform]).trans hl
  have Y := vx_rebase X (R' := { frames := R.frames, locals := R.locals, cells := 1, slots := 6 }) (Nat.le_refl _) (Nat.le_refl _) hRcells hRslots
  obtain ⟨s', hA⟩ : ∃ z, z = (T.setVm s.vm).setFrames (.invoking m args :: below) := ⟨_, rfl⟩
  rw [← hA] at Y
  have hvm : s'.vm = s.vm := by rw [hA]; rfl
  have hhp : s'.heap = H := by rw [hA]; exact hT
  have hW0 : s.WarmedH s'.vm := by rw [hvm]; exact State.WarmedH.refl s
  have hat' : ∀ w ∈ vx_atS own ic cls names, w.before args s' = true := fun w hw => vx_ot_at hW0 hvm.symm (hgood w (List.mem_cons_of_mem _ (List.mem_cons_of_mem _ hw))) (hat w hw)
  have hk' : (Cond.classLink own ik cls).before args s' = true := vx_ot_at hW0 hvm.symm (hgood _ List.mem_cons_self) hk
  have hini' : (Cond.initialized cls).before args s' = true := vx_ot_at hW0 hvm.symm (hgood _ (List.mem_cons_of_mem _ List.mem_cons_self)) hini
  have hU' : vx_Zq Bundle.tN "UNASSIGNED_STACK" Bundle.steD A s' s'.heap := by rw [hhp]; exact vx_Zq.moved hW0.alike (hU.kept hS.2.1)
  have hN' : vx_Zq Bundle.tN "SUPPRESSED_SENTINEL" Bundle.listD A s' s'.heap := by rw [hhp]; exact vx_Zq.moved hW0.alike (hN.kept hS.2.1)
  have h : ∀ w ∈ Bundle.ownAtoms own ic cls names, w.before args s' = true := vx_own hat' (vx_isRefq hU'.1) (vx_isRefq hN'.1) hU'.2.word hN'.2.word
  have hown' : s'.vm.findClass own = some m.cls := by rw [hvm]; exact hown
  have hins : (Cond.instantiable cls 6).before args s' = true := h _ (by simp [Bundle.ownAtoms])
  obtain ⟨vm₁, cX, kX, hfX, hkX, -, -, X₁, st1⟩ := Y.newCold hexec (own := own) (C := cls) (index := ik) (n := 6) hown' hk' hins hini'
    (g := F0 m pc ls rest) rfl (by rw [hb]; exact d0) (Nat.le_refl _) (Nat.le_refl _)
  generalize hT1 : (T.setVm vm₁).pushCell { cls := cX, slots := kX.instanceTypes.map defaultValue, vm := .none } = T1 at X₁ st1
  have hcat : (Value.ref T.heap.size).category = 1 := rfl
  have hcellA : T1.heap[T.heap.size]? = some (freshCell cX kX) := by rw [← hT1]; exact State.heap_pushCell_size _ _
  have d3' : decode c.code (pc + 3) = .ok (.dup, 1) := by rw [hb]; exact d3
  have d4' : decode c.code (pc + 4) = .ok (.ldc_w is, 3) := by rw [hb]; exact d4
  have hstr' : vk_R own is text sa s' := vk_R.warm hW0 hstr
  obtain ⟨U, hsteps, hrun, hend, hW, hsame, ce, hce, hO⟩ := X₁.ctorThrowS hexec htr (own := own) (cls := cls) (names := names) (ic := ic) hown' hcls hnames h (fun x hx => nomatch hx) hfX hkX hcellA (by rw [hhp, hT]; exact Nat.le_refl _) (msg := .ref sa) rfl
    (g := { method := m, pc := pc + 7, locals := ls, stack := .ref sa :: .ref T.heap.size :: .ref T.heap.size :: rest, locked := none }) rfl hsize rfl rfl (rest := rest) rfl
    (by rw [hb]; exact d7) (by rw [hb]; exact d10) hout hRframes (by simp only [List.map_cons, List.sum_cons, hcat]; omega) hlocks
  obtain ⟨f1, f2⟩ := vx_frame hsame
  rw [hhp] at f1 f2
  have hWs : s.WarmedH U.vm := State.WarmedH.trans hW0 hW
  have hcl : s.vm.findClass cls = some ce.cls := by
    have h9 := hO.cls
    rw [hvm] at h9
    exact h9
  have hall : s.sameButNew ({ U with vm := s.vm } : State) locs mc ms := by
    subst hA
    obtain ⟨e1, e2⟩ := hsame
    rw [State.setFrames_setFrames] at e1
    have h2 : (T.setVm s.vm).sameButNew ({ U with vm := s.vm } : State) [] (0 + 1) (0 + 6) := ⟨e1, e2⟩
    have h3 := X.same.trans h2
    rw [List.append_nil] at h3
    exact h3.mono hc hs
  refine ⟨U, ?_, .threw T.heap.size, hrun, hend, Or.inr ⟨T.heap.size, rfl, cls, ce, locs, hx U hWs.alike f1 (fun q hq => f2 q hq (fun z hz => nomatch hz)), hce, hO.vm, hcl, hWs, hall, hf⟩⟩
  refine st1 _ ?_
  show Steps p.tables e below (T1.setTop { method := m, pc := pc + 3, locals := ls, stack := .ref T.heap.size :: rest, locked := none }) _
  jvm_step X₁.here [X₁.here.top, hexec, d3', Value.category]
  exact X₁.ldcStringW hexec (own := own) (text := text) (index := is) (a := sa) hown' hstr'.1 hstr'.2
    (g := { method := m, pc := pc + 4, locals := ls, stack := .ref T.heap.size :: .ref T.heap.size :: rest, locked := none }) rfl d4' _ hsteps
end Ends
section Bodies
variable {l : Launch}
theorem vx_ofW {y : MethodName} {ws ws' : List Cond} {rm : Room} {Pc : Array Value → State → Prop} {Qc : Array Value → State → Outcome → State → Prop} {XC : String → State → State → Prop} {mc ms : Nat} {free : Addr → Prop} {cc : ByteArray} {maxL : Nat} {ret : Option FieldType}
    (hy : plainName y.cls = true) (hw : ws = Cond.code y cc maxL ret :: ws')
    (body : ∀ p e s m args below meth c s₁, BodyLoose p l y (headSpec ws rm) cc maxL ret e s m args below meth c s₁ → c.maxLocals = maxL → (∀ x ∈ c.exceptionTable.toList, False) → Pc args s →
      W p l e (headSpec ws rm).room s m args below meth c s.heap [] 0 0 (vx_MQ below Qc XC args s mc ms free) (entryFrame m args maxL)) : vx_Met l y ws rm Pc Qc XC mc ms free := by
  refine MetFree.of_bodyS (code := cc) (maxLocals := maxL) (ret := ret) hy ?_ ?_
  · intro args s m h hn
    obtain ⟨meth, c, h1, h2, h3, h4, h5, h6, -, -⟩ := Cond.code_spec hn (atoms_spec (ws := ws) h _ (by rw [hw]; exact List.mem_cons_self))
    exact ⟨meth, c, h1, h2, h3, h4, h5, h6⟩
  · intro p e s m args below meth c s₁ B hml hP _
    have hh0 : s₁.heap = s.heap := by rw [B.state]; rfl
    have ht : ∀ x ∈ c.exceptionTable.toList, False := by
      obtain ⟨meth9, c9, h1, h2, -, -, -, -, h7, -⟩ := Cond.code_spec B.named (atoms_spec (ws := ws) B.pre _ (by rw [hw]; exact List.mem_cons_self))
      cases Option.some.inj (h1.symm.trans B.method)
      cases Option.some.inj (h2.symm.trans (Stand.of_body B).code)
      intro x hx
      rw [Array.isEmpty_iff.mp h7] at hx
      cases hx
    obtain ⟨t, a1, o, b1, b2, b3⟩ := body p e s m args below meth c s₁ B hml ht hP s₁ hh0 (Stand.of_body B)
    exact ⟨t, o, a1, b1, b2, b3⟩
/-- the table of a body with handlers -/
theorem vx_table {p : Program} {x y : MethodName} {S : Spec} {cc bytes : ByteArray} {maxL maxL' : Nat} {ret ret' : Option FieldType} {e : Env} {s s₁ : State} {m : MethodId} {args : Array Value} {below : List Frame} {meth : Method} {c : Code} {hh : List (Nat × Nat × Nat × Nat)}
    (B : BodyLoose p l y S cc maxL ret e s m args below meth c s₁) (h : (Cond.codeWith y bytes maxL' ret' hh).before args s = true) : c.exceptionTable.toList = tableOf hh := by
  obtain ⟨m9, meth9, c9, hn9, h1, h2, -, -, h6, -⟩ := Cond.codeWith_spec h
  cases Option.some.inj (hn9.symm.trans B.named)
  cases Option.some.inj (h1.symm.trans B.method)
  cases Option.some.inj (h2.symm.trans (Stand.of_body B).code)
  rw [← h6, table_eq]
end Bodies
end VXA
/-! ===== END ===== -/
/-! ===== BEGIN a static call of a method with an exception table ===== -/
section VXS
variable {p : Program} {l : Launch} {e : Env} {R : Room} {s : State} {m : MethodId} {args : Array Value} {below : List Frame} {meth : Method} {c : Code} {T : State} {H : Heap} {locs : List Loc} {cells slots : Nat}
abbrev vx_CSW (R : Room) (s : State) (args : Array Value) (own : String) (index : Nat) (y : MethodName) (bytes : ByteArray) (maxL : Nat) (ret : Option FieldType) (hh : List (Nat × Nat × Nat × Nat)) (ws : List Cond) (rm : Room) (mc ms n : Nat) : Prop :=
  (rm.cells = mc ∧ rm.slots = ms ∧ rm.frames + 1 ≤ R.frames ∧ 8 + (maxL + 11) + rm.locals ≤ R.locals ∧ (∀ w ∈ ws, ∀ (a' : Array Value) (U : State), s.WarmedH U.vm → w.before a' U = true) ∧ Cond.codeWith y bytes maxL ret hh ∈ ws) ∧
  (Cond.codeWith y bytes maxL ret hh).before args s = true ∧ (Cond.initialized y.cls).before args s = true ∧ (y.cls ≠ "java/lang/invoke/MethodHandle" ∧ y.cls ≠ "java/lang/invoke/VarHandle") ∧
  (∀ sig, parseMethodDescriptor y.desc = some sig → n = sig.parameters.length) ∧ (Cond.methodLink own index y).before args s = true ∧ (Cond.static y).before args s = true
theorem vx_cwSW {own : String} {index maxL mc ms : Nat} {y : MethodName} {bytes : ByteArray} {ret : Option FieldType} {hh : List (Nat × Nat × Nat × Nat)} {Ts ws ws' : List Cond} {rm : Room} (n : Nat) (ht : ∀ w ∈ Ts, w.before args s = true) (hT : GoodIn Ts (va_wsS own index y ws)) (hw : ws = Cond.codeWith y bytes maxL ret hh :: ws') (hrc : rm.cells = mc) (hrs : rm.slots = ms)
    (hd : y.cls ≠ "java/lang/invoke/MethodHandle" ∧ y.cls ≠ "java/lang/invoke/VarHandle" ∧ (parseMethodDescriptor y.desc).map (fun d => d.parameters.length) = some n) (hR : rm.frames + 1 ≤ R.frames ∧ 8 + (maxL + 11) + rm.locals ≤ R.locals) :
    vx_CSW R s args own index y bytes maxL ret hh ws rm mc ms n := by
  have ok : ∀ w ∈ va_wsS own index y ws, w.before args s = true := fun w h => ht w (hT w h).1
  have hG : GoodIn Ts ws := fun w h => hT w (by unfold va_wsS; exact List.mem_append_right _ h)
  have hc : Cond.codeWith y bytes maxL ret hh ∈ ws := by rw [hw]; exact List.mem_cons_self
  refine ⟨⟨hrc, hrs, hR.1, hR.2, pay_in ht hG, hc⟩, ht _ (hG _ hc).1, ok _ (by simp [va_wsS]), ⟨hd.1, hd.2.1⟩, fun sig h => ?_, ok _ (by simp [va_wsS]), ok _ (by simp [va_wsS])⟩
  have h2 := hd.2.2
  rw [h] at h2
  exact (Option.some.inj h2).symm
theorem vx_callSW (X : Stand p l e R s m args below meth c T locs cells slots) (hexec : p.tables.exec = Jvm.exec) {own : String} {index : Nat} {y : MethodName} {bytes : ByteArray} {maxL : Nat} {ret : Option FieldType} {hh : List (Nat × Nat × Nat × Nat)}
    (hown : s.vm.findClass own = some m.cls) (hlink : (Cond.methodLink own index y).before args s = true) (hstat : (Cond.static y).before args s = true) (hinit : (Cond.initialized y.cls).before args s = true)
    (hcode : (Cond.codeWith y bytes maxL ret hh).before args s = true) (hy : y.cls ≠ "java/lang/invoke/MethodHandle" ∧ y.cls ≠ "java/lang/invoke/VarHandle")
    {W9 : Nat} {Pre : Pt → Array Value → Prop} {Post : Pt → Array Value → Option Value → Pt → Prop} (hK : Back l R p e below s args y 3 W9 Pre Post)
    {g : JFrame} (hg : g.method = m) (hsize : g.locals.size = c.maxLocals) {argsL rest : List Value} (hlen : ∀ sig, parseMethodDescriptor y.desc = some sig → argsL.length = sig.parameters.length)
    (hstack : g.stack = argsL.reverse ++ rest) (hW : 2 * g.monitorRoom + (rest.map fun v => v.category).sum ≤ W9) (hdg : decode c.code g.pc = .ok (.invokestatic index, 3))
    (hpre : ∀ vm₁, s.WarmedH vm₁ → Pre ⟨T.setVm vm₁, locs, cells, slots⟩ argsL.toArray) :
    ∃ (v : Option Value) (vm₁ : Vm) (B : Pt), s.WarmedH vm₁ ∧ Stand p l e R s m args below meth c B.U B.locs B.cells B.slots ∧ Post ⟨T.setVm vm₁, locs, cells, slots⟩ argsL.toArray v B ∧
      ∀ target, Steps p.tables e below (B.U.setTop { g with pc := g.pc + 3, stack := v.toList ++ rest }) target → Steps p.tables e below (T.setTop g) target := by
  obtain ⟨mk, methM, cM, hnamed, hmethM, -, -, -, -, -, -, hsigM⟩ := Cond.codeWith_spec hcode
  have hstatic : methM.isStatic = true := Cond.static_spec hnamed hmethM hstat
  obtain ⟨kP, hkP, -⟩ := className_of_methodNamed hnamed
  have hinitP : kP.init = .initialized := Cond.initialized_spec (findClass_of_methodNamed hnamed) hkP hinit
  obtain ⟨vm₁, X₁, hstep₁⟩ := X.invokestatic hexec hown hlink hnamed hmethM hstatic hkP hinitP hy (g := g) hg (argsL := argsL) (rest := rest) (hlen _ hsigM) hstack hdg
  obtain ⟨v, B, X', hpost, hsteps⟩ := hK m meth c ⟨T.setVm vm₁, locs, cells, slots⟩ { g with stack := rest } (.invokestatic index) mk argsL.toArray X₁ hg hsize hdg hW (X₁.named hnamed) (hpre vm₁ X₁.warmed)
  exact ⟨v, vm₁, B, X₁.warmed, X', hpost, fun target h => hstep₁ _ fun acts => by rw [doInvoke_state]; exact hsteps.trans h⟩
theorem vx_runSW {y : MethodName} {bytes cc : ByteArray} {maxL nL mc ms n index : Nat} {ret : Option FieldType} {hh : List (Nat × Nat × Nat × Nat)} {ws : List Cond} {rm : Room} {Pc : Array Value → State → Prop} {Qc : Array Value → State → Outcome → State → Prop} {free : Addr → Prop} {Ts : List Cond} {own : String} {As rest : List Value} {g : JFrame}
    (S : CallFix p m c cc nL s args Ts own) (hM : Met l y ws rm Pc Qc mc ms free) (cw : vx_CSW R s args own index y bytes maxL ret hh ws rm mc ms n) (hp : PreS s H Pc As)
    (hg : g.method = m) (hn : As.length = n) (hsize : g.locals.size = nL) (hstack : g.stack = As.reverse ++ rest) (hW : 2 * g.monitorRoom + (rest.map fun v => v.category).sum ≤ 8) (hdg : decode cc g.pc = .ok (.invokestatic index, 3)) (hf : cells + mc ≤ R.cells ∧ slots + ms ≤ R.slots) :
    va_Run p l e R s m args below meth c H locs cells slots mc ms g rest (Qc As.toArray) (free) := by
  obtain ⟨⟨hrc, hrs, hfr, hlo, hws, hcw⟩, hcode, hini, hy, hlen, hl, hstt⟩ := cw
  have hK : Back l R p e below s args y 3 8 (PreOf R mc ms Pc) (PostOf Qc mc ms free) := va_backW (hh := hh) (bytes := bytes) (maxL := maxL) (ret := ret) hM hp.1 hrc hrs hfr hlo hws hcw (fun a' U hW => word_at hW (Or.inl (by first | rfl | simp [Cond.onTables, Cond.keeps, Cond.steady])) hini)
  obtain ⟨hx, hb, hml, ho, -⟩ := S
  intro T hT X
  obtain ⟨v, vm₁, ⟨U', l2, c2, s2⟩, hW₁, X', ⟨g', mk, t, L, e1, e2, hq, h1, hL, h2, h3⟩, st⟩ := vx_callSW X hx (hh := hh) (bytes := bytes) (maxL := maxL) (ret := ret) ho hl hstt hini hcode hy hK hg (hsize.trans hml.symm) (argsL := As) (rest := rest) (fun sig h => hn.trans (hlen sig h)) hstack hW (by rw [hb]; exact hdg)
    (fun vm₁ hW₁ => ⟨hf.1, hf.2, hp.2 (T.setVm vm₁) hT hW₁⟩)
  dsimp only [Pt.U, Pt.locs, Pt.cells, Pt.slots] at X' e1 e2 h1 h2 h3 st
  subst h1; subst h2; subst h3
  exact ⟨v, (T.setVm vm₁).calling g' mk As.toArray, t, U', L, hT, X', hL, e1, e2, hq, st⟩
/-- not caught here, past rows that name other classes: it goes on to the caller -/
theorem vx_outP {p : Program} {l : Launch} {e : Env} {R : Room} {s : State} {m : MethodId} {args : Array Value} {below : List Frame} {meth : Method} {c : Code} {H : Heap} {locs : List Loc} {cells slots : Nat} {free : Addr → Prop} {ls : Array Slot} {rest : List Value} {Qc : Array Value → State → Outcome → State → Prop} {XC : String → State → State → Prop}
    {pc : Nat} {own E : String} {ce : Cell} {q : Addr} {mc ms : Nat} (hown : s.vm.findClass own = some m.cls) (hlocks : meth.locks = false)
    (hpass : ∀ z ∈ c.exceptionTable.toList, covers z pc = false ∨ (z.catchType ≠ 0 ∧ ∃ nm : String, (Cond.classLink own z.catchType nm).before args s = true ∧ va_Nc E nm s)) (hcell : H[q]? = some ce) (hv : ce.vm = .none) (hcl : s.vm.findClass E = some ce.cls)
    (hx : ∀ t : State, t.heap = H → s.vm.Alike t.vm → XC E s t) (hf : ∀ z ∈ locs, free z.base) (hc : cells ≤ mc) (hs : slots ≤ ms) :
    vx_W p l e R s m args below meth c H locs cells slots (vx_MQ below Qc XC args s mc ms free) (F0 m pc ls rest) q := by
  intro T hT X
  have hpl : e.platform.magicAccessors = ({} : Platform).magicAccessors := by rw [X.admits.platform]
  obtain ⟨vm', hW', X', st⟩ := X.outThrough hlocks q (g := F0 m pc ls rest) rfl rfl rfl (cell := ce) (by rw [hT]; exact hcell) (by rw [hv]; rfl)
    (by obtain ⟨k9, h9, -⟩ := Vm.findClass_spec hcl; exact ⟨k9, h9⟩) (fun z hz => by
      rcases hpass z hz with h | ⟨hz0, nm, hl1, hn1⟩
      · exact Or.inl h
      · obtain ⟨c6, hc6, hcl6⟩ := Cond.classLink_spec hown hl1 e.platform hpl
        obtain ⟨a8, b8, h1, h2, h3⟩ := hn1
        cases Option.some.inj (h1.symm.trans hcl)
        cases Option.some.inj (h2.symm.trans hc6)
        exact Or.inr ⟨hz0, _, hcl6, h3⟩)
  obtain ⟨g₀, hfr⟩ := X'.frames_eq
  have hcell9 : ((T.setVm vm').setFrames (.throwing q :: below)).heap[q]? = some ce := by
    show T.heap[q]? = some ce
    rw [hT]; exact hcell
  have hend : Ended ((T.setVm vm').setFrames (.throwing q :: below)) below (.threw q) := State.frames_setFrames _ (State.cur_lt_of_frames hfr)
  refine ⟨(T.setVm vm').setFrames (.throwing q :: below), ?_, .threw q, X'.here.running, hend, Or.inr ⟨q, rfl, E, ce, locs, hx _ hT (X'.ends _).1.alike, hcell9, hv, hcl, (X'.ends _).1, (X'.ends _).2.mono hc hs, hf⟩⟩
  rw [X.pushThrowing_eq]
  exact st
/-- a thing of a world lies in the heap -/
theorem vx_lt {D : va_G} {cl : List vw_C} {ws : va_W} {H1 : Heap} (h : va_P D cl ws H1) {k : Nat} {q : Nat × va_E} (hk : ws[k]? = some q) : q.1 < H1.size := (h k q hk).lt
end VXS
/-! ===== END ===== -/
/-! ===== BEGIN methods with a table of their own: called by a name, returning or throwing ===== -/
section VXH
/-! vx_backW, vx_callVX, vx_callSX, vx_callVW, vx_runVW, vx_runVX, vx_runSX, vx_ofWH follow the same proofs as their sisters above (Free/Laws.lean, Shelf42/LK1.lean); vx_outP calls Shelf42/NT130.lean (outThrough). -/
section
variable {l : Launch} {R : Room} {p : Program} {e : Env} {below : List Frame} {s : State} {sargs : Array Value} {y : MethodName} {len W9 : Nat}
theorem vx_backW {ws : List Cond} {rm : Room} {Pc : Array Value → State → Prop} {Qc : Array Value → State → Outcome → State → Prop} {XC : String → State → State → Prop} {mc ms : Nat} {free : Addr → Prop} {bytes : ByteArray} {maxL : Nat} {ret : Option FieldType} {hh : List (Nat × Nat × Nat × Nat)}
    (hM : vx_Met l y ws rm Pc Qc XC mc ms free) (hblind : FrameBlind Pc) (hrc : rm.cells = mc) (hrs : rm.slots = ms)
    (hframes : rm.frames + 1 ≤ R.frames) (hlocals : W9 + (maxL + 11) + rm.locals ≤ R.locals)
    (hws : ∀ w ∈ ws, ∀ a' U, s.WarmedH U.vm → w.before a' U = true) (hcode : Cond.codeWith y bytes maxL ret hh ∈ ws) (hinit : ∀ a' U, s.WarmedH U.vm → (Cond.initialized y.cls).before a' U = true) :
    vx_Back l R p e below s sargs y len W9 (PreOf R mc ms Pc) (PostOf Qc mc ms free) (vx_Post XC mc ms free) := by
  intro m meth c A g ig mk a X hg hsize hdg hW hn hp
  have h1 : (headSpec ws rm).pre.before a A.U = true := atoms_intro fun w hw => hws w hw _ _ X.warmed
  have h2 : (Cond.codeWith y bytes maxL ret hh).before a A.U = true := hws _ hcode _ _ X.warmed
  have h3 : (Cond.initialized y.cls).before a A.U = true := hinit _ _ X.warmed
  have h4 : A.cells + (headSpec ws rm).room.cells ≤ R.cells := by rw [show (headSpec ws rm).room.cells = mc from hrc]; exact hp.1
  have h5 : A.slots + (headSpec ws rm).room.slots ≤ R.slots := by rw [show (headSpec ws rm).room.slots = ms from hrs]; exact hp.2.1
  have hPc : Pc a (A.U.calling g mk a) := hblind _ _ _ _ hp.2.2
  obtain ⟨U, Ls, c0, s0⟩ := A
  dsimp only [Pt.U, Pt.locs, Pt.cells, Pt.slots] at h1 h2 h3 h4 h5 X hn hPc ⊢
  obtain ⟨m9, methY, cY, hn9, hmY, hcY, -, hlY, -⟩ := Cond.codeWith_spec h2
  cases Option.some.inj (hn9.symm.trans hn)
  obtain ⟨kY, hkY, -⟩ := className_of_methodNamed hn
  have hinitY : kY.init = .initialized := Cond.initialized_spec (findClass_of_methodNamed hn) hkY h3
  have h : At U g.method c below := by rw [hg]; exact X.here
  have hlocals9 : W9 + (maxL + 11) + (headSpec ws rm).room.locals ≤ R.locals := hlocals
  have happ : (headSpec ws rm).appliesLoose y e.platform (U.calling g mk a) = true :=
    Spec.appliesLoose_calling (g := g) h hdg hn hkY hinitY
      (X.room_calling (g := g) (R' := (headSpec ws rm).room) hsize hmY hcY hframes (by rw [hlY]; omega) h4 h5) h1
  obtain ⟨mid, hmid⟩ := h.above
  have hfr : (U.setTop g).frames = (.java g :: mid) ++ below := by rw [State.frames_setTop' g h.top, hmid]; rfl
  obtain ⟨o, s₂, hsteps, -, hend, hq⟩ := Steps.callFree hM p X.admits X.cas X.clock (acts := []) hfr happ hPc trivial
  have hq' : vx_Q Qc XC mc ms free a (U.calling g mk a) o s₂ := hq
  rw [State.frames_setTop' g h.top] at hend
  obtain ⟨g₀, hg0⟩ := Option.isSome_iff_exists.mp h.top
  obtain ⟨r, hr⟩ := State.topJava?_eq_some.mp hg0
  have hr' : (({ U with heap := s₂.heap, slotsUsed := s₂.slotsUsed } : State).setVm s₂.vm).frames = .java g₀ :: r := hr
  rcases hq' with ⟨hqc, L, hfe, hL⟩ | ⟨q, rfl, E, ce, L, hx, hce, hcv, hcl, hW₂, hsm, hL⟩
  · obtain ⟨⟨v, rfl⟩, hW₂, e2, q2, q3, q4, q5, q6⟩ := id hfe
    have e3 : s₂ = ({ (U.calling g mk a).setFrames s₂.frames with heap := s₂.heap, slotsUsed := s₂.slotsUsed } : State).setVm s₂.vm := by
      have : s₂ = ({ s₂ with vm := (U.calling g mk a).vm } : State).setVm s₂.vm := rfl
      rw [e2] at this
      exact this
    obtain ⟨c₂, i₂, len₂, hc₂, hd₂, hf₂⟩ := hend
    have hW' : U.WarmedH s₂.vm := hW₂
    have hcc : c₂ = c := by
      have h1 : s₂.code? g.method = U.code? g.method := by
        rw [State.code?_eq, State.code?_eq, hW'.alike.method?]
      exact Option.some.inj (hc₂.symm.trans (h1.trans h.code))
    subst hcc
    have hlen : len₂ = len := by rw [hdg] at hd₂; cases hd₂; rfl
    subst hlen
    have hs₂ : s₂ = (({ U with heap := s₂.heap, slotsUsed := s₂.slotsUsed } : State).setVm s₂.vm).setTop { g with pc := g.pc + len₂, stack := v.toList ++ g.stack } := by
      refine e3.trans ?_
      rw [hf₂, State.calling_eq h.top, State.setFrames_setFrames, State.setTop_of_frames _ hr', hr]
      rfl
    have hsame : U.sameButNew ({ U with heap := s₂.heap, slotsUsed := s₂.slotsUsed } : State) L mc ms := by
      refine ⟨?_, q2, q3, q4, q5, q6⟩
      obtain ⟨t, ht, -⟩ := State.frames_cons hr
      show ({ U with heap := s₂.heap, slotsUsed := s₂.slotsUsed } : State) = { U.setFrames U.frames with heap := s₂.heap, slotsUsed := s₂.slotsUsed }
      rw [State.setFrames_self ht]
    subst hg
    refine Or.inl ⟨v, ⟨(({ U with heap := s₂.heap, slotsUsed := s₂.slotsUsed } : State).setVm s₂.vm), Ls ++ L, c0 + mc, s0 + ms⟩,
      ⟨X.admits, X.cas, X.clock, X.frames, X.room, X.hears, X.method, X.code, (X.here.setHeapUsed s₂.heap s₂.slotsUsed).setVm hW'.alike, X.tail, State.WarmedH.trans X.warmed hW', X.limits, X.bytes, X.same.trans (hsame.setVm s.vm)⟩,
      ⟨g, mk, s₂, L, rfl, rfl, hqc, rfl, hL, rfl, rfl⟩, ?_⟩
    show Steps p.tables e below _ ((({ U with heap := s₂.heap, slotsUsed := s₂.slotsUsed } : State).setVm s₂.vm).setTop { g with pc := g.pc + len₂, stack := v.toList ++ g.stack })
    rw [← hs₂]
    exact hsteps
  · obtain ⟨e2, q2, q3, q4, q5, q6⟩ := id hsm
    have e3 : s₂ = ({ (U.calling g mk a).setFrames s₂.frames with heap := s₂.heap, slotsUsed := s₂.slotsUsed } : State).setVm s₂.vm := by
      have : s₂ = ({ s₂ with vm := (U.calling g mk a).vm } : State).setVm s₂.vm := rfl
      rw [e2] at this
      exact this
    have hf₂ : s₂.frames = .throwing q :: .java g :: U.frames.tail := hend
    have hW' : U.WarmedH s₂.vm := hW₂
    have hs₂ : s₂ = ((({ U with heap := s₂.heap, slotsUsed := s₂.slotsUsed } : State).setVm s₂.vm).setTop g).pushFrame (.throwing q) := by
      refine e3.trans ?_
      rw [hf₂, State.calling_eq h.top, State.setFrames_setFrames, State.pushFrame, State.frames_setTop _ hr', State.setTop_of_frames _ hr', State.setFrames_setFrames, hr]
      rfl
    have hsame : U.sameButNew ({ U with heap := s₂.heap, slotsUsed := s₂.slotsUsed } : State) L mc ms := by
      refine ⟨?_, q2, q3, q4, q5, q6⟩
      obtain ⟨t, ht, -⟩ := State.frames_cons hr
      show ({ U with heap := s₂.heap, slotsUsed := s₂.slotsUsed } : State) = { U.setFrames U.frames with heap := s₂.heap, slotsUsed := s₂.slotsUsed }
      rw [State.setFrames_self ht]
    subst hg
    refine Or.inr ⟨q, ⟨(({ U with heap := s₂.heap, slotsUsed := s₂.slotsUsed } : State).setVm s₂.vm), Ls ++ L, c0 + mc, s0 + ms⟩,
      ⟨X.admits, X.cas, X.clock, X.frames, X.room, X.hears, X.method, X.code, (X.here.setHeapUsed s₂.heap s₂.slotsUsed).setVm hW'.alike, X.tail, State.WarmedH.trans X.warmed hW', X.limits, X.bytes, X.same.trans (hsame.setVm s.vm)⟩,
      ⟨g, mk, s₂, L, E, ce, rfl, rfl, hx, hce, hcv, hcl, rfl, hL, rfl, rfl⟩, ?_⟩
    show Steps p.tables e below _ (((({ U with heap := s₂.heap, slotsUsed := s₂.slotsUsed } : State).setVm s₂.vm).setTop g).pushFrame (.throwing q))
    rw [← hs₂]
    exact hsteps
end
variable {p : Program} {l : Launch} {e : Env} {R : Room} {s : State} {m : MethodId} {args : Array Value} {below : List Frame} {meth : Method} {c : Code} {T : State} {H : Heap} {locs : List Loc} {cells slots : Nat}
theorem vx_callVX (X : Stand p l e R s m args below meth c T locs cells slots) (hexec : p.tables.exec = Jvm.exec) {own C : String} {index : Nat} {y : MethodName} {bytes : ByteArray} {maxL : Nat} {ret : Option FieldType} {hh : List (Nat × Nat × Nat × Nat)}
    (hown : s.vm.findClass own = some m.cls) (hlink : (Cond.methodLink own index y).before args s = true) (hinst : (Cond.instanceMethod y).before args s = true) (hsel : (Cond.selects C y y).before args s = true)
    (hcode : (Cond.codeWith y bytes maxL ret hh).before args s = true) (hy : y.cls ≠ "java/lang/invoke/MethodHandle" ∧ y.cls ≠ "java/lang/invoke/VarHandle")
    {W9 : Nat} {Pre : Pt → Array Value → Prop} {Post : Pt → Array Value → Option Value → Pt → Prop} {PostX : Pt → Array Value → Addr → Pt → Prop} (hK : vx_Back l R p e below s args y 3 W9 Pre Post PostX)
    {b : Addr} {cellB : Cell} (hcell : T.heap[b]? = some cellB) (hobj : cellB.vm.isStatics = false) (hcls : s.vm.findClass C = some cellB.cls)
    {g : JFrame} (hg : g.method = m) (hsize : g.locals.size = c.maxLocals) {argsL rest : List Value} (hlen : ∀ sig, parseMethodDescriptor y.desc = some sig → argsL.length = sig.parameters.length)
    (hstack : g.stack = argsL.reverse ++ .ref b :: rest) (hW : 2 * g.monitorRoom + (rest.map fun v => v.category).sum ≤ W9) (hdg : decode c.code g.pc = .ok (.invokevirtual index, 3))
    (hpre : ∀ vm₁, s.WarmedH vm₁ → Pre ⟨T.setVm vm₁, locs, cells, slots⟩ (Value.ref b :: argsL).toArray) :
    (∃ (v : Option Value) (vm₁ : Vm) (B : Pt), s.WarmedH vm₁ ∧ Stand p l e R s m args below meth c B.U B.locs B.cells B.slots ∧ Post ⟨T.setVm vm₁, locs, cells, slots⟩ (Value.ref b :: argsL).toArray v B ∧
      ∀ target, Steps p.tables e below (B.U.setTop { g with pc := g.pc + 3, stack := v.toList ++ rest }) target → Steps p.tables e below (T.setTop g) target) ∨
    (∃ (q : Addr) (vm₁ : Vm) (B : Pt), s.WarmedH vm₁ ∧ Stand p l e R s m args below meth c B.U B.locs B.cells B.slots ∧ PostX ⟨T.setVm vm₁, locs, cells, slots⟩ (Value.ref b :: argsL).toArray q B ∧
      Steps p.tables e below (T.setTop g) ((B.U.setTop { g with stack := rest }).pushFrame (.throwing q))) := by
  obtain ⟨mk, methM, hnamed, hmethM, hstM, habM⟩ := Cond.instanceMethod_spec hinst
  obtain ⟨m8, methM', cM, hn8, hmethM', -, -, -, -, -, -, hsigM⟩ := Cond.codeWith_spec hcode
  cases Option.some.inj (hn8.symm.trans hnamed)
  cases hmethM.symm.trans hmethM'
  obtain ⟨c2, r2, m2, q1, q2, q3, q4, kP, hkP, hkPi⟩ := Cond.selects_spec hsel
  cases hcls.symm.trans q1
  cases (State.methodFound?_of_named hnamed hy).symm.trans q2
  cases hnamed.symm.trans q3
  have hselP : selectMethod e.platform s.vm cellB.cls mk = .method mk := by rw [Launch.admits_selectMethod X.admits]; exact q4
  obtain ⟨vm₁, X₁, hstep₁⟩ := X.invokevirtual hexec hown hlink hnamed hmethM hstM hkP hkPi hy (a := b) (cell := cellB) hcell
    (fun z h => by rw [h] at hobj; cases hobj) hselP hmethM habM hkP hkPi (g := g) hg (argsL := argsL) (rest := rest) (hlen _ hsigM) hstack hdg
  rcases hK m meth c ⟨T.setVm vm₁, locs, cells, slots⟩ { g with stack := rest } (.invokevirtual index) mk (Value.ref b :: argsL).toArray X₁ hg hsize hdg hW (X₁.named hnamed) (hpre vm₁ X₁.warmed) with ⟨v, B, X', hpost, hsteps⟩ | ⟨q, B, X', hpost, hsteps⟩
  · exact Or.inl ⟨v, vm₁, B, X₁.warmed, X', hpost, fun target h => hstep₁ _ fun acts => by rw [doInvoke_state]; exact hsteps.trans h⟩
  · exact Or.inr ⟨q, vm₁, B, X₁.warmed, X', hpost, hstep₁ _ fun acts => by rw [doInvoke_state]; exact hsteps⟩
theorem vx_callSX (X : Stand p l e R s m args below meth c T locs cells slots) (hexec : p.tables.exec = Jvm.exec) {own : String} {index : Nat} {y : MethodName} {bytes : ByteArray} {maxL : Nat} {ret : Option FieldType} {hh : List (Nat × Nat × Nat × Nat)}
    (hown : s.vm.findClass own = some m.cls) (hlink : (Cond.methodLink own index y).before args s = true) (hstat : (Cond.static y).before args s = true) (hinit : (Cond.initialized y.cls).before args s = true)
    (hcode : (Cond.codeWith y bytes maxL ret hh).before args s = true) (hy : y.cls ≠ "java/lang/invoke/MethodHandle" ∧ y.cls ≠ "java/lang/invoke/VarHandle")
    {W9 : Nat} {Pre : Pt → Array Value → Prop} {Post : Pt → Array Value → Option Value → Pt → Prop} {PostX : Pt → Array Value → Addr → Pt → Prop} (hK : vx_Back l R p e below s args y 3 W9 Pre Post PostX)
    {g : JFrame} (hg : g.method = m) (hsize : g.locals.size = c.maxLocals) {argsL rest : List Value} (hlen : ∀ sig, parseMethodDescriptor y.desc = some sig → argsL.length = sig.parameters.length)
    (hstack : g.stack = argsL.reverse ++ rest) (hW : 2 * g.monitorRoom + (rest.map fun v => v.category).sum ≤ W9) (hdg : decode c.code g.pc = .ok (.invokestatic index, 3))
    (hpre : ∀ vm₁, s.WarmedH vm₁ → Pre ⟨T.setVm vm₁, locs, cells, slots⟩ argsL.toArray) :
    (∃ (v : Option Value) (vm₁ : Vm) (B : Pt), s.WarmedH vm₁ ∧ Stand p l e R s m args below meth c B.U B.locs B.cells B.slots ∧ Post ⟨T.setVm vm₁, locs, cells, slots⟩ argsL.toArray v B ∧
      ∀ target, Steps p.tables e below (B.U.setTop { g with pc := g.pc + 3, stack := v.toList ++ rest }) target → Steps p.tables e below (T.setTop g) target) ∨
    (∃ (q : Addr) (vm₁ : Vm) (B : Pt), s.WarmedH vm₁ ∧ Stand p l e R s m args below meth c B.U B.locs B.cells B.slots ∧ PostX ⟨T.setVm vm₁, locs, cells, slots⟩ argsL.toArray q B ∧
      Steps p.tables e below (T.setTop g) ((B.U.setTop { g with stack := rest }).pushFrame (.throwing q))) := by
  obtain ⟨mk, methM, cM, hnamed, hmethM, -, -, -, -, -, -, hsigM⟩ := Cond.codeWith_spec hcode
  have hstatic : methM.isStatic = true := Cond.static_spec hnamed hmethM hstat
  obtain ⟨kP, hkP, -⟩ := className_of_methodNamed hnamed
  have hinitP : kP.init = .initialized := Cond.initialized_spec (findClass_of_methodNamed hnamed) hkP hinit
  obtain ⟨vm₁, X₁, hstep₁⟩ := X.invokestatic hexec hown hlink hnamed hmethM hstatic hkP hinitP hy (g := g) hg (argsL := argsL) (rest := rest) (hlen _ hsigM) hstack hdg
  rcases hK m meth c ⟨T.setVm vm₁, locs, cells, slots⟩ { g with stack := rest } (.invokestatic index) mk argsL.toArray X₁ hg hsize hdg hW (X₁.named hnamed) (hpre vm₁ X₁.warmed) with ⟨v, B, X', hpost, hsteps⟩ | ⟨q, B, X', hpost, hsteps⟩
  · exact Or.inl ⟨v, vm₁, B, X₁.warmed, X', hpost, fun target h => hstep₁ _ fun acts => by rw [doInvoke_state]; exact hsteps.trans h⟩
  · exact Or.inr ⟨q, vm₁, B, X₁.warmed, X', hpost, hstep₁ _ fun acts => by rw [doInvoke_state]; exact hsteps⟩
theorem vx_callVW (X : Stand p l e R s m args below meth c T locs cells slots) (hexec : p.tables.exec = Jvm.exec) {own C : String} {index : Nat} {y : MethodName} {bytes : ByteArray} {maxL : Nat} {ret : Option FieldType} {hh : List (Nat × Nat × Nat × Nat)}
    (hown : s.vm.findClass own = some m.cls) (hlink : (Cond.methodLink own index y).before args s = true) (hinst : (Cond.instanceMethod y).before args s = true) (hsel : (Cond.selects C y y).before args s = true)
    (hcode : (Cond.codeWith y bytes maxL ret hh).before args s = true) (hy : y.cls ≠ "java/lang/invoke/MethodHandle" ∧ y.cls ≠ "java/lang/invoke/VarHandle")
    {W9 : Nat} {Pre : Pt → Array Value → Prop} {Post : Pt → Array Value → Option Value → Pt → Prop} (hK : Back l R p e below s args y 3 W9 Pre Post)
    {b : Addr} {cellB : Cell} (hcell : T.heap[b]? = some cellB) (hobj : cellB.vm.isStatics = false) (hcls : s.vm.findClass C = some cellB.cls)
    {g : JFrame} (hg : g.method = m) (hsize : g.locals.size = c.maxLocals) {argsL rest : List Value} (hlen : ∀ sig, parseMethodDescriptor y.desc = some sig → argsL.length = sig.parameters.length)
    (hstack : g.stack = argsL.reverse ++ .ref b :: rest) (hW : 2 * g.monitorRoom + (rest.map fun v => v.category).sum ≤ W9) (hdg : decode c.code g.pc = .ok (.invokevirtual index, 3))
    (hpre : ∀ vm₁, s.WarmedH vm₁ → Pre ⟨T.setVm vm₁, locs, cells, slots⟩ (Value.ref b :: argsL).toArray) :
    ∃ (v : Option Value) (vm₁ : Vm) (B : Pt), s.WarmedH vm₁ ∧ Stand p l e R s m args below meth c B.U B.locs B.cells B.slots ∧ Post ⟨T.setVm vm₁, locs, cells, slots⟩ (Value.ref b :: argsL).toArray v B ∧
      ∀ target, Steps p.tables e below (B.U.setTop { g with pc := g.pc + 3, stack := v.toList ++ rest }) target → Steps p.tables e below (T.setTop g) target := by
  obtain ⟨mk, methM, hnamed, hmethM, hstM, habM⟩ := Cond.instanceMethod_spec hinst
  obtain ⟨m8, methM', cM, hn8, hmethM', -, -, -, -, -, -, hsigM⟩ := Cond.codeWith_spec hcode
  cases Option.some.inj (hn8.symm.trans hnamed)
  cases hmethM.symm.trans hmethM'
  obtain ⟨c2, r2, m2, q1, q2, q3, q4, kP, hkP, hkPi⟩ := Cond.selects_spec hsel
  cases hcls.symm.trans q1
  cases (State.methodFound?_of_named hnamed hy).symm.trans q2
  cases hnamed.symm.trans q3
  have hselP : selectMethod e.platform s.vm cellB.cls mk = .method mk := by rw [Launch.admits_selectMethod X.admits]; exact q4
  obtain ⟨vm₁, X₁, hstep₁⟩ := X.invokevirtual hexec hown hlink hnamed hmethM hstM hkP hkPi hy (a := b) (cell := cellB) hcell
    (fun z h => by rw [h] at hobj; cases hobj) hselP hmethM habM hkP hkPi (g := g) hg (argsL := argsL) (rest := rest) (hlen _ hsigM) hstack hdg
  obtain ⟨v, B, X', hpost, hsteps⟩ := hK m meth c ⟨T.setVm vm₁, locs, cells, slots⟩ { g with stack := rest } (.invokevirtual index) mk (Value.ref b :: argsL).toArray X₁ hg hsize hdg hW (X₁.named hnamed) (hpre vm₁ X₁.warmed)
  exact ⟨v, vm₁, B, X₁.warmed, X', hpost, fun target h => hstep₁ _ fun acts => by rw [doInvoke_state]; exact hsteps.trans h⟩
abbrev vx_CVW (R : Room) (s : State) (args : Array Value) (own C : String) (index : Nat) (y : MethodName) (bytes : ByteArray) (maxL : Nat) (ret : Option FieldType) (hh : List (Nat × Nat × Nat × Nat)) (ws : List Cond) (rm : Room) (mc ms n : Nat) : Prop :=
  (rm.cells = mc ∧ rm.slots = ms ∧ rm.frames + 1 ≤ R.frames ∧ 8 + (maxL + 11) + rm.locals ≤ R.locals ∧ (∀ w ∈ ws, ∀ (a' : Array Value) (U : State), s.WarmedH U.vm → w.before a' U = true) ∧ Cond.codeWith y bytes maxL ret hh ∈ ws) ∧
  (Cond.codeWith y bytes maxL ret hh).before args s = true ∧ (Cond.initialized y.cls).before args s = true ∧ (y.cls ≠ "java/lang/invoke/MethodHandle" ∧ y.cls ≠ "java/lang/invoke/VarHandle") ∧
  (∀ sig, parseMethodDescriptor y.desc = some sig → n = sig.parameters.length) ∧ (Cond.methodLink own index y).before args s = true ∧ (Cond.instanceMethod y).before args s = true ∧ (Cond.selects C y y).before args s = true
theorem vx_cwVW {own C : String} {index maxL mc ms : Nat} {y : MethodName} {bytes : ByteArray} {ret : Option FieldType} {hh : List (Nat × Nat × Nat × Nat)} {Ts ws ws' : List Cond} {rm : Room} (n : Nat) (ht : ∀ w ∈ Ts, w.before args s = true) (hT : GoodIn Ts (wsV own index C y ws)) (hw : ws = Cond.codeWith y bytes maxL ret hh :: ws') (hrc : rm.cells = mc) (hrs : rm.slots = ms)
    (hd : y.cls = C ∧ y.cls ≠ "java/lang/invoke/MethodHandle" ∧ y.cls ≠ "java/lang/invoke/VarHandle" ∧ (parseMethodDescriptor y.desc).map (fun d => d.parameters.length) = some n) (hR : rm.frames + 1 ≤ R.frames ∧ 8 + (maxL + 11) + rm.locals ≤ R.locals) :
    vx_CVW R s args own C index y bytes maxL ret hh ws rm mc ms n := by
  obtain ⟨hC, hd⟩ := hd
  subst hC
  have ok : ∀ w ∈ wsV own index y.cls y ws, w.before args s = true := fun w h => ht w (hT w h).1
  have hG : GoodIn Ts ws := fun w h => hT w (by unfold wsV; exact List.mem_append_right _ h)
  have hc : Cond.codeWith y bytes maxL ret hh ∈ ws := by rw [hw]; exact List.mem_cons_self
  refine ⟨⟨hrc, hrs, hR.1, hR.2, pay_in ht hG, hc⟩, ht _ (hG _ hc).1, ok _ (by simp [wsV]), ⟨hd.1, hd.2.1⟩, fun sig h => ?_, ok _ (by simp [wsV]), ok _ (by simp [wsV]), ok _ (by simp [wsV])⟩
  have h2 := hd.2.2
  rw [h] at h2
  exact (Option.some.inj h2).symm
theorem vx_runVW {y : MethodName} {bytes cc : ByteArray} {maxL nL mc ms n index : Nat} {ret : Option FieldType} {hh : List (Nat × Nat × Nat × Nat)} {ws : List Cond} {rm : Room} {Pc : Array Value → State → Prop} {Qc : Array Value → State → Outcome → State → Prop} {free : Addr → Prop} {Ts : List Cond} {own C : String} {b : Addr} {As rest : List Value} {g : JFrame}
    (S : CallFix p m c cc nL s args Ts own) (hM : Met l y ws rm Pc Qc mc ms free) (cw : vx_CVW R s args own C index y bytes maxL ret hh ws rm mc ms n) (hp : PreV s H C b Pc As)
    (hg : g.method = m) (hn : As.length = n) (hsize : g.locals.size = nL) (hstack : g.stack = As.reverse ++ .ref b :: rest) (hW : 2 * g.monitorRoom + (rest.map fun v => v.category).sum ≤ 8) (hdg : decode cc g.pc = .ok (.invokevirtual index, 3)) (hf : cells + mc ≤ R.cells ∧ slots + ms ≤ R.slots) :
    va_Run p l e R s m args below meth c H locs cells slots mc ms g rest (Qc (Value.ref b :: As).toArray) free := by
  obtain ⟨⟨hrc, hrs, hfr, hlo, hws, hcw⟩, hcode, hini, hy, hlen, hl, hin, hse⟩ := cw
  have hK : Back l R p e below s args y 3 8 (PreOf R mc ms Pc) (PostOf Qc mc ms free) := va_backW (hh := hh) (bytes := bytes) (maxL := maxL) (ret := ret) hM hp.1 hrc hrs hfr hlo hws hcw (fun a' U hW => word_at hW (Or.inl (by first | rfl | simp [Cond.onTables, Cond.keeps, Cond.steady])) hini)
  obtain ⟨hx, hb, hml, ho, -⟩ := S
  obtain ⟨-, ⟨cellB, hcB, hoB, hclB⟩, hPc⟩ := hp
  intro T hT X
  obtain ⟨v, vm₁, ⟨U', l2, c2, s2⟩, hW₁, X', ⟨g', mk, t, L, e1, e2, hq, h1, hL, h2, h3⟩, st⟩ := vx_callVW X hx (C := C) (hh := hh) (bytes := bytes) (maxL := maxL) (ret := ret) ho hl hin hse hcode hy hK (by rw [hT]; exact hcB) hoB hclB hg (hsize.trans hml.symm) (argsL := As) (rest := rest) (fun sig h => hn.trans (hlen sig h)) hstack hW (by rw [hb]; exact hdg)
    (fun vm₁ hW₁ => ⟨hf.1, hf.2, hPc (T.setVm vm₁) hT hW₁⟩)
  dsimp only [Pt.U, Pt.locs, Pt.cells, Pt.slots] at X' e1 e2 h1 h2 h3 st
  subst h1; subst h2; subst h3
  exact ⟨v, (T.setVm vm₁).calling g' mk (Value.ref b :: As).toArray, t, U', L, hT, X', hL, e1, e2, hq, st⟩
section
variable {y : MethodName} {bytes cc : ByteArray} {maxL nL mc ms n index : Nat} {ret : Option FieldType} {ws : List Cond} {rm : Room} {Pc : Array Value → State → Prop} {Qc : Array Value → State → Outcome → State → Prop} {XC : String → State → State → Prop} {free : Addr → Prop} {Ts : List Cond} {own C : String} {b : Addr} {As rest : List Value} {g : JFrame}
theorem vx_runVX {hh : List (Nat × Nat × Nat × Nat)} (S : CallFix p m c cc nL s args Ts own) (hM : vx_Met l y ws rm Pc Qc XC mc ms free) (cw : vx_CVW R s args own C index y bytes maxL ret hh ws rm mc ms n) (hp : PreV s H C b Pc As)
    (hg : g.method = m) (hn : As.length = n) (hsize : g.locals.size = nL) (hstack : g.stack = As.reverse ++ .ref b :: rest) (hW : 2 * g.monitorRoom + (rest.map fun v => v.category).sum ≤ 8) (hdg : decode cc g.pc = .ok (.invokevirtual index, 3)) (hf : cells + mc ≤ R.cells ∧ slots + ms ≤ R.slots) :
    vx_Run p l e R s m args below meth c H locs cells slots mc ms g rest (Qc (Value.ref b :: As).toArray) XC free := by
  obtain ⟨⟨hrc, hrs, hfr, hlo, hws, hcw⟩, hcode, hini, hy, hlen, hl, hin, hse⟩ := cw
  have hK : vx_Back l R p e below s args y 3 8 (PreOf R mc ms Pc) (PostOf Qc mc ms free) (vx_Post XC mc ms free) := vx_backW (hh := hh) (bytes := bytes) (maxL := maxL) (ret := ret) hM hp.1 hrc hrs hfr hlo hws hcw (fun a' U hW => word_at hW (Or.inl (by first | rfl | simp [Cond.onTables, Cond.keeps, Cond.steady])) hini)
  obtain ⟨hx, hb, hml, ho, -⟩ := S
  obtain ⟨-, ⟨cellB, hcB, hoB, hclB⟩, hPc⟩ := hp
  intro T hT X
  rcases vx_callVX X hx (C := C) (hh := hh) (bytes := bytes) (maxL := maxL) (ret := ret) ho hl hin hse hcode hy hK (by rw [hT]; exact hcB) hoB hclB hg (hsize.trans hml.symm) (argsL := As) (rest := rest) (fun sig h => hn.trans (hlen sig h)) hstack hW (by rw [hb]; exact hdg)
    (fun vm₁ hW₁ => ⟨hf.1, hf.2, hPc (T.setVm vm₁) hT hW₁⟩) with ⟨v, vm₁, ⟨U', l2, c2, s2⟩, hW₁, X', ⟨g', mk, t, L, e1, e2, hq, h1, hL, h2, h3⟩, st⟩ | ⟨q, vm₁, ⟨U', l2, c2, s2⟩, hW₁, X', ⟨g', mk, t, L, E, ce, e1, e2, hq, hce, hcv, hcl, h1, hL, h2, h3⟩, st⟩
  · dsimp only [Pt.U, Pt.locs, Pt.cells, Pt.slots] at X' e1 e2 h1 h2 h3 st
    subst h1; subst h2; subst h3
    exact Or.inl ⟨v, (T.setVm vm₁).calling g' mk (Value.ref b :: As).toArray, t, U', L, hT, X', hL, e1, e2, hq, st⟩
  · dsimp only [Pt.U, Pt.locs, Pt.cells, Pt.slots] at X' e1 e2 h1 h2 h3 st hcl
    subst h1; subst h2; subst h3
    exact Or.inr ⟨q, (T.setVm vm₁).calling g' mk (Value.ref b :: As).toArray, t, U', L, E, ce, hT, X', hL, e1, e2, hq, hce, hcv, vx_cls hW₁ hcl, st⟩
theorem vx_runSX {hh : List (Nat × Nat × Nat × Nat)} (S : CallFix p m c cc nL s args Ts own) (hM : vx_Met l y ws rm Pc Qc XC mc ms free) (cw : vx_CSW R s args own index y bytes maxL ret hh ws rm mc ms n) (hp : PreS s H Pc As)
    (hg : g.method = m) (hn : As.length = n) (hsize : g.locals.size = nL) (hstack : g.stack = As.reverse ++ rest) (hW : 2 * g.monitorRoom + (rest.map fun v => v.category).sum ≤ 8) (hdg : decode cc g.pc = .ok (.invokestatic index, 3)) (hf : cells + mc ≤ R.cells ∧ slots + ms ≤ R.slots) :
    vx_Run p l e R s m args below meth c H locs cells slots mc ms g rest (Qc As.toArray) XC free := by
  obtain ⟨⟨hrc, hrs, hfr, hlo, hws, hcw⟩, hcode, hini, hy, hlen, hl, hstt⟩ := cw
  have hK : vx_Back l R p e below s args y 3 8 (PreOf R mc ms Pc) (PostOf Qc mc ms free) (vx_Post XC mc ms free) := vx_backW (hh := hh) (bytes := bytes) (maxL := maxL) (ret := ret) hM hp.1 hrc hrs hfr hlo hws hcw (fun a' U hW => word_at hW (Or.inl (by first | rfl | simp [Cond.onTables, Cond.keeps, Cond.steady])) hini)
  obtain ⟨hx, hb, hml, ho, -⟩ := S
  intro T hT X
  rcases vx_callSX X hx (hh := hh) (bytes := bytes) (maxL := maxL) (ret := ret) ho hl hstt hini hcode hy hK hg (hsize.trans hml.symm) (argsL := As) (rest := rest) (fun sig h => hn.trans (hlen sig h)) hstack hW (by rw [hb]; exact hdg)
    (fun vm₁ hW₁ => ⟨hf.1, hf.2, hp.2 (T.setVm vm₁) hT hW₁⟩) with ⟨v, vm₁, ⟨U', l2, c2, s2⟩, hW₁, X', ⟨g', mk, t, L, e1, e2, hq, h1, hL, h2, h3⟩, st⟩ | ⟨q, vm₁, ⟨U', l2, c2, s2⟩, hW₁, X', ⟨g', mk, t, L, E, ce, e1, e2, hq, hce, hcv, hcl, h1, hL, h2, h3⟩, st⟩
  · dsimp only [Pt.U, Pt.locs, Pt.cells, Pt.slots] at X' e1 e2 h1 h2 h3 st
    subst h1; subst h2; subst h3
    exact Or.inl ⟨v, (T.setVm vm₁).calling g' mk As.toArray, t, U', L, hT, X', hL, e1, e2, hq, st⟩
  · dsimp only [Pt.U, Pt.locs, Pt.cells, Pt.slots] at X' e1 e2 h1 h2 h3 st hcl
    subst h1; subst h2; subst h3
    exact Or.inr ⟨q, (T.setVm vm₁).calling g' mk As.toArray, t, U', L, E, ce, hT, X', hL, e1, e2, hq, hce, hcv, vx_cls hW₁ hcl, st⟩
end
end VXH
theorem vx_ofWH {l : Launch} {y : MethodName} {ws ws' : List Cond} {rm : Room} {Pc : Array Value → State → Prop} {Qc : Array Value → State → Outcome → State → Prop} {XC : String → State → State → Prop} {mc ms : Nat} {free : Addr → Prop} {cc : ByteArray} {maxL : Nat} {ret : Option FieldType} {hh : List (Nat × Nat × Nat × Nat)}
    (hy : plainName y.cls = true) (hw : ws = Cond.codeWith y cc maxL ret hh :: ws')
    (body : ∀ p e s m args below meth c s₁, BodyLoose p l y (headSpec ws rm) cc maxL ret e s m args below meth c s₁ → c.maxLocals = maxL → Pc args s →
      W p l e (headSpec ws rm).room s m args below meth c s.heap [] 0 0 (vx_MQ below Qc XC args s mc ms free) (entryFrame m args maxL)) : vx_Met l y ws rm Pc Qc XC mc ms free := by
  refine MetFree.of_bodyS (code := cc) (maxLocals := maxL) (ret := ret) hy ?_ ?_
  · intro args s m h hn
    obtain ⟨m9, meth, c, hn9, h1, h2, h3, h4, -, h5, h6, -⟩ := Cond.codeWith_spec (atoms_spec (ws := ws) h _ (by rw [hw]; exact List.mem_cons_self))
    cases hn.symm.trans hn9
    exact ⟨meth, c, h1, h2, h3, h4, h5, h6⟩
  · intro p e s m args below meth c s₁ B hml hP _
    have hh0 : s₁.heap = s.heap := by rw [B.state]; rfl
    obtain ⟨t, a1, o, b1, b2, b3⟩ := body p e s m args below meth c s₁ B hml hP s₁ hh0 (Stand.of_body B)
    exact ⟨t, o, a1, b1, b2, b3⟩
/-! ===== END ===== -/
end
section
/-! ===== BEGIN printed: names, fields, word lists, decode rows ===== -/
def RX0 : String := "LockBank$Canal"
def TX0 : u_T := fun k => match k with
  | 0 => ("LockBank$Canal", "hour", "I", false)
  | 1 => ("LockBank$Canal", "bank", "I", false)
  | 2 => ("LockBank$Canal", "fee", "I", false)
  | 3 => ("LockBank$Canal", "drought", "Z", false)
  | 4 => ("LockBank$Canal", "millPound", "I", false)
  | 5 => ("LockBank$Canal", "mark", "I", false)
  | 6 => ("LockBank$Canal", "spring", "[I", true)
  | 7 => ("LockBank$Canal", "level", "[I", true)
  | 8 => ("LockBank$Canal", "ranOver", "[I", true)
  | 9 => ("LockBank$Canal", "drawn", "[I", true)
  | 10 => ("LockBank$Canal", "full", "[Z", true)
  | 11 => ("LockBank$Canal", "lockings", "[I", true)
  | 12 => ("LockBank$Canal", "filled", "[I", true)
  | 13 => ("LockBank$Canal", "barges", "I", false)
  | 14 => ("LockBank$Canal", "at", "[I", true)
  | 15 => ("LockBank$Canal", "goal", "[I", true)
  | 16 => ("LockBank$Canal", "purse", "[I", true)
  | _ => ("LockBank$Canal", "served", "[I", true)
def tyX0 : Nat → FieldType := fun k => match k with
  | 0 => .int
  | 1 => .int
  | 2 => .int
  | 3 => .boolean
  | 4 => .int
  | 5 => .int
  | 6 => .array .int
  | 7 => .array .int
  | 8 => .array .int
  | 9 => .array .int
  | 10 => .array .boolean
  | 11 => .array .int
  | 12 => .array .int
  | 13 => .int
  | 14 => .array .int
  | 15 => .array .int
  | 16 => .array .int
  | _ => .array .int
abbrev wsX00 : List Cond := u_ws RX0 TX0 18
theorem nmX0 : ∀ a, a < 18 → ∀ b, b < 18 → a ≠ b → (TX0 a).2.1 ≠ (TX0 b).2.1 := by decide +kernel
theorem tyX0_ok : ∀ k, k < 18 → parseFieldDescriptor (TX0 k).2.2.1 = some (tyX0 k) := by decide +kernel
abbrev cX0_init : ByteArray := prog_2_method_1_code
def yX0_init : MethodName := ⟨RX0, "<init>", "()V"⟩
abbrev cX0_copyFrom : ByteArray := prog_2_method_2_code
def yX0_copyFrom : MethodName := ⟨RX0, "copyFrom", "(LLockBank$Canal;)V"⟩
abbrev cX0_goHours : ByteArray := prog_2_method_3_code
def yX0_goHours : MethodName := ⟨RX0, "goHours", "(I)I"⟩
abbrev cX0_goHour : ByteArray := prog_2_method_4_code
def yX0_goHour : MethodName := ⟨RX0, "goHour", "()I"⟩
abbrev cX0_pour : ByteArray := prog_2_method_5_code
def yX0_pour : MethodName := ⟨RX0, "pour", "(II)V"⟩
abbrev cX0_turnMill : ByteArray := prog_2_method_6_code
def yX0_turnMill : MethodName := ⟨RX0, "turnMill", "()V"⟩
abbrev cX0_nextBarge : ByteArray := prog_2_method_7_code
def yX0_nextBarge : MethodName := ⟨RX0, "nextBarge", "(II)I"⟩
abbrev cX0_canServe : ByteArray := prog_2_method_8_code
def yX0_canServe : MethodName := ⟨RX0, "canServe", "(II)Z"⟩
abbrev cX0_canFill : ByteArray := prog_2_method_9_code
def yX0_canFill : MethodName := ⟨RX0, "canFill", "(I)Z"⟩
abbrev cX0_fits : ByteArray := prog_2_method_10_code
def yX0_fits : MethodName := ⟨RX0, "fits", "(II)Z"⟩
abbrev cX0_goesDown : ByteArray := prog_2_method_11_code
def yX0_goesDown : MethodName := ⟨RX0, "goesDown", "(I)Z"⟩
abbrev cX0_hasCome : ByteArray := prog_2_method_12_code
def yX0_hasCome : MethodName := ⟨RX0, "hasCome", "(I)Z"⟩
abbrev cX0_waitsAt : ByteArray := prog_2_method_13_code
def yX0_waitsAt : MethodName := ⟨RX0, "waitsAt", "(I)I"⟩
abbrev cX0_serve : ByteArray := prog_2_method_14_code
def yX0_serve : MethodName := ⟨RX0, "serve", "(II)V"⟩
abbrev cX0_turnChamber : ByteArray := prog_2_method_15_code
def yX0_turnChamber : MethodName := ⟨RX0, "turnChamber", "(I)V"⟩
abbrev cX0_tellBarge : ByteArray := prog_2_method_16_code
def yX0_tellBarge : MethodName := ⟨RX0, "tellBarge", "(II)I"⟩
abbrev cX0_tellPound : ByteArray := prog_2_method_17_code
def yX0_tellPound : MethodName := ⟨RX0, "tellPound", "(II)I"⟩
abbrev cX0_tellLock : ByteArray := prog_2_method_18_code
def yX0_tellLock : MethodName := ⟨RX0, "tellLock", "(II)I"⟩
abbrev cX0_tellWhole : ByteArray := prog_2_method_19_code
def yX0_tellWhole : MethodName := ⟨RX0, "tellWhole", "(I)I"⟩
abbrev cX0_bargesAt : ByteArray := prog_2_method_20_code
def yX0_bargesAt : MethodName := ⟨RX0, "bargesAt", "(I)I"⟩
abbrev cX0_bargesWaitingAt : ByteArray := prog_2_method_21_code
def yX0_bargesWaitingAt : MethodName := ⟨RX0, "bargesWaitingAt", "(I)I"⟩
abbrev cX0_bargesThatHaveCome : ByteArray := prog_2_method_22_code
def yX0_bargesThatHaveCome : MethodName := ⟨RX0, "bargesThatHaveCome", "()I"⟩
abbrev cX0_fullChambers : ByteArray := prog_2_method_23_code
def yX0_fullChambers : MethodName := ⟨RX0, "fullChambers", "()I"⟩
abbrev cX0_waterOfAll : ByteArray := prog_2_method_24_code
def yX0_waterOfAll : MethodName := ⟨RX0, "waterOfAll", "()I"⟩
def RX1 : String := "LockBank"
def TX1 : u_T := fun k => match k with
  | 0 => ("LockBank", "canal", "LLockBank$Canal;", true)
  | _ => ("LockBank", "trial", "LLockBank$Canal;", true)
def tyX1 : Nat → FieldType := fun k => match k with
  | 0 => .object "LockBank$Canal"
  | _ => .object "LockBank$Canal"
abbrev wsX10 : List Cond := u_ws RX1 TX1 2
theorem nmX1 : ∀ a, a < 2 → ∀ b, b < 2 → a ≠ b → (TX1 a).2.1 ≠ (TX1 b).2.1 := by decide +kernel
theorem tyX1_ok : ∀ k, k < 2 → parseFieldDescriptor (TX1 k).2.2.1 = some (tyX1 k) := by decide +kernel
abbrev cX1_init : ByteArray := prog_1_method_1_code
def yX1_init : MethodName := ⟨RX1, "<init>", "()V"⟩
abbrev cX1_setSpring : ByteArray := prog_1_method_2_code
def yX1_setSpring : MethodName := ⟨RX1, "setSpring", "(II)I"⟩
abbrev cX1_setMill : ByteArray := prog_1_method_3_code
def yX1_setMill : MethodName := ⟨RX1, "setMill", "(II)I"⟩
abbrev cX1_setDrought : ByteArray := prog_1_method_4_code
def yX1_setDrought : MethodName := ⟨RX1, "setDrought", "(Z)Z"⟩
abbrev cX1_setFee : ByteArray := prog_1_method_5_code
def yX1_setFee : MethodName := ⟨RX1, "setFee", "(I)I"⟩
abbrev cX1_water : ByteArray := prog_1_method_6_code
def yX1_water : MethodName := ⟨RX1, "water", "(II)I"⟩
abbrev cX1_work : ByteArray := prog_1_method_7_code
def yX1_work : MethodName := ⟨RX1, "work", "(I)Z"⟩
abbrev cX1_barge : ByteArray := prog_1_method_8_code
def yX1_barge : MethodName := ⟨RX1, "barge", "(III)I"⟩
abbrev cX1_send : ByteArray := prog_1_method_9_code
def yX1_send : MethodName := ⟨RX1, "send", "(II)I"⟩
abbrev cX1_told : ByteArray := prog_1_method_10_code
def yX1_told : MethodName := ⟨RX1, "told", "(II)I"⟩
abbrev cX1_pound : ByteArray := prog_1_method_11_code
def yX1_pound : MethodName := ⟨RX1, "pound", "(II)I"⟩
abbrev cX1_lock : ByteArray := prog_1_method_12_code
def yX1_lock : MethodName := ⟨RX1, "lock", "(II)I"⟩
abbrev cX1_count : ByteArray := prog_1_method_13_code
def yX1_count : MethodName := ⟨RX1, "count", "(I)I"⟩
abbrev cX1_pass : ByteArray := prog_1_method_14_code
def yX1_pass : MethodName := ⟨RX1, "pass", "(I)I"⟩
abbrev cX1_arrives : ByteArray := prog_1_method_15_code
def yX1_arrives : MethodName := ⟨RX1, "arrives", "(I)I"⟩
abbrev cX1_foresee : ByteArray := prog_1_method_16_code
def yX1_foresee : MethodName := ⟨RX1, "foresee", "(II)I"⟩
abbrev cX1_advise : ByteArray := prog_1_method_17_code
def yX1_advise : MethodName := ⟨RX1, "advise", "(I)I"⟩
abbrev cX1_stops : ByteArray := prog_1_method_18_code
def yX1_stops : MethodName := ⟨RX1, "stops", "()I"⟩
abbrev cX1_mean : ByteArray := prog_1_method_19_code
def yX1_mean : MethodName := ⟨RX1, "mean", "()D"⟩
abbrev cX1_digest : ByteArray := prog_1_method_20_code
def yX1_digest : MethodName := ⟨RX1, "digest", "()J"⟩
abbrev cX1_mix : ByteArray := prog_1_method_21_code
def yX1_mix : MethodName := ⟨RX1, "mix", "(JI)J"⟩
abbrev cX1_requireIndex : ByteArray := prog_1_method_22_code
def yX1_requireIndex : MethodName := ⟨RX1, "requireIndex", "(III)V"⟩
abbrev cX1_requireArgument : ByteArray := prog_1_method_23_code
def yX1_requireArgument : MethodName := ⟨RX1, "requireArgument", "(III)V"⟩
def RX2 : String := "LockBankModel$State"
def TX2 : u_T := fun k => match k with
  | 0 => ("LockBankModel$State", "hour", "I", false)
  | 1 => ("LockBankModel$State", "mark", "I", false)
  | 2 => ("LockBankModel$State", "bank", "I", false)
  | 3 => ("LockBankModel$State", "away", "I", false)
  | 4 => ("LockBankModel$State", "water", "[I", true)
  | 5 => ("LockBankModel$State", "over", "[I", true)
  | 6 => ("LockBankModel$State", "drawn", "[I", true)
  | 7 => ("LockBankModel$State", "full", "[I", true)
  | 8 => ("LockBankModel$State", "served", "[I", true)
  | 9 => ("LockBankModel$State", "took", "[I", true)
  | 10 => ("LockBankModel$State", "at", "[I", true)
  | 11 => ("LockBankModel$State", "coins", "[I", true)
  | 12 => ("LockBankModel$State", "often", "[I", true)
  | _ => ("LockBankModel$State", "when", "[I", true)
def tyX2 : Nat → FieldType := fun k => match k with
  | 0 => .int
  | 1 => .int
  | 2 => .int
  | 3 => .int
  | 4 => .array .int
  | 5 => .array .int
  | 6 => .array .int
  | 7 => .array .int
  | 8 => .array .int
  | 9 => .array .int
  | 10 => .array .int
  | 11 => .array .int
  | 12 => .array .int
  | _ => .array .int
abbrev wsX20 : List Cond := u_ws RX2 TX2 14
theorem nmX2 : ∀ a, a < 14 → ∀ b, b < 14 → a ≠ b → (TX2 a).2.1 ≠ (TX2 b).2.1 := by decide +kernel
theorem tyX2_ok : ∀ k, k < 14 → parseFieldDescriptor (TX2 k).2.2.1 = some (tyX2 k) := by decide +kernel
abbrev cX2_init : ByteArray := prog_5_method_1_code
def yX2_init : MethodName := ⟨RX2, "<init>", "()V"⟩
abbrev cX2_copy : ByteArray := prog_5_method_2_code
def yX2_copy : MethodName := ⟨RX2, "copy", "([I[I)V"⟩
abbrev cX2_become : ByteArray := prog_5_method_3_code
def yX2_become : MethodName := ⟨RX2, "become", "(LLockBankModel$State;)LLockBankModel$State;"⟩
abbrev cX2_pour : ByteArray := prog_5_method_4_code
def yX2_pour : MethodName := ⟨RX2, "pour", "(II)V"⟩
abbrev cX2_canFill : ByteArray := prog_5_method_5_code
def yX2_canFill : MethodName := ⟨RX2, "canFill", "(I)Z"⟩
abbrev cX2_fill : ByteArray := prog_5_method_6_code
def yX2_fill : MethodName := ⟨RX2, "fill", "(I)V"⟩
abbrev cX2_empty : ByteArray := prog_5_method_7_code
def yX2_empty : MethodName := ⟨RX2, "empty", "(I)V"⟩
abbrev cX2_allWater : ByteArray := prog_5_method_8_code
def yX2_allWater : MethodName := ⟨RX2, "allWater", "()I"⟩
abbrev cX2_fullOnes : ByteArray := prog_5_method_9_code
def yX2_fullOnes : MethodName := ⟨RX2, "fullOnes", "()I"⟩
def RX3 : String := "LockBankModel"
def TX3 : u_T := fun k => match k with
  | 0 => ("LockBankModel", "thrown", "I", false)
  | 1 => ("LockBankModel", "barges", "I", false)
  | 2 => ("LockBankModel", "goal", "[I", true)
  | 3 => ("LockBankModel", "spring", "[I", true)
  | 4 => ("LockBankModel", "mill", "I", false)
  | 5 => ("LockBankModel", "isDry", "Z", false)
  | 6 => ("LockBankModel", "fee", "I", false)
  | 7 => ("LockBankModel", "s", "LLockBankModel$State;", true)
  | _ => ("LockBankModel", "ahead", "LLockBankModel$State;", true)
def tyX3 : Nat → FieldType := fun k => match k with
  | 0 => .int
  | 1 => .int
  | 2 => .array .int
  | 3 => .array .int
  | 4 => .int
  | 5 => .boolean
  | 6 => .int
  | 7 => .object "LockBankModel$State"
  | _ => .object "LockBankModel$State"
abbrev wsX30 : List Cond := u_ws RX3 TX3 9
theorem nmX3 : ∀ a, a < 9 → ∀ b, b < 9 → a ≠ b → (TX3 a).2.1 ≠ (TX3 b).2.1 := by decide +kernel
theorem tyX3_ok : ∀ k, k < 9 → parseFieldDescriptor (TX3 k).2.2.1 = some (tyX3 k) := by decide +kernel
abbrev cX3_init : ByteArray := prog_4_method_1_code
def yX3_init : MethodName := ⟨RX3, "<init>", "()V"⟩
abbrev cX3_thrown : ByteArray := prog_4_method_2_code
def yX3_thrown : MethodName := ⟨RX3, "thrown", "()I"⟩
abbrev cX3_no : ByteArray := prog_4_method_3_code
def yX3_no : MethodName := ⟨RX3, "no", "(I)I"⟩
abbrev cX3_isIn : ByteArray := prog_4_method_4_code
def yX3_isIn : MethodName := ⟨RX3, "isIn", "(III)Z"⟩
abbrev cX3_isBarge : ByteArray := prog_4_method_5_code
def yX3_isBarge : MethodName := ⟨RX3, "isBarge", "(I)Z"⟩
abbrev cX3_lockOf : ByteArray := prog_4_method_6_code
def yX3_lockOf : MethodName := ⟨RX3, "lockOf", "(LLockBankModel$State;I)I"⟩
abbrev cX3_goesDown : ByteArray := prog_4_method_7_code
def yX3_goesDown : MethodName := ⟨RX3, "goesDown", "(LLockBankModel$State;I)Z"⟩
abbrev cX3_isWaiting : ByteArray := prog_4_method_8_code
def yX3_isWaiting : MethodName := ⟨RX3, "isWaiting", "(LLockBankModel$State;II)Z"⟩
abbrev cX3_fits : ByteArray := prog_4_method_9_code
def yX3_fits : MethodName := ⟨RX3, "fits", "(LLockBankModel$State;II)Z"⟩
abbrev cX3_canServe : ByteArray := prog_4_method_10_code
def yX3_canServe : MethodName := ⟨RX3, "canServe", "(LLockBankModel$State;II)Z"⟩
abbrev cX3_nextAt : ByteArray := prog_4_method_11_code
def yX3_nextAt : MethodName := ⟨RX3, "nextAt", "(LLockBankModel$State;I)I"⟩
abbrev cX3_serve : ByteArray := prog_4_method_12_code
def yX3_serve : MethodName := ⟨RX3, "serve", "(LLockBankModel$State;II)V"⟩
abbrev cX3_grind : ByteArray := prog_4_method_13_code
def yX3_grind : MethodName := ⟨RX3, "grind", "(LLockBankModel$State;)V"⟩
abbrev cX3_pass : ByteArray := prog_4_method_14_code
def yX3_pass : MethodName := ⟨RX3, "pass", "(LLockBankModel$State;)I"⟩
abbrev cX3_passAll : ByteArray := prog_4_method_15_code
def yX3_passAll : MethodName := ⟨RX3, "passAll", "(LLockBankModel$State;I)I"⟩
abbrev cX3_setSpring : ByteArray := prog_4_method_16_code
def yX3_setSpring : MethodName := ⟨RX3, "setSpring", "(II)I"⟩
abbrev cX3_setMill : ByteArray := prog_4_method_17_code
def yX3_setMill : MethodName := ⟨RX3, "setMill", "(II)I"⟩
abbrev cX3_setDrought : ByteArray := prog_4_method_18_code
def yX3_setDrought : MethodName := ⟨RX3, "setDrought", "(Z)Z"⟩
abbrev cX3_setFee : ByteArray := prog_4_method_19_code
def yX3_setFee : MethodName := ⟨RX3, "setFee", "(I)I"⟩
abbrev cX3_water : ByteArray := prog_4_method_20_code
def yX3_water : MethodName := ⟨RX3, "water", "(II)I"⟩
abbrev cX3_work : ByteArray := prog_4_method_21_code
def yX3_work : MethodName := ⟨RX3, "work", "(I)Z"⟩
abbrev cX3_barge : ByteArray := prog_4_method_22_code
def yX3_barge : MethodName := ⟨RX3, "barge", "(III)I"⟩
abbrev cX3_send : ByteArray := prog_4_method_23_code
def yX3_send : MethodName := ⟨RX3, "send", "(II)I"⟩
abbrev cX3_bargeTold : ByteArray := prog_4_method_24_code
def yX3_bargeTold : MethodName := ⟨RX3, "bargeTold", "(II)I"⟩
abbrev cX3_told : ByteArray := prog_4_method_25_code
def yX3_told : MethodName := ⟨RX3, "told", "(II)I"⟩
abbrev cX3_bargesAt : ByteArray := prog_4_method_26_code
def yX3_bargesAt : MethodName := ⟨RX3, "bargesAt", "(I)I"⟩
abbrev cX3_poundTold : ByteArray := prog_4_method_27_code
def yX3_poundTold : MethodName := ⟨RX3, "poundTold", "(II)I"⟩
abbrev cX3_pound : ByteArray := prog_4_method_28_code
def yX3_pound : MethodName := ⟨RX3, "pound", "(II)I"⟩
abbrev cX3_waitingAt : ByteArray := prog_4_method_29_code
def yX3_waitingAt : MethodName := ⟨RX3, "waitingAt", "(I)I"⟩
abbrev cX3_lockTold : ByteArray := prog_4_method_30_code
def yX3_lockTold : MethodName := ⟨RX3, "lockTold", "(II)I"⟩
abbrev cX3_lock : ByteArray := prog_4_method_31_code
def yX3_lock : MethodName := ⟨RX3, "lock", "(II)I"⟩
abbrev cX3_come : ByteArray := prog_4_method_32_code
def yX3_come : MethodName := ⟨RX3, "come", "(LLockBankModel$State;)I"⟩
abbrev cX3_counted : ByteArray := prog_4_method_33_code
def yX3_counted : MethodName := ⟨RX3, "counted", "(LLockBankModel$State;I)I"⟩
abbrev cX3_count : ByteArray := prog_4_method_34_code
def yX3_count : MethodName := ⟨RX3, "count", "(I)I"⟩
abbrev cX3_pass_ : ByteArray := prog_4_method_35_code
def yX3_pass_ : MethodName := ⟨RX3, "pass", "(I)I"⟩
abbrev cX3_arrives : ByteArray := prog_4_method_36_code
def yX3_arrives : MethodName := ⟨RX3, "arrives", "(I)I"⟩
abbrev cX3_foresee : ByteArray := prog_4_method_37_code
def yX3_foresee : MethodName := ⟨RX3, "foresee", "(II)I"⟩
abbrev cX3_advise : ByteArray := prog_4_method_38_code
def yX3_advise : MethodName := ⟨RX3, "advise", "(I)I"⟩
abbrev cX3_stops : ByteArray := prog_4_method_39_code
def yX3_stops : MethodName := ⟨RX3, "stops", "()I"⟩
abbrev cX3_mean : ByteArray := prog_4_method_40_code
def yX3_mean : MethodName := ⟨RX3, "mean", "()D"⟩
abbrev cX3_digest : ByteArray := prog_4_method_41_code
def yX3_digest : MethodName := ⟨RX3, "digest", "()J"⟩
def RJ9 : String := "java/lang/Math"
def TJ9 : u_T := fun k => match k with
  | _ => ("", "", "", false)
def tyJ9 : Nat → FieldType := fun k => match k with
  | _ => .int
abbrev wsJ90 : List Cond := u_ws RJ9 TJ9 0
theorem nmJ9 : ∀ a, a < 0 → ∀ b, b < 0 → a ≠ b → (TJ9 a).2.1 ≠ (TJ9 b).2.1 := by decide +kernel
theorem tyJ9_ok : ∀ k, k < 0 → parseFieldDescriptor (TJ9 k).2.2.1 = some (tyJ9 k) := by decide +kernel
abbrev cJ9_floorMod_7cf53 : ByteArray := prog_10_method_50_code
def yJ9_floorMod_7cf53 : MethodName := ⟨RJ9, "floorMod", "(II)I"⟩
abbrev cJ9_max_7cf53 : ByteArray := prog_10_method_65_code
def yJ9_max_7cf53 : MethodName := ⟨RJ9, "max", "(II)I"⟩
abbrev cJ9_min_7cf53 : ByteArray := prog_10_method_69_code
def yJ9_min_7cf53 : MethodName := ⟨RJ9, "min", "(II)I"⟩
def RJ0 : String := "java/lang/String"
def TJ0 : u_T := fun k => match k with
  | _ => ("", "", "", false)
def tyJ0 : Nat → FieldType := fun k => match k with
  | _ => .int
abbrev wsJ00 : List Cond := u_ws RJ0 TJ0 0
theorem nmJ0 : ∀ a, a < 0 → ∀ b, b < 0 → a ≠ b → (TJ0 a).2.1 ≠ (TJ0 b).2.1 := by decide +kernel
theorem tyJ0_ok : ∀ k, k < 0 → parseFieldDescriptor (TJ0 k).2.2.1 = some (tyJ0 k) := by decide +kernel
def RJ10 : String := "java/lang/System"
def TJ10 : u_T := fun k => match k with
  | _ => ("", "", "", false)
def tyJ10 : Nat → FieldType := fun k => match k with
  | _ => .int
abbrev wsJ100 : List Cond := u_ws RJ10 TJ10 0
theorem nmJ10 : ∀ a, a < 0 → ∀ b, b < 0 → a ≠ b → (TJ10 a).2.1 ≠ (TJ10 b).2.1 := by decide +kernel
theorem tyJ10_ok : ∀ k, k < 0 → parseFieldDescriptor (TJ10 k).2.2.1 = some (tyJ10 k) := by decide +kernel
def RL : String := "LockBankLaw"
abbrev cL_setSpring : ByteArray := method_3_code
def yL_setSpring : MethodName := ⟨RL, "setSpring", "(LLockBank;II[J)I"⟩
abbrev cL_setMill : ByteArray := method_4_code
def yL_setMill : MethodName := ⟨RL, "setMill", "(LLockBank;II[J)I"⟩
abbrev cL_setFee : ByteArray := method_5_code
def yL_setFee : MethodName := ⟨RL, "setFee", "(LLockBank;I[J)I"⟩
abbrev cL_water : ByteArray := method_6_code
def yL_water : MethodName := ⟨RL, "water", "(LLockBank;II[J)I"⟩
abbrev cL_work : ByteArray := method_7_code
def yL_work : MethodName := ⟨RL, "work", "(LLockBank;I[J)I"⟩
abbrev cL_barge : ByteArray := method_8_code
def yL_barge : MethodName := ⟨RL, "barge", "(LLockBank;III[J)I"⟩
abbrev cL_send : ByteArray := method_9_code
def yL_send : MethodName := ⟨RL, "send", "(LLockBank;II[J)I"⟩
abbrev cL_told : ByteArray := method_10_code
def yL_told : MethodName := ⟨RL, "told", "(LLockBank;II[J)I"⟩
abbrev cL_pound : ByteArray := method_11_code
def yL_pound : MethodName := ⟨RL, "pound", "(LLockBank;II[J)I"⟩
abbrev cL_lock : ByteArray := method_12_code
def yL_lock : MethodName := ⟨RL, "lock", "(LLockBank;II[J)I"⟩
abbrev cL_count : ByteArray := method_13_code
def yL_count : MethodName := ⟨RL, "count", "(LLockBank;I[J)I"⟩
abbrev cL_pass : ByteArray := method_14_code
def yL_pass : MethodName := ⟨RL, "pass", "(LLockBank;I[J)I"⟩
abbrev cL_arrives : ByteArray := method_15_code
def yL_arrives : MethodName := ⟨RL, "arrives", "(LLockBank;I[J)I"⟩
abbrev cL_foresee : ByteArray := method_16_code
def yL_foresee : MethodName := ⟨RL, "foresee", "(LLockBank;II[J)I"⟩
abbrev cL_advise : ByteArray := method_17_code
def yL_advise : MethodName := ⟨RL, "advise", "(LLockBank;I[J)I"⟩
abbrev cL_law : ByteArray := code
def yL_law : MethodName := ⟨RL, "law", "([I)Z"⟩
def wsX0_init : List Cond := .code yX0_init cX0_init 2 none :: ([.methodLink RX0 3 objectInit, .instanceMethod objectInit, .code objectInit ⟨#[0xb1]⟩ 1 none, .fieldLink RX0 9 "LockBank$Canal" "fee" "I", .fieldLink RX0 15 "LockBank$Canal" "millPound" "I", .fieldLink RX0 18 "LockBank$Canal" "mark" "I", .arrayClass .int, .fieldLink RX0 21 "LockBank$Canal" "spring" "[I", .fieldLink RX0 25 "LockBank$Canal" "level" "[I", .fieldLink RX0 28 "LockBank$Canal" "ranOver" "[I", .fieldLink RX0 31 "LockBank$Canal" "drawn" "[I", .arrayClass .boolean, .fieldLink RX0 34 "LockBank$Canal" "full" "[Z", .fieldLink RX0 38 "LockBank$Canal" "lockings" "[I", .fieldLink RX0 41 "LockBank$Canal" "filled" "[I", .fieldLink RX0 44 "LockBank$Canal" "at" "[I", .fieldLink RX0 47 "LockBank$Canal" "goal" "[I", .fieldLink RX0 50 "LockBank$Canal" "purse" "[I", .fieldLink RX0 53 "LockBank$Canal" "served" "[I"] ++ wsX00)
def wsX0_copyFrom : List Cond := .code yX0_copyFrom cX0_copyFrom 2 none :: ([.fieldLink RX0 56 "LockBank$Canal" "hour" "I", .fieldLink RX0 59 "LockBank$Canal" "bank" "I", .fieldLink RX0 9 "LockBank$Canal" "fee" "I", .fieldLink RX0 62 "LockBank$Canal" "drought" "Z", .fieldLink RX0 15 "LockBank$Canal" "millPound" "I", .fieldLink RX0 18 "LockBank$Canal" "mark" "I", .fieldLink RX0 21 "LockBank$Canal" "spring" "[I", .methodLink RX0 66 arraycopyName, .native arraycopyName, .static arraycopyName, .initialized "java/lang/System", .fieldLink RX0 25 "LockBank$Canal" "level" "[I", .fieldLink RX0 28 "LockBank$Canal" "ranOver" "[I", .fieldLink RX0 31 "LockBank$Canal" "drawn" "[I", .fieldLink RX0 34 "LockBank$Canal" "full" "[Z", .fieldLink RX0 38 "LockBank$Canal" "lockings" "[I", .fieldLink RX0 41 "LockBank$Canal" "filled" "[I", .fieldLink RX0 72 "LockBank$Canal" "barges" "I", .fieldLink RX0 44 "LockBank$Canal" "at" "[I", .fieldLink RX0 47 "LockBank$Canal" "goal" "[I", .fieldLink RX0 50 "LockBank$Canal" "purse" "[I", .fieldLink RX0 53 "LockBank$Canal" "served" "[I"] ++ wsX00)
def wsJ9_floorMod_7cf53 : List Cond := .code yJ9_floorMod_7cf53 cJ9_floorMod_7cf53 3 (some .int) :: ([])
def wsX0_pour : List Cond := .code yX0_pour cX0_pour 6 none :: ([.fieldLink RX0 25 "LockBank$Canal" "level" "[I", .methodLink RX0 98 Lib.Math.min.name, .static Lib.Math.min.name, .initialized "java/lang/Math", .code Lib.Math.min.name Lib.Math.min.code 2 (some .int), .fieldLink RX0 28 "LockBank$Canal" "ranOver" "[I"] ++ wsX00)
def wsX0_turnMill : List Cond := .code yX0_turnMill cX0_turnMill 3 none :: ([.fieldLink RX0 15 "LockBank$Canal" "millPound" "I", .fieldLink RX0 25 "LockBank$Canal" "level" "[I", .fieldLink RX0 18 "LockBank$Canal" "mark" "I", .methodLink RX0 98 Lib.Math.min.name, .static Lib.Math.min.name, .initialized "java/lang/Math", .code Lib.Math.min.name Lib.Math.min.code 2 (some .int), .fieldLink RX0 31 "LockBank$Canal" "drawn" "[I", .fieldLink RX0 59 "LockBank$Canal" "bank" "I", .methodLink RX0 85 yX0_pour, .instanceMethod yX0_pour, .selects RX0 yX0_pour yX0_pour, .initialized RX0, .code yX0_pour cX0_pour 6 none, .fieldLink RX0 28 "LockBank$Canal" "ranOver" "[I"] ++ wsX00)
def wsX0_hasCome : List Cond := .code yX0_hasCome cX0_hasCome 2 (some .boolean) :: ([.fieldLink RX0 44 "LockBank$Canal" "at" "[I", .fieldLink RX0 47 "LockBank$Canal" "goal" "[I"] ++ wsX00)
def wsX0_goesDown : List Cond := .code yX0_goesDown cX0_goesDown 2 (some .boolean) :: ([.fieldLink RX0 47 "LockBank$Canal" "goal" "[I", .fieldLink RX0 44 "LockBank$Canal" "at" "[I"] ++ wsX00)
def wsX0_waitsAt : List Cond := .code yX0_waitsAt cX0_waitsAt 2 (some .int) :: ([.fieldLink RX0 44 "LockBank$Canal" "at" "[I", .methodLink RX0 119 yX0_hasCome, .instanceMethod yX0_hasCome, .selects RX0 yX0_hasCome yX0_hasCome, .initialized RX0, .code yX0_hasCome cX0_hasCome 2 (some .boolean), .fieldLink RX0 47 "LockBank$Canal" "goal" "[I", .methodLink RX0 112 yX0_goesDown, .instanceMethod yX0_goesDown, .selects RX0 yX0_goesDown yX0_goesDown, .code yX0_goesDown cX0_goesDown 2 (some .boolean)] ++ wsX00)
def wsX0_fits : List Cond := .code yX0_fits cX0_fits 3 (some .boolean) :: ([.fieldLink RX0 34 "LockBank$Canal" "full" "[Z", .methodLink RX0 112 yX0_goesDown, .instanceMethod yX0_goesDown, .selects RX0 yX0_goesDown yX0_goesDown, .initialized RX0, .code yX0_goesDown cX0_goesDown 2 (some .boolean), .fieldLink RX0 47 "LockBank$Canal" "goal" "[I", .fieldLink RX0 44 "LockBank$Canal" "at" "[I"] ++ wsX00)
def wsX0_canFill : List Cond := .code yX0_canFill cX0_canFill 2 (some .boolean) :: ([.fieldLink RX0 25 "LockBank$Canal" "level" "[I"] ++ wsX00)
def wsX0_canServe : List Cond := .code yX0_canServe cX0_canServe 4 (some .boolean) :: ([.fieldLink RX0 50 "LockBank$Canal" "purse" "[I", .fieldLink RX0 9 "LockBank$Canal" "fee" "I", .fieldLink RX0 62 "LockBank$Canal" "drought" "Z", .fieldLink RX0 34 "LockBank$Canal" "full" "[Z", .methodLink RX0 109 yX0_fits, .instanceMethod yX0_fits, .selects RX0 yX0_fits yX0_fits, .initialized RX0, .code yX0_fits cX0_fits 3 (some .boolean), .methodLink RX0 112 yX0_goesDown, .instanceMethod yX0_goesDown, .selects RX0 yX0_goesDown yX0_goesDown, .code yX0_goesDown cX0_goesDown 2 (some .boolean), .fieldLink RX0 47 "LockBank$Canal" "goal" "[I", .fieldLink RX0 44 "LockBank$Canal" "at" "[I", .methodLink RX0 116 yX0_canFill, .instanceMethod yX0_canFill, .selects RX0 yX0_canFill yX0_canFill, .code yX0_canFill cX0_canFill 2 (some .boolean), .fieldLink RX0 25 "LockBank$Canal" "level" "[I"] ++ wsX00)
def wsX0_nextBarge_r1 : List Cond := [Cond.fieldLink RX0 72 "LockBank$Canal" "barges" "I", Cond.methodLink RX0 101 yX0_waitsAt, Cond.instanceMethod yX0_waitsAt, Cond.selects RX0 yX0_waitsAt yX0_waitsAt, Cond.initialized RX0, Cond.code yX0_waitsAt cX0_waitsAt 2 (some .int), Cond.fieldLink RX0 44 "LockBank$Canal" "at" "[I", Cond.methodLink RX0 119 yX0_hasCome, Cond.instanceMethod yX0_hasCome, Cond.selects RX0 yX0_hasCome yX0_hasCome, Cond.code yX0_hasCome cX0_hasCome 2 (some .boolean), Cond.fieldLink RX0 47 "LockBank$Canal" "goal" "[I", Cond.methodLink RX0 112 yX0_goesDown, Cond.instanceMethod yX0_goesDown, Cond.selects RX0 yX0_goesDown yX0_goesDown, Cond.code yX0_goesDown cX0_goesDown 2 (some .boolean), Cond.methodLink RX0 105 yX0_canServe, Cond.instanceMethod yX0_canServe, Cond.selects RX0 yX0_canServe yX0_canServe, Cond.code yX0_canServe cX0_canServe 4 (some .boolean), Cond.fieldLink RX0 50 "LockBank$Canal" "purse" "[I", Cond.fieldLink RX0 9 "LockBank$Canal" "fee" "I", Cond.fieldLink RX0 62 "LockBank$Canal" "drought" "Z", Cond.fieldLink RX0 34 "LockBank$Canal" "full" "[Z"]
def wsX0_nextBarge_r2 : List Cond := [Cond.methodLink RX0 109 yX0_fits, Cond.instanceMethod yX0_fits, Cond.selects RX0 yX0_fits yX0_fits, Cond.code yX0_fits cX0_fits 3 (some .boolean), Cond.methodLink RX0 116 yX0_canFill, Cond.instanceMethod yX0_canFill, Cond.selects RX0 yX0_canFill yX0_canFill, Cond.code yX0_canFill cX0_canFill 2 (some .boolean), Cond.fieldLink RX0 25 "LockBank$Canal" "level" "[I"]
def wsX0_nextBarge : List Cond := .code yX0_nextBarge cX0_nextBarge 6 (some .int) :: ((wsX0_nextBarge_r1 ++ wsX0_nextBarge_r2) ++ wsX00)
def wsX0_turnChamber : List Cond := .code yX0_turnChamber cX0_turnChamber 2 none :: ([.fieldLink RX0 34 "LockBank$Canal" "full" "[Z", .fieldLink RX0 25 "LockBank$Canal" "level" "[I", .fieldLink RX0 41 "LockBank$Canal" "filled" "[I", .methodLink RX0 85 yX0_pour, .instanceMethod yX0_pour, .selects RX0 yX0_pour yX0_pour, .initialized RX0, .code yX0_pour cX0_pour 6 none, .methodLink RX0 98 Lib.Math.min.name, .static Lib.Math.min.name, .initialized "java/lang/Math", .code Lib.Math.min.name Lib.Math.min.code 2 (some .int), .fieldLink RX0 28 "LockBank$Canal" "ranOver" "[I"] ++ wsX00)
def wsX0_serve_r1 : List Cond := [Cond.fieldLink RX0 44 "LockBank$Canal" "at" "[I", Cond.fieldLink RX0 50 "LockBank$Canal" "purse" "[I", Cond.fieldLink RX0 9 "LockBank$Canal" "fee" "I", Cond.fieldLink RX0 59 "LockBank$Canal" "bank" "I", Cond.fieldLink RX0 53 "LockBank$Canal" "served" "[I", Cond.fieldLink RX0 38 "LockBank$Canal" "lockings" "[I", Cond.methodLink RX0 109 yX0_fits, Cond.instanceMethod yX0_fits, Cond.selects RX0 yX0_fits yX0_fits, Cond.initialized RX0, Cond.code yX0_fits cX0_fits 3 (some .boolean), Cond.fieldLink RX0 34 "LockBank$Canal" "full" "[Z", Cond.methodLink RX0 112 yX0_goesDown, Cond.instanceMethod yX0_goesDown, Cond.selects RX0 yX0_goesDown yX0_goesDown, Cond.code yX0_goesDown cX0_goesDown 2 (some .boolean), Cond.fieldLink RX0 47 "LockBank$Canal" "goal" "[I", Cond.methodLink RX0 122 yX0_turnChamber, Cond.instanceMethod yX0_turnChamber, Cond.selects RX0 yX0_turnChamber yX0_turnChamber, Cond.code yX0_turnChamber cX0_turnChamber 2 none, Cond.fieldLink RX0 25 "LockBank$Canal" "level" "[I", Cond.fieldLink RX0 41 "LockBank$Canal" "filled" "[I", Cond.methodLink RX0 85 yX0_pour]
def wsX0_serve_r2 : List Cond := [Cond.instanceMethod yX0_pour, Cond.selects RX0 yX0_pour yX0_pour, Cond.code yX0_pour cX0_pour 6 none, Cond.methodLink RX0 98 Lib.Math.min.name, Cond.static Lib.Math.min.name, Cond.initialized "java/lang/Math", Cond.code Lib.Math.min.name Lib.Math.min.code 2 (some .int), Cond.fieldLink RX0 28 "LockBank$Canal" "ranOver" "[I"]
def wsX0_serve : List Cond := .code yX0_serve cX0_serve 3 none :: ((wsX0_serve_r1 ++ wsX0_serve_r2) ++ wsX00)
def wsX0_goHour_r1 : List Cond := [Cond.fieldLink RX0 21 "LockBank$Canal" "spring" "[I", Cond.fieldLink RX0 56 "LockBank$Canal" "hour" "I", Cond.methodLink RX0 79 yJ9_floorMod_7cf53, Cond.static yJ9_floorMod_7cf53, Cond.initialized RJ9, Cond.code yJ9_floorMod_7cf53 cJ9_floorMod_7cf53 3 (some .int), Cond.methodLink RX0 85 yX0_pour, Cond.instanceMethod yX0_pour, Cond.selects RX0 yX0_pour yX0_pour, Cond.initialized RX0, Cond.code yX0_pour cX0_pour 6 none, Cond.fieldLink RX0 25 "LockBank$Canal" "level" "[I", Cond.methodLink RX0 98 Lib.Math.min.name, Cond.static Lib.Math.min.name, Cond.initialized "java/lang/Math", Cond.code Lib.Math.min.name Lib.Math.min.code 2 (some .int), Cond.fieldLink RX0 28 "LockBank$Canal" "ranOver" "[I", Cond.methodLink RX0 89 yX0_turnMill, Cond.instanceMethod yX0_turnMill, Cond.selects RX0 yX0_turnMill yX0_turnMill, Cond.code yX0_turnMill cX0_turnMill 3 none, Cond.fieldLink RX0 15 "LockBank$Canal" "millPound" "I", Cond.fieldLink RX0 18 "LockBank$Canal" "mark" "I", Cond.fieldLink RX0 31 "LockBank$Canal" "drawn" "[I"]
def wsX0_goHour_r2 : List Cond := [Cond.fieldLink RX0 59 "LockBank$Canal" "bank" "I", Cond.methodLink RX0 92 yX0_nextBarge, Cond.instanceMethod yX0_nextBarge, Cond.selects RX0 yX0_nextBarge yX0_nextBarge, Cond.code yX0_nextBarge cX0_nextBarge 6 (some .int), Cond.fieldLink RX0 72 "LockBank$Canal" "barges" "I", Cond.methodLink RX0 101 yX0_waitsAt, Cond.instanceMethod yX0_waitsAt, Cond.selects RX0 yX0_waitsAt yX0_waitsAt, Cond.code yX0_waitsAt cX0_waitsAt 2 (some .int), Cond.fieldLink RX0 44 "LockBank$Canal" "at" "[I", Cond.methodLink RX0 119 yX0_hasCome, Cond.instanceMethod yX0_hasCome, Cond.selects RX0 yX0_hasCome yX0_hasCome, Cond.code yX0_hasCome cX0_hasCome 2 (some .boolean), Cond.fieldLink RX0 47 "LockBank$Canal" "goal" "[I", Cond.methodLink RX0 112 yX0_goesDown, Cond.instanceMethod yX0_goesDown, Cond.selects RX0 yX0_goesDown yX0_goesDown, Cond.code yX0_goesDown cX0_goesDown 2 (some .boolean), Cond.methodLink RX0 105 yX0_canServe, Cond.instanceMethod yX0_canServe, Cond.selects RX0 yX0_canServe yX0_canServe, Cond.code yX0_canServe cX0_canServe 4 (some .boolean)]
def wsX0_goHour_r3 : List Cond := [Cond.fieldLink RX0 50 "LockBank$Canal" "purse" "[I", Cond.fieldLink RX0 9 "LockBank$Canal" "fee" "I", Cond.fieldLink RX0 62 "LockBank$Canal" "drought" "Z", Cond.fieldLink RX0 34 "LockBank$Canal" "full" "[Z", Cond.methodLink RX0 109 yX0_fits, Cond.instanceMethod yX0_fits, Cond.selects RX0 yX0_fits yX0_fits, Cond.code yX0_fits cX0_fits 3 (some .boolean), Cond.methodLink RX0 116 yX0_canFill, Cond.instanceMethod yX0_canFill, Cond.selects RX0 yX0_canFill yX0_canFill, Cond.code yX0_canFill cX0_canFill 2 (some .boolean), Cond.methodLink RX0 95 yX0_serve, Cond.instanceMethod yX0_serve, Cond.selects RX0 yX0_serve yX0_serve, Cond.code yX0_serve cX0_serve 3 none, Cond.fieldLink RX0 53 "LockBank$Canal" "served" "[I", Cond.fieldLink RX0 38 "LockBank$Canal" "lockings" "[I", Cond.methodLink RX0 122 yX0_turnChamber, Cond.instanceMethod yX0_turnChamber, Cond.selects RX0 yX0_turnChamber yX0_turnChamber, Cond.code yX0_turnChamber cX0_turnChamber 2 none, Cond.fieldLink RX0 41 "LockBank$Canal" "filled" "[I"]
def wsX0_goHour : List Cond := .code yX0_goHour cX0_goHour 5 (some .int) :: ((wsX0_goHour_r1 ++ (wsX0_goHour_r2 ++ wsX0_goHour_r3)) ++ wsX00)
def wsX0_goHours_r1 : List Cond := [Cond.methodLink RX0 75 yX0_goHour, Cond.instanceMethod yX0_goHour, Cond.selects RX0 yX0_goHour yX0_goHour, Cond.initialized RX0, Cond.code yX0_goHour cX0_goHour 5 (some .int), Cond.fieldLink RX0 21 "LockBank$Canal" "spring" "[I", Cond.fieldLink RX0 56 "LockBank$Canal" "hour" "I", Cond.methodLink RX0 79 yJ9_floorMod_7cf53, Cond.static yJ9_floorMod_7cf53, Cond.initialized RJ9, Cond.code yJ9_floorMod_7cf53 cJ9_floorMod_7cf53 3 (some .int), Cond.methodLink RX0 85 yX0_pour, Cond.instanceMethod yX0_pour, Cond.selects RX0 yX0_pour yX0_pour, Cond.code yX0_pour cX0_pour 6 none, Cond.fieldLink RX0 25 "LockBank$Canal" "level" "[I", Cond.methodLink RX0 98 Lib.Math.min.name, Cond.static Lib.Math.min.name, Cond.initialized "java/lang/Math", Cond.code Lib.Math.min.name Lib.Math.min.code 2 (some .int), Cond.fieldLink RX0 28 "LockBank$Canal" "ranOver" "[I", Cond.methodLink RX0 89 yX0_turnMill, Cond.instanceMethod yX0_turnMill, Cond.selects RX0 yX0_turnMill yX0_turnMill]
def wsX0_goHours_r2 : List Cond := [Cond.code yX0_turnMill cX0_turnMill 3 none, Cond.fieldLink RX0 15 "LockBank$Canal" "millPound" "I", Cond.fieldLink RX0 18 "LockBank$Canal" "mark" "I", Cond.fieldLink RX0 31 "LockBank$Canal" "drawn" "[I", Cond.fieldLink RX0 59 "LockBank$Canal" "bank" "I", Cond.methodLink RX0 92 yX0_nextBarge, Cond.instanceMethod yX0_nextBarge, Cond.selects RX0 yX0_nextBarge yX0_nextBarge, Cond.code yX0_nextBarge cX0_nextBarge 6 (some .int), Cond.fieldLink RX0 72 "LockBank$Canal" "barges" "I", Cond.methodLink RX0 101 yX0_waitsAt, Cond.instanceMethod yX0_waitsAt, Cond.selects RX0 yX0_waitsAt yX0_waitsAt, Cond.code yX0_waitsAt cX0_waitsAt 2 (some .int), Cond.fieldLink RX0 44 "LockBank$Canal" "at" "[I", Cond.methodLink RX0 119 yX0_hasCome, Cond.instanceMethod yX0_hasCome, Cond.selects RX0 yX0_hasCome yX0_hasCome, Cond.code yX0_hasCome cX0_hasCome 2 (some .boolean), Cond.fieldLink RX0 47 "LockBank$Canal" "goal" "[I", Cond.methodLink RX0 112 yX0_goesDown, Cond.instanceMethod yX0_goesDown, Cond.selects RX0 yX0_goesDown yX0_goesDown, Cond.code yX0_goesDown cX0_goesDown 2 (some .boolean)]
def wsX0_goHours_r3 : List Cond := [Cond.methodLink RX0 105 yX0_canServe, Cond.instanceMethod yX0_canServe, Cond.selects RX0 yX0_canServe yX0_canServe, Cond.code yX0_canServe cX0_canServe 4 (some .boolean), Cond.fieldLink RX0 50 "LockBank$Canal" "purse" "[I", Cond.fieldLink RX0 9 "LockBank$Canal" "fee" "I", Cond.fieldLink RX0 62 "LockBank$Canal" "drought" "Z", Cond.fieldLink RX0 34 "LockBank$Canal" "full" "[Z", Cond.methodLink RX0 109 yX0_fits, Cond.instanceMethod yX0_fits, Cond.selects RX0 yX0_fits yX0_fits, Cond.code yX0_fits cX0_fits 3 (some .boolean), Cond.methodLink RX0 116 yX0_canFill, Cond.instanceMethod yX0_canFill, Cond.selects RX0 yX0_canFill yX0_canFill, Cond.code yX0_canFill cX0_canFill 2 (some .boolean), Cond.methodLink RX0 95 yX0_serve, Cond.instanceMethod yX0_serve, Cond.selects RX0 yX0_serve yX0_serve, Cond.code yX0_serve cX0_serve 3 none, Cond.fieldLink RX0 53 "LockBank$Canal" "served" "[I", Cond.fieldLink RX0 38 "LockBank$Canal" "lockings" "[I", Cond.methodLink RX0 122 yX0_turnChamber, Cond.instanceMethod yX0_turnChamber]
def wsX0_goHours_r4 : List Cond := [Cond.selects RX0 yX0_turnChamber yX0_turnChamber, Cond.code yX0_turnChamber cX0_turnChamber 2 none, Cond.fieldLink RX0 41 "LockBank$Canal" "filled" "[I"]
def wsX0_goHours : List Cond := .code yX0_goHours cX0_goHours 4 (some .int) :: ((wsX0_goHours_r1 ++ (wsX0_goHours_r2 ++ (wsX0_goHours_r3 ++ wsX0_goHours_r4))) ++ wsX00)
def wsX0_tellBarge : List Cond := .code yX0_tellBarge cX0_tellBarge 3 (some .int) :: ([.fieldLink RX0 44 "LockBank$Canal" "at" "[I", .fieldLink RX0 47 "LockBank$Canal" "goal" "[I", .fieldLink RX0 50 "LockBank$Canal" "purse" "[I", .fieldLink RX0 53 "LockBank$Canal" "served" "[I", .methodLink RX0 101 yX0_waitsAt, .instanceMethod yX0_waitsAt, .selects RX0 yX0_waitsAt yX0_waitsAt, .initialized RX0, .code yX0_waitsAt cX0_waitsAt 2 (some .int), .methodLink RX0 119 yX0_hasCome, .instanceMethod yX0_hasCome, .selects RX0 yX0_hasCome yX0_hasCome, .code yX0_hasCome cX0_hasCome 2 (some .boolean), .methodLink RX0 112 yX0_goesDown, .instanceMethod yX0_goesDown, .selects RX0 yX0_goesDown yX0_goesDown, .code yX0_goesDown cX0_goesDown 2 (some .boolean)] ++ wsX00)
def wsX0_bargesAt : List Cond := .code yX0_bargesAt cX0_bargesAt 4 (some .int) :: ([.fieldLink RX0 72 "LockBank$Canal" "barges" "I", .fieldLink RX0 44 "LockBank$Canal" "at" "[I"] ++ wsX00)
def wsX0_tellPound : List Cond := .code yX0_tellPound cX0_tellPound 3 (some .int) :: ([.fieldLink RX0 25 "LockBank$Canal" "level" "[I", .fieldLink RX0 28 "LockBank$Canal" "ranOver" "[I", .fieldLink RX0 31 "LockBank$Canal" "drawn" "[I", .methodLink RX0 126 yX0_bargesAt, .instanceMethod yX0_bargesAt, .selects RX0 yX0_bargesAt yX0_bargesAt, .initialized RX0, .code yX0_bargesAt cX0_bargesAt 4 (some .int), .fieldLink RX0 72 "LockBank$Canal" "barges" "I", .fieldLink RX0 44 "LockBank$Canal" "at" "[I"] ++ wsX00)
def wsX0_bargesWaitingAt : List Cond := .code yX0_bargesWaitingAt cX0_bargesWaitingAt 4 (some .int) :: ([.fieldLink RX0 72 "LockBank$Canal" "barges" "I", .methodLink RX0 101 yX0_waitsAt, .instanceMethod yX0_waitsAt, .selects RX0 yX0_waitsAt yX0_waitsAt, .initialized RX0, .code yX0_waitsAt cX0_waitsAt 2 (some .int), .fieldLink RX0 44 "LockBank$Canal" "at" "[I", .methodLink RX0 119 yX0_hasCome, .instanceMethod yX0_hasCome, .selects RX0 yX0_hasCome yX0_hasCome, .code yX0_hasCome cX0_hasCome 2 (some .boolean), .fieldLink RX0 47 "LockBank$Canal" "goal" "[I", .methodLink RX0 112 yX0_goesDown, .instanceMethod yX0_goesDown, .selects RX0 yX0_goesDown yX0_goesDown, .code yX0_goesDown cX0_goesDown 2 (some .boolean)] ++ wsX00)
def wsX0_tellLock_r1 : List Cond := [Cond.fieldLink RX0 34 "LockBank$Canal" "full" "[Z", Cond.fieldLink RX0 38 "LockBank$Canal" "lockings" "[I", Cond.fieldLink RX0 41 "LockBank$Canal" "filled" "[I", Cond.methodLink RX0 129 yX0_bargesWaitingAt, Cond.instanceMethod yX0_bargesWaitingAt, Cond.selects RX0 yX0_bargesWaitingAt yX0_bargesWaitingAt, Cond.initialized RX0, Cond.code yX0_bargesWaitingAt cX0_bargesWaitingAt 4 (some .int), Cond.fieldLink RX0 72 "LockBank$Canal" "barges" "I", Cond.methodLink RX0 101 yX0_waitsAt, Cond.instanceMethod yX0_waitsAt, Cond.selects RX0 yX0_waitsAt yX0_waitsAt, Cond.code yX0_waitsAt cX0_waitsAt 2 (some .int), Cond.fieldLink RX0 44 "LockBank$Canal" "at" "[I", Cond.methodLink RX0 119 yX0_hasCome, Cond.instanceMethod yX0_hasCome, Cond.selects RX0 yX0_hasCome yX0_hasCome, Cond.code yX0_hasCome cX0_hasCome 2 (some .boolean), Cond.fieldLink RX0 47 "LockBank$Canal" "goal" "[I", Cond.methodLink RX0 112 yX0_goesDown, Cond.instanceMethod yX0_goesDown, Cond.selects RX0 yX0_goesDown yX0_goesDown, Cond.code yX0_goesDown cX0_goesDown 2 (some .boolean), Cond.methodLink RX0 92 yX0_nextBarge]
def wsX0_tellLock_r2 : List Cond := [Cond.instanceMethod yX0_nextBarge, Cond.selects RX0 yX0_nextBarge yX0_nextBarge, Cond.code yX0_nextBarge cX0_nextBarge 6 (some .int), Cond.methodLink RX0 105 yX0_canServe, Cond.instanceMethod yX0_canServe, Cond.selects RX0 yX0_canServe yX0_canServe, Cond.code yX0_canServe cX0_canServe 4 (some .boolean), Cond.fieldLink RX0 50 "LockBank$Canal" "purse" "[I", Cond.fieldLink RX0 9 "LockBank$Canal" "fee" "I", Cond.fieldLink RX0 62 "LockBank$Canal" "drought" "Z", Cond.methodLink RX0 109 yX0_fits, Cond.instanceMethod yX0_fits, Cond.selects RX0 yX0_fits yX0_fits, Cond.code yX0_fits cX0_fits 3 (some .boolean), Cond.methodLink RX0 116 yX0_canFill, Cond.instanceMethod yX0_canFill, Cond.selects RX0 yX0_canFill yX0_canFill, Cond.code yX0_canFill cX0_canFill 2 (some .boolean), Cond.fieldLink RX0 25 "LockBank$Canal" "level" "[I"]
def wsX0_tellLock : List Cond := .code yX0_tellLock cX0_tellLock 3 (some .int) :: ((wsX0_tellLock_r1 ++ wsX0_tellLock_r2) ++ wsX00)
def wsX0_bargesThatHaveCome : List Cond := .code yX0_bargesThatHaveCome cX0_bargesThatHaveCome 3 (some .int) :: ([.fieldLink RX0 72 "LockBank$Canal" "barges" "I", .methodLink RX0 119 yX0_hasCome, .instanceMethod yX0_hasCome, .selects RX0 yX0_hasCome yX0_hasCome, .initialized RX0, .code yX0_hasCome cX0_hasCome 2 (some .boolean), .fieldLink RX0 44 "LockBank$Canal" "at" "[I", .fieldLink RX0 47 "LockBank$Canal" "goal" "[I"] ++ wsX00)
def wsX0_waterOfAll : List Cond := .code yX0_waterOfAll cX0_waterOfAll 3 (some .int) :: ([.fieldLink RX0 25 "LockBank$Canal" "level" "[I"] ++ wsX00)
def wsX0_fullChambers : List Cond := .code yX0_fullChambers cX0_fullChambers 3 (some .int) :: ([.fieldLink RX0 34 "LockBank$Canal" "full" "[Z"] ++ wsX00)
def wsX0_tellWhole_r1 : List Cond := [Cond.fieldLink RX0 56 "LockBank$Canal" "hour" "I", Cond.fieldLink RX0 72 "LockBank$Canal" "barges" "I", Cond.fieldLink RX0 59 "LockBank$Canal" "bank" "I", Cond.fieldLink RX0 28 "LockBank$Canal" "ranOver" "[I", Cond.fieldLink RX0 31 "LockBank$Canal" "drawn" "[I", Cond.fieldLink RX0 9 "LockBank$Canal" "fee" "I", Cond.fieldLink RX0 18 "LockBank$Canal" "mark" "I", Cond.fieldLink RX0 15 "LockBank$Canal" "millPound" "I", Cond.methodLink RX0 132 yX0_bargesThatHaveCome, Cond.instanceMethod yX0_bargesThatHaveCome, Cond.selects RX0 yX0_bargesThatHaveCome yX0_bargesThatHaveCome, Cond.initialized RX0, Cond.code yX0_bargesThatHaveCome cX0_bargesThatHaveCome 3 (some .int), Cond.methodLink RX0 119 yX0_hasCome, Cond.instanceMethod yX0_hasCome, Cond.selects RX0 yX0_hasCome yX0_hasCome, Cond.code yX0_hasCome cX0_hasCome 2 (some .boolean), Cond.fieldLink RX0 44 "LockBank$Canal" "at" "[I", Cond.fieldLink RX0 47 "LockBank$Canal" "goal" "[I", Cond.methodLink RX0 135 yX0_waterOfAll, Cond.instanceMethod yX0_waterOfAll, Cond.selects RX0 yX0_waterOfAll yX0_waterOfAll, Cond.code yX0_waterOfAll cX0_waterOfAll 3 (some .int), Cond.fieldLink RX0 25 "LockBank$Canal" "level" "[I"]
def wsX0_tellWhole_r2 : List Cond := [Cond.methodLink RX0 138 yX0_fullChambers, Cond.instanceMethod yX0_fullChambers, Cond.selects RX0 yX0_fullChambers yX0_fullChambers, Cond.code yX0_fullChambers cX0_fullChambers 3 (some .int), Cond.fieldLink RX0 34 "LockBank$Canal" "full" "[Z"]
def wsX0_tellWhole : List Cond := .code yX0_tellWhole cX0_tellWhole 2 (some .int) :: ((wsX0_tellWhole_r1 ++ wsX0_tellWhole_r2) ++ wsX00)
def wsX1_init_r1 : List Cond := [Cond.methodLink RX1 3 objectInit, Cond.instanceMethod objectInit, Cond.code objectInit ⟨#[0xb1]⟩ 1 none, Cond.classLink RX1 9 RX0, Cond.instantiable RX0 18, Cond.initialized RX0, Cond.fieldLink RX1 12 "LockBank" "canal" "LLockBank$Canal;", Cond.fieldLink RX1 16 "LockBank" "trial" "LLockBank$Canal;", Cond.methodLink RX1 11 yX0_init, Cond.instanceMethod yX0_init, Cond.code yX0_init cX0_init 2 none, Cond.methodLink RX0 3 objectInit, Cond.fieldLink RX0 9 "LockBank$Canal" "fee" "I", Cond.fieldLink RX0 15 "LockBank$Canal" "millPound" "I", Cond.fieldLink RX0 18 "LockBank$Canal" "mark" "I", Cond.arrayClass .int, Cond.fieldLink RX0 21 "LockBank$Canal" "spring" "[I", Cond.fieldLink RX0 25 "LockBank$Canal" "level" "[I", Cond.fieldLink RX0 28 "LockBank$Canal" "ranOver" "[I", Cond.fieldLink RX0 31 "LockBank$Canal" "drawn" "[I", Cond.arrayClass .boolean, Cond.fieldLink RX0 34 "LockBank$Canal" "full" "[Z", Cond.fieldLink RX0 38 "LockBank$Canal" "lockings" "[I", Cond.fieldLink RX0 41 "LockBank$Canal" "filled" "[I"]
def wsX1_init_r2 : List Cond := [Cond.fieldLink RX0 44 "LockBank$Canal" "at" "[I", Cond.fieldLink RX0 47 "LockBank$Canal" "goal" "[I", Cond.fieldLink RX0 50 "LockBank$Canal" "purse" "[I", Cond.fieldLink RX0 53 "LockBank$Canal" "served" "[I"]
def wsX1_init : List Cond := .code yX1_init cX1_init 1 none :: ((wsX1_init_r1 ++ wsX1_init_r2) ++ wsX00 ++ wsX10)
def wsX1_requireIndex : List Cond := .code yX1_requireIndex cX1_requireIndex 3 none :: ([.classLink RX1 127 "java/lang/IndexOutOfBoundsException", .initialized "java/lang/IndexOutOfBoundsException"] ++ (vx_atS RX1 131 "java/lang/IndexOutOfBoundsException" ["java/lang/RuntimeException", "java/lang/Exception"]).filter goodWord)
def wsX1_requireArgument : List Cond := .code yX1_requireArgument cX1_requireArgument 3 none :: ([.classLink RX1 132 "java/lang/IllegalArgumentException", .initialized "java/lang/IllegalArgumentException"] ++ (vx_atS RX1 136 "java/lang/IllegalArgumentException" ["java/lang/RuntimeException", "java/lang/Exception"]).filter goodWord)
def wsX1_setSpring : List Cond := .code yX1_setSpring cX1_setSpring 4 (some .int) :: ([.fieldLink RX1 12 "LockBank" "canal" "LLockBank$Canal;", .fieldLink RX1 26 "LockBank$Canal" "spring" "[I", .methodLink RX1 19 yX1_requireIndex, .static yX1_requireIndex, .initialized RX1, .code yX1_requireIndex cX1_requireIndex 3 none, .classLink RX1 127 "java/lang/IndexOutOfBoundsException", .initialized "java/lang/IndexOutOfBoundsException", .methodLink RX1 23 yX1_requireArgument, .static yX1_requireArgument, .code yX1_requireArgument cX1_requireArgument 3 none, .classLink RX1 132 "java/lang/IllegalArgumentException", .initialized "java/lang/IllegalArgumentException"] ++ wsX10 ++ wsX00 ++ (vx_atS RX1 131 "java/lang/IndexOutOfBoundsException" ["java/lang/RuntimeException", "java/lang/Exception"]).filter goodWord ++ (vx_atS RX1 136 "java/lang/IllegalArgumentException" ["java/lang/RuntimeException", "java/lang/Exception"]).filter goodWord)
def wsX1_setMill : List Cond := .code yX1_setMill cX1_setMill 4 (some .int) :: ([.fieldLink RX1 12 "LockBank" "canal" "LLockBank$Canal;", .fieldLink RX1 30 "LockBank$Canal" "mark" "I", .fieldLink RX1 34 "LockBank$Canal" "millPound" "I", .methodLink RX1 19 yX1_requireIndex, .static yX1_requireIndex, .initialized RX1, .code yX1_requireIndex cX1_requireIndex 3 none, .classLink RX1 127 "java/lang/IndexOutOfBoundsException", .initialized "java/lang/IndexOutOfBoundsException", .methodLink RX1 23 yX1_requireArgument, .static yX1_requireArgument, .code yX1_requireArgument cX1_requireArgument 3 none, .classLink RX1 132 "java/lang/IllegalArgumentException", .initialized "java/lang/IllegalArgumentException"] ++ wsX10 ++ wsX00 ++ (vx_atS RX1 131 "java/lang/IndexOutOfBoundsException" ["java/lang/RuntimeException", "java/lang/Exception"]).filter goodWord ++ (vx_atS RX1 136 "java/lang/IllegalArgumentException" ["java/lang/RuntimeException", "java/lang/Exception"]).filter goodWord)
def wsX1_setDrought : List Cond := .code yX1_setDrought cX1_setDrought 3 (some .boolean) :: ([.fieldLink RX1 12 "LockBank" "canal" "LLockBank$Canal;", .fieldLink RX1 37 "LockBank$Canal" "drought" "Z"] ++ wsX10 ++ wsX00)
def wsX1_setFee : List Cond := .code yX1_setFee cX1_setFee 3 (some .int) :: ([.fieldLink RX1 12 "LockBank" "canal" "LLockBank$Canal;", .fieldLink RX1 41 "LockBank$Canal" "fee" "I", .methodLink RX1 23 yX1_requireArgument, .static yX1_requireArgument, .initialized RX1, .code yX1_requireArgument cX1_requireArgument 3 none, .classLink RX1 132 "java/lang/IllegalArgumentException", .initialized "java/lang/IllegalArgumentException"] ++ wsX10 ++ wsX00 ++ (vx_atS RX1 136 "java/lang/IllegalArgumentException" ["java/lang/RuntimeException", "java/lang/Exception"]).filter goodWord)
def wsX1_water_r1 : List Cond := [Cond.classLink RX1 47 "java/lang/IllegalStateException", Cond.initialized "java/lang/IllegalStateException", Cond.fieldLink RX1 12 "LockBank" "canal" "LLockBank$Canal;", Cond.fieldLink RX1 44 "LockBank$Canal" "bank" "I", Cond.methodLink RX1 19 yX1_requireIndex, Cond.static yX1_requireIndex, Cond.initialized RX1, Cond.code yX1_requireIndex cX1_requireIndex 3 none, Cond.classLink RX1 127 "java/lang/IndexOutOfBoundsException", Cond.initialized "java/lang/IndexOutOfBoundsException", Cond.methodLink RX1 23 yX1_requireArgument, Cond.static yX1_requireArgument, Cond.code yX1_requireArgument cX1_requireArgument 3 none, Cond.classLink RX1 132 "java/lang/IllegalArgumentException", Cond.initialized "java/lang/IllegalArgumentException", Cond.methodLink RX1 54 yX0_pour, Cond.instanceMethod yX0_pour, Cond.selects RX0 yX0_pour yX0_pour, Cond.initialized RX0, Cond.code yX0_pour cX0_pour 6 none, Cond.fieldLink RX0 25 "LockBank$Canal" "level" "[I", Cond.methodLink RX0 98 Lib.Math.min.name, Cond.static Lib.Math.min.name, Cond.initialized "java/lang/Math"]
def wsX1_water_r2 : List Cond := [Cond.code Lib.Math.min.name Lib.Math.min.code 2 (some .int), Cond.fieldLink RX0 28 "LockBank$Canal" "ranOver" "[I"]
def wsX1_water : List Cond := .code yX1_water cX1_water 4 (some .int) :: ((wsX1_water_r1 ++ wsX1_water_r2) ++ wsX10 ++ wsX00 ++ (vx_atS RX1 51 "java/lang/IllegalStateException" ["java/lang/RuntimeException", "java/lang/Exception"]).filter goodWord ++ (vx_atS RX1 131 "java/lang/IndexOutOfBoundsException" ["java/lang/RuntimeException", "java/lang/Exception"]).filter goodWord ++ (vx_atS RX1 136 "java/lang/IllegalArgumentException" ["java/lang/RuntimeException", "java/lang/Exception"]).filter goodWord)
def wsX1_work_r1 : List Cond := [Cond.classLink RX1 47 "java/lang/IllegalStateException", Cond.initialized "java/lang/IllegalStateException", Cond.fieldLink RX1 12 "LockBank" "canal" "LLockBank$Canal;", Cond.fieldLink RX1 58 "LockBank$Canal" "full" "[Z", Cond.methodLink RX1 19 yX1_requireIndex, Cond.static yX1_requireIndex, Cond.initialized RX1, Cond.code yX1_requireIndex cX1_requireIndex 3 none, Cond.classLink RX1 127 "java/lang/IndexOutOfBoundsException", Cond.initialized "java/lang/IndexOutOfBoundsException", Cond.methodLink RX1 62 yX0_canFill, Cond.instanceMethod yX0_canFill, Cond.selects RX0 yX0_canFill yX0_canFill, Cond.initialized RX0, Cond.code yX0_canFill cX0_canFill 2 (some .boolean), Cond.fieldLink RX0 25 "LockBank$Canal" "level" "[I", Cond.methodLink RX1 68 yX0_turnChamber, Cond.instanceMethod yX0_turnChamber, Cond.selects RX0 yX0_turnChamber yX0_turnChamber, Cond.code yX0_turnChamber cX0_turnChamber 2 none, Cond.fieldLink RX0 34 "LockBank$Canal" "full" "[Z", Cond.fieldLink RX0 41 "LockBank$Canal" "filled" "[I", Cond.methodLink RX0 85 yX0_pour, Cond.instanceMethod yX0_pour]
def wsX1_work_r2 : List Cond := [Cond.selects RX0 yX0_pour yX0_pour, Cond.code yX0_pour cX0_pour 6 none, Cond.methodLink RX0 98 Lib.Math.min.name, Cond.static Lib.Math.min.name, Cond.initialized "java/lang/Math", Cond.code Lib.Math.min.name Lib.Math.min.code 2 (some .int), Cond.fieldLink RX0 28 "LockBank$Canal" "ranOver" "[I"]
def wsX1_work : List Cond := .code yX1_work cX1_work 2 (some .boolean) :: ((wsX1_work_r1 ++ wsX1_work_r2) ++ wsX10 ++ wsX00 ++ (vx_atS RX1 51 "java/lang/IllegalStateException" ["java/lang/RuntimeException", "java/lang/Exception"]).filter goodWord ++ (vx_atS RX1 131 "java/lang/IndexOutOfBoundsException" ["java/lang/RuntimeException", "java/lang/Exception"]).filter goodWord)
def wsX1_barge : List Cond := .code yX1_barge cX1_barge 5 (some .int) :: ([.classLink RX1 47 "java/lang/IllegalStateException", .initialized "java/lang/IllegalStateException", .fieldLink RX1 12 "LockBank" "canal" "LLockBank$Canal;", .fieldLink RX1 72 "LockBank$Canal" "barges" "I", .fieldLink RX1 77 "LockBank$Canal" "at" "[I", .fieldLink RX1 80 "LockBank$Canal" "goal" "[I", .fieldLink RX1 83 "LockBank$Canal" "purse" "[I", .methodLink RX1 19 yX1_requireIndex, .static yX1_requireIndex, .initialized RX1, .code yX1_requireIndex cX1_requireIndex 3 none, .classLink RX1 127 "java/lang/IndexOutOfBoundsException", .initialized "java/lang/IndexOutOfBoundsException", .methodLink RX1 23 yX1_requireArgument, .static yX1_requireArgument, .code yX1_requireArgument cX1_requireArgument 3 none, .classLink RX1 132 "java/lang/IllegalArgumentException", .initialized "java/lang/IllegalArgumentException"] ++ wsX10 ++ wsX00 ++ (vx_atS RX1 51 "java/lang/IllegalStateException" ["java/lang/RuntimeException", "java/lang/Exception"]).filter goodWord ++ (vx_atS RX1 131 "java/lang/IndexOutOfBoundsException" ["java/lang/RuntimeException", "java/lang/Exception"]).filter goodWord ++ (vx_atS RX1 136 "java/lang/IllegalArgumentException" ["java/lang/RuntimeException", "java/lang/Exception"]).filter goodWord)
def wsX1_send : List Cond := .code yX1_send cX1_send 4 (some .int) :: ([.fieldLink RX1 12 "LockBank" "canal" "LLockBank$Canal;", .fieldLink RX1 72 "LockBank$Canal" "barges" "I", .fieldLink RX1 80 "LockBank$Canal" "goal" "[I", .methodLink RX1 19 yX1_requireIndex, .static yX1_requireIndex, .initialized RX1, .code yX1_requireIndex cX1_requireIndex 3 none, .classLink RX1 127 "java/lang/IndexOutOfBoundsException", .initialized "java/lang/IndexOutOfBoundsException"] ++ wsX10 ++ wsX00 ++ (vx_atS RX1 131 "java/lang/IndexOutOfBoundsException" ["java/lang/RuntimeException", "java/lang/Exception"]).filter goodWord)
def wsX1_told_r1 : List Cond := [Cond.fieldLink RX1 12 "LockBank" "canal" "LLockBank$Canal;", Cond.fieldLink RX1 72 "LockBank$Canal" "barges" "I", Cond.methodLink RX1 19 yX1_requireIndex, Cond.static yX1_requireIndex, Cond.initialized RX1, Cond.code yX1_requireIndex cX1_requireIndex 3 none, Cond.classLink RX1 127 "java/lang/IndexOutOfBoundsException", Cond.initialized "java/lang/IndexOutOfBoundsException", Cond.methodLink RX1 86 yX0_tellBarge, Cond.instanceMethod yX0_tellBarge, Cond.selects RX0 yX0_tellBarge yX0_tellBarge, Cond.initialized RX0, Cond.code yX0_tellBarge cX0_tellBarge 3 (some .int), Cond.fieldLink RX0 44 "LockBank$Canal" "at" "[I", Cond.fieldLink RX0 47 "LockBank$Canal" "goal" "[I", Cond.fieldLink RX0 50 "LockBank$Canal" "purse" "[I", Cond.fieldLink RX0 53 "LockBank$Canal" "served" "[I", Cond.methodLink RX0 101 yX0_waitsAt, Cond.instanceMethod yX0_waitsAt, Cond.selects RX0 yX0_waitsAt yX0_waitsAt, Cond.code yX0_waitsAt cX0_waitsAt 2 (some .int), Cond.methodLink RX0 119 yX0_hasCome, Cond.instanceMethod yX0_hasCome, Cond.selects RX0 yX0_hasCome yX0_hasCome]
def wsX1_told_r2 : List Cond := [Cond.code yX0_hasCome cX0_hasCome 2 (some .boolean), Cond.methodLink RX0 112 yX0_goesDown, Cond.instanceMethod yX0_goesDown, Cond.selects RX0 yX0_goesDown yX0_goesDown, Cond.code yX0_goesDown cX0_goesDown 2 (some .boolean)]
def wsX1_told : List Cond := .code yX1_told cX1_told 3 (some .int) :: ((wsX1_told_r1 ++ wsX1_told_r2) ++ wsX10 ++ wsX00 ++ (vx_atS RX1 131 "java/lang/IndexOutOfBoundsException" ["java/lang/RuntimeException", "java/lang/Exception"]).filter goodWord)
def wsX1_pound : List Cond := .code yX1_pound cX1_pound 3 (some .int) :: ([.fieldLink RX1 12 "LockBank" "canal" "LLockBank$Canal;", .methodLink RX1 19 yX1_requireIndex, .static yX1_requireIndex, .initialized RX1, .code yX1_requireIndex cX1_requireIndex 3 none, .classLink RX1 127 "java/lang/IndexOutOfBoundsException", .initialized "java/lang/IndexOutOfBoundsException", .methodLink RX1 90 yX0_tellPound, .instanceMethod yX0_tellPound, .selects RX0 yX0_tellPound yX0_tellPound, .initialized RX0, .code yX0_tellPound cX0_tellPound 3 (some .int), .fieldLink RX0 25 "LockBank$Canal" "level" "[I", .fieldLink RX0 28 "LockBank$Canal" "ranOver" "[I", .fieldLink RX0 31 "LockBank$Canal" "drawn" "[I", .methodLink RX0 126 yX0_bargesAt, .instanceMethod yX0_bargesAt, .selects RX0 yX0_bargesAt yX0_bargesAt, .code yX0_bargesAt cX0_bargesAt 4 (some .int), .fieldLink RX0 72 "LockBank$Canal" "barges" "I", .fieldLink RX0 44 "LockBank$Canal" "at" "[I"] ++ wsX10 ++ wsX00 ++ (vx_atS RX1 131 "java/lang/IndexOutOfBoundsException" ["java/lang/RuntimeException", "java/lang/Exception"]).filter goodWord)
def wsX1_lock_r1 : List Cond := [Cond.fieldLink RX1 12 "LockBank" "canal" "LLockBank$Canal;", Cond.methodLink RX1 19 yX1_requireIndex, Cond.static yX1_requireIndex, Cond.initialized RX1, Cond.code yX1_requireIndex cX1_requireIndex 3 none, Cond.classLink RX1 127 "java/lang/IndexOutOfBoundsException", Cond.initialized "java/lang/IndexOutOfBoundsException", Cond.methodLink RX1 93 yX0_tellLock, Cond.instanceMethod yX0_tellLock, Cond.selects RX0 yX0_tellLock yX0_tellLock, Cond.initialized RX0, Cond.code yX0_tellLock cX0_tellLock 3 (some .int), Cond.fieldLink RX0 34 "LockBank$Canal" "full" "[Z", Cond.fieldLink RX0 38 "LockBank$Canal" "lockings" "[I", Cond.fieldLink RX0 41 "LockBank$Canal" "filled" "[I", Cond.methodLink RX0 129 yX0_bargesWaitingAt, Cond.instanceMethod yX0_bargesWaitingAt, Cond.selects RX0 yX0_bargesWaitingAt yX0_bargesWaitingAt, Cond.code yX0_bargesWaitingAt cX0_bargesWaitingAt 4 (some .int), Cond.fieldLink RX0 72 "LockBank$Canal" "barges" "I", Cond.methodLink RX0 101 yX0_waitsAt, Cond.instanceMethod yX0_waitsAt, Cond.selects RX0 yX0_waitsAt yX0_waitsAt, Cond.code yX0_waitsAt cX0_waitsAt 2 (some .int)]
def wsX1_lock_r2 : List Cond := [Cond.fieldLink RX0 44 "LockBank$Canal" "at" "[I", Cond.methodLink RX0 119 yX0_hasCome, Cond.instanceMethod yX0_hasCome, Cond.selects RX0 yX0_hasCome yX0_hasCome, Cond.code yX0_hasCome cX0_hasCome 2 (some .boolean), Cond.fieldLink RX0 47 "LockBank$Canal" "goal" "[I", Cond.methodLink RX0 112 yX0_goesDown, Cond.instanceMethod yX0_goesDown, Cond.selects RX0 yX0_goesDown yX0_goesDown, Cond.code yX0_goesDown cX0_goesDown 2 (some .boolean), Cond.methodLink RX0 92 yX0_nextBarge, Cond.instanceMethod yX0_nextBarge, Cond.selects RX0 yX0_nextBarge yX0_nextBarge, Cond.code yX0_nextBarge cX0_nextBarge 6 (some .int), Cond.methodLink RX0 105 yX0_canServe, Cond.instanceMethod yX0_canServe, Cond.selects RX0 yX0_canServe yX0_canServe, Cond.code yX0_canServe cX0_canServe 4 (some .boolean), Cond.fieldLink RX0 50 "LockBank$Canal" "purse" "[I", Cond.fieldLink RX0 9 "LockBank$Canal" "fee" "I", Cond.fieldLink RX0 62 "LockBank$Canal" "drought" "Z", Cond.methodLink RX0 109 yX0_fits, Cond.instanceMethod yX0_fits, Cond.selects RX0 yX0_fits yX0_fits]
def wsX1_lock_r3 : List Cond := [Cond.code yX0_fits cX0_fits 3 (some .boolean), Cond.methodLink RX0 116 yX0_canFill, Cond.instanceMethod yX0_canFill, Cond.selects RX0 yX0_canFill yX0_canFill, Cond.code yX0_canFill cX0_canFill 2 (some .boolean), Cond.fieldLink RX0 25 "LockBank$Canal" "level" "[I"]
def wsX1_lock : List Cond := .code yX1_lock cX1_lock 3 (some .int) :: ((wsX1_lock_r1 ++ (wsX1_lock_r2 ++ wsX1_lock_r3)) ++ wsX10 ++ wsX00 ++ (vx_atS RX1 131 "java/lang/IndexOutOfBoundsException" ["java/lang/RuntimeException", "java/lang/Exception"]).filter goodWord)
def wsX1_count_r1 : List Cond := [Cond.fieldLink RX1 12 "LockBank" "canal" "LLockBank$Canal;", Cond.methodLink RX1 19 yX1_requireIndex, Cond.static yX1_requireIndex, Cond.initialized RX1, Cond.code yX1_requireIndex cX1_requireIndex 3 none, Cond.classLink RX1 127 "java/lang/IndexOutOfBoundsException", Cond.initialized "java/lang/IndexOutOfBoundsException", Cond.methodLink RX1 96 yX0_tellWhole, Cond.instanceMethod yX0_tellWhole, Cond.selects RX0 yX0_tellWhole yX0_tellWhole, Cond.initialized RX0, Cond.code yX0_tellWhole cX0_tellWhole 2 (some .int), Cond.fieldLink RX0 56 "LockBank$Canal" "hour" "I", Cond.fieldLink RX0 72 "LockBank$Canal" "barges" "I", Cond.fieldLink RX0 59 "LockBank$Canal" "bank" "I", Cond.fieldLink RX0 28 "LockBank$Canal" "ranOver" "[I", Cond.fieldLink RX0 31 "LockBank$Canal" "drawn" "[I", Cond.fieldLink RX0 9 "LockBank$Canal" "fee" "I", Cond.fieldLink RX0 18 "LockBank$Canal" "mark" "I", Cond.fieldLink RX0 15 "LockBank$Canal" "millPound" "I", Cond.methodLink RX0 132 yX0_bargesThatHaveCome, Cond.instanceMethod yX0_bargesThatHaveCome, Cond.selects RX0 yX0_bargesThatHaveCome yX0_bargesThatHaveCome, Cond.code yX0_bargesThatHaveCome cX0_bargesThatHaveCome 3 (some .int)]
def wsX1_count_r2 : List Cond := [Cond.methodLink RX0 119 yX0_hasCome, Cond.instanceMethod yX0_hasCome, Cond.selects RX0 yX0_hasCome yX0_hasCome, Cond.code yX0_hasCome cX0_hasCome 2 (some .boolean), Cond.fieldLink RX0 44 "LockBank$Canal" "at" "[I", Cond.fieldLink RX0 47 "LockBank$Canal" "goal" "[I", Cond.methodLink RX0 135 yX0_waterOfAll, Cond.instanceMethod yX0_waterOfAll, Cond.selects RX0 yX0_waterOfAll yX0_waterOfAll, Cond.code yX0_waterOfAll cX0_waterOfAll 3 (some .int), Cond.fieldLink RX0 25 "LockBank$Canal" "level" "[I", Cond.methodLink RX0 138 yX0_fullChambers, Cond.instanceMethod yX0_fullChambers, Cond.selects RX0 yX0_fullChambers yX0_fullChambers, Cond.code yX0_fullChambers cX0_fullChambers 3 (some .int), Cond.fieldLink RX0 34 "LockBank$Canal" "full" "[Z"]
def wsX1_count : List Cond := .code yX1_count cX1_count 2 (some .int) :: ((wsX1_count_r1 ++ wsX1_count_r2) ++ wsX10 ++ wsX00 ++ (vx_atS RX1 131 "java/lang/IndexOutOfBoundsException" ["java/lang/RuntimeException", "java/lang/Exception"]).filter goodWord)
def wsX1_pass_r1 : List Cond := [Cond.fieldLink RX1 12 "LockBank" "canal" "LLockBank$Canal;", Cond.methodLink RX1 23 yX1_requireArgument, Cond.static yX1_requireArgument, Cond.initialized RX1, Cond.code yX1_requireArgument cX1_requireArgument 3 none, Cond.classLink RX1 132 "java/lang/IllegalArgumentException", Cond.initialized "java/lang/IllegalArgumentException", Cond.methodLink RX1 100 yX0_goHours, Cond.instanceMethod yX0_goHours, Cond.selects RX0 yX0_goHours yX0_goHours, Cond.initialized RX0, Cond.code yX0_goHours cX0_goHours 4 (some .int), Cond.methodLink RX0 75 yX0_goHour, Cond.instanceMethod yX0_goHour, Cond.selects RX0 yX0_goHour yX0_goHour, Cond.code yX0_goHour cX0_goHour 5 (some .int), Cond.fieldLink RX0 21 "LockBank$Canal" "spring" "[I", Cond.fieldLink RX0 56 "LockBank$Canal" "hour" "I", Cond.methodLink RX0 79 yJ9_floorMod_7cf53, Cond.static yJ9_floorMod_7cf53, Cond.initialized RJ9, Cond.code yJ9_floorMod_7cf53 cJ9_floorMod_7cf53 3 (some .int), Cond.methodLink RX0 85 yX0_pour, Cond.instanceMethod yX0_pour]
def wsX1_pass_r2 : List Cond := [Cond.selects RX0 yX0_pour yX0_pour, Cond.code yX0_pour cX0_pour 6 none, Cond.fieldLink RX0 25 "LockBank$Canal" "level" "[I", Cond.methodLink RX0 98 Lib.Math.min.name, Cond.static Lib.Math.min.name, Cond.initialized "java/lang/Math", Cond.code Lib.Math.min.name Lib.Math.min.code 2 (some .int), Cond.fieldLink RX0 28 "LockBank$Canal" "ranOver" "[I", Cond.methodLink RX0 89 yX0_turnMill, Cond.instanceMethod yX0_turnMill, Cond.selects RX0 yX0_turnMill yX0_turnMill, Cond.code yX0_turnMill cX0_turnMill 3 none, Cond.fieldLink RX0 15 "LockBank$Canal" "millPound" "I", Cond.fieldLink RX0 18 "LockBank$Canal" "mark" "I", Cond.fieldLink RX0 31 "LockBank$Canal" "drawn" "[I", Cond.fieldLink RX0 59 "LockBank$Canal" "bank" "I", Cond.methodLink RX0 92 yX0_nextBarge, Cond.instanceMethod yX0_nextBarge, Cond.selects RX0 yX0_nextBarge yX0_nextBarge, Cond.code yX0_nextBarge cX0_nextBarge 6 (some .int), Cond.fieldLink RX0 72 "LockBank$Canal" "barges" "I", Cond.methodLink RX0 101 yX0_waitsAt, Cond.instanceMethod yX0_waitsAt, Cond.selects RX0 yX0_waitsAt yX0_waitsAt]
def wsX1_pass_r3 : List Cond := [Cond.code yX0_waitsAt cX0_waitsAt 2 (some .int), Cond.fieldLink RX0 44 "LockBank$Canal" "at" "[I", Cond.methodLink RX0 119 yX0_hasCome, Cond.instanceMethod yX0_hasCome, Cond.selects RX0 yX0_hasCome yX0_hasCome, Cond.code yX0_hasCome cX0_hasCome 2 (some .boolean), Cond.fieldLink RX0 47 "LockBank$Canal" "goal" "[I", Cond.methodLink RX0 112 yX0_goesDown, Cond.instanceMethod yX0_goesDown, Cond.selects RX0 yX0_goesDown yX0_goesDown, Cond.code yX0_goesDown cX0_goesDown 2 (some .boolean), Cond.methodLink RX0 105 yX0_canServe, Cond.instanceMethod yX0_canServe, Cond.selects RX0 yX0_canServe yX0_canServe, Cond.code yX0_canServe cX0_canServe 4 (some .boolean), Cond.fieldLink RX0 50 "LockBank$Canal" "purse" "[I", Cond.fieldLink RX0 9 "LockBank$Canal" "fee" "I", Cond.fieldLink RX0 62 "LockBank$Canal" "drought" "Z", Cond.fieldLink RX0 34 "LockBank$Canal" "full" "[Z", Cond.methodLink RX0 109 yX0_fits, Cond.instanceMethod yX0_fits, Cond.selects RX0 yX0_fits yX0_fits, Cond.code yX0_fits cX0_fits 3 (some .boolean), Cond.methodLink RX0 116 yX0_canFill]
def wsX1_pass_r4 : List Cond := [Cond.instanceMethod yX0_canFill, Cond.selects RX0 yX0_canFill yX0_canFill, Cond.code yX0_canFill cX0_canFill 2 (some .boolean), Cond.methodLink RX0 95 yX0_serve, Cond.instanceMethod yX0_serve, Cond.selects RX0 yX0_serve yX0_serve, Cond.code yX0_serve cX0_serve 3 none, Cond.fieldLink RX0 53 "LockBank$Canal" "served" "[I", Cond.fieldLink RX0 38 "LockBank$Canal" "lockings" "[I", Cond.methodLink RX0 122 yX0_turnChamber, Cond.instanceMethod yX0_turnChamber, Cond.selects RX0 yX0_turnChamber yX0_turnChamber, Cond.code yX0_turnChamber cX0_turnChamber 2 none, Cond.fieldLink RX0 41 "LockBank$Canal" "filled" "[I"]
def wsX1_pass : List Cond := .code yX1_pass cX1_pass 2 (some .int) :: ((wsX1_pass_r1 ++ (wsX1_pass_r2 ++ (wsX1_pass_r3 ++ wsX1_pass_r4))) ++ wsX10 ++ wsX00 ++ (vx_atS RX1 136 "java/lang/IllegalArgumentException" ["java/lang/RuntimeException", "java/lang/Exception"]).filter goodWord)
def wsX1_arrives_r1 : List Cond := [Cond.fieldLink RX1 12 "LockBank" "canal" "LLockBank$Canal;", Cond.fieldLink RX1 72 "LockBank$Canal" "barges" "I", Cond.fieldLink RX1 16 "LockBank" "trial" "LLockBank$Canal;", Cond.methodLink RX1 19 yX1_requireIndex, Cond.static yX1_requireIndex, Cond.initialized RX1, Cond.code yX1_requireIndex cX1_requireIndex 3 none, Cond.classLink RX1 127 "java/lang/IndexOutOfBoundsException", Cond.initialized "java/lang/IndexOutOfBoundsException", Cond.methodLink RX1 103 yX0_copyFrom, Cond.instanceMethod yX0_copyFrom, Cond.selects RX0 yX0_copyFrom yX0_copyFrom, Cond.initialized RX0, Cond.code yX0_copyFrom cX0_copyFrom 2 none, Cond.fieldLink RX0 56 "LockBank$Canal" "hour" "I", Cond.fieldLink RX0 59 "LockBank$Canal" "bank" "I", Cond.fieldLink RX0 9 "LockBank$Canal" "fee" "I", Cond.fieldLink RX0 62 "LockBank$Canal" "drought" "Z", Cond.fieldLink RX0 15 "LockBank$Canal" "millPound" "I", Cond.fieldLink RX0 18 "LockBank$Canal" "mark" "I", Cond.fieldLink RX0 21 "LockBank$Canal" "spring" "[I", Cond.methodLink RX0 66 arraycopyName, Cond.native arraycopyName, Cond.static arraycopyName]
def wsX1_arrives_r2 : List Cond := [Cond.initialized "java/lang/System", Cond.fieldLink RX0 25 "LockBank$Canal" "level" "[I", Cond.fieldLink RX0 28 "LockBank$Canal" "ranOver" "[I", Cond.fieldLink RX0 31 "LockBank$Canal" "drawn" "[I", Cond.fieldLink RX0 34 "LockBank$Canal" "full" "[Z", Cond.fieldLink RX0 38 "LockBank$Canal" "lockings" "[I", Cond.fieldLink RX0 41 "LockBank$Canal" "filled" "[I", Cond.fieldLink RX0 72 "LockBank$Canal" "barges" "I", Cond.fieldLink RX0 44 "LockBank$Canal" "at" "[I", Cond.fieldLink RX0 47 "LockBank$Canal" "goal" "[I", Cond.fieldLink RX0 50 "LockBank$Canal" "purse" "[I", Cond.fieldLink RX0 53 "LockBank$Canal" "served" "[I", Cond.methodLink RX1 107 yX0_hasCome, Cond.instanceMethod yX0_hasCome, Cond.selects RX0 yX0_hasCome yX0_hasCome, Cond.code yX0_hasCome cX0_hasCome 2 (some .boolean), Cond.methodLink RX1 110 yX0_goHour, Cond.instanceMethod yX0_goHour, Cond.selects RX0 yX0_goHour yX0_goHour, Cond.code yX0_goHour cX0_goHour 5 (some .int), Cond.methodLink RX0 79 yJ9_floorMod_7cf53, Cond.static yJ9_floorMod_7cf53, Cond.initialized RJ9, Cond.code yJ9_floorMod_7cf53 cJ9_floorMod_7cf53 3 (some .int)]
def wsX1_arrives_r3 : List Cond := [Cond.methodLink RX0 85 yX0_pour, Cond.instanceMethod yX0_pour, Cond.selects RX0 yX0_pour yX0_pour, Cond.code yX0_pour cX0_pour 6 none, Cond.methodLink RX0 98 Lib.Math.min.name, Cond.static Lib.Math.min.name, Cond.initialized "java/lang/Math", Cond.code Lib.Math.min.name Lib.Math.min.code 2 (some .int), Cond.methodLink RX0 89 yX0_turnMill, Cond.instanceMethod yX0_turnMill, Cond.selects RX0 yX0_turnMill yX0_turnMill, Cond.code yX0_turnMill cX0_turnMill 3 none, Cond.methodLink RX0 92 yX0_nextBarge, Cond.instanceMethod yX0_nextBarge, Cond.selects RX0 yX0_nextBarge yX0_nextBarge, Cond.code yX0_nextBarge cX0_nextBarge 6 (some .int), Cond.methodLink RX0 101 yX0_waitsAt, Cond.instanceMethod yX0_waitsAt, Cond.selects RX0 yX0_waitsAt yX0_waitsAt, Cond.code yX0_waitsAt cX0_waitsAt 2 (some .int), Cond.methodLink RX0 119 yX0_hasCome, Cond.methodLink RX0 112 yX0_goesDown, Cond.instanceMethod yX0_goesDown, Cond.selects RX0 yX0_goesDown yX0_goesDown]
def wsX1_arrives_r4 : List Cond := [Cond.code yX0_goesDown cX0_goesDown 2 (some .boolean), Cond.methodLink RX0 105 yX0_canServe, Cond.instanceMethod yX0_canServe, Cond.selects RX0 yX0_canServe yX0_canServe, Cond.code yX0_canServe cX0_canServe 4 (some .boolean), Cond.methodLink RX0 109 yX0_fits, Cond.instanceMethod yX0_fits, Cond.selects RX0 yX0_fits yX0_fits, Cond.code yX0_fits cX0_fits 3 (some .boolean), Cond.methodLink RX0 116 yX0_canFill, Cond.instanceMethod yX0_canFill, Cond.selects RX0 yX0_canFill yX0_canFill, Cond.code yX0_canFill cX0_canFill 2 (some .boolean), Cond.methodLink RX0 95 yX0_serve, Cond.instanceMethod yX0_serve, Cond.selects RX0 yX0_serve yX0_serve, Cond.code yX0_serve cX0_serve 3 none, Cond.methodLink RX0 122 yX0_turnChamber, Cond.instanceMethod yX0_turnChamber, Cond.selects RX0 yX0_turnChamber yX0_turnChamber, Cond.code yX0_turnChamber cX0_turnChamber 2 none]
def wsX1_arrives : List Cond := .code yX1_arrives cX1_arrives 3 (some .int) :: ((wsX1_arrives_r1 ++ (wsX1_arrives_r2 ++ (wsX1_arrives_r3 ++ wsX1_arrives_r4))) ++ wsX10 ++ wsX00 ++ (vx_atS RX1 131 "java/lang/IndexOutOfBoundsException" ["java/lang/RuntimeException", "java/lang/Exception"]).filter goodWord)
def wsX1_foresee_r1 : List Cond := [Cond.fieldLink RX1 16 "LockBank" "trial" "LLockBank$Canal;", Cond.fieldLink RX1 12 "LockBank" "canal" "LLockBank$Canal;", Cond.methodLink RX1 23 yX1_requireArgument, Cond.static yX1_requireArgument, Cond.initialized RX1, Cond.code yX1_requireArgument cX1_requireArgument 3 none, Cond.classLink RX1 132 "java/lang/IllegalArgumentException", Cond.initialized "java/lang/IllegalArgumentException", Cond.methodLink RX1 19 yX1_requireIndex, Cond.static yX1_requireIndex, Cond.code yX1_requireIndex cX1_requireIndex 3 none, Cond.classLink RX1 127 "java/lang/IndexOutOfBoundsException", Cond.initialized "java/lang/IndexOutOfBoundsException", Cond.methodLink RX1 103 yX0_copyFrom, Cond.instanceMethod yX0_copyFrom, Cond.selects RX0 yX0_copyFrom yX0_copyFrom, Cond.initialized RX0, Cond.code yX0_copyFrom cX0_copyFrom 2 none, Cond.fieldLink RX0 56 "LockBank$Canal" "hour" "I", Cond.fieldLink RX0 59 "LockBank$Canal" "bank" "I", Cond.fieldLink RX0 9 "LockBank$Canal" "fee" "I", Cond.fieldLink RX0 62 "LockBank$Canal" "drought" "Z", Cond.fieldLink RX0 15 "LockBank$Canal" "millPound" "I", Cond.fieldLink RX0 18 "LockBank$Canal" "mark" "I"]
def wsX1_foresee_r2 : List Cond := [Cond.fieldLink RX0 21 "LockBank$Canal" "spring" "[I", Cond.methodLink RX0 66 arraycopyName, Cond.native arraycopyName, Cond.static arraycopyName, Cond.initialized "java/lang/System", Cond.fieldLink RX0 25 "LockBank$Canal" "level" "[I", Cond.fieldLink RX0 28 "LockBank$Canal" "ranOver" "[I", Cond.fieldLink RX0 31 "LockBank$Canal" "drawn" "[I", Cond.fieldLink RX0 34 "LockBank$Canal" "full" "[Z", Cond.fieldLink RX0 38 "LockBank$Canal" "lockings" "[I", Cond.fieldLink RX0 41 "LockBank$Canal" "filled" "[I", Cond.fieldLink RX0 72 "LockBank$Canal" "barges" "I", Cond.fieldLink RX0 44 "LockBank$Canal" "at" "[I", Cond.fieldLink RX0 47 "LockBank$Canal" "goal" "[I", Cond.fieldLink RX0 50 "LockBank$Canal" "purse" "[I", Cond.fieldLink RX0 53 "LockBank$Canal" "served" "[I", Cond.methodLink RX1 100 yX0_goHours, Cond.instanceMethod yX0_goHours, Cond.selects RX0 yX0_goHours yX0_goHours, Cond.code yX0_goHours cX0_goHours 4 (some .int), Cond.methodLink RX0 75 yX0_goHour, Cond.instanceMethod yX0_goHour, Cond.selects RX0 yX0_goHour yX0_goHour, Cond.code yX0_goHour cX0_goHour 5 (some .int)]
def wsX1_foresee_r3 : List Cond := [Cond.methodLink RX0 79 yJ9_floorMod_7cf53, Cond.static yJ9_floorMod_7cf53, Cond.initialized RJ9, Cond.code yJ9_floorMod_7cf53 cJ9_floorMod_7cf53 3 (some .int), Cond.methodLink RX0 85 yX0_pour, Cond.instanceMethod yX0_pour, Cond.selects RX0 yX0_pour yX0_pour, Cond.code yX0_pour cX0_pour 6 none, Cond.methodLink RX0 98 Lib.Math.min.name, Cond.static Lib.Math.min.name, Cond.initialized "java/lang/Math", Cond.code Lib.Math.min.name Lib.Math.min.code 2 (some .int), Cond.methodLink RX0 89 yX0_turnMill, Cond.instanceMethod yX0_turnMill, Cond.selects RX0 yX0_turnMill yX0_turnMill, Cond.code yX0_turnMill cX0_turnMill 3 none, Cond.methodLink RX0 92 yX0_nextBarge, Cond.instanceMethod yX0_nextBarge, Cond.selects RX0 yX0_nextBarge yX0_nextBarge, Cond.code yX0_nextBarge cX0_nextBarge 6 (some .int), Cond.methodLink RX0 101 yX0_waitsAt, Cond.instanceMethod yX0_waitsAt, Cond.selects RX0 yX0_waitsAt yX0_waitsAt, Cond.code yX0_waitsAt cX0_waitsAt 2 (some .int)]
def wsX1_foresee_r4 : List Cond := [Cond.methodLink RX0 119 yX0_hasCome, Cond.instanceMethod yX0_hasCome, Cond.selects RX0 yX0_hasCome yX0_hasCome, Cond.code yX0_hasCome cX0_hasCome 2 (some .boolean), Cond.methodLink RX0 112 yX0_goesDown, Cond.instanceMethod yX0_goesDown, Cond.selects RX0 yX0_goesDown yX0_goesDown, Cond.code yX0_goesDown cX0_goesDown 2 (some .boolean), Cond.methodLink RX0 105 yX0_canServe, Cond.instanceMethod yX0_canServe, Cond.selects RX0 yX0_canServe yX0_canServe, Cond.code yX0_canServe cX0_canServe 4 (some .boolean), Cond.methodLink RX0 109 yX0_fits, Cond.instanceMethod yX0_fits, Cond.selects RX0 yX0_fits yX0_fits, Cond.code yX0_fits cX0_fits 3 (some .boolean), Cond.methodLink RX0 116 yX0_canFill, Cond.instanceMethod yX0_canFill, Cond.selects RX0 yX0_canFill yX0_canFill, Cond.code yX0_canFill cX0_canFill 2 (some .boolean), Cond.methodLink RX0 95 yX0_serve, Cond.instanceMethod yX0_serve, Cond.selects RX0 yX0_serve yX0_serve, Cond.code yX0_serve cX0_serve 3 none]
def wsX1_foresee_r5 : List Cond := [Cond.methodLink RX0 122 yX0_turnChamber, Cond.instanceMethod yX0_turnChamber, Cond.selects RX0 yX0_turnChamber yX0_turnChamber, Cond.code yX0_turnChamber cX0_turnChamber 2 none, Cond.methodLink RX1 96 yX0_tellWhole, Cond.instanceMethod yX0_tellWhole, Cond.selects RX0 yX0_tellWhole yX0_tellWhole, Cond.code yX0_tellWhole cX0_tellWhole 2 (some .int), Cond.methodLink RX0 132 yX0_bargesThatHaveCome, Cond.instanceMethod yX0_bargesThatHaveCome, Cond.selects RX0 yX0_bargesThatHaveCome yX0_bargesThatHaveCome, Cond.code yX0_bargesThatHaveCome cX0_bargesThatHaveCome 3 (some .int), Cond.methodLink RX0 135 yX0_waterOfAll, Cond.instanceMethod yX0_waterOfAll, Cond.selects RX0 yX0_waterOfAll yX0_waterOfAll, Cond.code yX0_waterOfAll cX0_waterOfAll 3 (some .int), Cond.methodLink RX0 138 yX0_fullChambers, Cond.instanceMethod yX0_fullChambers, Cond.selects RX0 yX0_fullChambers yX0_fullChambers, Cond.code yX0_fullChambers cX0_fullChambers 3 (some .int)]
def wsX1_foresee : List Cond := .code yX1_foresee cX1_foresee 3 (some .int) :: ((wsX1_foresee_r1 ++ (wsX1_foresee_r2 ++ (wsX1_foresee_r3 ++ (wsX1_foresee_r4 ++ wsX1_foresee_r5)))) ++ wsX10 ++ wsX00 ++ (vx_atS RX1 136 "java/lang/IllegalArgumentException" ["java/lang/RuntimeException", "java/lang/Exception"]).filter goodWord ++ (vx_atS RX1 131 "java/lang/IndexOutOfBoundsException" ["java/lang/RuntimeException", "java/lang/Exception"]).filter goodWord)
def wsX1_advise_r1 : List Cond := [Cond.fieldLink RX1 16 "LockBank" "trial" "LLockBank$Canal;", Cond.fieldLink RX1 12 "LockBank" "canal" "LLockBank$Canal;", Cond.fieldLink RX1 30 "LockBank$Canal" "mark" "I", Cond.fieldLink RX1 44 "LockBank$Canal" "bank" "I", Cond.methodLink RX1 23 yX1_requireArgument, Cond.static yX1_requireArgument, Cond.initialized RX1, Cond.code yX1_requireArgument cX1_requireArgument 3 none, Cond.classLink RX1 132 "java/lang/IllegalArgumentException", Cond.initialized "java/lang/IllegalArgumentException", Cond.methodLink RX1 103 yX0_copyFrom, Cond.instanceMethod yX0_copyFrom, Cond.selects RX0 yX0_copyFrom yX0_copyFrom, Cond.initialized RX0, Cond.code yX0_copyFrom cX0_copyFrom 2 none, Cond.fieldLink RX0 56 "LockBank$Canal" "hour" "I", Cond.fieldLink RX0 59 "LockBank$Canal" "bank" "I", Cond.fieldLink RX0 9 "LockBank$Canal" "fee" "I", Cond.fieldLink RX0 62 "LockBank$Canal" "drought" "Z", Cond.fieldLink RX0 15 "LockBank$Canal" "millPound" "I", Cond.fieldLink RX0 18 "LockBank$Canal" "mark" "I", Cond.fieldLink RX0 21 "LockBank$Canal" "spring" "[I", Cond.methodLink RX0 66 arraycopyName, Cond.native arraycopyName]
def wsX1_advise_r2 : List Cond := [Cond.static arraycopyName, Cond.initialized "java/lang/System", Cond.fieldLink RX0 25 "LockBank$Canal" "level" "[I", Cond.fieldLink RX0 28 "LockBank$Canal" "ranOver" "[I", Cond.fieldLink RX0 31 "LockBank$Canal" "drawn" "[I", Cond.fieldLink RX0 34 "LockBank$Canal" "full" "[Z", Cond.fieldLink RX0 38 "LockBank$Canal" "lockings" "[I", Cond.fieldLink RX0 41 "LockBank$Canal" "filled" "[I", Cond.fieldLink RX0 72 "LockBank$Canal" "barges" "I", Cond.fieldLink RX0 44 "LockBank$Canal" "at" "[I", Cond.fieldLink RX0 47 "LockBank$Canal" "goal" "[I", Cond.fieldLink RX0 50 "LockBank$Canal" "purse" "[I", Cond.fieldLink RX0 53 "LockBank$Canal" "served" "[I", Cond.methodLink RX1 100 yX0_goHours, Cond.instanceMethod yX0_goHours, Cond.selects RX0 yX0_goHours yX0_goHours, Cond.code yX0_goHours cX0_goHours 4 (some .int), Cond.methodLink RX0 75 yX0_goHour, Cond.instanceMethod yX0_goHour, Cond.selects RX0 yX0_goHour yX0_goHour, Cond.code yX0_goHour cX0_goHour 5 (some .int), Cond.methodLink RX0 79 yJ9_floorMod_7cf53, Cond.static yJ9_floorMod_7cf53, Cond.initialized RJ9]
def wsX1_advise_r3 : List Cond := [Cond.code yJ9_floorMod_7cf53 cJ9_floorMod_7cf53 3 (some .int), Cond.methodLink RX0 85 yX0_pour, Cond.instanceMethod yX0_pour, Cond.selects RX0 yX0_pour yX0_pour, Cond.code yX0_pour cX0_pour 6 none, Cond.methodLink RX0 98 Lib.Math.min.name, Cond.static Lib.Math.min.name, Cond.initialized "java/lang/Math", Cond.code Lib.Math.min.name Lib.Math.min.code 2 (some .int), Cond.methodLink RX0 89 yX0_turnMill, Cond.instanceMethod yX0_turnMill, Cond.selects RX0 yX0_turnMill yX0_turnMill, Cond.code yX0_turnMill cX0_turnMill 3 none, Cond.methodLink RX0 92 yX0_nextBarge, Cond.instanceMethod yX0_nextBarge, Cond.selects RX0 yX0_nextBarge yX0_nextBarge, Cond.code yX0_nextBarge cX0_nextBarge 6 (some .int), Cond.methodLink RX0 101 yX0_waitsAt, Cond.instanceMethod yX0_waitsAt, Cond.selects RX0 yX0_waitsAt yX0_waitsAt, Cond.code yX0_waitsAt cX0_waitsAt 2 (some .int), Cond.methodLink RX0 119 yX0_hasCome, Cond.instanceMethod yX0_hasCome, Cond.selects RX0 yX0_hasCome yX0_hasCome]
def wsX1_advise_r4 : List Cond := [Cond.code yX0_hasCome cX0_hasCome 2 (some .boolean), Cond.methodLink RX0 112 yX0_goesDown, Cond.instanceMethod yX0_goesDown, Cond.selects RX0 yX0_goesDown yX0_goesDown, Cond.code yX0_goesDown cX0_goesDown 2 (some .boolean), Cond.methodLink RX0 105 yX0_canServe, Cond.instanceMethod yX0_canServe, Cond.selects RX0 yX0_canServe yX0_canServe, Cond.code yX0_canServe cX0_canServe 4 (some .boolean), Cond.methodLink RX0 109 yX0_fits, Cond.instanceMethod yX0_fits, Cond.selects RX0 yX0_fits yX0_fits, Cond.code yX0_fits cX0_fits 3 (some .boolean), Cond.methodLink RX0 116 yX0_canFill, Cond.instanceMethod yX0_canFill, Cond.selects RX0 yX0_canFill yX0_canFill, Cond.code yX0_canFill cX0_canFill 2 (some .boolean), Cond.methodLink RX0 95 yX0_serve, Cond.instanceMethod yX0_serve, Cond.selects RX0 yX0_serve yX0_serve, Cond.code yX0_serve cX0_serve 3 none, Cond.methodLink RX0 122 yX0_turnChamber, Cond.instanceMethod yX0_turnChamber, Cond.selects RX0 yX0_turnChamber yX0_turnChamber]
def wsX1_advise_r5 : List Cond := [Cond.code yX0_turnChamber cX0_turnChamber 2 none]
def wsX1_advise : List Cond := .code yX1_advise cX1_advise 5 (some .int) :: ((wsX1_advise_r1 ++ (wsX1_advise_r2 ++ (wsX1_advise_r3 ++ (wsX1_advise_r4 ++ wsX1_advise_r5)))) ++ wsX10 ++ wsX00 ++ (vx_atS RX1 136 "java/lang/IllegalArgumentException" ["java/lang/RuntimeException", "java/lang/Exception"]).filter goodWord)
def wsX1_stops_r1 : List Cond := [Cond.fieldLink RX1 16 "LockBank" "trial" "LLockBank$Canal;", Cond.fieldLink RX1 12 "LockBank" "canal" "LLockBank$Canal;", Cond.methodLink RX1 103 yX0_copyFrom, Cond.instanceMethod yX0_copyFrom, Cond.selects RX0 yX0_copyFrom yX0_copyFrom, Cond.initialized RX0, Cond.code yX0_copyFrom cX0_copyFrom 2 none, Cond.fieldLink RX0 56 "LockBank$Canal" "hour" "I", Cond.fieldLink RX0 59 "LockBank$Canal" "bank" "I", Cond.fieldLink RX0 9 "LockBank$Canal" "fee" "I", Cond.fieldLink RX0 62 "LockBank$Canal" "drought" "Z", Cond.fieldLink RX0 15 "LockBank$Canal" "millPound" "I", Cond.fieldLink RX0 18 "LockBank$Canal" "mark" "I", Cond.fieldLink RX0 21 "LockBank$Canal" "spring" "[I", Cond.methodLink RX0 66 arraycopyName, Cond.native arraycopyName, Cond.static arraycopyName, Cond.initialized "java/lang/System", Cond.fieldLink RX0 25 "LockBank$Canal" "level" "[I", Cond.fieldLink RX0 28 "LockBank$Canal" "ranOver" "[I", Cond.fieldLink RX0 31 "LockBank$Canal" "drawn" "[I", Cond.fieldLink RX0 34 "LockBank$Canal" "full" "[Z", Cond.fieldLink RX0 38 "LockBank$Canal" "lockings" "[I", Cond.fieldLink RX0 41 "LockBank$Canal" "filled" "[I"]
def wsX1_stops_r2 : List Cond := [Cond.fieldLink RX0 72 "LockBank$Canal" "barges" "I", Cond.fieldLink RX0 44 "LockBank$Canal" "at" "[I", Cond.fieldLink RX0 47 "LockBank$Canal" "goal" "[I", Cond.fieldLink RX0 50 "LockBank$Canal" "purse" "[I", Cond.fieldLink RX0 53 "LockBank$Canal" "served" "[I", Cond.methodLink RX1 110 yX0_goHour, Cond.instanceMethod yX0_goHour, Cond.selects RX0 yX0_goHour yX0_goHour, Cond.code yX0_goHour cX0_goHour 5 (some .int), Cond.methodLink RX0 79 yJ9_floorMod_7cf53, Cond.static yJ9_floorMod_7cf53, Cond.initialized RJ9, Cond.code yJ9_floorMod_7cf53 cJ9_floorMod_7cf53 3 (some .int), Cond.methodLink RX0 85 yX0_pour, Cond.instanceMethod yX0_pour, Cond.selects RX0 yX0_pour yX0_pour, Cond.code yX0_pour cX0_pour 6 none, Cond.methodLink RX0 98 Lib.Math.min.name, Cond.static Lib.Math.min.name, Cond.initialized "java/lang/Math", Cond.code Lib.Math.min.name Lib.Math.min.code 2 (some .int), Cond.methodLink RX0 89 yX0_turnMill, Cond.instanceMethod yX0_turnMill, Cond.selects RX0 yX0_turnMill yX0_turnMill]
def wsX1_stops_r3 : List Cond := [Cond.code yX0_turnMill cX0_turnMill 3 none, Cond.methodLink RX0 92 yX0_nextBarge, Cond.instanceMethod yX0_nextBarge, Cond.selects RX0 yX0_nextBarge yX0_nextBarge, Cond.code yX0_nextBarge cX0_nextBarge 6 (some .int), Cond.methodLink RX0 101 yX0_waitsAt, Cond.instanceMethod yX0_waitsAt, Cond.selects RX0 yX0_waitsAt yX0_waitsAt, Cond.code yX0_waitsAt cX0_waitsAt 2 (some .int), Cond.methodLink RX0 119 yX0_hasCome, Cond.instanceMethod yX0_hasCome, Cond.selects RX0 yX0_hasCome yX0_hasCome, Cond.code yX0_hasCome cX0_hasCome 2 (some .boolean), Cond.methodLink RX0 112 yX0_goesDown, Cond.instanceMethod yX0_goesDown, Cond.selects RX0 yX0_goesDown yX0_goesDown, Cond.code yX0_goesDown cX0_goesDown 2 (some .boolean), Cond.methodLink RX0 105 yX0_canServe, Cond.instanceMethod yX0_canServe, Cond.selects RX0 yX0_canServe yX0_canServe, Cond.code yX0_canServe cX0_canServe 4 (some .boolean), Cond.methodLink RX0 109 yX0_fits, Cond.instanceMethod yX0_fits, Cond.selects RX0 yX0_fits yX0_fits]
def wsX1_stops_r4 : List Cond := [Cond.code yX0_fits cX0_fits 3 (some .boolean), Cond.methodLink RX0 116 yX0_canFill, Cond.instanceMethod yX0_canFill, Cond.selects RX0 yX0_canFill yX0_canFill, Cond.code yX0_canFill cX0_canFill 2 (some .boolean), Cond.methodLink RX0 95 yX0_serve, Cond.instanceMethod yX0_serve, Cond.selects RX0 yX0_serve yX0_serve, Cond.code yX0_serve cX0_serve 3 none, Cond.methodLink RX0 122 yX0_turnChamber, Cond.instanceMethod yX0_turnChamber, Cond.selects RX0 yX0_turnChamber yX0_turnChamber, Cond.code yX0_turnChamber cX0_turnChamber 2 none]
def wsX1_stops : List Cond := .code yX1_stops cX1_stops 2 (some .int) :: ((wsX1_stops_r1 ++ (wsX1_stops_r2 ++ (wsX1_stops_r3 ++ wsX1_stops_r4))) ++ wsX10 ++ wsX00)
def wsX1_mean : List Cond := .code yX1_mean cX1_mean 1 (some .double) :: ([.fieldLink RX1 12 "LockBank" "canal" "LLockBank$Canal;", .constantDouble RX1 117 (4618441417868443648), .methodLink RX1 114 yX0_waterOfAll, .instanceMethod yX0_waterOfAll, .selects RX0 yX0_waterOfAll yX0_waterOfAll, .initialized RX0, .code yX0_waterOfAll cX0_waterOfAll 3 (some .int), .fieldLink RX0 25 "LockBank$Canal" "level" "[I"] ++ wsX10 ++ wsX00)
def wsX1_mix : List Cond := .code yX1_mix cX1_mix 3 (some .long) :: ([.constantLong RX1 125 (31)])
def wsX1_digest_r1 : List Cond := [Cond.constantLong RX1 119 (1453), Cond.fieldLink RX1 12 "LockBank" "canal" "LLockBank$Canal;", Cond.fieldLink RX1 37 "LockBank$Canal" "drought" "Z", Cond.fieldLink RX1 26 "LockBank$Canal" "spring" "[I", Cond.fieldLink RX1 72 "LockBank$Canal" "barges" "I", Cond.methodLink RX1 96 yX0_tellWhole, Cond.instanceMethod yX0_tellWhole, Cond.selects RX0 yX0_tellWhole yX0_tellWhole, Cond.initialized RX0, Cond.code yX0_tellWhole cX0_tellWhole 2 (some .int), Cond.fieldLink RX0 56 "LockBank$Canal" "hour" "I", Cond.fieldLink RX0 72 "LockBank$Canal" "barges" "I", Cond.fieldLink RX0 59 "LockBank$Canal" "bank" "I", Cond.fieldLink RX0 28 "LockBank$Canal" "ranOver" "[I", Cond.fieldLink RX0 31 "LockBank$Canal" "drawn" "[I", Cond.fieldLink RX0 9 "LockBank$Canal" "fee" "I", Cond.fieldLink RX0 18 "LockBank$Canal" "mark" "I", Cond.fieldLink RX0 15 "LockBank$Canal" "millPound" "I", Cond.methodLink RX0 132 yX0_bargesThatHaveCome, Cond.instanceMethod yX0_bargesThatHaveCome, Cond.selects RX0 yX0_bargesThatHaveCome yX0_bargesThatHaveCome, Cond.code yX0_bargesThatHaveCome cX0_bargesThatHaveCome 3 (some .int), Cond.methodLink RX0 119 yX0_hasCome, Cond.instanceMethod yX0_hasCome]
def wsX1_digest_r2 : List Cond := [Cond.selects RX0 yX0_hasCome yX0_hasCome, Cond.code yX0_hasCome cX0_hasCome 2 (some .boolean), Cond.fieldLink RX0 44 "LockBank$Canal" "at" "[I", Cond.fieldLink RX0 47 "LockBank$Canal" "goal" "[I", Cond.methodLink RX0 135 yX0_waterOfAll, Cond.instanceMethod yX0_waterOfAll, Cond.selects RX0 yX0_waterOfAll yX0_waterOfAll, Cond.code yX0_waterOfAll cX0_waterOfAll 3 (some .int), Cond.fieldLink RX0 25 "LockBank$Canal" "level" "[I", Cond.methodLink RX0 138 yX0_fullChambers, Cond.instanceMethod yX0_fullChambers, Cond.selects RX0 yX0_fullChambers yX0_fullChambers, Cond.code yX0_fullChambers cX0_fullChambers 3 (some .int), Cond.fieldLink RX0 34 "LockBank$Canal" "full" "[Z", Cond.methodLink RX1 121 yX1_mix, Cond.static yX1_mix, Cond.initialized RX1, Cond.code yX1_mix cX1_mix 3 (some .long), Cond.constantLong RX1 125 (31), Cond.methodLink RX1 90 yX0_tellPound, Cond.instanceMethod yX0_tellPound, Cond.selects RX0 yX0_tellPound yX0_tellPound, Cond.code yX0_tellPound cX0_tellPound 3 (some .int), Cond.methodLink RX0 126 yX0_bargesAt]
def wsX1_digest_r3 : List Cond := [Cond.instanceMethod yX0_bargesAt, Cond.selects RX0 yX0_bargesAt yX0_bargesAt, Cond.code yX0_bargesAt cX0_bargesAt 4 (some .int), Cond.methodLink RX1 93 yX0_tellLock, Cond.instanceMethod yX0_tellLock, Cond.selects RX0 yX0_tellLock yX0_tellLock, Cond.code yX0_tellLock cX0_tellLock 3 (some .int), Cond.fieldLink RX0 38 "LockBank$Canal" "lockings" "[I", Cond.fieldLink RX0 41 "LockBank$Canal" "filled" "[I", Cond.methodLink RX0 129 yX0_bargesWaitingAt, Cond.instanceMethod yX0_bargesWaitingAt, Cond.selects RX0 yX0_bargesWaitingAt yX0_bargesWaitingAt, Cond.code yX0_bargesWaitingAt cX0_bargesWaitingAt 4 (some .int), Cond.methodLink RX0 101 yX0_waitsAt, Cond.instanceMethod yX0_waitsAt, Cond.selects RX0 yX0_waitsAt yX0_waitsAt, Cond.code yX0_waitsAt cX0_waitsAt 2 (some .int), Cond.methodLink RX0 112 yX0_goesDown, Cond.instanceMethod yX0_goesDown, Cond.selects RX0 yX0_goesDown yX0_goesDown, Cond.code yX0_goesDown cX0_goesDown 2 (some .boolean), Cond.methodLink RX0 92 yX0_nextBarge, Cond.instanceMethod yX0_nextBarge, Cond.selects RX0 yX0_nextBarge yX0_nextBarge]
def wsX1_digest_r4 : List Cond := [Cond.code yX0_nextBarge cX0_nextBarge 6 (some .int), Cond.methodLink RX0 105 yX0_canServe, Cond.instanceMethod yX0_canServe, Cond.selects RX0 yX0_canServe yX0_canServe, Cond.code yX0_canServe cX0_canServe 4 (some .boolean), Cond.fieldLink RX0 50 "LockBank$Canal" "purse" "[I", Cond.fieldLink RX0 62 "LockBank$Canal" "drought" "Z", Cond.methodLink RX0 109 yX0_fits, Cond.instanceMethod yX0_fits, Cond.selects RX0 yX0_fits yX0_fits, Cond.code yX0_fits cX0_fits 3 (some .boolean), Cond.methodLink RX0 116 yX0_canFill, Cond.instanceMethod yX0_canFill, Cond.selects RX0 yX0_canFill yX0_canFill, Cond.code yX0_canFill cX0_canFill 2 (some .boolean), Cond.methodLink RX1 86 yX0_tellBarge, Cond.instanceMethod yX0_tellBarge, Cond.selects RX0 yX0_tellBarge yX0_tellBarge, Cond.code yX0_tellBarge cX0_tellBarge 3 (some .int), Cond.fieldLink RX0 53 "LockBank$Canal" "served" "[I"]
def wsX1_digest : List Cond := .code yX1_digest cX1_digest 5 (some .long) :: ((wsX1_digest_r1 ++ (wsX1_digest_r2 ++ (wsX1_digest_r3 ++ wsX1_digest_r4))) ++ wsX10 ++ wsX00)
def wsX2_init : List Cond := .code yX2_init cX2_init 1 none :: ([.methodLink RX2 3 objectInit, .instanceMethod objectInit, .code objectInit ⟨#[0xb1]⟩ 1 none, .fieldLink RX2 9 "LockBankModel$State" "mark" "I", .arrayClass .int, .fieldLink RX2 15 "LockBankModel$State" "water" "[I", .fieldLink RX2 19 "LockBankModel$State" "over" "[I", .fieldLink RX2 22 "LockBankModel$State" "drawn" "[I", .fieldLink RX2 25 "LockBankModel$State" "full" "[I", .fieldLink RX2 28 "LockBankModel$State" "served" "[I", .fieldLink RX2 31 "LockBankModel$State" "took" "[I", .fieldLink RX2 34 "LockBankModel$State" "at" "[I", .fieldLink RX2 37 "LockBankModel$State" "coins" "[I", .fieldLink RX2 40 "LockBankModel$State" "often" "[I", .fieldLink RX2 43 "LockBankModel$State" "when" "[I"] ++ wsX20)
def wsX2_copy : List Cond := .code yX2_copy cX2_copy 2 none :: ([.methodLink RX2 46 arraycopyName, .native arraycopyName, .static arraycopyName, .initialized "java/lang/System"])
def wsX2_become : List Cond := .code yX2_become cX2_become 2 (some (.object "LockBankModel$State")) :: ([.fieldLink RX2 52 "LockBankModel$State" "hour" "I", .fieldLink RX2 9 "LockBankModel$State" "mark" "I", .fieldLink RX2 55 "LockBankModel$State" "bank" "I", .fieldLink RX2 58 "LockBankModel$State" "away" "I", .fieldLink RX2 15 "LockBankModel$State" "water" "[I", .fieldLink RX2 19 "LockBankModel$State" "over" "[I", .fieldLink RX2 22 "LockBankModel$State" "drawn" "[I", .fieldLink RX2 25 "LockBankModel$State" "full" "[I", .fieldLink RX2 28 "LockBankModel$State" "served" "[I", .fieldLink RX2 31 "LockBankModel$State" "took" "[I", .fieldLink RX2 34 "LockBankModel$State" "at" "[I", .fieldLink RX2 37 "LockBankModel$State" "coins" "[I", .fieldLink RX2 40 "LockBankModel$State" "often" "[I", .fieldLink RX2 43 "LockBankModel$State" "when" "[I", .methodLink RX2 61 yX2_copy, .static yX2_copy, .initialized RX2, .code yX2_copy cX2_copy 2 none, .methodLink RX2 46 arraycopyName, .native arraycopyName, .static arraycopyName, .initialized "java/lang/System"] ++ wsX20)
def wsX2_pour : List Cond := .code yX2_pour cX2_pour 5 none :: ([.fieldLink RX2 15 "LockBankModel$State" "water" "[I", .methodLink RX2 65 Lib.Math.max.name, .static Lib.Math.max.name, .initialized "java/lang/Math", .code Lib.Math.max.name Lib.Math.max.code 2 (some .int), .fieldLink RX2 19 "LockBankModel$State" "over" "[I", .fieldLink RX2 58 "LockBankModel$State" "away" "I"] ++ wsX20)
def wsX2_canFill : List Cond := .code yX2_canFill cX2_canFill 2 (some .boolean) :: ([.fieldLink RX2 15 "LockBankModel$State" "water" "[I"] ++ wsX20)
def wsX2_fill : List Cond := .code yX2_fill cX2_fill 2 none :: ([.fieldLink RX2 15 "LockBankModel$State" "water" "[I", .fieldLink RX2 31 "LockBankModel$State" "took" "[I", .fieldLink RX2 25 "LockBankModel$State" "full" "[I"] ++ wsX20)
def wsX2_empty : List Cond := .code yX2_empty cX2_empty 2 none :: ([.fieldLink RX2 25 "LockBankModel$State" "full" "[I", .methodLink RX2 71 yX2_pour, .instanceMethod yX2_pour, .selects RX2 yX2_pour yX2_pour, .initialized RX2, .code yX2_pour cX2_pour 5 none, .fieldLink RX2 15 "LockBankModel$State" "water" "[I", .methodLink RX2 65 Lib.Math.max.name, .static Lib.Math.max.name, .initialized "java/lang/Math", .code Lib.Math.max.name Lib.Math.max.code 2 (some .int), .fieldLink RX2 19 "LockBankModel$State" "over" "[I", .fieldLink RX2 58 "LockBankModel$State" "away" "I"] ++ wsX20)
def wsX2_allWater : List Cond := .code yX2_allWater cX2_allWater 6 (some .int) :: ([.fieldLink RX2 15 "LockBankModel$State" "water" "[I"] ++ wsX20)
def wsX2_fullOnes : List Cond := .code yX2_fullOnes cX2_fullOnes 6 (some .int) :: ([.fieldLink RX2 25 "LockBankModel$State" "full" "[I"] ++ wsX20)
def wsX3_init_r1 : List Cond := [Cond.methodLink RX3 1 objectInit, Cond.instanceMethod objectInit, Cond.code objectInit ⟨#[0xb1]⟩ 1 none, Cond.arrayClass .int, Cond.fieldLink RX3 9 "LockBankModel" "goal" "[I", Cond.fieldLink RX3 13 "LockBankModel" "spring" "[I", Cond.fieldLink RX3 16 "LockBankModel" "mill" "I", Cond.fieldLink RX3 20 "LockBankModel" "fee" "I", Cond.classLink RX3 23 RX2, Cond.instantiable RX2 14, Cond.initialized RX2, Cond.fieldLink RX3 26 "LockBankModel" "s" "LLockBankModel$State;", Cond.fieldLink RX3 30 "LockBankModel" "ahead" "LLockBankModel$State;", Cond.instanceMethod yX2_init, Cond.code yX2_init cX2_init 1 none, Cond.methodLink RX2 3 objectInit, Cond.fieldLink RX2 9 "LockBankModel$State" "mark" "I", Cond.fieldLink RX2 15 "LockBankModel$State" "water" "[I", Cond.fieldLink RX2 19 "LockBankModel$State" "over" "[I", Cond.fieldLink RX2 22 "LockBankModel$State" "drawn" "[I", Cond.fieldLink RX2 25 "LockBankModel$State" "full" "[I", Cond.fieldLink RX2 28 "LockBankModel$State" "served" "[I", Cond.fieldLink RX2 31 "LockBankModel$State" "took" "[I", Cond.fieldLink RX2 34 "LockBankModel$State" "at" "[I"]
def wsX3_init_r2 : List Cond := [Cond.fieldLink RX2 37 "LockBankModel$State" "coins" "[I", Cond.fieldLink RX2 40 "LockBankModel$State" "often" "[I", Cond.fieldLink RX2 43 "LockBankModel$State" "when" "[I"]
def wsX3_init : List Cond := .code yX3_init cX3_init 1 none :: ((wsX3_init_r1 ++ wsX3_init_r2) ++ wsX30 ++ wsX20)
def wsX3_thrown : List Cond := .code yX3_thrown cX3_thrown 1 (some .int) :: ([.fieldLink RX3 33 "LockBankModel" "thrown" "I"] ++ wsX30)
def wsX3_no : List Cond := .code yX3_no cX3_no 2 (some .int) :: ([.fieldLink RX3 33 "LockBankModel" "thrown" "I"] ++ wsX30)
def wsX3_isIn : List Cond := .code yX3_isIn cX3_isIn 3 (some .boolean) :: ([])
def wsX3_isBarge : List Cond := .code yX3_isBarge cX3_isBarge 2 (some .boolean) :: ([.fieldLink RX3 36 "LockBankModel" "barges" "I", .methodLink RX3 39 yX3_isIn, .static yX3_isIn, .initialized RX3, .code yX3_isIn cX3_isIn 3 (some .boolean)] ++ wsX30)
def wsX3_lockOf : List Cond := .code yX3_lockOf cX3_lockOf 3 (some .int) :: ([.fieldLink RX3 9 "LockBankModel" "goal" "[I"] ++ wsX30 ++ wsX20)
def wsX3_goesDown : List Cond := .code yX3_goesDown cX3_goesDown 3 (some .boolean) :: ([.fieldLink RX3 9 "LockBankModel" "goal" "[I"] ++ wsX30 ++ wsX20)
def wsX3_isWaiting : List Cond := .code yX3_isWaiting cX3_isWaiting 4 (some .boolean) :: ([.methodLink RX3 46 yX3_lockOf, .instanceMethod yX3_lockOf, .selects RX3 yX3_lockOf yX3_lockOf, .initialized RX3, .code yX3_lockOf cX3_lockOf 3 (some .int), .fieldLink RX3 9 "LockBankModel" "goal" "[I"] ++ wsX20 ++ wsX30)
def wsX3_fits : List Cond := .code yX3_fits cX3_fits 4 (some .boolean) :: ([.methodLink RX3 56 yX3_goesDown, .instanceMethod yX3_goesDown, .selects RX3 yX3_goesDown yX3_goesDown, .initialized RX3, .code yX3_goesDown cX3_goesDown 3 (some .boolean), .fieldLink RX3 9 "LockBankModel" "goal" "[I"] ++ wsX20 ++ wsX30)
def wsX3_canServe : List Cond := .code yX3_canServe cX3_canServe 4 (some .boolean) :: ([.fieldLink RX3 20 "LockBankModel" "fee" "I", .fieldLink RX3 66 "LockBankModel" "isDry" "Z", .methodLink RX3 70 yX3_fits, .instanceMethod yX3_fits, .selects RX3 yX3_fits yX3_fits, .initialized RX3, .code yX3_fits cX3_fits 4 (some .boolean), .methodLink RX3 56 yX3_goesDown, .instanceMethod yX3_goesDown, .selects RX3 yX3_goesDown yX3_goesDown, .code yX3_goesDown cX3_goesDown 3 (some .boolean), .fieldLink RX3 9 "LockBankModel" "goal" "[I", .methodLink RX3 74 yX2_canFill, .instanceMethod yX2_canFill, .selects RX2 yX2_canFill yX2_canFill, .initialized RX2, .code yX2_canFill cX2_canFill 2 (some .boolean), .fieldLink RX2 15 "LockBankModel$State" "water" "[I"] ++ wsX20 ++ wsX30)
def wsX3_nextAt_r1 : List Cond := [Cond.fieldLink RX3 36 "LockBankModel" "barges" "I", Cond.methodLink RX3 78 yX3_isWaiting, Cond.instanceMethod yX3_isWaiting, Cond.selects RX3 yX3_isWaiting yX3_isWaiting, Cond.initialized RX3, Cond.code yX3_isWaiting cX3_isWaiting 4 (some .boolean), Cond.methodLink RX3 46 yX3_lockOf, Cond.instanceMethod yX3_lockOf, Cond.selects RX3 yX3_lockOf yX3_lockOf, Cond.code yX3_lockOf cX3_lockOf 3 (some .int), Cond.fieldLink RX3 9 "LockBankModel" "goal" "[I", Cond.methodLink RX3 81 yX3_canServe, Cond.instanceMethod yX3_canServe, Cond.selects RX3 yX3_canServe yX3_canServe, Cond.code yX3_canServe cX3_canServe 4 (some .boolean), Cond.fieldLink RX3 20 "LockBankModel" "fee" "I", Cond.fieldLink RX3 66 "LockBankModel" "isDry" "Z", Cond.methodLink RX3 70 yX3_fits, Cond.instanceMethod yX3_fits, Cond.selects RX3 yX3_fits yX3_fits, Cond.code yX3_fits cX3_fits 4 (some .boolean), Cond.methodLink RX3 56 yX3_goesDown, Cond.instanceMethod yX3_goesDown, Cond.selects RX3 yX3_goesDown yX3_goesDown]
def wsX3_nextAt_r2 : List Cond := [Cond.code yX3_goesDown cX3_goesDown 3 (some .boolean), Cond.methodLink RX3 74 yX2_canFill, Cond.instanceMethod yX2_canFill, Cond.selects RX2 yX2_canFill yX2_canFill, Cond.initialized RX2, Cond.code yX2_canFill cX2_canFill 2 (some .boolean), Cond.fieldLink RX2 15 "LockBankModel$State" "water" "[I"]
def wsX3_nextAt : List Cond := .code yX3_nextAt cX3_nextAt 5 (some .int) :: ((wsX3_nextAt_r1 ++ wsX3_nextAt_r2) ++ wsX30 ++ wsX20)
def wsX3_serve_r1 : List Cond := [Cond.fieldLink RX3 20 "LockBankModel" "fee" "I", Cond.methodLink RX3 56 yX3_goesDown, Cond.instanceMethod yX3_goesDown, Cond.selects RX3 yX3_goesDown yX3_goesDown, Cond.initialized RX3, Cond.code yX3_goesDown cX3_goesDown 3 (some .boolean), Cond.fieldLink RX3 9 "LockBankModel" "goal" "[I", Cond.methodLink RX3 84 yX2_fill, Cond.instanceMethod yX2_fill, Cond.selects RX2 yX2_fill yX2_fill, Cond.initialized RX2, Cond.code yX2_fill cX2_fill 2 none, Cond.fieldLink RX2 15 "LockBankModel$State" "water" "[I", Cond.fieldLink RX2 31 "LockBankModel$State" "took" "[I", Cond.fieldLink RX2 25 "LockBankModel$State" "full" "[I", Cond.methodLink RX3 88 yX2_empty, Cond.instanceMethod yX2_empty, Cond.selects RX2 yX2_empty yX2_empty, Cond.code yX2_empty cX2_empty 2 none, Cond.methodLink RX2 71 yX2_pour, Cond.instanceMethod yX2_pour, Cond.selects RX2 yX2_pour yX2_pour, Cond.code yX2_pour cX2_pour 5 none, Cond.methodLink RX2 65 Lib.Math.max.name]
def wsX3_serve_r2 : List Cond := [Cond.static Lib.Math.max.name, Cond.initialized "java/lang/Math", Cond.code Lib.Math.max.name Lib.Math.max.code 2 (some .int), Cond.fieldLink RX2 19 "LockBankModel$State" "over" "[I", Cond.fieldLink RX2 58 "LockBankModel$State" "away" "I"]
def wsX3_serve : List Cond := .code yX3_serve cX3_serve 4 none :: ((wsX3_serve_r1 ++ wsX3_serve_r2) ++ wsX20 ++ wsX30)
def wsX3_grind : List Cond := .code yX3_grind cX3_grind 3 none :: ([.fieldLink RX3 16 "LockBankModel" "mill" "I", .methodLink RX3 106 Lib.Math.min.name, .static Lib.Math.min.name, .initialized "java/lang/Math", .code Lib.Math.min.name Lib.Math.min.code 2 (some .int), .methodLink RX3 115 yX2_pour, .instanceMethod yX2_pour, .selects RX2 yX2_pour yX2_pour, .initialized RX2, .code yX2_pour cX2_pour 5 none, .fieldLink RX2 15 "LockBankModel$State" "water" "[I", .methodLink RX2 65 Lib.Math.max.name, .static Lib.Math.max.name, .code Lib.Math.max.name Lib.Math.max.code 2 (some .int), .fieldLink RX2 19 "LockBankModel$State" "over" "[I", .fieldLink RX2 58 "LockBankModel$State" "away" "I"] ++ wsX30 ++ wsX20)
def wsX3_pass_r1 : List Cond := [Cond.fieldLink RX3 13 "LockBankModel" "spring" "[I", Cond.methodLink RX3 115 yX2_pour, Cond.instanceMethod yX2_pour, Cond.selects RX2 yX2_pour yX2_pour, Cond.initialized RX2, Cond.code yX2_pour cX2_pour 5 none, Cond.fieldLink RX2 15 "LockBankModel$State" "water" "[I", Cond.methodLink RX2 65 Lib.Math.max.name, Cond.static Lib.Math.max.name, Cond.initialized "java/lang/Math", Cond.code Lib.Math.max.name Lib.Math.max.code 2 (some .int), Cond.fieldLink RX2 19 "LockBankModel$State" "over" "[I", Cond.fieldLink RX2 58 "LockBankModel$State" "away" "I", Cond.methodLink RX3 119 yX3_grind, Cond.instanceMethod yX3_grind, Cond.selects RX3 yX3_grind yX3_grind, Cond.initialized RX3, Cond.code yX3_grind cX3_grind 3 none, Cond.fieldLink RX3 16 "LockBankModel" "mill" "I", Cond.methodLink RX3 106 Lib.Math.min.name, Cond.static Lib.Math.min.name, Cond.code Lib.Math.min.name Lib.Math.min.code 2 (some .int), Cond.methodLink RX3 123 yX3_nextAt, Cond.instanceMethod yX3_nextAt]
def wsX3_pass_r2 : List Cond := [Cond.selects RX3 yX3_nextAt yX3_nextAt, Cond.code yX3_nextAt cX3_nextAt 5 (some .int), Cond.fieldLink RX3 36 "LockBankModel" "barges" "I", Cond.methodLink RX3 78 yX3_isWaiting, Cond.instanceMethod yX3_isWaiting, Cond.selects RX3 yX3_isWaiting yX3_isWaiting, Cond.code yX3_isWaiting cX3_isWaiting 4 (some .boolean), Cond.methodLink RX3 46 yX3_lockOf, Cond.instanceMethod yX3_lockOf, Cond.selects RX3 yX3_lockOf yX3_lockOf, Cond.code yX3_lockOf cX3_lockOf 3 (some .int), Cond.fieldLink RX3 9 "LockBankModel" "goal" "[I", Cond.methodLink RX3 81 yX3_canServe, Cond.instanceMethod yX3_canServe, Cond.selects RX3 yX3_canServe yX3_canServe, Cond.code yX3_canServe cX3_canServe 4 (some .boolean), Cond.fieldLink RX3 20 "LockBankModel" "fee" "I", Cond.fieldLink RX3 66 "LockBankModel" "isDry" "Z", Cond.methodLink RX3 70 yX3_fits, Cond.instanceMethod yX3_fits, Cond.selects RX3 yX3_fits yX3_fits, Cond.code yX3_fits cX3_fits 4 (some .boolean), Cond.methodLink RX3 56 yX3_goesDown, Cond.instanceMethod yX3_goesDown]
def wsX3_pass_r3 : List Cond := [Cond.selects RX3 yX3_goesDown yX3_goesDown, Cond.code yX3_goesDown cX3_goesDown 3 (some .boolean), Cond.methodLink RX3 74 yX2_canFill, Cond.instanceMethod yX2_canFill, Cond.selects RX2 yX2_canFill yX2_canFill, Cond.code yX2_canFill cX2_canFill 2 (some .boolean), Cond.methodLink RX3 126 yX3_serve, Cond.instanceMethod yX3_serve, Cond.selects RX3 yX3_serve yX3_serve, Cond.code yX3_serve cX3_serve 4 none, Cond.methodLink RX3 84 yX2_fill, Cond.instanceMethod yX2_fill, Cond.selects RX2 yX2_fill yX2_fill, Cond.code yX2_fill cX2_fill 2 none, Cond.fieldLink RX2 31 "LockBankModel$State" "took" "[I", Cond.fieldLink RX2 25 "LockBankModel$State" "full" "[I", Cond.methodLink RX3 88 yX2_empty, Cond.instanceMethod yX2_empty, Cond.selects RX2 yX2_empty yX2_empty, Cond.code yX2_empty cX2_empty 2 none, Cond.methodLink RX2 71 yX2_pour]
def wsX3_pass : List Cond := .code yX3_pass cX3_pass 5 (some .int) :: ((wsX3_pass_r1 ++ (wsX3_pass_r2 ++ wsX3_pass_r3)) ++ wsX30 ++ wsX20)
def wsX3_passAll_r1 : List Cond := [Cond.methodLink RX3 130 yX3_pass, Cond.instanceMethod yX3_pass, Cond.selects RX3 yX3_pass yX3_pass, Cond.initialized RX3, Cond.code yX3_pass cX3_pass 5 (some .int), Cond.fieldLink RX3 13 "LockBankModel" "spring" "[I", Cond.methodLink RX3 115 yX2_pour, Cond.instanceMethod yX2_pour, Cond.selects RX2 yX2_pour yX2_pour, Cond.initialized RX2, Cond.code yX2_pour cX2_pour 5 none, Cond.fieldLink RX2 15 "LockBankModel$State" "water" "[I", Cond.methodLink RX2 65 Lib.Math.max.name, Cond.static Lib.Math.max.name, Cond.initialized "java/lang/Math", Cond.code Lib.Math.max.name Lib.Math.max.code 2 (some .int), Cond.fieldLink RX2 19 "LockBankModel$State" "over" "[I", Cond.fieldLink RX2 58 "LockBankModel$State" "away" "I", Cond.methodLink RX3 119 yX3_grind, Cond.instanceMethod yX3_grind, Cond.selects RX3 yX3_grind yX3_grind, Cond.code yX3_grind cX3_grind 3 none, Cond.fieldLink RX3 16 "LockBankModel" "mill" "I", Cond.methodLink RX3 106 Lib.Math.min.name]
def wsX3_passAll_r2 : List Cond := [Cond.static Lib.Math.min.name, Cond.code Lib.Math.min.name Lib.Math.min.code 2 (some .int), Cond.methodLink RX3 123 yX3_nextAt, Cond.instanceMethod yX3_nextAt, Cond.selects RX3 yX3_nextAt yX3_nextAt, Cond.code yX3_nextAt cX3_nextAt 5 (some .int), Cond.fieldLink RX3 36 "LockBankModel" "barges" "I", Cond.methodLink RX3 78 yX3_isWaiting, Cond.instanceMethod yX3_isWaiting, Cond.selects RX3 yX3_isWaiting yX3_isWaiting, Cond.code yX3_isWaiting cX3_isWaiting 4 (some .boolean), Cond.methodLink RX3 46 yX3_lockOf, Cond.instanceMethod yX3_lockOf, Cond.selects RX3 yX3_lockOf yX3_lockOf, Cond.code yX3_lockOf cX3_lockOf 3 (some .int), Cond.fieldLink RX3 9 "LockBankModel" "goal" "[I", Cond.methodLink RX3 81 yX3_canServe, Cond.instanceMethod yX3_canServe, Cond.selects RX3 yX3_canServe yX3_canServe, Cond.code yX3_canServe cX3_canServe 4 (some .boolean), Cond.fieldLink RX3 20 "LockBankModel" "fee" "I", Cond.fieldLink RX3 66 "LockBankModel" "isDry" "Z", Cond.methodLink RX3 70 yX3_fits, Cond.instanceMethod yX3_fits]
def wsX3_passAll_r3 : List Cond := [Cond.selects RX3 yX3_fits yX3_fits, Cond.code yX3_fits cX3_fits 4 (some .boolean), Cond.methodLink RX3 56 yX3_goesDown, Cond.instanceMethod yX3_goesDown, Cond.selects RX3 yX3_goesDown yX3_goesDown, Cond.code yX3_goesDown cX3_goesDown 3 (some .boolean), Cond.methodLink RX3 74 yX2_canFill, Cond.instanceMethod yX2_canFill, Cond.selects RX2 yX2_canFill yX2_canFill, Cond.code yX2_canFill cX2_canFill 2 (some .boolean), Cond.methodLink RX3 126 yX3_serve, Cond.instanceMethod yX3_serve, Cond.selects RX3 yX3_serve yX3_serve, Cond.code yX3_serve cX3_serve 4 none, Cond.methodLink RX3 84 yX2_fill, Cond.instanceMethod yX2_fill, Cond.selects RX2 yX2_fill yX2_fill, Cond.code yX2_fill cX2_fill 2 none, Cond.fieldLink RX2 31 "LockBankModel$State" "took" "[I", Cond.fieldLink RX2 25 "LockBankModel$State" "full" "[I", Cond.methodLink RX3 88 yX2_empty, Cond.instanceMethod yX2_empty, Cond.selects RX2 yX2_empty yX2_empty, Cond.code yX2_empty cX2_empty 2 none]
def wsX3_passAll_r4 : List Cond := [Cond.methodLink RX2 71 yX2_pour]
def wsX3_passAll : List Cond := .code yX3_passAll cX3_passAll 5 (some .int) :: ((wsX3_passAll_r1 ++ (wsX3_passAll_r2 ++ (wsX3_passAll_r3 ++ wsX3_passAll_r4))) ++ wsX30 ++ wsX20)
def wsX3_setSpring : List Cond := .code yX3_setSpring cX3_setSpring 4 (some .int) :: ([.fieldLink RX3 33 "LockBankModel" "thrown" "I", .fieldLink RX3 13 "LockBankModel" "spring" "[I", .methodLink RX3 39 yX3_isIn, .static yX3_isIn, .initialized RX3, .code yX3_isIn cX3_isIn 3 (some .boolean), .methodLink RX3 134 yX3_no, .instanceMethod yX3_no, .selects RX3 yX3_no yX3_no, .code yX3_no cX3_no 2 (some .int)] ++ wsX30)
def wsX3_setMill : List Cond := .code yX3_setMill cX3_setMill 4 (some .int) :: ([.fieldLink RX3 33 "LockBankModel" "thrown" "I", .fieldLink RX3 26 "LockBankModel" "s" "LLockBankModel$State;", .fieldLink RX3 16 "LockBankModel" "mill" "I", .methodLink RX3 39 yX3_isIn, .static yX3_isIn, .initialized RX3, .code yX3_isIn cX3_isIn 3 (some .boolean), .methodLink RX3 134 yX3_no, .instanceMethod yX3_no, .selects RX3 yX3_no yX3_no, .code yX3_no cX3_no 2 (some .int)] ++ wsX30 ++ wsX20)
def wsX3_setDrought : List Cond := .code yX3_setDrought cX3_setDrought 3 (some .boolean) :: ([.fieldLink RX3 33 "LockBankModel" "thrown" "I", .fieldLink RX3 66 "LockBankModel" "isDry" "Z"] ++ wsX30)
def wsX3_setFee : List Cond := .code yX3_setFee cX3_setFee 3 (some .int) :: ([.fieldLink RX3 33 "LockBankModel" "thrown" "I", .fieldLink RX3 20 "LockBankModel" "fee" "I", .methodLink RX3 39 yX3_isIn, .static yX3_isIn, .initialized RX3, .code yX3_isIn cX3_isIn 3 (some .boolean), .methodLink RX3 134 yX3_no, .instanceMethod yX3_no, .selects RX3 yX3_no yX3_no, .code yX3_no cX3_no 2 (some .int)] ++ wsX30)
def wsX3_water : List Cond := .code yX3_water cX3_water 4 (some .int) :: ([.fieldLink RX3 33 "LockBankModel" "thrown" "I", .fieldLink RX3 26 "LockBankModel" "s" "LLockBankModel$State;", .methodLink RX3 39 yX3_isIn, .static yX3_isIn, .initialized RX3, .code yX3_isIn cX3_isIn 3 (some .boolean), .methodLink RX3 134 yX3_no, .instanceMethod yX3_no, .selects RX3 yX3_no yX3_no, .code yX3_no cX3_no 2 (some .int), .methodLink RX3 115 yX2_pour, .instanceMethod yX2_pour, .selects RX2 yX2_pour yX2_pour, .initialized RX2, .code yX2_pour cX2_pour 5 none, .fieldLink RX2 15 "LockBankModel$State" "water" "[I", .methodLink RX2 65 Lib.Math.max.name, .static Lib.Math.max.name, .initialized "java/lang/Math", .code Lib.Math.max.name Lib.Math.max.code 2 (some .int), .fieldLink RX2 19 "LockBankModel$State" "over" "[I", .fieldLink RX2 58 "LockBankModel$State" "away" "I"] ++ wsX30 ++ wsX20)
def wsX3_work_r1 : List Cond := [Cond.fieldLink RX3 26 "LockBankModel" "s" "LLockBankModel$State;", Cond.fieldLink RX3 33 "LockBankModel" "thrown" "I", Cond.methodLink RX3 39 yX3_isIn, Cond.static yX3_isIn, Cond.initialized RX3, Cond.code yX3_isIn cX3_isIn 3 (some .boolean), Cond.methodLink RX3 74 yX2_canFill, Cond.instanceMethod yX2_canFill, Cond.selects RX2 yX2_canFill yX2_canFill, Cond.initialized RX2, Cond.code yX2_canFill cX2_canFill 2 (some .boolean), Cond.fieldLink RX2 15 "LockBankModel$State" "water" "[I", Cond.methodLink RX3 88 yX2_empty, Cond.instanceMethod yX2_empty, Cond.selects RX2 yX2_empty yX2_empty, Cond.code yX2_empty cX2_empty 2 none, Cond.fieldLink RX2 25 "LockBankModel$State" "full" "[I", Cond.methodLink RX2 71 yX2_pour, Cond.instanceMethod yX2_pour, Cond.selects RX2 yX2_pour yX2_pour, Cond.code yX2_pour cX2_pour 5 none, Cond.methodLink RX2 65 Lib.Math.max.name, Cond.static Lib.Math.max.name, Cond.initialized "java/lang/Math"]
def wsX3_work_r2 : List Cond := [Cond.code Lib.Math.max.name Lib.Math.max.code 2 (some .int), Cond.fieldLink RX2 19 "LockBankModel$State" "over" "[I", Cond.fieldLink RX2 58 "LockBankModel$State" "away" "I", Cond.methodLink RX3 84 yX2_fill, Cond.instanceMethod yX2_fill, Cond.selects RX2 yX2_fill yX2_fill, Cond.code yX2_fill cX2_fill 2 none, Cond.fieldLink RX2 31 "LockBankModel$State" "took" "[I"]
def wsX3_work : List Cond := .code yX3_work cX3_work 2 (some .boolean) :: ((wsX3_work_r1 ++ wsX3_work_r2) ++ wsX30 ++ wsX20)
def wsX3_barge : List Cond := .code yX3_barge cX3_barge 4 (some .int) :: ([.fieldLink RX3 33 "LockBankModel" "thrown" "I", .fieldLink RX3 36 "LockBankModel" "barges" "I", .fieldLink RX3 26 "LockBankModel" "s" "LLockBankModel$State;", .fieldLink RX3 9 "LockBankModel" "goal" "[I", .methodLink RX3 39 yX3_isIn, .static yX3_isIn, .initialized RX3, .code yX3_isIn cX3_isIn 3 (some .boolean), .methodLink RX3 134 yX3_no, .instanceMethod yX3_no, .selects RX3 yX3_no yX3_no, .code yX3_no cX3_no 2 (some .int)] ++ wsX30 ++ wsX20)
def wsX3_send : List Cond := .code yX3_send cX3_send 4 (some .int) :: ([.fieldLink RX3 33 "LockBankModel" "thrown" "I", .fieldLink RX3 9 "LockBankModel" "goal" "[I", .methodLink RX3 138 yX3_isBarge, .instanceMethod yX3_isBarge, .selects RX3 yX3_isBarge yX3_isBarge, .initialized RX3, .code yX3_isBarge cX3_isBarge 2 (some .boolean), .fieldLink RX3 36 "LockBankModel" "barges" "I", .methodLink RX3 39 yX3_isIn, .static yX3_isIn, .code yX3_isIn cX3_isIn 3 (some .boolean), .methodLink RX3 134 yX3_no, .instanceMethod yX3_no, .selects RX3 yX3_no yX3_no, .code yX3_no cX3_no 2 (some .int)] ++ wsX30)
def wsX3_bargeTold : List Cond := .code yX3_bargeTold cX3_bargeTold 3 (some .int) :: ([.fieldLink RX3 26 "LockBankModel" "s" "LLockBankModel$State;", .fieldLink RX3 9 "LockBankModel" "goal" "[I", .methodLink RX3 46 yX3_lockOf, .instanceMethod yX3_lockOf, .selects RX3 yX3_lockOf yX3_lockOf, .initialized RX3, .code yX3_lockOf cX3_lockOf 3 (some .int)] ++ wsX30 ++ wsX20)
def wsX3_told : List Cond := .code yX3_told cX3_told 3 (some .int) :: ([.fieldLink RX3 33 "LockBankModel" "thrown" "I", .methodLink RX3 138 yX3_isBarge, .instanceMethod yX3_isBarge, .selects RX3 yX3_isBarge yX3_isBarge, .initialized RX3, .code yX3_isBarge cX3_isBarge 2 (some .boolean), .fieldLink RX3 36 "LockBankModel" "barges" "I", .methodLink RX3 39 yX3_isIn, .static yX3_isIn, .code yX3_isIn cX3_isIn 3 (some .boolean), .methodLink RX3 141 yX3_bargeTold, .instanceMethod yX3_bargeTold, .selects RX3 yX3_bargeTold yX3_bargeTold, .code yX3_bargeTold cX3_bargeTold 3 (some .int), .fieldLink RX3 26 "LockBankModel" "s" "LLockBankModel$State;", .fieldLink RX3 9 "LockBankModel" "goal" "[I", .methodLink RX3 46 yX3_lockOf, .instanceMethod yX3_lockOf, .selects RX3 yX3_lockOf yX3_lockOf, .code yX3_lockOf cX3_lockOf 3 (some .int), .methodLink RX3 134 yX3_no, .instanceMethod yX3_no, .selects RX3 yX3_no yX3_no, .code yX3_no cX3_no 2 (some .int)] ++ wsX30 ++ wsX20)
def wsX3_bargesAt : List Cond := .code yX3_bargesAt cX3_bargesAt 4 (some .int) :: ([.fieldLink RX3 36 "LockBankModel" "barges" "I", .fieldLink RX3 26 "LockBankModel" "s" "LLockBankModel$State;"] ++ wsX30 ++ wsX20)
def wsX3_poundTold : List Cond := .code yX3_poundTold cX3_poundTold 3 (some .int) :: ([.fieldLink RX3 26 "LockBankModel" "s" "LLockBankModel$State;", .methodLink RX3 144 yX3_bargesAt, .instanceMethod yX3_bargesAt, .selects RX3 yX3_bargesAt yX3_bargesAt, .initialized RX3, .code yX3_bargesAt cX3_bargesAt 4 (some .int), .fieldLink RX3 36 "LockBankModel" "barges" "I"] ++ wsX30 ++ wsX20)
def wsX3_pound : List Cond := .code yX3_pound cX3_pound 3 (some .int) :: ([.fieldLink RX3 33 "LockBankModel" "thrown" "I", .methodLink RX3 39 yX3_isIn, .static yX3_isIn, .initialized RX3, .code yX3_isIn cX3_isIn 3 (some .boolean), .methodLink RX3 150 yX3_poundTold, .instanceMethod yX3_poundTold, .selects RX3 yX3_poundTold yX3_poundTold, .code yX3_poundTold cX3_poundTold 3 (some .int), .fieldLink RX3 26 "LockBankModel" "s" "LLockBankModel$State;", .methodLink RX3 144 yX3_bargesAt, .instanceMethod yX3_bargesAt, .selects RX3 yX3_bargesAt yX3_bargesAt, .code yX3_bargesAt cX3_bargesAt 4 (some .int), .fieldLink RX3 36 "LockBankModel" "barges" "I", .methodLink RX3 134 yX3_no, .instanceMethod yX3_no, .selects RX3 yX3_no yX3_no, .code yX3_no cX3_no 2 (some .int)] ++ wsX30 ++ wsX20)
def wsX3_waitingAt : List Cond := .code yX3_waitingAt cX3_waitingAt 4 (some .int) :: ([.fieldLink RX3 36 "LockBankModel" "barges" "I", .fieldLink RX3 26 "LockBankModel" "s" "LLockBankModel$State;", .methodLink RX3 46 yX3_lockOf, .instanceMethod yX3_lockOf, .selects RX3 yX3_lockOf yX3_lockOf, .initialized RX3, .code yX3_lockOf cX3_lockOf 3 (some .int), .fieldLink RX3 9 "LockBankModel" "goal" "[I"] ++ wsX30 ++ wsX20)
def wsX3_lockTold_r1 : List Cond := [Cond.fieldLink RX3 26 "LockBankModel" "s" "LLockBankModel$State;", Cond.methodLink RX3 153 yX3_waitingAt, Cond.instanceMethod yX3_waitingAt, Cond.selects RX3 yX3_waitingAt yX3_waitingAt, Cond.initialized RX3, Cond.code yX3_waitingAt cX3_waitingAt 4 (some .int), Cond.fieldLink RX3 36 "LockBankModel" "barges" "I", Cond.methodLink RX3 46 yX3_lockOf, Cond.instanceMethod yX3_lockOf, Cond.selects RX3 yX3_lockOf yX3_lockOf, Cond.code yX3_lockOf cX3_lockOf 3 (some .int), Cond.fieldLink RX3 9 "LockBankModel" "goal" "[I", Cond.methodLink RX3 123 yX3_nextAt, Cond.instanceMethod yX3_nextAt, Cond.selects RX3 yX3_nextAt yX3_nextAt, Cond.code yX3_nextAt cX3_nextAt 5 (some .int), Cond.methodLink RX3 78 yX3_isWaiting, Cond.instanceMethod yX3_isWaiting, Cond.selects RX3 yX3_isWaiting yX3_isWaiting, Cond.code yX3_isWaiting cX3_isWaiting 4 (some .boolean), Cond.methodLink RX3 81 yX3_canServe, Cond.instanceMethod yX3_canServe, Cond.selects RX3 yX3_canServe yX3_canServe, Cond.code yX3_canServe cX3_canServe 4 (some .boolean)]
def wsX3_lockTold_r2 : List Cond := [Cond.fieldLink RX3 20 "LockBankModel" "fee" "I", Cond.fieldLink RX3 66 "LockBankModel" "isDry" "Z", Cond.methodLink RX3 70 yX3_fits, Cond.instanceMethod yX3_fits, Cond.selects RX3 yX3_fits yX3_fits, Cond.code yX3_fits cX3_fits 4 (some .boolean), Cond.methodLink RX3 56 yX3_goesDown, Cond.instanceMethod yX3_goesDown, Cond.selects RX3 yX3_goesDown yX3_goesDown, Cond.code yX3_goesDown cX3_goesDown 3 (some .boolean), Cond.methodLink RX3 74 yX2_canFill, Cond.instanceMethod yX2_canFill, Cond.selects RX2 yX2_canFill yX2_canFill, Cond.initialized RX2, Cond.code yX2_canFill cX2_canFill 2 (some .boolean), Cond.fieldLink RX2 15 "LockBankModel$State" "water" "[I"]
def wsX3_lockTold : List Cond := .code yX3_lockTold cX3_lockTold 3 (some .int) :: ((wsX3_lockTold_r1 ++ wsX3_lockTold_r2) ++ wsX30 ++ wsX20)
def wsX3_lock_r1 : List Cond := [Cond.fieldLink RX3 33 "LockBankModel" "thrown" "I", Cond.methodLink RX3 39 yX3_isIn, Cond.static yX3_isIn, Cond.initialized RX3, Cond.code yX3_isIn cX3_isIn 3 (some .boolean), Cond.methodLink RX3 159 yX3_lockTold, Cond.instanceMethod yX3_lockTold, Cond.selects RX3 yX3_lockTold yX3_lockTold, Cond.code yX3_lockTold cX3_lockTold 3 (some .int), Cond.fieldLink RX3 26 "LockBankModel" "s" "LLockBankModel$State;", Cond.methodLink RX3 153 yX3_waitingAt, Cond.instanceMethod yX3_waitingAt, Cond.selects RX3 yX3_waitingAt yX3_waitingAt, Cond.code yX3_waitingAt cX3_waitingAt 4 (some .int), Cond.fieldLink RX3 36 "LockBankModel" "barges" "I", Cond.methodLink RX3 46 yX3_lockOf, Cond.instanceMethod yX3_lockOf, Cond.selects RX3 yX3_lockOf yX3_lockOf, Cond.code yX3_lockOf cX3_lockOf 3 (some .int), Cond.fieldLink RX3 9 "LockBankModel" "goal" "[I", Cond.methodLink RX3 123 yX3_nextAt, Cond.instanceMethod yX3_nextAt, Cond.selects RX3 yX3_nextAt yX3_nextAt, Cond.code yX3_nextAt cX3_nextAt 5 (some .int)]
def wsX3_lock_r2 : List Cond := [Cond.methodLink RX3 78 yX3_isWaiting, Cond.instanceMethod yX3_isWaiting, Cond.selects RX3 yX3_isWaiting yX3_isWaiting, Cond.code yX3_isWaiting cX3_isWaiting 4 (some .boolean), Cond.methodLink RX3 81 yX3_canServe, Cond.instanceMethod yX3_canServe, Cond.selects RX3 yX3_canServe yX3_canServe, Cond.code yX3_canServe cX3_canServe 4 (some .boolean), Cond.fieldLink RX3 20 "LockBankModel" "fee" "I", Cond.fieldLink RX3 66 "LockBankModel" "isDry" "Z", Cond.methodLink RX3 70 yX3_fits, Cond.instanceMethod yX3_fits, Cond.selects RX3 yX3_fits yX3_fits, Cond.code yX3_fits cX3_fits 4 (some .boolean), Cond.methodLink RX3 56 yX3_goesDown, Cond.instanceMethod yX3_goesDown, Cond.selects RX3 yX3_goesDown yX3_goesDown, Cond.code yX3_goesDown cX3_goesDown 3 (some .boolean), Cond.methodLink RX3 74 yX2_canFill, Cond.instanceMethod yX2_canFill, Cond.selects RX2 yX2_canFill yX2_canFill, Cond.initialized RX2, Cond.code yX2_canFill cX2_canFill 2 (some .boolean), Cond.fieldLink RX2 15 "LockBankModel$State" "water" "[I"]
def wsX3_lock_r3 : List Cond := [Cond.methodLink RX3 134 yX3_no, Cond.instanceMethod yX3_no, Cond.selects RX3 yX3_no yX3_no, Cond.code yX3_no cX3_no 2 (some .int)]
def wsX3_lock : List Cond := .code yX3_lock cX3_lock 3 (some .int) :: ((wsX3_lock_r1 ++ (wsX3_lock_r2 ++ wsX3_lock_r3)) ++ wsX30 ++ wsX20)
def wsX3_come : List Cond := .code yX3_come cX3_come 4 (some .int) :: ([.fieldLink RX3 36 "LockBankModel" "barges" "I", .fieldLink RX3 9 "LockBankModel" "goal" "[I"] ++ wsX30 ++ wsX20)
def wsX3_counted : List Cond := .code yX3_counted cX3_counted 3 (some .int) :: ([.fieldLink RX3 36 "LockBankModel" "barges" "I", .fieldLink RX3 20 "LockBankModel" "fee" "I", .fieldLink RX3 16 "LockBankModel" "mill" "I", .methodLink RX3 162 yX3_come, .instanceMethod yX3_come, .selects RX3 yX3_come yX3_come, .initialized RX3, .code yX3_come cX3_come 4 (some .int), .fieldLink RX3 9 "LockBankModel" "goal" "[I", .methodLink RX3 165 yX2_allWater, .instanceMethod yX2_allWater, .selects RX2 yX2_allWater yX2_allWater, .initialized RX2, .code yX2_allWater cX2_allWater 6 (some .int), .fieldLink RX2 15 "LockBankModel$State" "water" "[I", .methodLink RX3 169 yX2_fullOnes, .instanceMethod yX2_fullOnes, .selects RX2 yX2_fullOnes yX2_fullOnes, .code yX2_fullOnes cX2_fullOnes 6 (some .int), .fieldLink RX2 25 "LockBankModel$State" "full" "[I"] ++ wsX20 ++ wsX30)
def wsX3_count_r1 : List Cond := [Cond.fieldLink RX3 33 "LockBankModel" "thrown" "I", Cond.fieldLink RX3 26 "LockBankModel" "s" "LLockBankModel$State;", Cond.methodLink RX3 39 yX3_isIn, Cond.static yX3_isIn, Cond.initialized RX3, Cond.code yX3_isIn cX3_isIn 3 (some .boolean), Cond.methodLink RX3 175 yX3_counted, Cond.instanceMethod yX3_counted, Cond.selects RX3 yX3_counted yX3_counted, Cond.code yX3_counted cX3_counted 3 (some .int), Cond.fieldLink RX3 36 "LockBankModel" "barges" "I", Cond.fieldLink RX3 20 "LockBankModel" "fee" "I", Cond.fieldLink RX3 16 "LockBankModel" "mill" "I", Cond.methodLink RX3 162 yX3_come, Cond.instanceMethod yX3_come, Cond.selects RX3 yX3_come yX3_come, Cond.code yX3_come cX3_come 4 (some .int), Cond.fieldLink RX3 9 "LockBankModel" "goal" "[I", Cond.methodLink RX3 165 yX2_allWater, Cond.instanceMethod yX2_allWater, Cond.selects RX2 yX2_allWater yX2_allWater, Cond.initialized RX2, Cond.code yX2_allWater cX2_allWater 6 (some .int), Cond.fieldLink RX2 15 "LockBankModel$State" "water" "[I"]
def wsX3_count_r2 : List Cond := [Cond.methodLink RX3 169 yX2_fullOnes, Cond.instanceMethod yX2_fullOnes, Cond.selects RX2 yX2_fullOnes yX2_fullOnes, Cond.code yX2_fullOnes cX2_fullOnes 6 (some .int), Cond.fieldLink RX2 25 "LockBankModel$State" "full" "[I", Cond.methodLink RX3 134 yX3_no, Cond.instanceMethod yX3_no, Cond.selects RX3 yX3_no yX3_no, Cond.code yX3_no cX3_no 2 (some .int)]
def wsX3_count : List Cond := .code yX3_count cX3_count 2 (some .int) :: ((wsX3_count_r1 ++ wsX3_count_r2) ++ wsX30 ++ wsX20)
def wsX3_pass__r1 : List Cond := [Cond.fieldLink RX3 33 "LockBankModel" "thrown" "I", Cond.fieldLink RX3 26 "LockBankModel" "s" "LLockBankModel$State;", Cond.methodLink RX3 39 yX3_isIn, Cond.static yX3_isIn, Cond.initialized RX3, Cond.code yX3_isIn cX3_isIn 3 (some .boolean), Cond.methodLink RX3 178 yX3_passAll, Cond.instanceMethod yX3_passAll, Cond.selects RX3 yX3_passAll yX3_passAll, Cond.code yX3_passAll cX3_passAll 5 (some .int), Cond.methodLink RX3 130 yX3_pass, Cond.instanceMethod yX3_pass, Cond.selects RX3 yX3_pass yX3_pass, Cond.code yX3_pass cX3_pass 5 (some .int), Cond.fieldLink RX3 13 "LockBankModel" "spring" "[I", Cond.methodLink RX3 115 yX2_pour, Cond.instanceMethod yX2_pour, Cond.selects RX2 yX2_pour yX2_pour, Cond.initialized RX2, Cond.code yX2_pour cX2_pour 5 none, Cond.fieldLink RX2 15 "LockBankModel$State" "water" "[I", Cond.methodLink RX2 65 Lib.Math.max.name, Cond.static Lib.Math.max.name, Cond.initialized "java/lang/Math"]
def wsX3_pass__r2 : List Cond := [Cond.code Lib.Math.max.name Lib.Math.max.code 2 (some .int), Cond.fieldLink RX2 19 "LockBankModel$State" "over" "[I", Cond.fieldLink RX2 58 "LockBankModel$State" "away" "I", Cond.methodLink RX3 119 yX3_grind, Cond.instanceMethod yX3_grind, Cond.selects RX3 yX3_grind yX3_grind, Cond.code yX3_grind cX3_grind 3 none, Cond.fieldLink RX3 16 "LockBankModel" "mill" "I", Cond.methodLink RX3 106 Lib.Math.min.name, Cond.static Lib.Math.min.name, Cond.code Lib.Math.min.name Lib.Math.min.code 2 (some .int), Cond.methodLink RX3 123 yX3_nextAt, Cond.instanceMethod yX3_nextAt, Cond.selects RX3 yX3_nextAt yX3_nextAt, Cond.code yX3_nextAt cX3_nextAt 5 (some .int), Cond.fieldLink RX3 36 "LockBankModel" "barges" "I", Cond.methodLink RX3 78 yX3_isWaiting, Cond.instanceMethod yX3_isWaiting, Cond.selects RX3 yX3_isWaiting yX3_isWaiting, Cond.code yX3_isWaiting cX3_isWaiting 4 (some .boolean), Cond.methodLink RX3 46 yX3_lockOf, Cond.instanceMethod yX3_lockOf, Cond.selects RX3 yX3_lockOf yX3_lockOf, Cond.code yX3_lockOf cX3_lockOf 3 (some .int)]
def wsX3_pass__r3 : List Cond := [Cond.fieldLink RX3 9 "LockBankModel" "goal" "[I", Cond.methodLink RX3 81 yX3_canServe, Cond.instanceMethod yX3_canServe, Cond.selects RX3 yX3_canServe yX3_canServe, Cond.code yX3_canServe cX3_canServe 4 (some .boolean), Cond.fieldLink RX3 20 "LockBankModel" "fee" "I", Cond.fieldLink RX3 66 "LockBankModel" "isDry" "Z", Cond.methodLink RX3 70 yX3_fits, Cond.instanceMethod yX3_fits, Cond.selects RX3 yX3_fits yX3_fits, Cond.code yX3_fits cX3_fits 4 (some .boolean), Cond.methodLink RX3 56 yX3_goesDown, Cond.instanceMethod yX3_goesDown, Cond.selects RX3 yX3_goesDown yX3_goesDown, Cond.code yX3_goesDown cX3_goesDown 3 (some .boolean), Cond.methodLink RX3 74 yX2_canFill, Cond.instanceMethod yX2_canFill, Cond.selects RX2 yX2_canFill yX2_canFill, Cond.code yX2_canFill cX2_canFill 2 (some .boolean), Cond.methodLink RX3 126 yX3_serve, Cond.instanceMethod yX3_serve, Cond.selects RX3 yX3_serve yX3_serve, Cond.code yX3_serve cX3_serve 4 none, Cond.methodLink RX3 84 yX2_fill]
def wsX3_pass__r4 : List Cond := [Cond.instanceMethod yX2_fill, Cond.selects RX2 yX2_fill yX2_fill, Cond.code yX2_fill cX2_fill 2 none, Cond.fieldLink RX2 31 "LockBankModel$State" "took" "[I", Cond.fieldLink RX2 25 "LockBankModel$State" "full" "[I", Cond.methodLink RX3 88 yX2_empty, Cond.instanceMethod yX2_empty, Cond.selects RX2 yX2_empty yX2_empty, Cond.code yX2_empty cX2_empty 2 none, Cond.methodLink RX2 71 yX2_pour, Cond.methodLink RX3 134 yX3_no, Cond.instanceMethod yX3_no, Cond.selects RX3 yX3_no yX3_no, Cond.code yX3_no cX3_no 2 (some .int)]
def wsX3_pass_ : List Cond := .code yX3_pass_ cX3_pass_ 2 (some .int) :: ((wsX3_pass__r1 ++ (wsX3_pass__r2 ++ (wsX3_pass__r3 ++ wsX3_pass__r4))) ++ wsX30 ++ wsX20)
def wsX3_arrives_r1 : List Cond := [Cond.fieldLink RX3 33 "LockBankModel" "thrown" "I", Cond.fieldLink RX3 30 "LockBankModel" "ahead" "LLockBankModel$State;", Cond.fieldLink RX3 26 "LockBankModel" "s" "LLockBankModel$State;", Cond.fieldLink RX3 9 "LockBankModel" "goal" "[I", Cond.methodLink RX3 138 yX3_isBarge, Cond.instanceMethod yX3_isBarge, Cond.selects RX3 yX3_isBarge yX3_isBarge, Cond.initialized RX3, Cond.code yX3_isBarge cX3_isBarge 2 (some .boolean), Cond.fieldLink RX3 36 "LockBankModel" "barges" "I", Cond.methodLink RX3 39 yX3_isIn, Cond.static yX3_isIn, Cond.code yX3_isIn cX3_isIn 3 (some .boolean), Cond.methodLink RX3 134 yX3_no, Cond.instanceMethod yX3_no, Cond.selects RX3 yX3_no yX3_no, Cond.code yX3_no cX3_no 2 (some .int), Cond.methodLink RX3 181 yX2_become, Cond.instanceMethod yX2_become, Cond.selects RX2 yX2_become yX2_become, Cond.initialized RX2, Cond.code yX2_become cX2_become 2 (some (.object "LockBankModel$State")), Cond.fieldLink RX2 52 "LockBankModel$State" "hour" "I", Cond.fieldLink RX2 9 "LockBankModel$State" "mark" "I"]
def wsX3_arrives_r2 : List Cond := [Cond.fieldLink RX2 55 "LockBankModel$State" "bank" "I", Cond.fieldLink RX2 58 "LockBankModel$State" "away" "I", Cond.fieldLink RX2 15 "LockBankModel$State" "water" "[I", Cond.fieldLink RX2 19 "LockBankModel$State" "over" "[I", Cond.fieldLink RX2 22 "LockBankModel$State" "drawn" "[I", Cond.fieldLink RX2 25 "LockBankModel$State" "full" "[I", Cond.fieldLink RX2 28 "LockBankModel$State" "served" "[I", Cond.fieldLink RX2 31 "LockBankModel$State" "took" "[I", Cond.fieldLink RX2 34 "LockBankModel$State" "at" "[I", Cond.fieldLink RX2 37 "LockBankModel$State" "coins" "[I", Cond.fieldLink RX2 40 "LockBankModel$State" "often" "[I", Cond.fieldLink RX2 43 "LockBankModel$State" "when" "[I", Cond.methodLink RX2 61 yX2_copy, Cond.static yX2_copy, Cond.code yX2_copy cX2_copy 2 none, Cond.methodLink RX2 46 arraycopyName, Cond.native arraycopyName, Cond.static arraycopyName, Cond.initialized "java/lang/System", Cond.methodLink RX3 130 yX3_pass, Cond.instanceMethod yX3_pass, Cond.selects RX3 yX3_pass yX3_pass, Cond.code yX3_pass cX3_pass 5 (some .int), Cond.fieldLink RX3 13 "LockBankModel" "spring" "[I"]
def wsX3_arrives_r3 : List Cond := [Cond.methodLink RX3 115 yX2_pour, Cond.instanceMethod yX2_pour, Cond.selects RX2 yX2_pour yX2_pour, Cond.code yX2_pour cX2_pour 5 none, Cond.methodLink RX2 65 Lib.Math.max.name, Cond.static Lib.Math.max.name, Cond.initialized "java/lang/Math", Cond.code Lib.Math.max.name Lib.Math.max.code 2 (some .int), Cond.methodLink RX3 119 yX3_grind, Cond.instanceMethod yX3_grind, Cond.selects RX3 yX3_grind yX3_grind, Cond.code yX3_grind cX3_grind 3 none, Cond.fieldLink RX3 16 "LockBankModel" "mill" "I", Cond.methodLink RX3 106 Lib.Math.min.name, Cond.static Lib.Math.min.name, Cond.code Lib.Math.min.name Lib.Math.min.code 2 (some .int), Cond.methodLink RX3 123 yX3_nextAt, Cond.instanceMethod yX3_nextAt, Cond.selects RX3 yX3_nextAt yX3_nextAt, Cond.code yX3_nextAt cX3_nextAt 5 (some .int), Cond.methodLink RX3 78 yX3_isWaiting, Cond.instanceMethod yX3_isWaiting, Cond.selects RX3 yX3_isWaiting yX3_isWaiting, Cond.code yX3_isWaiting cX3_isWaiting 4 (some .boolean)]
def wsX3_arrives_r4 : List Cond := [Cond.methodLink RX3 46 yX3_lockOf, Cond.instanceMethod yX3_lockOf, Cond.selects RX3 yX3_lockOf yX3_lockOf, Cond.code yX3_lockOf cX3_lockOf 3 (some .int), Cond.methodLink RX3 81 yX3_canServe, Cond.instanceMethod yX3_canServe, Cond.selects RX3 yX3_canServe yX3_canServe, Cond.code yX3_canServe cX3_canServe 4 (some .boolean), Cond.fieldLink RX3 20 "LockBankModel" "fee" "I", Cond.fieldLink RX3 66 "LockBankModel" "isDry" "Z", Cond.methodLink RX3 70 yX3_fits, Cond.instanceMethod yX3_fits, Cond.selects RX3 yX3_fits yX3_fits, Cond.code yX3_fits cX3_fits 4 (some .boolean), Cond.methodLink RX3 56 yX3_goesDown, Cond.instanceMethod yX3_goesDown, Cond.selects RX3 yX3_goesDown yX3_goesDown, Cond.code yX3_goesDown cX3_goesDown 3 (some .boolean), Cond.methodLink RX3 74 yX2_canFill, Cond.instanceMethod yX2_canFill, Cond.selects RX2 yX2_canFill yX2_canFill, Cond.code yX2_canFill cX2_canFill 2 (some .boolean), Cond.methodLink RX3 126 yX3_serve, Cond.instanceMethod yX3_serve]
def wsX3_arrives_r5 : List Cond := [Cond.selects RX3 yX3_serve yX3_serve, Cond.code yX3_serve cX3_serve 4 none, Cond.methodLink RX3 84 yX2_fill, Cond.instanceMethod yX2_fill, Cond.selects RX2 yX2_fill yX2_fill, Cond.code yX2_fill cX2_fill 2 none, Cond.methodLink RX3 88 yX2_empty, Cond.instanceMethod yX2_empty, Cond.selects RX2 yX2_empty yX2_empty, Cond.code yX2_empty cX2_empty 2 none, Cond.methodLink RX2 71 yX2_pour]
def wsX3_arrives : List Cond := .code yX3_arrives cX3_arrives 3 (some .int) :: ((wsX3_arrives_r1 ++ (wsX3_arrives_r2 ++ (wsX3_arrives_r3 ++ (wsX3_arrives_r4 ++ wsX3_arrives_r5)))) ++ wsX30 ++ wsX20)
def wsX3_foresee_r1 : List Cond := [Cond.fieldLink RX3 33 "LockBankModel" "thrown" "I", Cond.fieldLink RX3 30 "LockBankModel" "ahead" "LLockBankModel$State;", Cond.fieldLink RX3 26 "LockBankModel" "s" "LLockBankModel$State;", Cond.methodLink RX3 39 yX3_isIn, Cond.static yX3_isIn, Cond.initialized RX3, Cond.code yX3_isIn cX3_isIn 3 (some .boolean), Cond.methodLink RX3 134 yX3_no, Cond.instanceMethod yX3_no, Cond.selects RX3 yX3_no yX3_no, Cond.code yX3_no cX3_no 2 (some .int), Cond.methodLink RX3 181 yX2_become, Cond.instanceMethod yX2_become, Cond.selects RX2 yX2_become yX2_become, Cond.initialized RX2, Cond.code yX2_become cX2_become 2 (some (.object "LockBankModel$State")), Cond.fieldLink RX2 52 "LockBankModel$State" "hour" "I", Cond.fieldLink RX2 9 "LockBankModel$State" "mark" "I", Cond.fieldLink RX2 55 "LockBankModel$State" "bank" "I", Cond.fieldLink RX2 58 "LockBankModel$State" "away" "I", Cond.fieldLink RX2 15 "LockBankModel$State" "water" "[I", Cond.fieldLink RX2 19 "LockBankModel$State" "over" "[I", Cond.fieldLink RX2 22 "LockBankModel$State" "drawn" "[I", Cond.fieldLink RX2 25 "LockBankModel$State" "full" "[I"]
def wsX3_foresee_r2 : List Cond := [Cond.fieldLink RX2 28 "LockBankModel$State" "served" "[I", Cond.fieldLink RX2 31 "LockBankModel$State" "took" "[I", Cond.fieldLink RX2 34 "LockBankModel$State" "at" "[I", Cond.fieldLink RX2 37 "LockBankModel$State" "coins" "[I", Cond.fieldLink RX2 40 "LockBankModel$State" "often" "[I", Cond.fieldLink RX2 43 "LockBankModel$State" "when" "[I", Cond.methodLink RX2 61 yX2_copy, Cond.static yX2_copy, Cond.code yX2_copy cX2_copy 2 none, Cond.methodLink RX2 46 arraycopyName, Cond.native arraycopyName, Cond.static arraycopyName, Cond.initialized "java/lang/System", Cond.methodLink RX3 178 yX3_passAll, Cond.instanceMethod yX3_passAll, Cond.selects RX3 yX3_passAll yX3_passAll, Cond.code yX3_passAll cX3_passAll 5 (some .int), Cond.methodLink RX3 130 yX3_pass, Cond.instanceMethod yX3_pass, Cond.selects RX3 yX3_pass yX3_pass, Cond.code yX3_pass cX3_pass 5 (some .int), Cond.fieldLink RX3 13 "LockBankModel" "spring" "[I", Cond.methodLink RX3 115 yX2_pour, Cond.instanceMethod yX2_pour]
def wsX3_foresee_r3 : List Cond := [Cond.selects RX2 yX2_pour yX2_pour, Cond.code yX2_pour cX2_pour 5 none, Cond.methodLink RX2 65 Lib.Math.max.name, Cond.static Lib.Math.max.name, Cond.initialized "java/lang/Math", Cond.code Lib.Math.max.name Lib.Math.max.code 2 (some .int), Cond.methodLink RX3 119 yX3_grind, Cond.instanceMethod yX3_grind, Cond.selects RX3 yX3_grind yX3_grind, Cond.code yX3_grind cX3_grind 3 none, Cond.fieldLink RX3 16 "LockBankModel" "mill" "I", Cond.methodLink RX3 106 Lib.Math.min.name, Cond.static Lib.Math.min.name, Cond.code Lib.Math.min.name Lib.Math.min.code 2 (some .int), Cond.methodLink RX3 123 yX3_nextAt, Cond.instanceMethod yX3_nextAt, Cond.selects RX3 yX3_nextAt yX3_nextAt, Cond.code yX3_nextAt cX3_nextAt 5 (some .int), Cond.fieldLink RX3 36 "LockBankModel" "barges" "I", Cond.methodLink RX3 78 yX3_isWaiting, Cond.instanceMethod yX3_isWaiting, Cond.selects RX3 yX3_isWaiting yX3_isWaiting, Cond.code yX3_isWaiting cX3_isWaiting 4 (some .boolean), Cond.methodLink RX3 46 yX3_lockOf]
def wsX3_foresee_r4 : List Cond := [Cond.instanceMethod yX3_lockOf, Cond.selects RX3 yX3_lockOf yX3_lockOf, Cond.code yX3_lockOf cX3_lockOf 3 (some .int), Cond.fieldLink RX3 9 "LockBankModel" "goal" "[I", Cond.methodLink RX3 81 yX3_canServe, Cond.instanceMethod yX3_canServe, Cond.selects RX3 yX3_canServe yX3_canServe, Cond.code yX3_canServe cX3_canServe 4 (some .boolean), Cond.fieldLink RX3 20 "LockBankModel" "fee" "I", Cond.fieldLink RX3 66 "LockBankModel" "isDry" "Z", Cond.methodLink RX3 70 yX3_fits, Cond.instanceMethod yX3_fits, Cond.selects RX3 yX3_fits yX3_fits, Cond.code yX3_fits cX3_fits 4 (some .boolean), Cond.methodLink RX3 56 yX3_goesDown, Cond.instanceMethod yX3_goesDown, Cond.selects RX3 yX3_goesDown yX3_goesDown, Cond.code yX3_goesDown cX3_goesDown 3 (some .boolean), Cond.methodLink RX3 74 yX2_canFill, Cond.instanceMethod yX2_canFill, Cond.selects RX2 yX2_canFill yX2_canFill, Cond.code yX2_canFill cX2_canFill 2 (some .boolean), Cond.methodLink RX3 126 yX3_serve, Cond.instanceMethod yX3_serve]
def wsX3_foresee_r5 : List Cond := [Cond.selects RX3 yX3_serve yX3_serve, Cond.code yX3_serve cX3_serve 4 none, Cond.methodLink RX3 84 yX2_fill, Cond.instanceMethod yX2_fill, Cond.selects RX2 yX2_fill yX2_fill, Cond.code yX2_fill cX2_fill 2 none, Cond.methodLink RX3 88 yX2_empty, Cond.instanceMethod yX2_empty, Cond.selects RX2 yX2_empty yX2_empty, Cond.code yX2_empty cX2_empty 2 none, Cond.methodLink RX2 71 yX2_pour, Cond.methodLink RX3 175 yX3_counted, Cond.instanceMethod yX3_counted, Cond.selects RX3 yX3_counted yX3_counted, Cond.code yX3_counted cX3_counted 3 (some .int), Cond.methodLink RX3 162 yX3_come, Cond.instanceMethod yX3_come, Cond.selects RX3 yX3_come yX3_come, Cond.code yX3_come cX3_come 4 (some .int), Cond.methodLink RX3 165 yX2_allWater, Cond.instanceMethod yX2_allWater, Cond.selects RX2 yX2_allWater yX2_allWater, Cond.code yX2_allWater cX2_allWater 6 (some .int), Cond.methodLink RX3 169 yX2_fullOnes]
def wsX3_foresee_r6 : List Cond := [Cond.instanceMethod yX2_fullOnes, Cond.selects RX2 yX2_fullOnes yX2_fullOnes, Cond.code yX2_fullOnes cX2_fullOnes 6 (some .int)]
def wsX3_foresee : List Cond := .code yX3_foresee cX3_foresee 3 (some .int) :: ((wsX3_foresee_r1 ++ (wsX3_foresee_r2 ++ (wsX3_foresee_r3 ++ (wsX3_foresee_r4 ++ (wsX3_foresee_r5 ++ wsX3_foresee_r6))))) ++ wsX30 ++ wsX20)
def wsX3_advise_r1 : List Cond := [Cond.fieldLink RX3 33 "LockBankModel" "thrown" "I", Cond.fieldLink RX3 30 "LockBankModel" "ahead" "LLockBankModel$State;", Cond.fieldLink RX3 26 "LockBankModel" "s" "LLockBankModel$State;", Cond.methodLink RX3 39 yX3_isIn, Cond.static yX3_isIn, Cond.initialized RX3, Cond.code yX3_isIn cX3_isIn 3 (some .boolean), Cond.methodLink RX3 134 yX3_no, Cond.instanceMethod yX3_no, Cond.selects RX3 yX3_no yX3_no, Cond.code yX3_no cX3_no 2 (some .int), Cond.methodLink RX3 181 yX2_become, Cond.instanceMethod yX2_become, Cond.selects RX2 yX2_become yX2_become, Cond.initialized RX2, Cond.code yX2_become cX2_become 2 (some (.object "LockBankModel$State")), Cond.fieldLink RX2 52 "LockBankModel$State" "hour" "I", Cond.fieldLink RX2 9 "LockBankModel$State" "mark" "I", Cond.fieldLink RX2 55 "LockBankModel$State" "bank" "I", Cond.fieldLink RX2 58 "LockBankModel$State" "away" "I", Cond.fieldLink RX2 15 "LockBankModel$State" "water" "[I", Cond.fieldLink RX2 19 "LockBankModel$State" "over" "[I", Cond.fieldLink RX2 22 "LockBankModel$State" "drawn" "[I", Cond.fieldLink RX2 25 "LockBankModel$State" "full" "[I"]
def wsX3_advise_r2 : List Cond := [Cond.fieldLink RX2 28 "LockBankModel$State" "served" "[I", Cond.fieldLink RX2 31 "LockBankModel$State" "took" "[I", Cond.fieldLink RX2 34 "LockBankModel$State" "at" "[I", Cond.fieldLink RX2 37 "LockBankModel$State" "coins" "[I", Cond.fieldLink RX2 40 "LockBankModel$State" "often" "[I", Cond.fieldLink RX2 43 "LockBankModel$State" "when" "[I", Cond.methodLink RX2 61 yX2_copy, Cond.static yX2_copy, Cond.code yX2_copy cX2_copy 2 none, Cond.methodLink RX2 46 arraycopyName, Cond.native arraycopyName, Cond.static arraycopyName, Cond.initialized "java/lang/System", Cond.methodLink RX3 178 yX3_passAll, Cond.instanceMethod yX3_passAll, Cond.selects RX3 yX3_passAll yX3_passAll, Cond.code yX3_passAll cX3_passAll 5 (some .int), Cond.methodLink RX3 130 yX3_pass, Cond.instanceMethod yX3_pass, Cond.selects RX3 yX3_pass yX3_pass, Cond.code yX3_pass cX3_pass 5 (some .int), Cond.fieldLink RX3 13 "LockBankModel" "spring" "[I", Cond.methodLink RX3 115 yX2_pour, Cond.instanceMethod yX2_pour]
def wsX3_advise_r3 : List Cond := [Cond.selects RX2 yX2_pour yX2_pour, Cond.code yX2_pour cX2_pour 5 none, Cond.methodLink RX2 65 Lib.Math.max.name, Cond.static Lib.Math.max.name, Cond.initialized "java/lang/Math", Cond.code Lib.Math.max.name Lib.Math.max.code 2 (some .int), Cond.methodLink RX3 119 yX3_grind, Cond.instanceMethod yX3_grind, Cond.selects RX3 yX3_grind yX3_grind, Cond.code yX3_grind cX3_grind 3 none, Cond.fieldLink RX3 16 "LockBankModel" "mill" "I", Cond.methodLink RX3 106 Lib.Math.min.name, Cond.static Lib.Math.min.name, Cond.code Lib.Math.min.name Lib.Math.min.code 2 (some .int), Cond.methodLink RX3 123 yX3_nextAt, Cond.instanceMethod yX3_nextAt, Cond.selects RX3 yX3_nextAt yX3_nextAt, Cond.code yX3_nextAt cX3_nextAt 5 (some .int), Cond.fieldLink RX3 36 "LockBankModel" "barges" "I", Cond.methodLink RX3 78 yX3_isWaiting, Cond.instanceMethod yX3_isWaiting, Cond.selects RX3 yX3_isWaiting yX3_isWaiting, Cond.code yX3_isWaiting cX3_isWaiting 4 (some .boolean), Cond.methodLink RX3 46 yX3_lockOf]
def wsX3_advise_r4 : List Cond := [Cond.instanceMethod yX3_lockOf, Cond.selects RX3 yX3_lockOf yX3_lockOf, Cond.code yX3_lockOf cX3_lockOf 3 (some .int), Cond.fieldLink RX3 9 "LockBankModel" "goal" "[I", Cond.methodLink RX3 81 yX3_canServe, Cond.instanceMethod yX3_canServe, Cond.selects RX3 yX3_canServe yX3_canServe, Cond.code yX3_canServe cX3_canServe 4 (some .boolean), Cond.fieldLink RX3 20 "LockBankModel" "fee" "I", Cond.fieldLink RX3 66 "LockBankModel" "isDry" "Z", Cond.methodLink RX3 70 yX3_fits, Cond.instanceMethod yX3_fits, Cond.selects RX3 yX3_fits yX3_fits, Cond.code yX3_fits cX3_fits 4 (some .boolean), Cond.methodLink RX3 56 yX3_goesDown, Cond.instanceMethod yX3_goesDown, Cond.selects RX3 yX3_goesDown yX3_goesDown, Cond.code yX3_goesDown cX3_goesDown 3 (some .boolean), Cond.methodLink RX3 74 yX2_canFill, Cond.instanceMethod yX2_canFill, Cond.selects RX2 yX2_canFill yX2_canFill, Cond.code yX2_canFill cX2_canFill 2 (some .boolean), Cond.methodLink RX3 126 yX3_serve, Cond.instanceMethod yX3_serve]
def wsX3_advise_r5 : List Cond := [Cond.selects RX3 yX3_serve yX3_serve, Cond.code yX3_serve cX3_serve 4 none, Cond.methodLink RX3 84 yX2_fill, Cond.instanceMethod yX2_fill, Cond.selects RX2 yX2_fill yX2_fill, Cond.code yX2_fill cX2_fill 2 none, Cond.methodLink RX3 88 yX2_empty, Cond.instanceMethod yX2_empty, Cond.selects RX2 yX2_empty yX2_empty, Cond.code yX2_empty cX2_empty 2 none, Cond.methodLink RX2 71 yX2_pour]
def wsX3_advise : List Cond := .code yX3_advise cX3_advise 5 (some .int) :: ((wsX3_advise_r1 ++ (wsX3_advise_r2 ++ (wsX3_advise_r3 ++ (wsX3_advise_r4 ++ wsX3_advise_r5)))) ++ wsX30 ++ wsX20)
def wsX3_stops_r1 : List Cond := [Cond.fieldLink RX3 33 "LockBankModel" "thrown" "I", Cond.fieldLink RX3 30 "LockBankModel" "ahead" "LLockBankModel$State;", Cond.fieldLink RX3 26 "LockBankModel" "s" "LLockBankModel$State;", Cond.methodLink RX3 181 yX2_become, Cond.instanceMethod yX2_become, Cond.selects RX2 yX2_become yX2_become, Cond.initialized RX2, Cond.code yX2_become cX2_become 2 (some (.object "LockBankModel$State")), Cond.fieldLink RX2 52 "LockBankModel$State" "hour" "I", Cond.fieldLink RX2 9 "LockBankModel$State" "mark" "I", Cond.fieldLink RX2 55 "LockBankModel$State" "bank" "I", Cond.fieldLink RX2 58 "LockBankModel$State" "away" "I", Cond.fieldLink RX2 15 "LockBankModel$State" "water" "[I", Cond.fieldLink RX2 19 "LockBankModel$State" "over" "[I", Cond.fieldLink RX2 22 "LockBankModel$State" "drawn" "[I", Cond.fieldLink RX2 25 "LockBankModel$State" "full" "[I", Cond.fieldLink RX2 28 "LockBankModel$State" "served" "[I", Cond.fieldLink RX2 31 "LockBankModel$State" "took" "[I", Cond.fieldLink RX2 34 "LockBankModel$State" "at" "[I", Cond.fieldLink RX2 37 "LockBankModel$State" "coins" "[I", Cond.fieldLink RX2 40 "LockBankModel$State" "often" "[I", Cond.fieldLink RX2 43 "LockBankModel$State" "when" "[I", Cond.methodLink RX2 61 yX2_copy, Cond.static yX2_copy]
def wsX3_stops_r2 : List Cond := [Cond.code yX2_copy cX2_copy 2 none, Cond.methodLink RX2 46 arraycopyName, Cond.native arraycopyName, Cond.static arraycopyName, Cond.initialized "java/lang/System", Cond.methodLink RX3 130 yX3_pass, Cond.instanceMethod yX3_pass, Cond.selects RX3 yX3_pass yX3_pass, Cond.initialized RX3, Cond.code yX3_pass cX3_pass 5 (some .int), Cond.fieldLink RX3 13 "LockBankModel" "spring" "[I", Cond.methodLink RX3 115 yX2_pour, Cond.instanceMethod yX2_pour, Cond.selects RX2 yX2_pour yX2_pour, Cond.code yX2_pour cX2_pour 5 none, Cond.methodLink RX2 65 Lib.Math.max.name, Cond.static Lib.Math.max.name, Cond.initialized "java/lang/Math", Cond.code Lib.Math.max.name Lib.Math.max.code 2 (some .int), Cond.methodLink RX3 119 yX3_grind, Cond.instanceMethod yX3_grind, Cond.selects RX3 yX3_grind yX3_grind, Cond.code yX3_grind cX3_grind 3 none, Cond.fieldLink RX3 16 "LockBankModel" "mill" "I"]
def wsX3_stops_r3 : List Cond := [Cond.methodLink RX3 106 Lib.Math.min.name, Cond.static Lib.Math.min.name, Cond.code Lib.Math.min.name Lib.Math.min.code 2 (some .int), Cond.methodLink RX3 123 yX3_nextAt, Cond.instanceMethod yX3_nextAt, Cond.selects RX3 yX3_nextAt yX3_nextAt, Cond.code yX3_nextAt cX3_nextAt 5 (some .int), Cond.fieldLink RX3 36 "LockBankModel" "barges" "I", Cond.methodLink RX3 78 yX3_isWaiting, Cond.instanceMethod yX3_isWaiting, Cond.selects RX3 yX3_isWaiting yX3_isWaiting, Cond.code yX3_isWaiting cX3_isWaiting 4 (some .boolean), Cond.methodLink RX3 46 yX3_lockOf, Cond.instanceMethod yX3_lockOf, Cond.selects RX3 yX3_lockOf yX3_lockOf, Cond.code yX3_lockOf cX3_lockOf 3 (some .int), Cond.fieldLink RX3 9 "LockBankModel" "goal" "[I", Cond.methodLink RX3 81 yX3_canServe, Cond.instanceMethod yX3_canServe, Cond.selects RX3 yX3_canServe yX3_canServe, Cond.code yX3_canServe cX3_canServe 4 (some .boolean), Cond.fieldLink RX3 20 "LockBankModel" "fee" "I", Cond.fieldLink RX3 66 "LockBankModel" "isDry" "Z", Cond.methodLink RX3 70 yX3_fits]
def wsX3_stops_r4 : List Cond := [Cond.instanceMethod yX3_fits, Cond.selects RX3 yX3_fits yX3_fits, Cond.code yX3_fits cX3_fits 4 (some .boolean), Cond.methodLink RX3 56 yX3_goesDown, Cond.instanceMethod yX3_goesDown, Cond.selects RX3 yX3_goesDown yX3_goesDown, Cond.code yX3_goesDown cX3_goesDown 3 (some .boolean), Cond.methodLink RX3 74 yX2_canFill, Cond.instanceMethod yX2_canFill, Cond.selects RX2 yX2_canFill yX2_canFill, Cond.code yX2_canFill cX2_canFill 2 (some .boolean), Cond.methodLink RX3 126 yX3_serve, Cond.instanceMethod yX3_serve, Cond.selects RX3 yX3_serve yX3_serve, Cond.code yX3_serve cX3_serve 4 none, Cond.methodLink RX3 84 yX2_fill, Cond.instanceMethod yX2_fill, Cond.selects RX2 yX2_fill yX2_fill, Cond.code yX2_fill cX2_fill 2 none, Cond.methodLink RX3 88 yX2_empty, Cond.instanceMethod yX2_empty, Cond.selects RX2 yX2_empty yX2_empty, Cond.code yX2_empty cX2_empty 2 none, Cond.methodLink RX2 71 yX2_pour]
def wsX3_stops : List Cond := .code yX3_stops cX3_stops 2 (some .int) :: ((wsX3_stops_r1 ++ (wsX3_stops_r2 ++ (wsX3_stops_r3 ++ wsX3_stops_r4))) ++ wsX30 ++ wsX20)
def wsX3_mean : List Cond := .code yX3_mean cX3_mean 1 (some .double) :: ([.fieldLink RX3 33 "LockBankModel" "thrown" "I", .fieldLink RX3 26 "LockBankModel" "s" "LLockBankModel$State;", .constantDouble RX3 185 (4618441417868443648), .methodLink RX3 165 yX2_allWater, .instanceMethod yX2_allWater, .selects RX2 yX2_allWater yX2_allWater, .initialized RX2, .code yX2_allWater cX2_allWater 6 (some .int), .fieldLink RX2 15 "LockBankModel$State" "water" "[I"] ++ wsX30 ++ wsX20)
def wsX3_digest_r1 : List Cond := [Cond.fieldLink RX3 33 "LockBankModel" "thrown" "I", Cond.constantLong RX3 187 (1453), Cond.constantLong RX3 189 (31), Cond.fieldLink RX3 26 "LockBankModel" "s" "LLockBankModel$State;", Cond.fieldLink RX3 66 "LockBankModel" "isDry" "Z", Cond.fieldLink RX3 13 "LockBankModel" "spring" "[I", Cond.fieldLink RX3 36 "LockBankModel" "barges" "I", Cond.methodLink RX3 175 yX3_counted, Cond.instanceMethod yX3_counted, Cond.selects RX3 yX3_counted yX3_counted, Cond.initialized RX3, Cond.code yX3_counted cX3_counted 3 (some .int), Cond.fieldLink RX3 20 "LockBankModel" "fee" "I", Cond.fieldLink RX3 16 "LockBankModel" "mill" "I", Cond.methodLink RX3 162 yX3_come, Cond.instanceMethod yX3_come, Cond.selects RX3 yX3_come yX3_come, Cond.code yX3_come cX3_come 4 (some .int), Cond.fieldLink RX3 9 "LockBankModel" "goal" "[I", Cond.methodLink RX3 165 yX2_allWater, Cond.instanceMethod yX2_allWater, Cond.selects RX2 yX2_allWater yX2_allWater, Cond.initialized RX2, Cond.code yX2_allWater cX2_allWater 6 (some .int)]
def wsX3_digest_r2 : List Cond := [Cond.fieldLink RX2 15 "LockBankModel$State" "water" "[I", Cond.methodLink RX3 169 yX2_fullOnes, Cond.instanceMethod yX2_fullOnes, Cond.selects RX2 yX2_fullOnes yX2_fullOnes, Cond.code yX2_fullOnes cX2_fullOnes 6 (some .int), Cond.fieldLink RX2 25 "LockBankModel$State" "full" "[I", Cond.methodLink RX3 150 yX3_poundTold, Cond.instanceMethod yX3_poundTold, Cond.selects RX3 yX3_poundTold yX3_poundTold, Cond.code yX3_poundTold cX3_poundTold 3 (some .int), Cond.methodLink RX3 144 yX3_bargesAt, Cond.instanceMethod yX3_bargesAt, Cond.selects RX3 yX3_bargesAt yX3_bargesAt, Cond.code yX3_bargesAt cX3_bargesAt 4 (some .int), Cond.methodLink RX3 159 yX3_lockTold, Cond.instanceMethod yX3_lockTold, Cond.selects RX3 yX3_lockTold yX3_lockTold, Cond.code yX3_lockTold cX3_lockTold 3 (some .int), Cond.methodLink RX3 153 yX3_waitingAt, Cond.instanceMethod yX3_waitingAt, Cond.selects RX3 yX3_waitingAt yX3_waitingAt, Cond.code yX3_waitingAt cX3_waitingAt 4 (some .int), Cond.methodLink RX3 46 yX3_lockOf, Cond.instanceMethod yX3_lockOf]
def wsX3_digest_r3 : List Cond := [Cond.selects RX3 yX3_lockOf yX3_lockOf, Cond.code yX3_lockOf cX3_lockOf 3 (some .int), Cond.methodLink RX3 123 yX3_nextAt, Cond.instanceMethod yX3_nextAt, Cond.selects RX3 yX3_nextAt yX3_nextAt, Cond.code yX3_nextAt cX3_nextAt 5 (some .int), Cond.methodLink RX3 78 yX3_isWaiting, Cond.instanceMethod yX3_isWaiting, Cond.selects RX3 yX3_isWaiting yX3_isWaiting, Cond.code yX3_isWaiting cX3_isWaiting 4 (some .boolean), Cond.methodLink RX3 81 yX3_canServe, Cond.instanceMethod yX3_canServe, Cond.selects RX3 yX3_canServe yX3_canServe, Cond.code yX3_canServe cX3_canServe 4 (some .boolean), Cond.methodLink RX3 70 yX3_fits, Cond.instanceMethod yX3_fits, Cond.selects RX3 yX3_fits yX3_fits, Cond.code yX3_fits cX3_fits 4 (some .boolean), Cond.methodLink RX3 56 yX3_goesDown, Cond.instanceMethod yX3_goesDown, Cond.selects RX3 yX3_goesDown yX3_goesDown, Cond.code yX3_goesDown cX3_goesDown 3 (some .boolean), Cond.methodLink RX3 74 yX2_canFill, Cond.instanceMethod yX2_canFill]
def wsX3_digest_r4 : List Cond := [Cond.selects RX2 yX2_canFill yX2_canFill, Cond.code yX2_canFill cX2_canFill 2 (some .boolean), Cond.methodLink RX3 141 yX3_bargeTold, Cond.instanceMethod yX3_bargeTold, Cond.selects RX3 yX3_bargeTold yX3_bargeTold, Cond.code yX3_bargeTold cX3_bargeTold 3 (some .int)]
def wsX3_digest : List Cond := .code yX3_digest cX3_digest 7 (some .long) :: ((wsX3_digest_r1 ++ (wsX3_digest_r2 ++ (wsX3_digest_r3 ++ wsX3_digest_r4))) ++ wsX30 ++ wsX20)
def wsJ9_max_7cf53 : List Cond := .code yJ9_max_7cf53 cJ9_max_7cf53 2 (some .int) :: ([])
def wsJ9_min_7cf53 : List Cond := .code yJ9_min_7cf53 cJ9_min_7cf53 2 (some .int) :: ([])
def wsL_setSpring : List Cond := .codeWith yL_setSpring cL_setSpring 5 (some .int) [(0, 10, 13, 13), (0, 10, 17, 15)] :: ([.classLink RL 13 "java/lang/IndexOutOfBoundsException", .classLink RL 15 "java/lang/IllegalArgumentException", .methodLink RL 7 yX1_setSpring, .instanceMethod yX1_setSpring, .selects RX1 yX1_setSpring yX1_setSpring, .initialized RX1, .code yX1_setSpring cX1_setSpring 4 (some .int), .fieldLink RX1 12 "LockBank" "canal" "LLockBank$Canal;", .fieldLink RX1 26 "LockBank$Canal" "spring" "[I", .methodLink RX1 19 yX1_requireIndex, .static yX1_requireIndex, .code yX1_requireIndex cX1_requireIndex 3 none, .classLink RX1 127 "java/lang/IndexOutOfBoundsException", .initialized "java/lang/IndexOutOfBoundsException", .methodLink RX1 23 yX1_requireArgument, .static yX1_requireArgument, .code yX1_requireArgument cX1_requireArgument 3 none, .classLink RX1 132 "java/lang/IllegalArgumentException", .initialized "java/lang/IllegalArgumentException"] ++ wsX10 ++ wsX00 ++ (vx_atS RX1 131 "java/lang/IndexOutOfBoundsException" ["java/lang/RuntimeException", "java/lang/Exception"]).filter goodWord ++ (vx_atS RX1 136 "java/lang/IllegalArgumentException" ["java/lang/RuntimeException", "java/lang/Exception"]).filter goodWord)
def wsL_setMill : List Cond := .codeWith yL_setMill cL_setMill 5 (some .int) [(0, 10, 13, 13), (0, 10, 17, 15)] :: ([.classLink RL 13 "java/lang/IndexOutOfBoundsException", .classLink RL 15 "java/lang/IllegalArgumentException", .methodLink RL 17 yX1_setMill, .instanceMethod yX1_setMill, .selects RX1 yX1_setMill yX1_setMill, .initialized RX1, .code yX1_setMill cX1_setMill 4 (some .int), .fieldLink RX1 12 "LockBank" "canal" "LLockBank$Canal;", .fieldLink RX1 30 "LockBank$Canal" "mark" "I", .fieldLink RX1 34 "LockBank$Canal" "millPound" "I", .methodLink RX1 19 yX1_requireIndex, .static yX1_requireIndex, .code yX1_requireIndex cX1_requireIndex 3 none, .classLink RX1 127 "java/lang/IndexOutOfBoundsException", .initialized "java/lang/IndexOutOfBoundsException", .methodLink RX1 23 yX1_requireArgument, .static yX1_requireArgument, .code yX1_requireArgument cX1_requireArgument 3 none, .classLink RX1 132 "java/lang/IllegalArgumentException", .initialized "java/lang/IllegalArgumentException"] ++ wsX10 ++ wsX00 ++ (vx_atS RX1 131 "java/lang/IndexOutOfBoundsException" ["java/lang/RuntimeException", "java/lang/Exception"]).filter goodWord ++ (vx_atS RX1 136 "java/lang/IllegalArgumentException" ["java/lang/RuntimeException", "java/lang/Exception"]).filter goodWord)
def wsL_setFee : List Cond := .codeWith yL_setFee cL_setFee 4 (some .int) [(0, 9, 12, 15)] :: ([.classLink RL 15 "java/lang/IllegalArgumentException", .methodLink RL 20 yX1_setFee, .instanceMethod yX1_setFee, .selects RX1 yX1_setFee yX1_setFee, .initialized RX1, .code yX1_setFee cX1_setFee 3 (some .int), .fieldLink RX1 12 "LockBank" "canal" "LLockBank$Canal;", .fieldLink RX1 41 "LockBank$Canal" "fee" "I", .methodLink RX1 23 yX1_requireArgument, .static yX1_requireArgument, .code yX1_requireArgument cX1_requireArgument 3 none, .classLink RX1 132 "java/lang/IllegalArgumentException", .initialized "java/lang/IllegalArgumentException"] ++ wsX10 ++ wsX00 ++ (vx_atS RX1 136 "java/lang/IllegalArgumentException" ["java/lang/RuntimeException", "java/lang/Exception"]).filter goodWord)
def wsL_water_r1 : List Cond := [Cond.classLink RL 13 "java/lang/IndexOutOfBoundsException", Cond.classLink RL 15 "java/lang/IllegalArgumentException", Cond.classLink RL 27 "java/lang/IllegalStateException", Cond.methodLink RL 24 yX1_water, Cond.instanceMethod yX1_water, Cond.selects RX1 yX1_water yX1_water, Cond.initialized RX1, Cond.code yX1_water cX1_water 4 (some .int), Cond.classLink RX1 47 "java/lang/IllegalStateException", Cond.initialized "java/lang/IllegalStateException", Cond.fieldLink RX1 12 "LockBank" "canal" "LLockBank$Canal;", Cond.fieldLink RX1 44 "LockBank$Canal" "bank" "I", Cond.methodLink RX1 19 yX1_requireIndex, Cond.static yX1_requireIndex, Cond.code yX1_requireIndex cX1_requireIndex 3 none, Cond.classLink RX1 127 "java/lang/IndexOutOfBoundsException", Cond.initialized "java/lang/IndexOutOfBoundsException", Cond.methodLink RX1 23 yX1_requireArgument, Cond.static yX1_requireArgument, Cond.code yX1_requireArgument cX1_requireArgument 3 none, Cond.classLink RX1 132 "java/lang/IllegalArgumentException", Cond.initialized "java/lang/IllegalArgumentException", Cond.methodLink RX1 54 yX0_pour, Cond.instanceMethod yX0_pour]
def wsL_water_r2 : List Cond := [Cond.selects RX0 yX0_pour yX0_pour, Cond.initialized RX0, Cond.code yX0_pour cX0_pour 6 none, Cond.fieldLink RX0 25 "LockBank$Canal" "level" "[I", Cond.methodLink RX0 98 Lib.Math.min.name, Cond.static Lib.Math.min.name, Cond.initialized "java/lang/Math", Cond.code Lib.Math.min.name Lib.Math.min.code 2 (some .int), Cond.fieldLink RX0 28 "LockBank$Canal" "ranOver" "[I"]
def wsL_water : List Cond := .codeWith yL_water cL_water 5 (some .int) [(0, 10, 13, 13), (0, 10, 17, 15), (0, 10, 21, 27)] :: ((wsL_water_r1 ++ wsL_water_r2) ++ wsX10 ++ wsX00 ++ (vx_atS RX1 51 "java/lang/IllegalStateException" ["java/lang/RuntimeException", "java/lang/Exception"]).filter goodWord ++ (vx_atS RX1 131 "java/lang/IndexOutOfBoundsException" ["java/lang/RuntimeException", "java/lang/Exception"]).filter goodWord ++ (vx_atS RX1 136 "java/lang/IllegalArgumentException" ["java/lang/RuntimeException", "java/lang/Exception"]).filter goodWord)
def wsL_work_r1 : List Cond := [Cond.classLink RL 13 "java/lang/IndexOutOfBoundsException", Cond.classLink RL 27 "java/lang/IllegalStateException", Cond.methodLink RL 29 yX1_work, Cond.instanceMethod yX1_work, Cond.selects RX1 yX1_work yX1_work, Cond.initialized RX1, Cond.code yX1_work cX1_work 2 (some .boolean), Cond.classLink RX1 47 "java/lang/IllegalStateException", Cond.initialized "java/lang/IllegalStateException", Cond.fieldLink RX1 12 "LockBank" "canal" "LLockBank$Canal;", Cond.fieldLink RX1 58 "LockBank$Canal" "full" "[Z", Cond.methodLink RX1 19 yX1_requireIndex, Cond.static yX1_requireIndex, Cond.code yX1_requireIndex cX1_requireIndex 3 none, Cond.classLink RX1 127 "java/lang/IndexOutOfBoundsException", Cond.initialized "java/lang/IndexOutOfBoundsException", Cond.methodLink RX1 62 yX0_canFill, Cond.instanceMethod yX0_canFill, Cond.selects RX0 yX0_canFill yX0_canFill, Cond.initialized RX0, Cond.code yX0_canFill cX0_canFill 2 (some .boolean), Cond.fieldLink RX0 25 "LockBank$Canal" "level" "[I", Cond.methodLink RX1 68 yX0_turnChamber, Cond.instanceMethod yX0_turnChamber]
def wsL_work_r2 : List Cond := [Cond.selects RX0 yX0_turnChamber yX0_turnChamber, Cond.code yX0_turnChamber cX0_turnChamber 2 none, Cond.fieldLink RX0 34 "LockBank$Canal" "full" "[Z", Cond.fieldLink RX0 41 "LockBank$Canal" "filled" "[I", Cond.methodLink RX0 85 yX0_pour, Cond.instanceMethod yX0_pour, Cond.selects RX0 yX0_pour yX0_pour, Cond.code yX0_pour cX0_pour 6 none, Cond.methodLink RX0 98 Lib.Math.min.name, Cond.static Lib.Math.min.name, Cond.initialized "java/lang/Math", Cond.code Lib.Math.min.name Lib.Math.min.code 2 (some .int), Cond.fieldLink RX0 28 "LockBank$Canal" "ranOver" "[I"]
def wsL_work : List Cond := .codeWith yL_work cL_work 4 (some .int) [(0, 16, 19, 13), (0, 16, 22, 27)] :: ((wsL_work_r1 ++ wsL_work_r2) ++ wsX10 ++ wsX00 ++ (vx_atS RX1 51 "java/lang/IllegalStateException" ["java/lang/RuntimeException", "java/lang/Exception"]).filter goodWord ++ (vx_atS RX1 131 "java/lang/IndexOutOfBoundsException" ["java/lang/RuntimeException", "java/lang/Exception"]).filter goodWord)
def wsL_barge_r1 : List Cond := [Cond.classLink RL 13 "java/lang/IndexOutOfBoundsException", Cond.classLink RL 15 "java/lang/IllegalArgumentException", Cond.classLink RL 27 "java/lang/IllegalStateException", Cond.methodLink RL 33 yX1_barge, Cond.instanceMethod yX1_barge, Cond.selects RX1 yX1_barge yX1_barge, Cond.initialized RX1, Cond.code yX1_barge cX1_barge 5 (some .int), Cond.classLink RX1 47 "java/lang/IllegalStateException", Cond.initialized "java/lang/IllegalStateException", Cond.fieldLink RX1 12 "LockBank" "canal" "LLockBank$Canal;", Cond.fieldLink RX1 72 "LockBank$Canal" "barges" "I", Cond.fieldLink RX1 77 "LockBank$Canal" "at" "[I", Cond.fieldLink RX1 80 "LockBank$Canal" "goal" "[I", Cond.fieldLink RX1 83 "LockBank$Canal" "purse" "[I", Cond.methodLink RX1 19 yX1_requireIndex, Cond.static yX1_requireIndex, Cond.code yX1_requireIndex cX1_requireIndex 3 none, Cond.classLink RX1 127 "java/lang/IndexOutOfBoundsException", Cond.initialized "java/lang/IndexOutOfBoundsException", Cond.methodLink RX1 23 yX1_requireArgument, Cond.static yX1_requireArgument, Cond.code yX1_requireArgument cX1_requireArgument 3 none, Cond.classLink RX1 132 "java/lang/IllegalArgumentException"]
def wsL_barge_r2 : List Cond := [Cond.initialized "java/lang/IllegalArgumentException"]
def wsL_barge : List Cond := .codeWith yL_barge cL_barge 6 (some .int) [(0, 12, 15, 13), (0, 12, 19, 15), (0, 12, 23, 27)] :: ((wsL_barge_r1 ++ wsL_barge_r2) ++ wsX10 ++ wsX00 ++ (vx_atS RX1 51 "java/lang/IllegalStateException" ["java/lang/RuntimeException", "java/lang/Exception"]).filter goodWord ++ (vx_atS RX1 131 "java/lang/IndexOutOfBoundsException" ["java/lang/RuntimeException", "java/lang/Exception"]).filter goodWord ++ (vx_atS RX1 136 "java/lang/IllegalArgumentException" ["java/lang/RuntimeException", "java/lang/Exception"]).filter goodWord)
def wsL_send : List Cond := .codeWith yL_send cL_send 5 (some .int) [(0, 10, 13, 13)] :: ([.classLink RL 13 "java/lang/IndexOutOfBoundsException", .methodLink RL 37 yX1_send, .instanceMethod yX1_send, .selects RX1 yX1_send yX1_send, .initialized RX1, .code yX1_send cX1_send 4 (some .int), .fieldLink RX1 12 "LockBank" "canal" "LLockBank$Canal;", .fieldLink RX1 72 "LockBank$Canal" "barges" "I", .fieldLink RX1 80 "LockBank$Canal" "goal" "[I", .methodLink RX1 19 yX1_requireIndex, .static yX1_requireIndex, .code yX1_requireIndex cX1_requireIndex 3 none, .classLink RX1 127 "java/lang/IndexOutOfBoundsException", .initialized "java/lang/IndexOutOfBoundsException"] ++ wsX10 ++ wsX00 ++ (vx_atS RX1 131 "java/lang/IndexOutOfBoundsException" ["java/lang/RuntimeException", "java/lang/Exception"]).filter goodWord)
def wsL_told_r1 : List Cond := [Cond.classLink RL 13 "java/lang/IndexOutOfBoundsException", Cond.methodLink RL 40 yX1_told, Cond.instanceMethod yX1_told, Cond.selects RX1 yX1_told yX1_told, Cond.initialized RX1, Cond.code yX1_told cX1_told 3 (some .int), Cond.fieldLink RX1 12 "LockBank" "canal" "LLockBank$Canal;", Cond.fieldLink RX1 72 "LockBank$Canal" "barges" "I", Cond.methodLink RX1 19 yX1_requireIndex, Cond.static yX1_requireIndex, Cond.code yX1_requireIndex cX1_requireIndex 3 none, Cond.classLink RX1 127 "java/lang/IndexOutOfBoundsException", Cond.initialized "java/lang/IndexOutOfBoundsException", Cond.methodLink RX1 86 yX0_tellBarge, Cond.instanceMethod yX0_tellBarge, Cond.selects RX0 yX0_tellBarge yX0_tellBarge, Cond.initialized RX0, Cond.code yX0_tellBarge cX0_tellBarge 3 (some .int), Cond.fieldLink RX0 44 "LockBank$Canal" "at" "[I", Cond.fieldLink RX0 47 "LockBank$Canal" "goal" "[I", Cond.fieldLink RX0 50 "LockBank$Canal" "purse" "[I", Cond.fieldLink RX0 53 "LockBank$Canal" "served" "[I", Cond.methodLink RX0 101 yX0_waitsAt, Cond.instanceMethod yX0_waitsAt]
def wsL_told_r2 : List Cond := [Cond.selects RX0 yX0_waitsAt yX0_waitsAt, Cond.code yX0_waitsAt cX0_waitsAt 2 (some .int), Cond.methodLink RX0 119 yX0_hasCome, Cond.instanceMethod yX0_hasCome, Cond.selects RX0 yX0_hasCome yX0_hasCome, Cond.code yX0_hasCome cX0_hasCome 2 (some .boolean), Cond.methodLink RX0 112 yX0_goesDown, Cond.instanceMethod yX0_goesDown, Cond.selects RX0 yX0_goesDown yX0_goesDown, Cond.code yX0_goesDown cX0_goesDown 2 (some .boolean)]
def wsL_told : List Cond := .codeWith yL_told cL_told 5 (some .int) [(0, 10, 13, 13)] :: ((wsL_told_r1 ++ wsL_told_r2) ++ wsX10 ++ wsX00 ++ (vx_atS RX1 131 "java/lang/IndexOutOfBoundsException" ["java/lang/RuntimeException", "java/lang/Exception"]).filter goodWord)
def wsL_pound_r1 : List Cond := [Cond.classLink RL 13 "java/lang/IndexOutOfBoundsException", Cond.methodLink RL 43 yX1_pound, Cond.instanceMethod yX1_pound, Cond.selects RX1 yX1_pound yX1_pound, Cond.initialized RX1, Cond.code yX1_pound cX1_pound 3 (some .int), Cond.fieldLink RX1 12 "LockBank" "canal" "LLockBank$Canal;", Cond.methodLink RX1 19 yX1_requireIndex, Cond.static yX1_requireIndex, Cond.code yX1_requireIndex cX1_requireIndex 3 none, Cond.classLink RX1 127 "java/lang/IndexOutOfBoundsException", Cond.initialized "java/lang/IndexOutOfBoundsException", Cond.methodLink RX1 90 yX0_tellPound, Cond.instanceMethod yX0_tellPound, Cond.selects RX0 yX0_tellPound yX0_tellPound, Cond.initialized RX0, Cond.code yX0_tellPound cX0_tellPound 3 (some .int), Cond.fieldLink RX0 25 "LockBank$Canal" "level" "[I", Cond.fieldLink RX0 28 "LockBank$Canal" "ranOver" "[I", Cond.fieldLink RX0 31 "LockBank$Canal" "drawn" "[I", Cond.methodLink RX0 126 yX0_bargesAt, Cond.instanceMethod yX0_bargesAt, Cond.selects RX0 yX0_bargesAt yX0_bargesAt, Cond.code yX0_bargesAt cX0_bargesAt 4 (some .int)]
def wsL_pound_r2 : List Cond := [Cond.fieldLink RX0 72 "LockBank$Canal" "barges" "I", Cond.fieldLink RX0 44 "LockBank$Canal" "at" "[I"]
def wsL_pound : List Cond := .codeWith yL_pound cL_pound 5 (some .int) [(0, 10, 13, 13)] :: ((wsL_pound_r1 ++ wsL_pound_r2) ++ wsX10 ++ wsX00 ++ (vx_atS RX1 131 "java/lang/IndexOutOfBoundsException" ["java/lang/RuntimeException", "java/lang/Exception"]).filter goodWord)
def wsL_lock_r1 : List Cond := [Cond.classLink RL 13 "java/lang/IndexOutOfBoundsException", Cond.methodLink RL 46 yX1_lock, Cond.instanceMethod yX1_lock, Cond.selects RX1 yX1_lock yX1_lock, Cond.initialized RX1, Cond.code yX1_lock cX1_lock 3 (some .int), Cond.fieldLink RX1 12 "LockBank" "canal" "LLockBank$Canal;", Cond.methodLink RX1 19 yX1_requireIndex, Cond.static yX1_requireIndex, Cond.code yX1_requireIndex cX1_requireIndex 3 none, Cond.classLink RX1 127 "java/lang/IndexOutOfBoundsException", Cond.initialized "java/lang/IndexOutOfBoundsException", Cond.methodLink RX1 93 yX0_tellLock, Cond.instanceMethod yX0_tellLock, Cond.selects RX0 yX0_tellLock yX0_tellLock, Cond.initialized RX0, Cond.code yX0_tellLock cX0_tellLock 3 (some .int), Cond.fieldLink RX0 34 "LockBank$Canal" "full" "[Z", Cond.fieldLink RX0 38 "LockBank$Canal" "lockings" "[I", Cond.fieldLink RX0 41 "LockBank$Canal" "filled" "[I", Cond.methodLink RX0 129 yX0_bargesWaitingAt, Cond.instanceMethod yX0_bargesWaitingAt, Cond.selects RX0 yX0_bargesWaitingAt yX0_bargesWaitingAt, Cond.code yX0_bargesWaitingAt cX0_bargesWaitingAt 4 (some .int)]
def wsL_lock_r2 : List Cond := [Cond.fieldLink RX0 72 "LockBank$Canal" "barges" "I", Cond.methodLink RX0 101 yX0_waitsAt, Cond.instanceMethod yX0_waitsAt, Cond.selects RX0 yX0_waitsAt yX0_waitsAt, Cond.code yX0_waitsAt cX0_waitsAt 2 (some .int), Cond.fieldLink RX0 44 "LockBank$Canal" "at" "[I", Cond.methodLink RX0 119 yX0_hasCome, Cond.instanceMethod yX0_hasCome, Cond.selects RX0 yX0_hasCome yX0_hasCome, Cond.code yX0_hasCome cX0_hasCome 2 (some .boolean), Cond.fieldLink RX0 47 "LockBank$Canal" "goal" "[I", Cond.methodLink RX0 112 yX0_goesDown, Cond.instanceMethod yX0_goesDown, Cond.selects RX0 yX0_goesDown yX0_goesDown, Cond.code yX0_goesDown cX0_goesDown 2 (some .boolean), Cond.methodLink RX0 92 yX0_nextBarge, Cond.instanceMethod yX0_nextBarge, Cond.selects RX0 yX0_nextBarge yX0_nextBarge, Cond.code yX0_nextBarge cX0_nextBarge 6 (some .int), Cond.methodLink RX0 105 yX0_canServe, Cond.instanceMethod yX0_canServe, Cond.selects RX0 yX0_canServe yX0_canServe, Cond.code yX0_canServe cX0_canServe 4 (some .boolean), Cond.fieldLink RX0 50 "LockBank$Canal" "purse" "[I"]
def wsL_lock_r3 : List Cond := [Cond.fieldLink RX0 9 "LockBank$Canal" "fee" "I", Cond.fieldLink RX0 62 "LockBank$Canal" "drought" "Z", Cond.methodLink RX0 109 yX0_fits, Cond.instanceMethod yX0_fits, Cond.selects RX0 yX0_fits yX0_fits, Cond.code yX0_fits cX0_fits 3 (some .boolean), Cond.methodLink RX0 116 yX0_canFill, Cond.instanceMethod yX0_canFill, Cond.selects RX0 yX0_canFill yX0_canFill, Cond.code yX0_canFill cX0_canFill 2 (some .boolean), Cond.fieldLink RX0 25 "LockBank$Canal" "level" "[I"]
def wsL_lock : List Cond := .codeWith yL_lock cL_lock 5 (some .int) [(0, 10, 13, 13)] :: ((wsL_lock_r1 ++ (wsL_lock_r2 ++ wsL_lock_r3)) ++ wsX10 ++ wsX00 ++ (vx_atS RX1 131 "java/lang/IndexOutOfBoundsException" ["java/lang/RuntimeException", "java/lang/Exception"]).filter goodWord)
def wsL_count_r1 : List Cond := [Cond.classLink RL 13 "java/lang/IndexOutOfBoundsException", Cond.methodLink RL 49 yX1_count, Cond.instanceMethod yX1_count, Cond.selects RX1 yX1_count yX1_count, Cond.initialized RX1, Cond.code yX1_count cX1_count 2 (some .int), Cond.fieldLink RX1 12 "LockBank" "canal" "LLockBank$Canal;", Cond.methodLink RX1 19 yX1_requireIndex, Cond.static yX1_requireIndex, Cond.code yX1_requireIndex cX1_requireIndex 3 none, Cond.classLink RX1 127 "java/lang/IndexOutOfBoundsException", Cond.initialized "java/lang/IndexOutOfBoundsException", Cond.methodLink RX1 96 yX0_tellWhole, Cond.instanceMethod yX0_tellWhole, Cond.selects RX0 yX0_tellWhole yX0_tellWhole, Cond.initialized RX0, Cond.code yX0_tellWhole cX0_tellWhole 2 (some .int), Cond.fieldLink RX0 56 "LockBank$Canal" "hour" "I", Cond.fieldLink RX0 72 "LockBank$Canal" "barges" "I", Cond.fieldLink RX0 59 "LockBank$Canal" "bank" "I", Cond.fieldLink RX0 28 "LockBank$Canal" "ranOver" "[I", Cond.fieldLink RX0 31 "LockBank$Canal" "drawn" "[I", Cond.fieldLink RX0 9 "LockBank$Canal" "fee" "I", Cond.fieldLink RX0 18 "LockBank$Canal" "mark" "I"]
def wsL_count_r2 : List Cond := [Cond.fieldLink RX0 15 "LockBank$Canal" "millPound" "I", Cond.methodLink RX0 132 yX0_bargesThatHaveCome, Cond.instanceMethod yX0_bargesThatHaveCome, Cond.selects RX0 yX0_bargesThatHaveCome yX0_bargesThatHaveCome, Cond.code yX0_bargesThatHaveCome cX0_bargesThatHaveCome 3 (some .int), Cond.methodLink RX0 119 yX0_hasCome, Cond.instanceMethod yX0_hasCome, Cond.selects RX0 yX0_hasCome yX0_hasCome, Cond.code yX0_hasCome cX0_hasCome 2 (some .boolean), Cond.fieldLink RX0 44 "LockBank$Canal" "at" "[I", Cond.fieldLink RX0 47 "LockBank$Canal" "goal" "[I", Cond.methodLink RX0 135 yX0_waterOfAll, Cond.instanceMethod yX0_waterOfAll, Cond.selects RX0 yX0_waterOfAll yX0_waterOfAll, Cond.code yX0_waterOfAll cX0_waterOfAll 3 (some .int), Cond.fieldLink RX0 25 "LockBank$Canal" "level" "[I", Cond.methodLink RX0 138 yX0_fullChambers, Cond.instanceMethod yX0_fullChambers, Cond.selects RX0 yX0_fullChambers yX0_fullChambers, Cond.code yX0_fullChambers cX0_fullChambers 3 (some .int), Cond.fieldLink RX0 34 "LockBank$Canal" "full" "[Z"]
def wsL_count : List Cond := .codeWith yL_count cL_count 4 (some .int) [(0, 9, 12, 13)] :: ((wsL_count_r1 ++ wsL_count_r2) ++ wsX10 ++ wsX00 ++ (vx_atS RX1 131 "java/lang/IndexOutOfBoundsException" ["java/lang/RuntimeException", "java/lang/Exception"]).filter goodWord)
def wsL_pass_r1 : List Cond := [Cond.classLink RL 15 "java/lang/IllegalArgumentException", Cond.methodLink RL 52 yX1_pass, Cond.instanceMethod yX1_pass, Cond.selects RX1 yX1_pass yX1_pass, Cond.initialized RX1, Cond.code yX1_pass cX1_pass 2 (some .int), Cond.fieldLink RX1 12 "LockBank" "canal" "LLockBank$Canal;", Cond.methodLink RX1 23 yX1_requireArgument, Cond.static yX1_requireArgument, Cond.code yX1_requireArgument cX1_requireArgument 3 none, Cond.classLink RX1 132 "java/lang/IllegalArgumentException", Cond.initialized "java/lang/IllegalArgumentException", Cond.methodLink RX1 100 yX0_goHours, Cond.instanceMethod yX0_goHours, Cond.selects RX0 yX0_goHours yX0_goHours, Cond.initialized RX0, Cond.code yX0_goHours cX0_goHours 4 (some .int), Cond.methodLink RX0 75 yX0_goHour, Cond.instanceMethod yX0_goHour, Cond.selects RX0 yX0_goHour yX0_goHour, Cond.code yX0_goHour cX0_goHour 5 (some .int), Cond.fieldLink RX0 21 "LockBank$Canal" "spring" "[I", Cond.fieldLink RX0 56 "LockBank$Canal" "hour" "I", Cond.methodLink RX0 79 yJ9_floorMod_7cf53]
def wsL_pass_r2 : List Cond := [Cond.static yJ9_floorMod_7cf53, Cond.initialized RJ9, Cond.code yJ9_floorMod_7cf53 cJ9_floorMod_7cf53 3 (some .int), Cond.methodLink RX0 85 yX0_pour, Cond.instanceMethod yX0_pour, Cond.selects RX0 yX0_pour yX0_pour, Cond.code yX0_pour cX0_pour 6 none, Cond.fieldLink RX0 25 "LockBank$Canal" "level" "[I", Cond.methodLink RX0 98 Lib.Math.min.name, Cond.static Lib.Math.min.name, Cond.initialized "java/lang/Math", Cond.code Lib.Math.min.name Lib.Math.min.code 2 (some .int), Cond.fieldLink RX0 28 "LockBank$Canal" "ranOver" "[I", Cond.methodLink RX0 89 yX0_turnMill, Cond.instanceMethod yX0_turnMill, Cond.selects RX0 yX0_turnMill yX0_turnMill, Cond.code yX0_turnMill cX0_turnMill 3 none, Cond.fieldLink RX0 15 "LockBank$Canal" "millPound" "I", Cond.fieldLink RX0 18 "LockBank$Canal" "mark" "I", Cond.fieldLink RX0 31 "LockBank$Canal" "drawn" "[I", Cond.fieldLink RX0 59 "LockBank$Canal" "bank" "I", Cond.methodLink RX0 92 yX0_nextBarge, Cond.instanceMethod yX0_nextBarge, Cond.selects RX0 yX0_nextBarge yX0_nextBarge]
def wsL_pass_r3 : List Cond := [Cond.code yX0_nextBarge cX0_nextBarge 6 (some .int), Cond.fieldLink RX0 72 "LockBank$Canal" "barges" "I", Cond.methodLink RX0 101 yX0_waitsAt, Cond.instanceMethod yX0_waitsAt, Cond.selects RX0 yX0_waitsAt yX0_waitsAt, Cond.code yX0_waitsAt cX0_waitsAt 2 (some .int), Cond.fieldLink RX0 44 "LockBank$Canal" "at" "[I", Cond.methodLink RX0 119 yX0_hasCome, Cond.instanceMethod yX0_hasCome, Cond.selects RX0 yX0_hasCome yX0_hasCome, Cond.code yX0_hasCome cX0_hasCome 2 (some .boolean), Cond.fieldLink RX0 47 "LockBank$Canal" "goal" "[I", Cond.methodLink RX0 112 yX0_goesDown, Cond.instanceMethod yX0_goesDown, Cond.selects RX0 yX0_goesDown yX0_goesDown, Cond.code yX0_goesDown cX0_goesDown 2 (some .boolean), Cond.methodLink RX0 105 yX0_canServe, Cond.instanceMethod yX0_canServe, Cond.selects RX0 yX0_canServe yX0_canServe, Cond.code yX0_canServe cX0_canServe 4 (some .boolean), Cond.fieldLink RX0 50 "LockBank$Canal" "purse" "[I", Cond.fieldLink RX0 9 "LockBank$Canal" "fee" "I", Cond.fieldLink RX0 62 "LockBank$Canal" "drought" "Z", Cond.fieldLink RX0 34 "LockBank$Canal" "full" "[Z"]
def wsL_pass_r4 : List Cond := [Cond.methodLink RX0 109 yX0_fits, Cond.instanceMethod yX0_fits, Cond.selects RX0 yX0_fits yX0_fits, Cond.code yX0_fits cX0_fits 3 (some .boolean), Cond.methodLink RX0 116 yX0_canFill, Cond.instanceMethod yX0_canFill, Cond.selects RX0 yX0_canFill yX0_canFill, Cond.code yX0_canFill cX0_canFill 2 (some .boolean), Cond.methodLink RX0 95 yX0_serve, Cond.instanceMethod yX0_serve, Cond.selects RX0 yX0_serve yX0_serve, Cond.code yX0_serve cX0_serve 3 none, Cond.fieldLink RX0 53 "LockBank$Canal" "served" "[I", Cond.fieldLink RX0 38 "LockBank$Canal" "lockings" "[I", Cond.methodLink RX0 122 yX0_turnChamber, Cond.instanceMethod yX0_turnChamber, Cond.selects RX0 yX0_turnChamber yX0_turnChamber, Cond.code yX0_turnChamber cX0_turnChamber 2 none, Cond.fieldLink RX0 41 "LockBank$Canal" "filled" "[I"]
def wsL_pass : List Cond := .codeWith yL_pass cL_pass 4 (some .int) [(0, 9, 12, 15)] :: ((wsL_pass_r1 ++ (wsL_pass_r2 ++ (wsL_pass_r3 ++ wsL_pass_r4))) ++ wsX10 ++ wsX00 ++ (vx_atS RX1 136 "java/lang/IllegalArgumentException" ["java/lang/RuntimeException", "java/lang/Exception"]).filter goodWord)
def wsL_arrives_r1 : List Cond := [Cond.classLink RL 13 "java/lang/IndexOutOfBoundsException", Cond.methodLink RL 55 yX1_arrives, Cond.instanceMethod yX1_arrives, Cond.selects RX1 yX1_arrives yX1_arrives, Cond.initialized RX1, Cond.code yX1_arrives cX1_arrives 3 (some .int), Cond.fieldLink RX1 12 "LockBank" "canal" "LLockBank$Canal;", Cond.fieldLink RX1 72 "LockBank$Canal" "barges" "I", Cond.fieldLink RX1 16 "LockBank" "trial" "LLockBank$Canal;", Cond.methodLink RX1 19 yX1_requireIndex, Cond.static yX1_requireIndex, Cond.code yX1_requireIndex cX1_requireIndex 3 none, Cond.classLink RX1 127 "java/lang/IndexOutOfBoundsException", Cond.initialized "java/lang/IndexOutOfBoundsException", Cond.methodLink RX1 103 yX0_copyFrom, Cond.instanceMethod yX0_copyFrom, Cond.selects RX0 yX0_copyFrom yX0_copyFrom, Cond.initialized RX0, Cond.code yX0_copyFrom cX0_copyFrom 2 none, Cond.fieldLink RX0 56 "LockBank$Canal" "hour" "I", Cond.fieldLink RX0 59 "LockBank$Canal" "bank" "I", Cond.fieldLink RX0 9 "LockBank$Canal" "fee" "I", Cond.fieldLink RX0 62 "LockBank$Canal" "drought" "Z", Cond.fieldLink RX0 15 "LockBank$Canal" "millPound" "I"]
def wsL_arrives_r2 : List Cond := [Cond.fieldLink RX0 18 "LockBank$Canal" "mark" "I", Cond.fieldLink RX0 21 "LockBank$Canal" "spring" "[I", Cond.methodLink RX0 66 arraycopyName, Cond.native arraycopyName, Cond.static arraycopyName, Cond.initialized "java/lang/System", Cond.fieldLink RX0 25 "LockBank$Canal" "level" "[I", Cond.fieldLink RX0 28 "LockBank$Canal" "ranOver" "[I", Cond.fieldLink RX0 31 "LockBank$Canal" "drawn" "[I", Cond.fieldLink RX0 34 "LockBank$Canal" "full" "[Z", Cond.fieldLink RX0 38 "LockBank$Canal" "lockings" "[I", Cond.fieldLink RX0 41 "LockBank$Canal" "filled" "[I", Cond.fieldLink RX0 72 "LockBank$Canal" "barges" "I", Cond.fieldLink RX0 44 "LockBank$Canal" "at" "[I", Cond.fieldLink RX0 47 "LockBank$Canal" "goal" "[I", Cond.fieldLink RX0 50 "LockBank$Canal" "purse" "[I", Cond.fieldLink RX0 53 "LockBank$Canal" "served" "[I", Cond.methodLink RX1 107 yX0_hasCome, Cond.instanceMethod yX0_hasCome, Cond.selects RX0 yX0_hasCome yX0_hasCome, Cond.code yX0_hasCome cX0_hasCome 2 (some .boolean), Cond.methodLink RX1 110 yX0_goHour, Cond.instanceMethod yX0_goHour, Cond.selects RX0 yX0_goHour yX0_goHour]
def wsL_arrives_r3 : List Cond := [Cond.code yX0_goHour cX0_goHour 5 (some .int), Cond.methodLink RX0 79 yJ9_floorMod_7cf53, Cond.static yJ9_floorMod_7cf53, Cond.initialized RJ9, Cond.code yJ9_floorMod_7cf53 cJ9_floorMod_7cf53 3 (some .int), Cond.methodLink RX0 85 yX0_pour, Cond.instanceMethod yX0_pour, Cond.selects RX0 yX0_pour yX0_pour, Cond.code yX0_pour cX0_pour 6 none, Cond.methodLink RX0 98 Lib.Math.min.name, Cond.static Lib.Math.min.name, Cond.initialized "java/lang/Math", Cond.code Lib.Math.min.name Lib.Math.min.code 2 (some .int), Cond.methodLink RX0 89 yX0_turnMill, Cond.instanceMethod yX0_turnMill, Cond.selects RX0 yX0_turnMill yX0_turnMill, Cond.code yX0_turnMill cX0_turnMill 3 none, Cond.methodLink RX0 92 yX0_nextBarge, Cond.instanceMethod yX0_nextBarge, Cond.selects RX0 yX0_nextBarge yX0_nextBarge, Cond.code yX0_nextBarge cX0_nextBarge 6 (some .int), Cond.methodLink RX0 101 yX0_waitsAt, Cond.instanceMethod yX0_waitsAt, Cond.selects RX0 yX0_waitsAt yX0_waitsAt]
def wsL_arrives_r4 : List Cond := [Cond.code yX0_waitsAt cX0_waitsAt 2 (some .int), Cond.methodLink RX0 119 yX0_hasCome, Cond.methodLink RX0 112 yX0_goesDown, Cond.instanceMethod yX0_goesDown, Cond.selects RX0 yX0_goesDown yX0_goesDown, Cond.code yX0_goesDown cX0_goesDown 2 (some .boolean), Cond.methodLink RX0 105 yX0_canServe, Cond.instanceMethod yX0_canServe, Cond.selects RX0 yX0_canServe yX0_canServe, Cond.code yX0_canServe cX0_canServe 4 (some .boolean), Cond.methodLink RX0 109 yX0_fits, Cond.instanceMethod yX0_fits, Cond.selects RX0 yX0_fits yX0_fits, Cond.code yX0_fits cX0_fits 3 (some .boolean), Cond.methodLink RX0 116 yX0_canFill, Cond.instanceMethod yX0_canFill, Cond.selects RX0 yX0_canFill yX0_canFill, Cond.code yX0_canFill cX0_canFill 2 (some .boolean), Cond.methodLink RX0 95 yX0_serve, Cond.instanceMethod yX0_serve, Cond.selects RX0 yX0_serve yX0_serve, Cond.code yX0_serve cX0_serve 3 none, Cond.methodLink RX0 122 yX0_turnChamber, Cond.instanceMethod yX0_turnChamber]
def wsL_arrives_r5 : List Cond := [Cond.selects RX0 yX0_turnChamber yX0_turnChamber, Cond.code yX0_turnChamber cX0_turnChamber 2 none]
def wsL_arrives : List Cond := .codeWith yL_arrives cL_arrives 4 (some .int) [(0, 9, 12, 13)] :: ((wsL_arrives_r1 ++ (wsL_arrives_r2 ++ (wsL_arrives_r3 ++ (wsL_arrives_r4 ++ wsL_arrives_r5)))) ++ wsX10 ++ wsX00 ++ (vx_atS RX1 131 "java/lang/IndexOutOfBoundsException" ["java/lang/RuntimeException", "java/lang/Exception"]).filter goodWord)
def wsL_foresee_r1 : List Cond := [Cond.classLink RL 15 "java/lang/IllegalArgumentException", Cond.classLink RL 13 "java/lang/IndexOutOfBoundsException", Cond.methodLink RL 58 yX1_foresee, Cond.instanceMethod yX1_foresee, Cond.selects RX1 yX1_foresee yX1_foresee, Cond.initialized RX1, Cond.code yX1_foresee cX1_foresee 3 (some .int), Cond.fieldLink RX1 16 "LockBank" "trial" "LLockBank$Canal;", Cond.fieldLink RX1 12 "LockBank" "canal" "LLockBank$Canal;", Cond.methodLink RX1 23 yX1_requireArgument, Cond.static yX1_requireArgument, Cond.code yX1_requireArgument cX1_requireArgument 3 none, Cond.classLink RX1 132 "java/lang/IllegalArgumentException", Cond.initialized "java/lang/IllegalArgumentException", Cond.methodLink RX1 19 yX1_requireIndex, Cond.static yX1_requireIndex, Cond.code yX1_requireIndex cX1_requireIndex 3 none, Cond.classLink RX1 127 "java/lang/IndexOutOfBoundsException", Cond.initialized "java/lang/IndexOutOfBoundsException", Cond.methodLink RX1 103 yX0_copyFrom, Cond.instanceMethod yX0_copyFrom, Cond.selects RX0 yX0_copyFrom yX0_copyFrom, Cond.initialized RX0, Cond.code yX0_copyFrom cX0_copyFrom 2 none]
def wsL_foresee_r2 : List Cond := [Cond.fieldLink RX0 56 "LockBank$Canal" "hour" "I", Cond.fieldLink RX0 59 "LockBank$Canal" "bank" "I", Cond.fieldLink RX0 9 "LockBank$Canal" "fee" "I", Cond.fieldLink RX0 62 "LockBank$Canal" "drought" "Z", Cond.fieldLink RX0 15 "LockBank$Canal" "millPound" "I", Cond.fieldLink RX0 18 "LockBank$Canal" "mark" "I", Cond.fieldLink RX0 21 "LockBank$Canal" "spring" "[I", Cond.methodLink RX0 66 arraycopyName, Cond.native arraycopyName, Cond.static arraycopyName, Cond.initialized "java/lang/System", Cond.fieldLink RX0 25 "LockBank$Canal" "level" "[I", Cond.fieldLink RX0 28 "LockBank$Canal" "ranOver" "[I", Cond.fieldLink RX0 31 "LockBank$Canal" "drawn" "[I", Cond.fieldLink RX0 34 "LockBank$Canal" "full" "[Z", Cond.fieldLink RX0 38 "LockBank$Canal" "lockings" "[I", Cond.fieldLink RX0 41 "LockBank$Canal" "filled" "[I", Cond.fieldLink RX0 72 "LockBank$Canal" "barges" "I", Cond.fieldLink RX0 44 "LockBank$Canal" "at" "[I", Cond.fieldLink RX0 47 "LockBank$Canal" "goal" "[I", Cond.fieldLink RX0 50 "LockBank$Canal" "purse" "[I", Cond.fieldLink RX0 53 "LockBank$Canal" "served" "[I", Cond.methodLink RX1 100 yX0_goHours, Cond.instanceMethod yX0_goHours]
def wsL_foresee_r3 : List Cond := [Cond.selects RX0 yX0_goHours yX0_goHours, Cond.code yX0_goHours cX0_goHours 4 (some .int), Cond.methodLink RX0 75 yX0_goHour, Cond.instanceMethod yX0_goHour, Cond.selects RX0 yX0_goHour yX0_goHour, Cond.code yX0_goHour cX0_goHour 5 (some .int), Cond.methodLink RX0 79 yJ9_floorMod_7cf53, Cond.static yJ9_floorMod_7cf53, Cond.initialized RJ9, Cond.code yJ9_floorMod_7cf53 cJ9_floorMod_7cf53 3 (some .int), Cond.methodLink RX0 85 yX0_pour, Cond.instanceMethod yX0_pour, Cond.selects RX0 yX0_pour yX0_pour, Cond.code yX0_pour cX0_pour 6 none, Cond.methodLink RX0 98 Lib.Math.min.name, Cond.static Lib.Math.min.name, Cond.initialized "java/lang/Math", Cond.code Lib.Math.min.name Lib.Math.min.code 2 (some .int), Cond.methodLink RX0 89 yX0_turnMill, Cond.instanceMethod yX0_turnMill, Cond.selects RX0 yX0_turnMill yX0_turnMill, Cond.code yX0_turnMill cX0_turnMill 3 none, Cond.methodLink RX0 92 yX0_nextBarge, Cond.instanceMethod yX0_nextBarge]
def wsL_foresee_r4 : List Cond := [Cond.selects RX0 yX0_nextBarge yX0_nextBarge, Cond.code yX0_nextBarge cX0_nextBarge 6 (some .int), Cond.methodLink RX0 101 yX0_waitsAt, Cond.instanceMethod yX0_waitsAt, Cond.selects RX0 yX0_waitsAt yX0_waitsAt, Cond.code yX0_waitsAt cX0_waitsAt 2 (some .int), Cond.methodLink RX0 119 yX0_hasCome, Cond.instanceMethod yX0_hasCome, Cond.selects RX0 yX0_hasCome yX0_hasCome, Cond.code yX0_hasCome cX0_hasCome 2 (some .boolean), Cond.methodLink RX0 112 yX0_goesDown, Cond.instanceMethod yX0_goesDown, Cond.selects RX0 yX0_goesDown yX0_goesDown, Cond.code yX0_goesDown cX0_goesDown 2 (some .boolean), Cond.methodLink RX0 105 yX0_canServe, Cond.instanceMethod yX0_canServe, Cond.selects RX0 yX0_canServe yX0_canServe, Cond.code yX0_canServe cX0_canServe 4 (some .boolean), Cond.methodLink RX0 109 yX0_fits, Cond.instanceMethod yX0_fits, Cond.selects RX0 yX0_fits yX0_fits, Cond.code yX0_fits cX0_fits 3 (some .boolean), Cond.methodLink RX0 116 yX0_canFill, Cond.instanceMethod yX0_canFill]
def wsL_foresee_r5 : List Cond := [Cond.selects RX0 yX0_canFill yX0_canFill, Cond.code yX0_canFill cX0_canFill 2 (some .boolean), Cond.methodLink RX0 95 yX0_serve, Cond.instanceMethod yX0_serve, Cond.selects RX0 yX0_serve yX0_serve, Cond.code yX0_serve cX0_serve 3 none, Cond.methodLink RX0 122 yX0_turnChamber, Cond.instanceMethod yX0_turnChamber, Cond.selects RX0 yX0_turnChamber yX0_turnChamber, Cond.code yX0_turnChamber cX0_turnChamber 2 none, Cond.methodLink RX1 96 yX0_tellWhole, Cond.instanceMethod yX0_tellWhole, Cond.selects RX0 yX0_tellWhole yX0_tellWhole, Cond.code yX0_tellWhole cX0_tellWhole 2 (some .int), Cond.methodLink RX0 132 yX0_bargesThatHaveCome, Cond.instanceMethod yX0_bargesThatHaveCome, Cond.selects RX0 yX0_bargesThatHaveCome yX0_bargesThatHaveCome, Cond.code yX0_bargesThatHaveCome cX0_bargesThatHaveCome 3 (some .int), Cond.methodLink RX0 135 yX0_waterOfAll, Cond.instanceMethod yX0_waterOfAll, Cond.selects RX0 yX0_waterOfAll yX0_waterOfAll, Cond.code yX0_waterOfAll cX0_waterOfAll 3 (some .int), Cond.methodLink RX0 138 yX0_fullChambers, Cond.instanceMethod yX0_fullChambers]
def wsL_foresee_r6 : List Cond := [Cond.selects RX0 yX0_fullChambers yX0_fullChambers, Cond.code yX0_fullChambers cX0_fullChambers 3 (some .int)]
def wsL_foresee : List Cond := .codeWith yL_foresee cL_foresee 5 (some .int) [(0, 10, 13, 15), (0, 10, 17, 13)] :: ((wsL_foresee_r1 ++ (wsL_foresee_r2 ++ (wsL_foresee_r3 ++ (wsL_foresee_r4 ++ (wsL_foresee_r5 ++ wsL_foresee_r6))))) ++ wsX10 ++ wsX00 ++ (vx_atS RX1 136 "java/lang/IllegalArgumentException" ["java/lang/RuntimeException", "java/lang/Exception"]).filter goodWord ++ (vx_atS RX1 131 "java/lang/IndexOutOfBoundsException" ["java/lang/RuntimeException", "java/lang/Exception"]).filter goodWord)
def wsL_advise_r1 : List Cond := [Cond.classLink RL 15 "java/lang/IllegalArgumentException", Cond.methodLink RL 61 yX1_advise, Cond.instanceMethod yX1_advise, Cond.selects RX1 yX1_advise yX1_advise, Cond.initialized RX1, Cond.code yX1_advise cX1_advise 5 (some .int), Cond.fieldLink RX1 16 "LockBank" "trial" "LLockBank$Canal;", Cond.fieldLink RX1 12 "LockBank" "canal" "LLockBank$Canal;", Cond.fieldLink RX1 30 "LockBank$Canal" "mark" "I", Cond.fieldLink RX1 44 "LockBank$Canal" "bank" "I", Cond.methodLink RX1 23 yX1_requireArgument, Cond.static yX1_requireArgument, Cond.code yX1_requireArgument cX1_requireArgument 3 none, Cond.classLink RX1 132 "java/lang/IllegalArgumentException", Cond.initialized "java/lang/IllegalArgumentException", Cond.methodLink RX1 103 yX0_copyFrom, Cond.instanceMethod yX0_copyFrom, Cond.selects RX0 yX0_copyFrom yX0_copyFrom, Cond.initialized RX0, Cond.code yX0_copyFrom cX0_copyFrom 2 none, Cond.fieldLink RX0 56 "LockBank$Canal" "hour" "I", Cond.fieldLink RX0 59 "LockBank$Canal" "bank" "I", Cond.fieldLink RX0 9 "LockBank$Canal" "fee" "I", Cond.fieldLink RX0 62 "LockBank$Canal" "drought" "Z"]
def wsL_advise_r2 : List Cond := [Cond.fieldLink RX0 15 "LockBank$Canal" "millPound" "I", Cond.fieldLink RX0 18 "LockBank$Canal" "mark" "I", Cond.fieldLink RX0 21 "LockBank$Canal" "spring" "[I", Cond.methodLink RX0 66 arraycopyName, Cond.native arraycopyName, Cond.static arraycopyName, Cond.initialized "java/lang/System", Cond.fieldLink RX0 25 "LockBank$Canal" "level" "[I", Cond.fieldLink RX0 28 "LockBank$Canal" "ranOver" "[I", Cond.fieldLink RX0 31 "LockBank$Canal" "drawn" "[I", Cond.fieldLink RX0 34 "LockBank$Canal" "full" "[Z", Cond.fieldLink RX0 38 "LockBank$Canal" "lockings" "[I", Cond.fieldLink RX0 41 "LockBank$Canal" "filled" "[I", Cond.fieldLink RX0 72 "LockBank$Canal" "barges" "I", Cond.fieldLink RX0 44 "LockBank$Canal" "at" "[I", Cond.fieldLink RX0 47 "LockBank$Canal" "goal" "[I", Cond.fieldLink RX0 50 "LockBank$Canal" "purse" "[I", Cond.fieldLink RX0 53 "LockBank$Canal" "served" "[I", Cond.methodLink RX1 100 yX0_goHours, Cond.instanceMethod yX0_goHours, Cond.selects RX0 yX0_goHours yX0_goHours, Cond.code yX0_goHours cX0_goHours 4 (some .int), Cond.methodLink RX0 75 yX0_goHour, Cond.instanceMethod yX0_goHour]
def wsL_advise_r3 : List Cond := [Cond.selects RX0 yX0_goHour yX0_goHour, Cond.code yX0_goHour cX0_goHour 5 (some .int), Cond.methodLink RX0 79 yJ9_floorMod_7cf53, Cond.static yJ9_floorMod_7cf53, Cond.initialized RJ9, Cond.code yJ9_floorMod_7cf53 cJ9_floorMod_7cf53 3 (some .int), Cond.methodLink RX0 85 yX0_pour, Cond.instanceMethod yX0_pour, Cond.selects RX0 yX0_pour yX0_pour, Cond.code yX0_pour cX0_pour 6 none, Cond.methodLink RX0 98 Lib.Math.min.name, Cond.static Lib.Math.min.name, Cond.initialized "java/lang/Math", Cond.code Lib.Math.min.name Lib.Math.min.code 2 (some .int), Cond.methodLink RX0 89 yX0_turnMill, Cond.instanceMethod yX0_turnMill, Cond.selects RX0 yX0_turnMill yX0_turnMill, Cond.code yX0_turnMill cX0_turnMill 3 none, Cond.methodLink RX0 92 yX0_nextBarge, Cond.instanceMethod yX0_nextBarge, Cond.selects RX0 yX0_nextBarge yX0_nextBarge, Cond.code yX0_nextBarge cX0_nextBarge 6 (some .int), Cond.methodLink RX0 101 yX0_waitsAt, Cond.instanceMethod yX0_waitsAt]
def wsL_advise_r4 : List Cond := [Cond.selects RX0 yX0_waitsAt yX0_waitsAt, Cond.code yX0_waitsAt cX0_waitsAt 2 (some .int), Cond.methodLink RX0 119 yX0_hasCome, Cond.instanceMethod yX0_hasCome, Cond.selects RX0 yX0_hasCome yX0_hasCome, Cond.code yX0_hasCome cX0_hasCome 2 (some .boolean), Cond.methodLink RX0 112 yX0_goesDown, Cond.instanceMethod yX0_goesDown, Cond.selects RX0 yX0_goesDown yX0_goesDown, Cond.code yX0_goesDown cX0_goesDown 2 (some .boolean), Cond.methodLink RX0 105 yX0_canServe, Cond.instanceMethod yX0_canServe, Cond.selects RX0 yX0_canServe yX0_canServe, Cond.code yX0_canServe cX0_canServe 4 (some .boolean), Cond.methodLink RX0 109 yX0_fits, Cond.instanceMethod yX0_fits, Cond.selects RX0 yX0_fits yX0_fits, Cond.code yX0_fits cX0_fits 3 (some .boolean), Cond.methodLink RX0 116 yX0_canFill, Cond.instanceMethod yX0_canFill, Cond.selects RX0 yX0_canFill yX0_canFill, Cond.code yX0_canFill cX0_canFill 2 (some .boolean), Cond.methodLink RX0 95 yX0_serve, Cond.instanceMethod yX0_serve]
def wsL_advise_r5 : List Cond := [Cond.selects RX0 yX0_serve yX0_serve, Cond.code yX0_serve cX0_serve 3 none, Cond.methodLink RX0 122 yX0_turnChamber, Cond.instanceMethod yX0_turnChamber, Cond.selects RX0 yX0_turnChamber yX0_turnChamber, Cond.code yX0_turnChamber cX0_turnChamber 2 none]
def wsL_advise : List Cond := .codeWith yL_advise cL_advise 4 (some .int) [(0, 9, 12, 15)] :: ((wsL_advise_r1 ++ (wsL_advise_r2 ++ (wsL_advise_r3 ++ (wsL_advise_r4 ++ wsL_advise_r5)))) ++ wsX10 ++ wsX00 ++ (vx_atS RX1 136 "java/lang/IllegalArgumentException" ["java/lang/RuntimeException", "java/lang/Exception"]).filter goodWord)
def wsL_law0_r1 : List Cond := [Cond.classLink RL 8 RX1, Cond.instantiable RX1 2, Cond.initialized RX1, Cond.classLink RL 65 RX3, Cond.instantiable RX3 9, Cond.initialized RX3, Cond.arrayClass .long, Cond.methodLink RL 64 yX1_init, Cond.instanceMethod yX1_init, Cond.code yX1_init cX1_init 1 none, Cond.methodLink RX1 3 objectInit, Cond.instanceMethod objectInit, Cond.code objectInit ⟨#[0xb1]⟩ 1 none, Cond.classLink RX1 9 RX0, Cond.instantiable RX0 18, Cond.initialized RX0, Cond.fieldLink RX1 12 "LockBank" "canal" "LLockBank$Canal;", Cond.fieldLink RX1 16 "LockBank" "trial" "LLockBank$Canal;", Cond.methodLink RX1 11 yX0_init, Cond.instanceMethod yX0_init, Cond.code yX0_init cX0_init 2 none, Cond.methodLink RX0 3 objectInit, Cond.fieldLink RX0 9 "LockBank$Canal" "fee" "I", Cond.fieldLink RX0 15 "LockBank$Canal" "millPound" "I"]
def wsL_law0_r2 : List Cond := [Cond.fieldLink RX0 18 "LockBank$Canal" "mark" "I", Cond.arrayClass .int, Cond.fieldLink RX0 21 "LockBank$Canal" "spring" "[I", Cond.fieldLink RX0 25 "LockBank$Canal" "level" "[I", Cond.fieldLink RX0 28 "LockBank$Canal" "ranOver" "[I", Cond.fieldLink RX0 31 "LockBank$Canal" "drawn" "[I", Cond.arrayClass .boolean, Cond.fieldLink RX0 34 "LockBank$Canal" "full" "[Z", Cond.fieldLink RX0 38 "LockBank$Canal" "lockings" "[I", Cond.fieldLink RX0 41 "LockBank$Canal" "filled" "[I", Cond.fieldLink RX0 44 "LockBank$Canal" "at" "[I", Cond.fieldLink RX0 47 "LockBank$Canal" "goal" "[I", Cond.fieldLink RX0 50 "LockBank$Canal" "purse" "[I", Cond.fieldLink RX0 53 "LockBank$Canal" "served" "[I", Cond.methodLink RL 67 yX3_init, Cond.instanceMethod yX3_init, Cond.code yX3_init cX3_init 1 none, Cond.methodLink RX3 1 objectInit, Cond.fieldLink RX3 9 "LockBankModel" "goal" "[I", Cond.fieldLink RX3 13 "LockBankModel" "spring" "[I", Cond.fieldLink RX3 16 "LockBankModel" "mill" "I", Cond.fieldLink RX3 20 "LockBankModel" "fee" "I", Cond.classLink RX3 23 RX2, Cond.instantiable RX2 14]
def wsL_law0_r3 : List Cond := [Cond.initialized RX2, Cond.fieldLink RX3 26 "LockBankModel" "s" "LLockBankModel$State;", Cond.fieldLink RX3 30 "LockBankModel" "ahead" "LLockBankModel$State;", Cond.instanceMethod yX2_init, Cond.code yX2_init cX2_init 1 none, Cond.methodLink RX2 3 objectInit, Cond.fieldLink RX2 9 "LockBankModel$State" "mark" "I", Cond.fieldLink RX2 15 "LockBankModel$State" "water" "[I", Cond.fieldLink RX2 19 "LockBankModel$State" "over" "[I", Cond.fieldLink RX2 22 "LockBankModel$State" "drawn" "[I", Cond.fieldLink RX2 25 "LockBankModel$State" "full" "[I", Cond.fieldLink RX2 28 "LockBankModel$State" "served" "[I", Cond.fieldLink RX2 31 "LockBankModel$State" "took" "[I", Cond.fieldLink RX2 34 "LockBankModel$State" "at" "[I", Cond.fieldLink RX2 37 "LockBankModel$State" "coins" "[I", Cond.fieldLink RX2 40 "LockBankModel$State" "often" "[I", Cond.fieldLink RX2 43 "LockBankModel$State" "when" "[I", Cond.methodLink RL 68 yL_setSpring, Cond.static yL_setSpring, Cond.initialized RL, Cond.codeWith yL_setSpring cL_setSpring 5 (some .int) [(0, 10, 13, 13), (0, 10, 17, 15)], Cond.classLink RL 13 "java/lang/IndexOutOfBoundsException", Cond.classLink RL 15 "java/lang/IllegalArgumentException", Cond.methodLink RL 7 yX1_setSpring]
def wsL_law0_r4 : List Cond := [Cond.instanceMethod yX1_setSpring, Cond.selects RX1 yX1_setSpring yX1_setSpring, Cond.code yX1_setSpring cX1_setSpring 4 (some .int), Cond.fieldLink RX1 26 "LockBank$Canal" "spring" "[I", Cond.methodLink RX1 19 yX1_requireIndex, Cond.static yX1_requireIndex, Cond.code yX1_requireIndex cX1_requireIndex 3 none, Cond.classLink RX1 127 "java/lang/IndexOutOfBoundsException", Cond.initialized "java/lang/IndexOutOfBoundsException", Cond.methodLink RX1 23 yX1_requireArgument, Cond.static yX1_requireArgument, Cond.code yX1_requireArgument cX1_requireArgument 3 none, Cond.classLink RX1 132 "java/lang/IllegalArgumentException", Cond.initialized "java/lang/IllegalArgumentException", Cond.methodLink RL 73 yX3_setSpring, Cond.instanceMethod yX3_setSpring, Cond.selects RX3 yX3_setSpring yX3_setSpring, Cond.code yX3_setSpring cX3_setSpring 4 (some .int), Cond.fieldLink RX3 33 "LockBankModel" "thrown" "I", Cond.methodLink RX3 39 yX3_isIn, Cond.static yX3_isIn, Cond.code yX3_isIn cX3_isIn 3 (some .boolean), Cond.methodLink RX3 134 yX3_no, Cond.instanceMethod yX3_no]
def wsL_law0_r5 : List Cond := [Cond.selects RX3 yX3_no yX3_no, Cond.code yX3_no cX3_no 2 (some .int), Cond.methodLink RL 74 yX3_thrown, Cond.instanceMethod yX3_thrown, Cond.selects RX3 yX3_thrown yX3_thrown, Cond.code yX3_thrown cX3_thrown 1 (some .int), Cond.methodLink RL 78 yL_setMill, Cond.static yL_setMill, Cond.codeWith yL_setMill cL_setMill 5 (some .int) [(0, 10, 13, 13), (0, 10, 17, 15)], Cond.methodLink RL 17 yX1_setMill, Cond.instanceMethod yX1_setMill, Cond.selects RX1 yX1_setMill yX1_setMill, Cond.code yX1_setMill cX1_setMill 4 (some .int), Cond.fieldLink RX1 30 "LockBank$Canal" "mark" "I", Cond.fieldLink RX1 34 "LockBank$Canal" "millPound" "I", Cond.methodLink RL 80 yX3_setMill, Cond.instanceMethod yX3_setMill, Cond.selects RX3 yX3_setMill yX3_setMill, Cond.code yX3_setMill cX3_setMill 4 (some .int), Cond.methodLink RL 81 yX1_setDrought, Cond.instanceMethod yX1_setDrought, Cond.selects RX1 yX1_setDrought yX1_setDrought, Cond.code yX1_setDrought cX1_setDrought 3 (some .boolean), Cond.fieldLink RX1 37 "LockBank$Canal" "drought" "Z"]
def wsL_law0_r6 : List Cond := [Cond.methodLink RL 85 yX3_setDrought, Cond.instanceMethod yX3_setDrought, Cond.selects RX3 yX3_setDrought yX3_setDrought, Cond.code yX3_setDrought cX3_setDrought 3 (some .boolean), Cond.fieldLink RX3 66 "LockBankModel" "isDry" "Z", Cond.methodLink RL 86 yL_setFee, Cond.static yL_setFee, Cond.codeWith yL_setFee cL_setFee 4 (some .int) [(0, 9, 12, 15)], Cond.methodLink RL 20 yX1_setFee, Cond.instanceMethod yX1_setFee, Cond.selects RX1 yX1_setFee yX1_setFee, Cond.code yX1_setFee cX1_setFee 3 (some .int), Cond.fieldLink RX1 41 "LockBank$Canal" "fee" "I", Cond.methodLink RL 89 yX3_setFee, Cond.instanceMethod yX3_setFee, Cond.selects RX3 yX3_setFee yX3_setFee, Cond.code yX3_setFee cX3_setFee 3 (some .int), Cond.methodLink RL 90 yL_water, Cond.static yL_water, Cond.codeWith yL_water cL_water 5 (some .int) [(0, 10, 13, 13), (0, 10, 17, 15), (0, 10, 21, 27)], Cond.classLink RL 27 "java/lang/IllegalStateException", Cond.methodLink RL 24 yX1_water, Cond.instanceMethod yX1_water, Cond.selects RX1 yX1_water yX1_water]
def wsL_law0_r7 : List Cond := [Cond.code yX1_water cX1_water 4 (some .int), Cond.classLink RX1 47 "java/lang/IllegalStateException", Cond.initialized "java/lang/IllegalStateException", Cond.fieldLink RX1 44 "LockBank$Canal" "bank" "I", Cond.methodLink RX1 54 yX0_pour, Cond.instanceMethod yX0_pour, Cond.selects RX0 yX0_pour yX0_pour, Cond.code yX0_pour cX0_pour 6 none, Cond.methodLink RX0 98 Lib.Math.min.name, Cond.static Lib.Math.min.name, Cond.initialized "java/lang/Math", Cond.code Lib.Math.min.name Lib.Math.min.code 2 (some .int), Cond.methodLink RL 92 yX3_water, Cond.instanceMethod yX3_water, Cond.selects RX3 yX3_water yX3_water, Cond.code yX3_water cX3_water 4 (some .int), Cond.methodLink RX3 115 yX2_pour, Cond.instanceMethod yX2_pour, Cond.selects RX2 yX2_pour yX2_pour, Cond.code yX2_pour cX2_pour 5 none, Cond.methodLink RX2 65 Lib.Math.max.name, Cond.static Lib.Math.max.name, Cond.code Lib.Math.max.name Lib.Math.max.code 2 (some .int), Cond.fieldLink RX2 58 "LockBankModel$State" "away" "I"]
def wsL_law0_r8 : List Cond := [Cond.methodLink RL 93 yL_work, Cond.static yL_work, Cond.codeWith yL_work cL_work 4 (some .int) [(0, 16, 19, 13), (0, 16, 22, 27)], Cond.methodLink RL 29 yX1_work, Cond.instanceMethod yX1_work, Cond.selects RX1 yX1_work yX1_work, Cond.code yX1_work cX1_work 2 (some .boolean), Cond.fieldLink RX1 58 "LockBank$Canal" "full" "[Z", Cond.methodLink RX1 62 yX0_canFill, Cond.instanceMethod yX0_canFill, Cond.selects RX0 yX0_canFill yX0_canFill, Cond.code yX0_canFill cX0_canFill 2 (some .boolean), Cond.methodLink RX1 68 yX0_turnChamber, Cond.instanceMethod yX0_turnChamber, Cond.selects RX0 yX0_turnChamber yX0_turnChamber, Cond.code yX0_turnChamber cX0_turnChamber 2 none, Cond.methodLink RX0 85 yX0_pour, Cond.methodLink RL 95 yX3_work, Cond.instanceMethod yX3_work, Cond.selects RX3 yX3_work yX3_work, Cond.code yX3_work cX3_work 2 (some .boolean), Cond.methodLink RX3 74 yX2_canFill, Cond.instanceMethod yX2_canFill, Cond.selects RX2 yX2_canFill yX2_canFill]
def wsL_law0_r9 : List Cond := [Cond.code yX2_canFill cX2_canFill 2 (some .boolean), Cond.methodLink RX3 88 yX2_empty, Cond.instanceMethod yX2_empty, Cond.selects RX2 yX2_empty yX2_empty, Cond.code yX2_empty cX2_empty 2 none, Cond.methodLink RX2 71 yX2_pour, Cond.methodLink RX3 84 yX2_fill, Cond.instanceMethod yX2_fill, Cond.selects RX2 yX2_fill yX2_fill, Cond.code yX2_fill cX2_fill 2 none, Cond.methodLink RL 96 yL_barge, Cond.static yL_barge, Cond.codeWith yL_barge cL_barge 6 (some .int) [(0, 12, 15, 13), (0, 12, 19, 15), (0, 12, 23, 27)], Cond.methodLink RL 33 yX1_barge, Cond.instanceMethod yX1_barge, Cond.selects RX1 yX1_barge yX1_barge, Cond.code yX1_barge cX1_barge 5 (some .int), Cond.fieldLink RX1 72 "LockBank$Canal" "barges" "I", Cond.fieldLink RX1 77 "LockBank$Canal" "at" "[I", Cond.fieldLink RX1 80 "LockBank$Canal" "goal" "[I", Cond.fieldLink RX1 83 "LockBank$Canal" "purse" "[I", Cond.methodLink RL 99 yX3_barge, Cond.instanceMethod yX3_barge, Cond.selects RX3 yX3_barge yX3_barge]
def wsL_law0_r10 : List Cond := [Cond.code yX3_barge cX3_barge 4 (some .int), Cond.fieldLink RX3 36 "LockBankModel" "barges" "I", Cond.methodLink RL 100 yL_send, Cond.static yL_send, Cond.codeWith yL_send cL_send 5 (some .int) [(0, 10, 13, 13)], Cond.methodLink RL 37 yX1_send, Cond.instanceMethod yX1_send, Cond.selects RX1 yX1_send yX1_send, Cond.code yX1_send cX1_send 4 (some .int), Cond.methodLink RL 102 yX3_send, Cond.instanceMethod yX3_send, Cond.selects RX3 yX3_send yX3_send, Cond.code yX3_send cX3_send 4 (some .int), Cond.methodLink RX3 138 yX3_isBarge, Cond.instanceMethod yX3_isBarge, Cond.selects RX3 yX3_isBarge yX3_isBarge, Cond.code yX3_isBarge cX3_isBarge 2 (some .boolean), Cond.methodLink RL 103 yL_told, Cond.static yL_told, Cond.codeWith yL_told cL_told 5 (some .int) [(0, 10, 13, 13)], Cond.methodLink RL 40 yX1_told, Cond.instanceMethod yX1_told, Cond.selects RX1 yX1_told yX1_told, Cond.code yX1_told cX1_told 3 (some .int)]
def wsL_law0_r11 : List Cond := [Cond.methodLink RX1 86 yX0_tellBarge, Cond.instanceMethod yX0_tellBarge, Cond.selects RX0 yX0_tellBarge yX0_tellBarge, Cond.code yX0_tellBarge cX0_tellBarge 3 (some .int), Cond.methodLink RX0 101 yX0_waitsAt, Cond.instanceMethod yX0_waitsAt, Cond.selects RX0 yX0_waitsAt yX0_waitsAt, Cond.code yX0_waitsAt cX0_waitsAt 2 (some .int), Cond.methodLink RX0 119 yX0_hasCome, Cond.instanceMethod yX0_hasCome, Cond.selects RX0 yX0_hasCome yX0_hasCome, Cond.code yX0_hasCome cX0_hasCome 2 (some .boolean), Cond.methodLink RX0 112 yX0_goesDown, Cond.instanceMethod yX0_goesDown, Cond.selects RX0 yX0_goesDown yX0_goesDown, Cond.code yX0_goesDown cX0_goesDown 2 (some .boolean), Cond.methodLink RL 105 yX3_told, Cond.instanceMethod yX3_told, Cond.selects RX3 yX3_told yX3_told, Cond.code yX3_told cX3_told 3 (some .int), Cond.methodLink RX3 141 yX3_bargeTold, Cond.instanceMethod yX3_bargeTold, Cond.selects RX3 yX3_bargeTold yX3_bargeTold, Cond.code yX3_bargeTold cX3_bargeTold 3 (some .int)]
def wsL_law0_r12 : List Cond := [Cond.methodLink RX3 46 yX3_lockOf, Cond.instanceMethod yX3_lockOf, Cond.selects RX3 yX3_lockOf yX3_lockOf, Cond.code yX3_lockOf cX3_lockOf 3 (some .int), Cond.methodLink RL 106 yL_pound, Cond.static yL_pound, Cond.codeWith yL_pound cL_pound 5 (some .int) [(0, 10, 13, 13)], Cond.methodLink RL 43 yX1_pound, Cond.instanceMethod yX1_pound, Cond.selects RX1 yX1_pound yX1_pound, Cond.code yX1_pound cX1_pound 3 (some .int), Cond.methodLink RX1 90 yX0_tellPound, Cond.instanceMethod yX0_tellPound, Cond.selects RX0 yX0_tellPound yX0_tellPound, Cond.code yX0_tellPound cX0_tellPound 3 (some .int), Cond.methodLink RX0 126 yX0_bargesAt, Cond.instanceMethod yX0_bargesAt, Cond.selects RX0 yX0_bargesAt yX0_bargesAt, Cond.code yX0_bargesAt cX0_bargesAt 4 (some .int), Cond.fieldLink RX0 72 "LockBank$Canal" "barges" "I", Cond.methodLink RL 108 yX3_pound, Cond.instanceMethod yX3_pound, Cond.selects RX3 yX3_pound yX3_pound, Cond.code yX3_pound cX3_pound 3 (some .int)]
def wsL_law0_r13 : List Cond := [Cond.methodLink RX3 150 yX3_poundTold, Cond.instanceMethod yX3_poundTold, Cond.selects RX3 yX3_poundTold yX3_poundTold, Cond.code yX3_poundTold cX3_poundTold 3 (some .int), Cond.methodLink RX3 144 yX3_bargesAt, Cond.instanceMethod yX3_bargesAt, Cond.selects RX3 yX3_bargesAt yX3_bargesAt, Cond.code yX3_bargesAt cX3_bargesAt 4 (some .int), Cond.methodLink RL 109 yL_lock, Cond.static yL_lock, Cond.codeWith yL_lock cL_lock 5 (some .int) [(0, 10, 13, 13)], Cond.methodLink RL 46 yX1_lock, Cond.instanceMethod yX1_lock, Cond.selects RX1 yX1_lock yX1_lock, Cond.code yX1_lock cX1_lock 3 (some .int), Cond.methodLink RX1 93 yX0_tellLock, Cond.instanceMethod yX0_tellLock, Cond.selects RX0 yX0_tellLock yX0_tellLock, Cond.code yX0_tellLock cX0_tellLock 3 (some .int), Cond.methodLink RX0 129 yX0_bargesWaitingAt, Cond.instanceMethod yX0_bargesWaitingAt, Cond.selects RX0 yX0_bargesWaitingAt yX0_bargesWaitingAt, Cond.code yX0_bargesWaitingAt cX0_bargesWaitingAt 4 (some .int), Cond.methodLink RX0 92 yX0_nextBarge]
def wsL_law0_r14 : List Cond := [Cond.instanceMethod yX0_nextBarge, Cond.selects RX0 yX0_nextBarge yX0_nextBarge, Cond.code yX0_nextBarge cX0_nextBarge 6 (some .int), Cond.methodLink RX0 105 yX0_canServe, Cond.instanceMethod yX0_canServe, Cond.selects RX0 yX0_canServe yX0_canServe, Cond.code yX0_canServe cX0_canServe 4 (some .boolean), Cond.fieldLink RX0 62 "LockBank$Canal" "drought" "Z", Cond.methodLink RX0 109 yX0_fits, Cond.instanceMethod yX0_fits, Cond.selects RX0 yX0_fits yX0_fits, Cond.code yX0_fits cX0_fits 3 (some .boolean), Cond.methodLink RX0 116 yX0_canFill, Cond.methodLink RL 111 yX3_lock, Cond.instanceMethod yX3_lock, Cond.selects RX3 yX3_lock yX3_lock, Cond.code yX3_lock cX3_lock 3 (some .int), Cond.methodLink RX3 159 yX3_lockTold, Cond.instanceMethod yX3_lockTold, Cond.selects RX3 yX3_lockTold yX3_lockTold, Cond.code yX3_lockTold cX3_lockTold 3 (some .int), Cond.methodLink RX3 153 yX3_waitingAt, Cond.instanceMethod yX3_waitingAt, Cond.selects RX3 yX3_waitingAt yX3_waitingAt]
def wsL_law0_r15 : List Cond := [Cond.code yX3_waitingAt cX3_waitingAt 4 (some .int), Cond.methodLink RX3 123 yX3_nextAt, Cond.instanceMethod yX3_nextAt, Cond.selects RX3 yX3_nextAt yX3_nextAt, Cond.code yX3_nextAt cX3_nextAt 5 (some .int), Cond.methodLink RX3 78 yX3_isWaiting, Cond.instanceMethod yX3_isWaiting, Cond.selects RX3 yX3_isWaiting yX3_isWaiting, Cond.code yX3_isWaiting cX3_isWaiting 4 (some .boolean), Cond.methodLink RX3 81 yX3_canServe, Cond.instanceMethod yX3_canServe, Cond.selects RX3 yX3_canServe yX3_canServe, Cond.code yX3_canServe cX3_canServe 4 (some .boolean), Cond.methodLink RX3 70 yX3_fits, Cond.instanceMethod yX3_fits, Cond.selects RX3 yX3_fits yX3_fits, Cond.code yX3_fits cX3_fits 4 (some .boolean), Cond.methodLink RX3 56 yX3_goesDown, Cond.instanceMethod yX3_goesDown, Cond.selects RX3 yX3_goesDown yX3_goesDown, Cond.code yX3_goesDown cX3_goesDown 3 (some .boolean), Cond.methodLink RL 112 yL_count, Cond.static yL_count, Cond.codeWith yL_count cL_count 4 (some .int) [(0, 9, 12, 13)]]
def wsL_law0_r16 : List Cond := [Cond.methodLink RL 49 yX1_count, Cond.instanceMethod yX1_count, Cond.selects RX1 yX1_count yX1_count, Cond.code yX1_count cX1_count 2 (some .int), Cond.methodLink RX1 96 yX0_tellWhole, Cond.instanceMethod yX0_tellWhole, Cond.selects RX0 yX0_tellWhole yX0_tellWhole, Cond.code yX0_tellWhole cX0_tellWhole 2 (some .int), Cond.fieldLink RX0 56 "LockBank$Canal" "hour" "I", Cond.fieldLink RX0 59 "LockBank$Canal" "bank" "I", Cond.methodLink RX0 132 yX0_bargesThatHaveCome, Cond.instanceMethod yX0_bargesThatHaveCome, Cond.selects RX0 yX0_bargesThatHaveCome yX0_bargesThatHaveCome, Cond.code yX0_bargesThatHaveCome cX0_bargesThatHaveCome 3 (some .int), Cond.methodLink RX0 135 yX0_waterOfAll, Cond.instanceMethod yX0_waterOfAll, Cond.selects RX0 yX0_waterOfAll yX0_waterOfAll, Cond.code yX0_waterOfAll cX0_waterOfAll 3 (some .int), Cond.methodLink RX0 138 yX0_fullChambers, Cond.instanceMethod yX0_fullChambers, Cond.selects RX0 yX0_fullChambers yX0_fullChambers, Cond.code yX0_fullChambers cX0_fullChambers 3 (some .int), Cond.methodLink RL 114 yX3_count, Cond.instanceMethod yX3_count]
def wsL_law0_r17 : List Cond := [Cond.selects RX3 yX3_count yX3_count, Cond.code yX3_count cX3_count 2 (some .int), Cond.methodLink RX3 175 yX3_counted, Cond.instanceMethod yX3_counted, Cond.selects RX3 yX3_counted yX3_counted, Cond.code yX3_counted cX3_counted 3 (some .int), Cond.methodLink RX3 162 yX3_come, Cond.instanceMethod yX3_come, Cond.selects RX3 yX3_come yX3_come, Cond.code yX3_come cX3_come 4 (some .int), Cond.methodLink RX3 165 yX2_allWater, Cond.instanceMethod yX2_allWater, Cond.selects RX2 yX2_allWater yX2_allWater, Cond.code yX2_allWater cX2_allWater 6 (some .int), Cond.methodLink RX3 169 yX2_fullOnes, Cond.instanceMethod yX2_fullOnes, Cond.selects RX2 yX2_fullOnes yX2_fullOnes, Cond.code yX2_fullOnes cX2_fullOnes 6 (some .int), Cond.methodLink RL 115 yL_pass, Cond.static yL_pass, Cond.codeWith yL_pass cL_pass 4 (some .int) [(0, 9, 12, 15)], Cond.methodLink RL 52 yX1_pass, Cond.instanceMethod yX1_pass, Cond.selects RX1 yX1_pass yX1_pass]
def wsL_law0_r18 : List Cond := [Cond.code yX1_pass cX1_pass 2 (some .int), Cond.methodLink RX1 100 yX0_goHours, Cond.instanceMethod yX0_goHours, Cond.selects RX0 yX0_goHours yX0_goHours, Cond.code yX0_goHours cX0_goHours 4 (some .int), Cond.methodLink RX0 75 yX0_goHour, Cond.instanceMethod yX0_goHour, Cond.selects RX0 yX0_goHour yX0_goHour, Cond.code yX0_goHour cX0_goHour 5 (some .int), Cond.methodLink RX0 79 yJ9_floorMod_7cf53, Cond.static yJ9_floorMod_7cf53, Cond.initialized RJ9, Cond.code yJ9_floorMod_7cf53 cJ9_floorMod_7cf53 3 (some .int), Cond.methodLink RX0 89 yX0_turnMill, Cond.instanceMethod yX0_turnMill, Cond.selects RX0 yX0_turnMill yX0_turnMill, Cond.code yX0_turnMill cX0_turnMill 3 none, Cond.methodLink RX0 95 yX0_serve, Cond.instanceMethod yX0_serve, Cond.selects RX0 yX0_serve yX0_serve, Cond.code yX0_serve cX0_serve 3 none, Cond.methodLink RX0 122 yX0_turnChamber, Cond.methodLink RL 117 yX3_pass_, Cond.instanceMethod yX3_pass_]
def wsL_law0_r19 : List Cond := [Cond.selects RX3 yX3_pass_ yX3_pass_, Cond.code yX3_pass_ cX3_pass_ 2 (some .int), Cond.methodLink RX3 178 yX3_passAll, Cond.instanceMethod yX3_passAll, Cond.selects RX3 yX3_passAll yX3_passAll, Cond.code yX3_passAll cX3_passAll 5 (some .int), Cond.methodLink RX3 130 yX3_pass, Cond.instanceMethod yX3_pass, Cond.selects RX3 yX3_pass yX3_pass, Cond.code yX3_pass cX3_pass 5 (some .int), Cond.methodLink RX3 119 yX3_grind, Cond.instanceMethod yX3_grind, Cond.selects RX3 yX3_grind yX3_grind, Cond.code yX3_grind cX3_grind 3 none, Cond.methodLink RX3 106 Lib.Math.min.name, Cond.methodLink RX3 126 yX3_serve, Cond.instanceMethod yX3_serve, Cond.selects RX3 yX3_serve yX3_serve, Cond.code yX3_serve cX3_serve 4 none, Cond.methodLink RL 118 yL_arrives, Cond.static yL_arrives, Cond.codeWith yL_arrives cL_arrives 4 (some .int) [(0, 9, 12, 13)], Cond.methodLink RL 55 yX1_arrives, Cond.instanceMethod yX1_arrives]
def wsL_law0_r20 : List Cond := [Cond.selects RX1 yX1_arrives yX1_arrives, Cond.code yX1_arrives cX1_arrives 3 (some .int), Cond.methodLink RX1 103 yX0_copyFrom, Cond.instanceMethod yX0_copyFrom, Cond.selects RX0 yX0_copyFrom yX0_copyFrom, Cond.code yX0_copyFrom cX0_copyFrom 2 none, Cond.methodLink RX0 66 arraycopyName, Cond.native arraycopyName, Cond.static arraycopyName, Cond.initialized "java/lang/System", Cond.methodLink RX1 107 yX0_hasCome, Cond.methodLink RX1 110 yX0_goHour, Cond.methodLink RL 120 yX3_arrives, Cond.instanceMethod yX3_arrives, Cond.selects RX3 yX3_arrives yX3_arrives, Cond.code yX3_arrives cX3_arrives 3 (some .int), Cond.methodLink RX3 181 yX2_become, Cond.instanceMethod yX2_become, Cond.selects RX2 yX2_become yX2_become, Cond.code yX2_become cX2_become 2 (some (.object "LockBankModel$State")), Cond.fieldLink RX2 52 "LockBankModel$State" "hour" "I", Cond.fieldLink RX2 55 "LockBankModel$State" "bank" "I", Cond.methodLink RX2 61 yX2_copy, Cond.static yX2_copy]
def wsL_law0_r21 : List Cond := [Cond.code yX2_copy cX2_copy 2 none, Cond.methodLink RX2 46 arraycopyName, Cond.methodLink RL 121 yL_foresee, Cond.static yL_foresee, Cond.codeWith yL_foresee cL_foresee 5 (some .int) [(0, 10, 13, 15), (0, 10, 17, 13)], Cond.methodLink RL 58 yX1_foresee, Cond.instanceMethod yX1_foresee, Cond.selects RX1 yX1_foresee yX1_foresee, Cond.code yX1_foresee cX1_foresee 3 (some .int), Cond.methodLink RL 123 yX3_foresee, Cond.instanceMethod yX3_foresee, Cond.selects RX3 yX3_foresee yX3_foresee, Cond.code yX3_foresee cX3_foresee 3 (some .int), Cond.methodLink RL 124 yL_advise, Cond.static yL_advise, Cond.codeWith yL_advise cL_advise 4 (some .int) [(0, 9, 12, 15)], Cond.methodLink RL 61 yX1_advise, Cond.instanceMethod yX1_advise, Cond.selects RX1 yX1_advise yX1_advise, Cond.code yX1_advise cX1_advise 5 (some .int), Cond.methodLink RL 126 yX3_advise, Cond.instanceMethod yX3_advise, Cond.selects RX3 yX3_advise yX3_advise, Cond.code yX3_advise cX3_advise 5 (some .int)]
def wsL_law0_r22 : List Cond := [Cond.methodLink RL 127 yX1_stops, Cond.instanceMethod yX1_stops, Cond.selects RX1 yX1_stops yX1_stops, Cond.code yX1_stops cX1_stops 2 (some .int), Cond.methodLink RL 130 yX3_stops, Cond.instanceMethod yX3_stops, Cond.selects RX3 yX3_stops yX3_stops, Cond.code yX3_stops cX3_stops 2 (some .int), Cond.methodLink RL 131 yX1_mean, Cond.instanceMethod yX1_mean, Cond.selects RX1 yX1_mean yX1_mean, Cond.code yX1_mean cX1_mean 1 (some .double), Cond.constantDouble RX1 117 (4618441417868443648), Cond.methodLink RX1 114 yX0_waterOfAll, Cond.methodLink RL 135 yX3_mean, Cond.instanceMethod yX3_mean, Cond.selects RX3 yX3_mean yX3_mean, Cond.code yX3_mean cX3_mean 1 (some .double), Cond.constantDouble RX3 185 (4618441417868443648), Cond.methodLink RL 136 yX1_digest, Cond.instanceMethod yX1_digest, Cond.selects RX1 yX1_digest yX1_digest, Cond.code yX1_digest cX1_digest 5 (some .long), Cond.constantLong RX1 119 (1453)]
def wsL_law0_r23 : List Cond := [Cond.methodLink RX1 121 yX1_mix, Cond.static yX1_mix, Cond.code yX1_mix cX1_mix 3 (some .long), Cond.constantLong RX1 125 (31), Cond.methodLink RL 140 yX3_digest, Cond.instanceMethod yX3_digest, Cond.selects RX3 yX3_digest yX3_digest, Cond.code yX3_digest cX3_digest 7 (some .long), Cond.constantLong RX3 187 (1453), Cond.constantLong RX3 189 (31)]
def wsL_law0 : List Cond := (wsL_law0_r1 ++ (wsL_law0_r2 ++ (wsL_law0_r3 ++ (wsL_law0_r4 ++ (wsL_law0_r5 ++ (wsL_law0_r6 ++ (wsL_law0_r7 ++ (wsL_law0_r8 ++ (wsL_law0_r9 ++ (wsL_law0_r10 ++ (wsL_law0_r11 ++ (wsL_law0_r12 ++ (wsL_law0_r13 ++ (wsL_law0_r14 ++ (wsL_law0_r15 ++ (wsL_law0_r16 ++ (wsL_law0_r17 ++ (wsL_law0_r18 ++ (wsL_law0_r19 ++ (wsL_law0_r20 ++ (wsL_law0_r21 ++ (wsL_law0_r22 ++ wsL_law0_r23)))))))))))))))))))))) ++ wsX10 ++ wsX30 ++ wsX00 ++ wsX20 ++ ([] : List Cond)
def wsL_law : List Cond := wsL_law0 ++ (vx_atS RX1 131 "java/lang/IndexOutOfBoundsException" ["java/lang/RuntimeException", "java/lang/Exception"]).filter goodWord ++ (vx_atS RX1 136 "java/lang/IllegalArgumentException" ["java/lang/RuntimeException", "java/lang/Exception"]).filter goodWord ++ (vx_atS RX1 51 "java/lang/IllegalStateException" ["java/lang/RuntimeException", "java/lang/Exception"]).filter goodWord
abbrev vwCl : List vw_C := [(RX0, TX0, 18), (RX1, TX1, 2), (RX2, TX2, 14), (RX3, TX3, 9)]
end
section
set_option maxRecDepth 20000 in
theorem wsL_law_c1 : ∀ w ∈ wsL_law0_r1, w ∈ lw_tbl := fun w h => (goodIn_p wsL_law0_r1 [37, 40, 45] (by decide +kernel) (by decide +kernel) w h).1
set_option maxRecDepth 20000 in
theorem wsL_law_c2 : ∀ w ∈ wsL_law0_r2, w ∈ lw_tbl := fun w h => (goodIn_p wsL_law0_r2 [471] (by decide +kernel) (by decide +kernel) w h).1
set_option maxRecDepth 20000 in
theorem wsL_law_c3 : ∀ w ∈ wsL_law0_r3, w ∈ lw_tbl := fun w h => (goodIn_p wsL_law0_r3 [477] (by decide +kernel) (by decide +kernel) w h).1
set_option maxRecDepth 20000 in
theorem wsL_law_c4 : ∀ w ∈ wsL_law0_r4, w ∈ lw_tbl := fun w h => (goodIn_p wsL_law0_r4 [250, 253, 324, 571, 574] (by decide +kernel) (by decide +kernel) w h).1
set_option maxRecDepth 20000 in
theorem wsL_law_c5 : ∀ w ∈ wsL_law0_r5, w ∈ lw_tbl := fun w h => (goodIn_p wsL_law0_r5 [578, 567, 347, 582, 125] (by decide +kernel) (by decide +kernel) w h).1
set_option maxRecDepth 20000 in
theorem wsL_law_c6 : ∀ w ∈ wsL_law0_r6, w ∈ lw_tbl := fun w h => (goodIn_p wsL_law0_r6 [586, 354, 590] (by decide +kernel) (by decide +kernel) w h).1
set_option maxRecDepth 20000 in
theorem wsL_law_c7 : ∀ w ∈ wsL_law0_r7, w ∈ lw_tbl := fun w h => (goodIn_p wsL_law0_r7 [362, 147, 150, 594, 598, 601] (by decide +kernel) (by decide +kernel) w h).1
set_option maxRecDepth 20000 in
theorem wsL_law_c8 : ∀ w ∈ wsL_law0_r8, w ∈ lw_tbl := fun w h => (goodIn_p wsL_law0_r8 [386, 182, 190, 605] (by decide +kernel) (by decide +kernel) w h).1
set_option maxRecDepth 20000 in
theorem wsL_law_c9 : ∀ w ∈ wsL_law0_r9, w ∈ lw_tbl := fun w h => (goodIn_p wsL_law0_r9 [609, 613, 618, 396] (by decide +kernel) (by decide +kernel) w h).1
set_option maxRecDepth 20000 in
theorem wsL_law_c10 : ∀ w ∈ wsL_law0_r10, w ∈ lw_tbl := fun w h => (goodIn_p wsL_law0_r10 [622, 404, 626, 630, 411] (by decide +kernel) (by decide +kernel) w h).1
set_option maxRecDepth 20000 in
theorem wsL_law_c11 : ∀ w ∈ wsL_law0_r11, w ∈ lw_tbl := fun w h => (goodIn_p wsL_law0_r11 [241, 162, 166, 170, 634, 638] (by decide +kernel) (by decide +kernel) w h).1
set_option maxRecDepth 20000 in
theorem wsL_law_c12 : ∀ w ∈ wsL_law0_r12, w ∈ lw_tbl := fun w h => (goodIn_p wsL_law0_r12 [642, 418, 225, 229, 646] (by decide +kernel) (by decide +kernel) w h).1
set_option maxRecDepth 20000 in
theorem wsL_law_c13 : ∀ w ∈ wsL_law0_r13, w ∈ lw_tbl := fun w h => (goodIn_p wsL_law0_r13 [650, 654, 425, 233, 237] (by decide +kernel) (by decide +kernel) w h).1
set_option maxRecDepth 20000 in
theorem wsL_law_c14 : ∀ w ∈ wsL_law0_r14, w ∈ lw_tbl := fun w h => (goodIn_p wsL_law0_r14 [158, 174, 178, 658, 662] (by decide +kernel) (by decide +kernel) w h).1
set_option maxRecDepth 20000 in
theorem wsL_law_c15 : ∀ w ∈ wsL_law0_r15, w ∈ lw_tbl := fun w h => (goodIn_p wsL_law0_r15 [666, 670, 674, 678, 682, 686] (by decide +kernel) (by decide +kernel) w h).1
set_option maxRecDepth 20000 in
theorem wsL_law_c16 : ∀ w ∈ wsL_law0_r16, w ∈ lw_tbl := fun w h => (goodIn_p wsL_law0_r16 [432, 208, 212, 198, 217] (by decide +kernel) (by decide +kernel) w h).1
set_option maxRecDepth 20000 in
theorem wsL_law_c17 : ∀ w ∈ wsL_law0_r17, w ∈ lw_tbl := fun w h => (goodIn_p wsL_law0_r17 [690, 694, 698, 702, 706] (by decide +kernel) (by decide +kernel) w h).1
set_option maxRecDepth 20000 in
theorem wsL_law_c18 : ∀ w ∈ wsL_law0_r18, w ∈ lw_tbl := fun w h => (goodIn_p wsL_law0_r18 [439, 443, 140, 143, 154, 186] (by decide +kernel) (by decide +kernel) w h).1
set_option maxRecDepth 20000 in
theorem wsL_law_c19 : ∀ w ∈ wsL_law0_r19, w ∈ lw_tbl := fun w h => (goodIn_p wsL_law0_r19 [710, 714, 718, 722, 727] (by decide +kernel) (by decide +kernel) w h).1
set_option maxRecDepth 20000 in
theorem wsL_law_c20 : ∀ w ∈ wsL_law0_r20, w ∈ lw_tbl := fun w h => (goodIn_p wsL_law0_r20 [451, 133, 731, 735] (by decide +kernel) (by decide +kernel) w h).1
set_option maxRecDepth 20000 in
theorem wsL_law_c21 : ∀ w ∈ wsL_law0_r21, w ∈ lw_tbl := fun w h => (goodIn_p wsL_law0_r21 [738, 459, 743, 466, 747] (by decide +kernel) (by decide +kernel) w h).1
set_option maxRecDepth 20000 in
theorem wsL_law_c22 : ∀ w ∈ wsL_law0_r22, w ∈ lw_tbl := fun w h => (goodIn_p wsL_law0_r22 [129, 751, 194, 755, 203] (by decide +kernel) (by decide +kernel) w h).1
set_option maxRecDepth 20000 in
theorem wsL_law_c23 : ∀ w ∈ wsL_law0_r23, w ∈ lw_tbl := fun w h => (goodIn_p wsL_law0_r23 [220, 760] (by decide +kernel) (by decide +kernel) w h).1
theorem wsL_law_f_wsX10 : ∀ w ∈ wsX10, w ∈ lw_tbl := by decide +kernel
theorem wsL_law_f_wsX30 : ∀ w ∈ wsX30, w ∈ lw_tbl := by decide +kernel
theorem wsL_law_f_wsX00 : ∀ w ∈ wsX00, w ∈ lw_tbl := by decide +kernel
theorem wsL_law_f_wsX20 : ∀ w ∈ wsX20, w ∈ lw_tbl := by decide +kernel
theorem wsL_law_in0 : ∀ w ∈ wsL_law0, w ∈ lw_tbl := fun w h => (List.mem_append.mp h).elim (fun h => (List.mem_append.mp h).elim (fun h => (List.mem_append.mp h).elim (fun h => (List.mem_append.mp h).elim (fun h => (List.mem_append.mp h).elim (fun h => (List.mem_append.mp h).elim (wsL_law_c1 w) (fun h => (List.mem_append.mp h).elim (wsL_law_c2 w) (fun h => (List.mem_append.mp h).elim (wsL_law_c3 w) (fun h => (List.mem_append.mp h).elim (wsL_law_c4 w) (fun h => (List.mem_append.mp h).elim (wsL_law_c5 w) (fun h => (List.mem_append.mp h).elim (wsL_law_c6 w) (fun h => (List.mem_append.mp h).elim (wsL_law_c7 w) (fun h => (List.mem_append.mp h).elim (wsL_law_c8 w) (fun h => (List.mem_append.mp h).elim (wsL_law_c9 w) (fun h => (List.mem_append.mp h).elim (wsL_law_c10 w) (fun h => (List.mem_append.mp h).elim (wsL_law_c11 w) (fun h => (List.mem_append.mp h).elim (wsL_law_c12 w) (fun h => (List.mem_append.mp h).elim (wsL_law_c13 w) (fun h => (List.mem_append.mp h).elim (wsL_law_c14 w) (fun h => (List.mem_append.mp h).elim (wsL_law_c15 w) (fun h => (List.mem_append.mp h).elim (wsL_law_c16 w) (fun h => (List.mem_append.mp h).elim (wsL_law_c17 w) (fun h => (List.mem_append.mp h).elim (wsL_law_c18 w) (fun h => (List.mem_append.mp h).elim (wsL_law_c19 w) (fun h => (List.mem_append.mp h).elim (wsL_law_c20 w) (fun h => (List.mem_append.mp h).elim (wsL_law_c21 w) (fun h => (List.mem_append.mp h).elim (wsL_law_c22 w) (fun h => wsL_law_c23 w h))))))))))))))))))))))) (wsL_law_f_wsX10 w)) (wsL_law_f_wsX30 w)) (wsL_law_f_wsX00 w)) (wsL_law_f_wsX20 w)) (fun h => absurd h List.not_mem_nil)
theorem wsL_law_x0 : ∀ w ∈ (vx_atS RX1 131 "java/lang/IndexOutOfBoundsException" ["java/lang/RuntimeException", "java/lang/Exception"]).filter goodWord, w ∈ lw_tbl := by decide +kernel
theorem wsL_law_x1 : ∀ w ∈ (vx_atS RX1 136 "java/lang/IllegalArgumentException" ["java/lang/RuntimeException", "java/lang/Exception"]).filter goodWord, w ∈ lw_tbl := by decide +kernel
theorem wsL_law_x2 : ∀ w ∈ (vx_atS RX1 51 "java/lang/IllegalStateException" ["java/lang/RuntimeException", "java/lang/Exception"]).filter goodWord, w ∈ lw_tbl := by decide +kernel
theorem wsL_law_in : ∀ w ∈ wsL_law, w ∈ lw_tbl := fun w h => (List.mem_append.mp h).elim (fun h => (List.mem_append.mp h).elim (fun h => (List.mem_append.mp h).elim (fun h => wsL_law_in0 w h) (fun h => wsL_law_x0 w h)) (fun h => wsL_law_x1 w h)) (fun h => wsL_law_x2 w h)
theorem inlX0 : ∀ w ∈ wsX00, w ∈ wsL_law := fun _ h => List.mem_append_left _ (List.mem_append_left _ (List.mem_append_left _ (List.mem_append_left _ (List.mem_append_left _ (List.mem_append_right _ h)))))
theorem inX0 : ∀ w ∈ wsX00, w ∈ lw_tbl := fun w h => wsL_law_in w (inlX0 w h)
theorem inlX1 : ∀ w ∈ wsX10, w ∈ wsL_law := fun _ h => List.mem_append_left _ (List.mem_append_left _ (List.mem_append_left _ (List.mem_append_left _ (List.mem_append_left _ (List.mem_append_left _ (List.mem_append_left _ (List.mem_append_right _ h)))))))
theorem inX1 : ∀ w ∈ wsX10, w ∈ lw_tbl := fun w h => wsL_law_in w (inlX1 w h)
theorem inlX2 : ∀ w ∈ wsX20, w ∈ wsL_law := fun _ h => List.mem_append_left _ (List.mem_append_left _ (List.mem_append_left _ (List.mem_append_left _ (List.mem_append_right _ h))))
theorem inX2 : ∀ w ∈ wsX20, w ∈ lw_tbl := fun w h => wsL_law_in w (inlX2 w h)
theorem inlX3 : ∀ w ∈ wsX30, w ∈ wsL_law := fun _ h => List.mem_append_left _ (List.mem_append_left _ (List.mem_append_left _ (List.mem_append_left _ (List.mem_append_left _ (List.mem_append_left _ (List.mem_append_right _ h))))))
theorem inX3 : ∀ w ∈ wsX30, w ∈ lw_tbl := fun w h => wsL_law_in w (inlX3 w h)
theorem inJ9 : ∀ w ∈ wsJ90, w ∈ lw_tbl := by decide +kernel
theorem inJ0 : ∀ w ∈ wsJ00, w ∈ lw_tbl := by decide +kernel
theorem inJ10 : ∀ w ∈ wsJ100, w ∈ lw_tbl := by decide +kernel
end
section
theorem dX0_init_0 : decode cX0_init 0 = .ok (.aload_n 0, 1) := by decide +kernel
theorem dX0_init_1 : decode cX0_init 1 = .ok (.invokespecial 3, 3) := by decide +kernel
theorem dX0_init_4 : decode cX0_init 4 = .ok (.aload_n 0, 1) := by decide +kernel
theorem dX0_init_5 : decode cX0_init 5 = .ok (.iconst 1, 1) := by decide +kernel
theorem dX0_init_6 : decode cX0_init 6 = .ok (.putfield 9, 3) := by decide +kernel
theorem dX0_init_9 : decode cX0_init 9 = .ok (.aload_n 0, 1) := by decide +kernel
theorem dX0_init_10 : decode cX0_init 10 = .ok (.iconst (-1), 1) := by decide +kernel
theorem dX0_init_11 : decode cX0_init 11 = .ok (.putfield 15, 3) := by decide +kernel
theorem dX0_init_14 : decode cX0_init 14 = .ok (.aload_n 0, 1) := by decide +kernel
theorem dX0_init_15 : decode cX0_init 15 = .ok (.bipush 50, 2) := by decide +kernel
theorem dX0_init_17 : decode cX0_init 17 = .ok (.putfield 18, 3) := by decide +kernel
theorem dX0_init_20 : decode cX0_init 20 = .ok (.aload_n 0, 1) := by decide +kernel
theorem dX0_init_21 : decode cX0_init 21 = .ok (.bipush 8, 2) := by decide +kernel
theorem dX0_init_23 : decode cX0_init 23 = .ok (.newarray .int, 2) := by decide +kernel
theorem dX0_init_25 : decode cX0_init 25 = .ok (.putfield 21, 3) := by decide +kernel
theorem dX0_init_28 : decode cX0_init 28 = .ok (.aload_n 0, 1) := by decide +kernel
theorem dX0_init_29 : decode cX0_init 29 = .ok (.bipush 6, 2) := by decide +kernel
theorem dX0_init_31 : decode cX0_init 31 = .ok (.newarray .int, 2) := by decide +kernel
theorem dX0_init_33 : decode cX0_init 33 = .ok (.putfield 25, 3) := by decide +kernel
theorem dX0_init_36 : decode cX0_init 36 = .ok (.aload_n 0, 1) := by decide +kernel
theorem dX0_init_37 : decode cX0_init 37 = .ok (.bipush 6, 2) := by decide +kernel
theorem dX0_init_39 : decode cX0_init 39 = .ok (.newarray .int, 2) := by decide +kernel
theorem dX0_init_41 : decode cX0_init 41 = .ok (.putfield 28, 3) := by decide +kernel
theorem dX0_init_44 : decode cX0_init 44 = .ok (.aload_n 0, 1) := by decide +kernel
theorem dX0_init_45 : decode cX0_init 45 = .ok (.bipush 6, 2) := by decide +kernel
theorem dX0_init_47 : decode cX0_init 47 = .ok (.newarray .int, 2) := by decide +kernel
theorem dX0_init_49 : decode cX0_init 49 = .ok (.putfield 31, 3) := by decide +kernel
theorem dX0_init_52 : decode cX0_init 52 = .ok (.aload_n 0, 1) := by decide +kernel
theorem dX0_init_53 : decode cX0_init 53 = .ok (.iconst 5, 1) := by decide +kernel
theorem dX0_init_54 : decode cX0_init 54 = .ok (.newarray .boolean, 2) := by decide +kernel
theorem dX0_init_56 : decode cX0_init 56 = .ok (.putfield 34, 3) := by decide +kernel
theorem dX0_init_59 : decode cX0_init 59 = .ok (.aload_n 0, 1) := by decide +kernel
theorem dX0_init_60 : decode cX0_init 60 = .ok (.iconst 5, 1) := by decide +kernel
theorem dX0_init_61 : decode cX0_init 61 = .ok (.newarray .int, 2) := by decide +kernel
theorem dX0_init_63 : decode cX0_init 63 = .ok (.putfield 38, 3) := by decide +kernel
theorem dX0_init_66 : decode cX0_init 66 = .ok (.aload_n 0, 1) := by decide +kernel
theorem dX0_init_67 : decode cX0_init 67 = .ok (.iconst 5, 1) := by decide +kernel
theorem dX0_init_68 : decode cX0_init 68 = .ok (.newarray .int, 2) := by decide +kernel
theorem dX0_init_70 : decode cX0_init 70 = .ok (.putfield 41, 3) := by decide +kernel
theorem dX0_init_73 : decode cX0_init 73 = .ok (.aload_n 0, 1) := by decide +kernel
theorem dX0_init_74 : decode cX0_init 74 = .ok (.bipush 10, 2) := by decide +kernel
theorem dX0_init_76 : decode cX0_init 76 = .ok (.newarray .int, 2) := by decide +kernel
theorem dX0_init_78 : decode cX0_init 78 = .ok (.putfield 44, 3) := by decide +kernel
theorem dX0_init_81 : decode cX0_init 81 = .ok (.aload_n 0, 1) := by decide +kernel
theorem dX0_init_82 : decode cX0_init 82 = .ok (.bipush 10, 2) := by decide +kernel
theorem dX0_init_84 : decode cX0_init 84 = .ok (.newarray .int, 2) := by decide +kernel
theorem dX0_init_86 : decode cX0_init 86 = .ok (.putfield 47, 3) := by decide +kernel
theorem dX0_init_89 : decode cX0_init 89 = .ok (.aload_n 0, 1) := by decide +kernel
theorem dX0_init_90 : decode cX0_init 90 = .ok (.bipush 10, 2) := by decide +kernel
theorem dX0_init_92 : decode cX0_init 92 = .ok (.newarray .int, 2) := by decide +kernel
theorem dX0_init_94 : decode cX0_init 94 = .ok (.putfield 50, 3) := by decide +kernel
theorem dX0_init_97 : decode cX0_init 97 = .ok (.aload_n 0, 1) := by decide +kernel
theorem dX0_init_98 : decode cX0_init 98 = .ok (.bipush 10, 2) := by decide +kernel
theorem dX0_init_100 : decode cX0_init 100 = .ok (.newarray .int, 2) := by decide +kernel
theorem dX0_init_102 : decode cX0_init 102 = .ok (.putfield 53, 3) := by decide +kernel
theorem dX0_init_105 : decode cX0_init 105 = .ok (.iconst 0, 1) := by decide +kernel
theorem dX0_init_106 : decode cX0_init 106 = .ok (.istore_n 1, 1) := by decide +kernel
theorem dX0_init_107 : decode cX0_init 107 = .ok (.iload_n 1, 1) := by decide +kernel
theorem dX0_init_108 : decode cX0_init 108 = .ok (.bipush 8, 2) := by decide +kernel
theorem dX0_init_110 : decode cX0_init 110 = .ok (.if_icmp .ge 17, 3) := by decide +kernel
theorem dX0_init_113 : decode cX0_init 113 = .ok (.aload_n 0, 1) := by decide +kernel
theorem dX0_init_114 : decode cX0_init 114 = .ok (.getfield 21, 3) := by decide +kernel
theorem dX0_init_117 : decode cX0_init 117 = .ok (.iload_n 1, 1) := by decide +kernel
theorem dX0_init_118 : decode cX0_init 118 = .ok (.bipush 8, 2) := by decide +kernel
theorem dX0_init_120 : decode cX0_init 120 = .ok (.iastore, 1) := by decide +kernel
theorem dX0_init_121 : decode cX0_init 121 = .ok (.iinc 1 1, 3) := by decide +kernel
theorem dX0_init_124 : decode cX0_init 124 = .ok (.goto (-17), 3) := by decide +kernel
theorem dX0_init_127 : decode cX0_init 127 = .ok (.iconst 0, 1) := by decide +kernel
theorem dX0_init_128 : decode cX0_init 128 = .ok (.istore_n 1, 1) := by decide +kernel
theorem dX0_init_129 : decode cX0_init 129 = .ok (.iload_n 1, 1) := by decide +kernel
theorem dX0_init_130 : decode cX0_init 130 = .ok (.bipush 6, 2) := by decide +kernel
theorem dX0_init_132 : decode cX0_init 132 = .ok (.if_icmp .ge 17, 3) := by decide +kernel
theorem dX0_init_135 : decode cX0_init 135 = .ok (.aload_n 0, 1) := by decide +kernel
theorem dX0_init_136 : decode cX0_init 136 = .ok (.getfield 25, 3) := by decide +kernel
theorem dX0_init_139 : decode cX0_init 139 = .ok (.iload_n 1, 1) := by decide +kernel
theorem dX0_init_140 : decode cX0_init 140 = .ok (.bipush 60, 2) := by decide +kernel
theorem dX0_init_142 : decode cX0_init 142 = .ok (.iastore, 1) := by decide +kernel
theorem dX0_init_143 : decode cX0_init 143 = .ok (.iinc 1 1, 3) := by decide +kernel
theorem dX0_init_146 : decode cX0_init 146 = .ok (.goto (-17), 3) := by decide +kernel
theorem dX0_init_149 : decode cX0_init 149 = .ok (.return_, 1) := by decide +kernel
theorem dX0_copyFrom_0 : decode cX0_copyFrom 0 = .ok (.aload_n 0, 1) := by decide +kernel
theorem dX0_copyFrom_1 : decode cX0_copyFrom 1 = .ok (.aload_n 1, 1) := by decide +kernel
theorem dX0_copyFrom_2 : decode cX0_copyFrom 2 = .ok (.getfield 56, 3) := by decide +kernel
theorem dX0_copyFrom_5 : decode cX0_copyFrom 5 = .ok (.putfield 56, 3) := by decide +kernel
theorem dX0_copyFrom_8 : decode cX0_copyFrom 8 = .ok (.aload_n 0, 1) := by decide +kernel
theorem dX0_copyFrom_9 : decode cX0_copyFrom 9 = .ok (.aload_n 1, 1) := by decide +kernel
theorem dX0_copyFrom_10 : decode cX0_copyFrom 10 = .ok (.getfield 59, 3) := by decide +kernel
theorem dX0_copyFrom_13 : decode cX0_copyFrom 13 = .ok (.putfield 59, 3) := by decide +kernel
theorem dX0_copyFrom_16 : decode cX0_copyFrom 16 = .ok (.aload_n 0, 1) := by decide +kernel
theorem dX0_copyFrom_17 : decode cX0_copyFrom 17 = .ok (.aload_n 1, 1) := by decide +kernel
theorem dX0_copyFrom_18 : decode cX0_copyFrom 18 = .ok (.getfield 9, 3) := by decide +kernel
theorem dX0_copyFrom_21 : decode cX0_copyFrom 21 = .ok (.putfield 9, 3) := by decide +kernel
theorem dX0_copyFrom_24 : decode cX0_copyFrom 24 = .ok (.aload_n 0, 1) := by decide +kernel
theorem dX0_copyFrom_25 : decode cX0_copyFrom 25 = .ok (.aload_n 1, 1) := by decide +kernel
theorem dX0_copyFrom_26 : decode cX0_copyFrom 26 = .ok (.getfield 62, 3) := by decide +kernel
theorem dX0_copyFrom_29 : decode cX0_copyFrom 29 = .ok (.putfield 62, 3) := by decide +kernel
theorem dX0_copyFrom_32 : decode cX0_copyFrom 32 = .ok (.aload_n 0, 1) := by decide +kernel
theorem dX0_copyFrom_33 : decode cX0_copyFrom 33 = .ok (.aload_n 1, 1) := by decide +kernel
theorem dX0_copyFrom_34 : decode cX0_copyFrom 34 = .ok (.getfield 15, 3) := by decide +kernel
theorem dX0_copyFrom_37 : decode cX0_copyFrom 37 = .ok (.putfield 15, 3) := by decide +kernel
theorem dX0_copyFrom_40 : decode cX0_copyFrom 40 = .ok (.aload_n 0, 1) := by decide +kernel
theorem dX0_copyFrom_41 : decode cX0_copyFrom 41 = .ok (.aload_n 1, 1) := by decide +kernel
theorem dX0_copyFrom_42 : decode cX0_copyFrom 42 = .ok (.getfield 18, 3) := by decide +kernel
theorem dX0_copyFrom_45 : decode cX0_copyFrom 45 = .ok (.putfield 18, 3) := by decide +kernel
theorem dX0_copyFrom_48 : decode cX0_copyFrom 48 = .ok (.aload_n 1, 1) := by decide +kernel
theorem dX0_copyFrom_49 : decode cX0_copyFrom 49 = .ok (.getfield 21, 3) := by decide +kernel
theorem dX0_copyFrom_52 : decode cX0_copyFrom 52 = .ok (.iconst 0, 1) := by decide +kernel
theorem dX0_copyFrom_53 : decode cX0_copyFrom 53 = .ok (.aload_n 0, 1) := by decide +kernel
theorem dX0_copyFrom_54 : decode cX0_copyFrom 54 = .ok (.getfield 21, 3) := by decide +kernel
theorem dX0_copyFrom_57 : decode cX0_copyFrom 57 = .ok (.iconst 0, 1) := by decide +kernel
theorem dX0_copyFrom_58 : decode cX0_copyFrom 58 = .ok (.bipush 8, 2) := by decide +kernel
theorem dX0_copyFrom_60 : decode cX0_copyFrom 60 = .ok (.invokestatic 66, 3) := by decide +kernel
theorem dX0_copyFrom_63 : decode cX0_copyFrom 63 = .ok (.aload_n 1, 1) := by decide +kernel
theorem dX0_copyFrom_64 : decode cX0_copyFrom 64 = .ok (.getfield 25, 3) := by decide +kernel
theorem dX0_copyFrom_67 : decode cX0_copyFrom 67 = .ok (.iconst 0, 1) := by decide +kernel
theorem dX0_copyFrom_68 : decode cX0_copyFrom 68 = .ok (.aload_n 0, 1) := by decide +kernel
theorem dX0_copyFrom_69 : decode cX0_copyFrom 69 = .ok (.getfield 25, 3) := by decide +kernel
theorem dX0_copyFrom_72 : decode cX0_copyFrom 72 = .ok (.iconst 0, 1) := by decide +kernel
theorem dX0_copyFrom_73 : decode cX0_copyFrom 73 = .ok (.bipush 6, 2) := by decide +kernel
theorem dX0_copyFrom_75 : decode cX0_copyFrom 75 = .ok (.invokestatic 66, 3) := by decide +kernel
theorem dX0_copyFrom_78 : decode cX0_copyFrom 78 = .ok (.aload_n 1, 1) := by decide +kernel
theorem dX0_copyFrom_79 : decode cX0_copyFrom 79 = .ok (.getfield 28, 3) := by decide +kernel
theorem dX0_copyFrom_82 : decode cX0_copyFrom 82 = .ok (.iconst 0, 1) := by decide +kernel
theorem dX0_copyFrom_83 : decode cX0_copyFrom 83 = .ok (.aload_n 0, 1) := by decide +kernel
theorem dX0_copyFrom_84 : decode cX0_copyFrom 84 = .ok (.getfield 28, 3) := by decide +kernel
theorem dX0_copyFrom_87 : decode cX0_copyFrom 87 = .ok (.iconst 0, 1) := by decide +kernel
theorem dX0_copyFrom_88 : decode cX0_copyFrom 88 = .ok (.bipush 6, 2) := by decide +kernel
theorem dX0_copyFrom_90 : decode cX0_copyFrom 90 = .ok (.invokestatic 66, 3) := by decide +kernel
theorem dX0_copyFrom_93 : decode cX0_copyFrom 93 = .ok (.aload_n 1, 1) := by decide +kernel
theorem dX0_copyFrom_94 : decode cX0_copyFrom 94 = .ok (.getfield 31, 3) := by decide +kernel
theorem dX0_copyFrom_97 : decode cX0_copyFrom 97 = .ok (.iconst 0, 1) := by decide +kernel
theorem dX0_copyFrom_98 : decode cX0_copyFrom 98 = .ok (.aload_n 0, 1) := by decide +kernel
theorem dX0_copyFrom_99 : decode cX0_copyFrom 99 = .ok (.getfield 31, 3) := by decide +kernel
theorem dX0_copyFrom_102 : decode cX0_copyFrom 102 = .ok (.iconst 0, 1) := by decide +kernel
theorem dX0_copyFrom_103 : decode cX0_copyFrom 103 = .ok (.bipush 6, 2) := by decide +kernel
theorem dX0_copyFrom_105 : decode cX0_copyFrom 105 = .ok (.invokestatic 66, 3) := by decide +kernel
theorem dX0_copyFrom_108 : decode cX0_copyFrom 108 = .ok (.aload_n 1, 1) := by decide +kernel
theorem dX0_copyFrom_109 : decode cX0_copyFrom 109 = .ok (.getfield 34, 3) := by decide +kernel
theorem dX0_copyFrom_112 : decode cX0_copyFrom 112 = .ok (.iconst 0, 1) := by decide +kernel
theorem dX0_copyFrom_113 : decode cX0_copyFrom 113 = .ok (.aload_n 0, 1) := by decide +kernel
theorem dX0_copyFrom_114 : decode cX0_copyFrom 114 = .ok (.getfield 34, 3) := by decide +kernel
theorem dX0_copyFrom_117 : decode cX0_copyFrom 117 = .ok (.iconst 0, 1) := by decide +kernel
theorem dX0_copyFrom_118 : decode cX0_copyFrom 118 = .ok (.iconst 5, 1) := by decide +kernel
theorem dX0_copyFrom_119 : decode cX0_copyFrom 119 = .ok (.invokestatic 66, 3) := by decide +kernel
theorem dX0_copyFrom_122 : decode cX0_copyFrom 122 = .ok (.aload_n 1, 1) := by decide +kernel
theorem dX0_copyFrom_123 : decode cX0_copyFrom 123 = .ok (.getfield 38, 3) := by decide +kernel
theorem dX0_copyFrom_126 : decode cX0_copyFrom 126 = .ok (.iconst 0, 1) := by decide +kernel
theorem dX0_copyFrom_127 : decode cX0_copyFrom 127 = .ok (.aload_n 0, 1) := by decide +kernel
theorem dX0_copyFrom_128 : decode cX0_copyFrom 128 = .ok (.getfield 38, 3) := by decide +kernel
theorem dX0_copyFrom_131 : decode cX0_copyFrom 131 = .ok (.iconst 0, 1) := by decide +kernel
theorem dX0_copyFrom_132 : decode cX0_copyFrom 132 = .ok (.iconst 5, 1) := by decide +kernel
theorem dX0_copyFrom_133 : decode cX0_copyFrom 133 = .ok (.invokestatic 66, 3) := by decide +kernel
theorem dX0_copyFrom_136 : decode cX0_copyFrom 136 = .ok (.aload_n 1, 1) := by decide +kernel
theorem dX0_copyFrom_137 : decode cX0_copyFrom 137 = .ok (.getfield 41, 3) := by decide +kernel
theorem dX0_copyFrom_140 : decode cX0_copyFrom 140 = .ok (.iconst 0, 1) := by decide +kernel
theorem dX0_copyFrom_141 : decode cX0_copyFrom 141 = .ok (.aload_n 0, 1) := by decide +kernel
theorem dX0_copyFrom_142 : decode cX0_copyFrom 142 = .ok (.getfield 41, 3) := by decide +kernel
theorem dX0_copyFrom_145 : decode cX0_copyFrom 145 = .ok (.iconst 0, 1) := by decide +kernel
theorem dX0_copyFrom_146 : decode cX0_copyFrom 146 = .ok (.iconst 5, 1) := by decide +kernel
theorem dX0_copyFrom_147 : decode cX0_copyFrom 147 = .ok (.invokestatic 66, 3) := by decide +kernel
theorem dX0_copyFrom_150 : decode cX0_copyFrom 150 = .ok (.aload_n 0, 1) := by decide +kernel
theorem dX0_copyFrom_151 : decode cX0_copyFrom 151 = .ok (.aload_n 1, 1) := by decide +kernel
theorem dX0_copyFrom_152 : decode cX0_copyFrom 152 = .ok (.getfield 72, 3) := by decide +kernel
theorem dX0_copyFrom_155 : decode cX0_copyFrom 155 = .ok (.putfield 72, 3) := by decide +kernel
theorem dX0_copyFrom_158 : decode cX0_copyFrom 158 = .ok (.aload_n 1, 1) := by decide +kernel
theorem dX0_copyFrom_159 : decode cX0_copyFrom 159 = .ok (.getfield 44, 3) := by decide +kernel
theorem dX0_copyFrom_162 : decode cX0_copyFrom 162 = .ok (.iconst 0, 1) := by decide +kernel
theorem dX0_copyFrom_163 : decode cX0_copyFrom 163 = .ok (.aload_n 0, 1) := by decide +kernel
theorem dX0_copyFrom_164 : decode cX0_copyFrom 164 = .ok (.getfield 44, 3) := by decide +kernel
theorem dX0_copyFrom_167 : decode cX0_copyFrom 167 = .ok (.iconst 0, 1) := by decide +kernel
theorem dX0_copyFrom_168 : decode cX0_copyFrom 168 = .ok (.bipush 10, 2) := by decide +kernel
theorem dX0_copyFrom_170 : decode cX0_copyFrom 170 = .ok (.invokestatic 66, 3) := by decide +kernel
theorem dX0_copyFrom_173 : decode cX0_copyFrom 173 = .ok (.aload_n 1, 1) := by decide +kernel
theorem dX0_copyFrom_174 : decode cX0_copyFrom 174 = .ok (.getfield 47, 3) := by decide +kernel
theorem dX0_copyFrom_177 : decode cX0_copyFrom 177 = .ok (.iconst 0, 1) := by decide +kernel
theorem dX0_copyFrom_178 : decode cX0_copyFrom 178 = .ok (.aload_n 0, 1) := by decide +kernel
theorem dX0_copyFrom_179 : decode cX0_copyFrom 179 = .ok (.getfield 47, 3) := by decide +kernel
theorem dX0_copyFrom_182 : decode cX0_copyFrom 182 = .ok (.iconst 0, 1) := by decide +kernel
theorem dX0_copyFrom_183 : decode cX0_copyFrom 183 = .ok (.bipush 10, 2) := by decide +kernel
theorem dX0_copyFrom_185 : decode cX0_copyFrom 185 = .ok (.invokestatic 66, 3) := by decide +kernel
theorem dX0_copyFrom_188 : decode cX0_copyFrom 188 = .ok (.aload_n 1, 1) := by decide +kernel
theorem dX0_copyFrom_189 : decode cX0_copyFrom 189 = .ok (.getfield 50, 3) := by decide +kernel
theorem dX0_copyFrom_192 : decode cX0_copyFrom 192 = .ok (.iconst 0, 1) := by decide +kernel
theorem dX0_copyFrom_193 : decode cX0_copyFrom 193 = .ok (.aload_n 0, 1) := by decide +kernel
theorem dX0_copyFrom_194 : decode cX0_copyFrom 194 = .ok (.getfield 50, 3) := by decide +kernel
theorem dX0_copyFrom_197 : decode cX0_copyFrom 197 = .ok (.iconst 0, 1) := by decide +kernel
theorem dX0_copyFrom_198 : decode cX0_copyFrom 198 = .ok (.bipush 10, 2) := by decide +kernel
theorem dX0_copyFrom_200 : decode cX0_copyFrom 200 = .ok (.invokestatic 66, 3) := by decide +kernel
theorem dX0_copyFrom_203 : decode cX0_copyFrom 203 = .ok (.aload_n 1, 1) := by decide +kernel
theorem dX0_copyFrom_204 : decode cX0_copyFrom 204 = .ok (.getfield 53, 3) := by decide +kernel
theorem dX0_copyFrom_207 : decode cX0_copyFrom 207 = .ok (.iconst 0, 1) := by decide +kernel
theorem dX0_copyFrom_208 : decode cX0_copyFrom 208 = .ok (.aload_n 0, 1) := by decide +kernel
theorem dX0_copyFrom_209 : decode cX0_copyFrom 209 = .ok (.getfield 53, 3) := by decide +kernel
theorem dX0_copyFrom_212 : decode cX0_copyFrom 212 = .ok (.iconst 0, 1) := by decide +kernel
theorem dX0_copyFrom_213 : decode cX0_copyFrom 213 = .ok (.bipush 10, 2) := by decide +kernel
theorem dX0_copyFrom_215 : decode cX0_copyFrom 215 = .ok (.invokestatic 66, 3) := by decide +kernel
theorem dX0_copyFrom_218 : decode cX0_copyFrom 218 = .ok (.return_, 1) := by decide +kernel
set_option maxRecDepth 20000 in
theorem ggX0_goHours_X0_goHour : GoodIn wsX0_goHours wsX0_goHour := goodIn_r _ [5, 6, 7, 8, 9, 10, 11, 12, 13, 14, 4, 15, 16, 17, 18, 19, 20, 21, 22, 23, 24, 25, 26, 27, 28, 29, 30, 31, 32, 33, 34, 35, 36, 37, 38, 39, 40, 41, 42, 43, 44, 45, 46, 47, 48, 49, 50, 51, 52, 53, 54, 55, 56, 57, 58, 59, 60, 61, 62, 63, 64, 65, 66, 67, 68, 69, 70, 71, 72, 73, 74, 75, 76, 77, 78, 79, 80, 81, 82, 83, 84, 85, 86, 87, 88, 89, 90, 91, 92, 93] (by decide +kernel) (by decide +kernel)
set_option maxRecDepth 20000 in
theorem gX0_goHours_X0_goHour : GoodIn wsX0_goHours (wsV RX0 75 RX0 yX0_goHour wsX0_goHour) := goodIn_app (goodIn_of _ (by decide +kernel)) ggX0_goHours_X0_goHour
theorem dX0_goHours_0 : decode cX0_goHours 0 = .ok (.iconst 0, 1) := by decide +kernel
theorem dX0_goHours_1 : decode cX0_goHours 1 = .ok (.istore_n 2, 1) := by decide +kernel
theorem dX0_goHours_2 : decode cX0_goHours 2 = .ok (.iconst 0, 1) := by decide +kernel
theorem dX0_goHours_3 : decode cX0_goHours 3 = .ok (.istore_n 3, 1) := by decide +kernel
theorem dX0_goHours_4 : decode cX0_goHours 4 = .ok (.iload_n 3, 1) := by decide +kernel
theorem dX0_goHours_5 : decode cX0_goHours 5 = .ok (.iload_n 1, 1) := by decide +kernel
theorem dX0_goHours_6 : decode cX0_goHours 6 = .ok (.if_icmp .ge 16, 3) := by decide +kernel
theorem dX0_goHours_9 : decode cX0_goHours 9 = .ok (.iload_n 2, 1) := by decide +kernel
theorem dX0_goHours_10 : decode cX0_goHours 10 = .ok (.aload_n 0, 1) := by decide +kernel
theorem dX0_goHours_11 : decode cX0_goHours 11 = .ok (.invokevirtual 75, 3) := by decide +kernel
theorem dX0_goHours_14 : decode cX0_goHours 14 = .ok (.iadd, 1) := by decide +kernel
theorem dX0_goHours_15 : decode cX0_goHours 15 = .ok (.istore_n 2, 1) := by decide +kernel
theorem dX0_goHours_16 : decode cX0_goHours 16 = .ok (.iinc 3 1, 3) := by decide +kernel
theorem dX0_goHours_19 : decode cX0_goHours 19 = .ok (.goto (-15), 3) := by decide +kernel
theorem dX0_goHours_22 : decode cX0_goHours 22 = .ok (.iload_n 2, 1) := by decide +kernel
theorem dX0_goHours_23 : decode cX0_goHours 23 = .ok (.ireturn, 1) := by decide +kernel
set_option maxRecDepth 20000 in
theorem ggX0_goHour_J9_floorMod_7cf53 : GoodIn wsX0_goHour wsJ9_floorMod_7cf53 := goodIn_r _ [6] (by decide +kernel) (by decide +kernel)
set_option maxRecDepth 20000 in
theorem gX0_goHour_J9_floorMod_7cf53 : GoodIn wsX0_goHour (va_wsS RX0 79 yJ9_floorMod_7cf53 wsJ9_floorMod_7cf53) := goodIn_app (goodIn_of _ (by decide +kernel)) ggX0_goHour_J9_floorMod_7cf53
set_option maxRecDepth 20000 in
theorem ggX0_goHour_X0_pour : GoodIn wsX0_goHour wsX0_pour := goodIn_r _ [11, 12, 13, 14, 15, 16, 17, 72, 73, 74, 75, 76, 77, 78, 79, 80, 81, 82, 83, 84, 85, 86, 87, 88, 89] (by decide +kernel) (by decide +kernel)
set_option maxRecDepth 20000 in
theorem gX0_goHour_X0_pour : GoodIn wsX0_goHour (wsV RX0 85 RX0 yX0_pour wsX0_pour) := goodIn_app (goodIn_of _ (by decide +kernel)) ggX0_goHour_X0_pour
set_option maxRecDepth 20000 in
theorem ggX0_goHour_X0_turnMill : GoodIn wsX0_goHour wsX0_turnMill := goodIn_r _ [21, 22, 12, 23, 13, 14, 15, 16, 24, 25, 7, 8, 9, 10, 11, 17, 72, 73, 74, 75, 76, 77, 78, 79, 80, 81, 82, 83, 84, 85, 86, 87, 88, 89] (by decide +kernel) (by decide +kernel)
set_option maxRecDepth 20000 in
theorem gX0_goHour_X0_turnMill : GoodIn wsX0_goHour (wsV RX0 89 RX0 yX0_turnMill wsX0_turnMill) := goodIn_app (goodIn_of _ (by decide +kernel)) ggX0_goHour_X0_turnMill
set_option maxRecDepth 20000 in
theorem ggX0_goHour_X0_nextBarge : GoodIn wsX0_goHour wsX0_nextBarge := goodIn_r _ [29, 30, 31, 32, 33, 10, 34, 35, 36, 37, 38, 39, 40, 41, 42, 43, 44, 45, 46, 47, 48, 49, 50, 51, 52, 53, 54, 55, 56, 57, 58, 59, 60, 12, 72, 73, 74, 75, 76, 77, 78, 79, 80, 81, 82, 83, 84, 85, 86, 87, 88, 89] (by decide +kernel) (by decide +kernel)
set_option maxRecDepth 20000 in
theorem gX0_goHour_X0_nextBarge : GoodIn wsX0_goHour (wsV RX0 92 RX0 yX0_nextBarge wsX0_nextBarge) := goodIn_app (goodIn_of _ (by decide +kernel)) ggX0_goHour_X0_nextBarge
set_option maxRecDepth 20000 in
theorem ggX0_goHour_X0_serve : GoodIn wsX0_goHour wsX0_serve := goodIn_r _ [64, 35, 49, 50, 25, 65, 66, 53, 54, 55, 10, 56, 52, 41, 42, 43, 44, 40, 67, 68, 69, 70, 12, 71, 7, 8, 9, 11, 13, 14, 15, 16, 17, 72, 73, 74, 75, 76, 77, 78, 79, 80, 81, 82, 83, 84, 85, 86, 87, 88, 89] (by decide +kernel) (by decide +kernel)
set_option maxRecDepth 20000 in
theorem gX0_goHour_X0_serve : GoodIn wsX0_goHour (wsV RX0 95 RX0 yX0_serve wsX0_serve) := goodIn_app (goodIn_of _ (by decide +kernel)) ggX0_goHour_X0_serve
theorem dX0_goHour_0 : decode cX0_goHour 0 = .ok (.aload_n 0, 1) := by decide +kernel
theorem dX0_goHour_1 : decode cX0_goHour 1 = .ok (.iconst 5, 1) := by decide +kernel
theorem dX0_goHour_2 : decode cX0_goHour 2 = .ok (.aload_n 0, 1) := by decide +kernel
theorem dX0_goHour_3 : decode cX0_goHour 3 = .ok (.getfield 21, 3) := by decide +kernel
theorem dX0_goHour_6 : decode cX0_goHour 6 = .ok (.aload_n 0, 1) := by decide +kernel
theorem dX0_goHour_7 : decode cX0_goHour 7 = .ok (.getfield 56, 3) := by decide +kernel
theorem dX0_goHour_10 : decode cX0_goHour 10 = .ok (.bipush 8, 2) := by decide +kernel
theorem dX0_goHour_12 : decode cX0_goHour 12 = .ok (.invokestatic 79, 3) := by decide +kernel
theorem dX0_goHour_15 : decode cX0_goHour 15 = .ok (.iaload, 1) := by decide +kernel
theorem dX0_goHour_16 : decode cX0_goHour 16 = .ok (.invokevirtual 85, 3) := by decide +kernel
theorem dX0_goHour_19 : decode cX0_goHour 19 = .ok (.aload_n 0, 1) := by decide +kernel
theorem dX0_goHour_20 : decode cX0_goHour 20 = .ok (.invokevirtual 89, 3) := by decide +kernel
theorem dX0_goHour_23 : decode cX0_goHour 23 = .ok (.iconst 0, 1) := by decide +kernel
theorem dX0_goHour_24 : decode cX0_goHour 24 = .ok (.istore_n 1, 1) := by decide +kernel
theorem dX0_goHour_25 : decode cX0_goHour 25 = .ok (.iconst 0, 1) := by decide +kernel
theorem dX0_goHour_26 : decode cX0_goHour 26 = .ok (.istore_n 2, 1) := by decide +kernel
theorem dX0_goHour_27 : decode cX0_goHour 27 = .ok (.iconst 4, 1) := by decide +kernel
theorem dX0_goHour_28 : decode cX0_goHour 28 = .ok (.istore_n 3, 1) := by decide +kernel
theorem dX0_goHour_29 : decode cX0_goHour 29 = .ok (.iload_n 3, 1) := by decide +kernel
theorem dX0_goHour_30 : decode cX0_goHour 30 = .ok (.ifCond .lt 40, 3) := by decide +kernel
theorem dX0_goHour_33 : decode cX0_goHour 33 = .ok (.aload_n 0, 1) := by decide +kernel
theorem dX0_goHour_34 : decode cX0_goHour 34 = .ok (.iload_n 3, 1) := by decide +kernel
theorem dX0_goHour_35 : decode cX0_goHour 35 = .ok (.iload_n 2, 1) := by decide +kernel
theorem dX0_goHour_36 : decode cX0_goHour 36 = .ok (.invokevirtual 92, 3) := by decide +kernel
theorem dX0_goHour_39 : decode cX0_goHour 39 = .ok (.istore 4, 2) := by decide +kernel
theorem dX0_goHour_41 : decode cX0_goHour 41 = .ok (.iload 4, 2) := by decide +kernel
theorem dX0_goHour_43 : decode cX0_goHour 43 = .ok (.iconst (-1), 1) := by decide +kernel
theorem dX0_goHour_44 : decode cX0_goHour 44 = .ok (.if_icmp .eq 20, 3) := by decide +kernel
theorem dX0_goHour_47 : decode cX0_goHour 47 = .ok (.aload_n 0, 1) := by decide +kernel
theorem dX0_goHour_48 : decode cX0_goHour 48 = .ok (.iload_n 3, 1) := by decide +kernel
theorem dX0_goHour_49 : decode cX0_goHour 49 = .ok (.iload 4, 2) := by decide +kernel
theorem dX0_goHour_51 : decode cX0_goHour 51 = .ok (.invokevirtual 95, 3) := by decide +kernel
theorem dX0_goHour_54 : decode cX0_goHour 54 = .ok (.iload_n 2, 1) := by decide +kernel
theorem dX0_goHour_55 : decode cX0_goHour 55 = .ok (.iconst 1, 1) := by decide +kernel
theorem dX0_goHour_56 : decode cX0_goHour 56 = .ok (.iload 4, 2) := by decide +kernel
theorem dX0_goHour_58 : decode cX0_goHour 58 = .ok (.ishl, 1) := by decide +kernel
theorem dX0_goHour_59 : decode cX0_goHour 59 = .ok (.ior, 1) := by decide +kernel
theorem dX0_goHour_60 : decode cX0_goHour 60 = .ok (.istore_n 2, 1) := by decide +kernel
theorem dX0_goHour_61 : decode cX0_goHour 61 = .ok (.iinc 1 1, 3) := by decide +kernel
theorem dX0_goHour_64 : decode cX0_goHour 64 = .ok (.iinc 3 (-1), 3) := by decide +kernel
theorem dX0_goHour_67 : decode cX0_goHour 67 = .ok (.goto (-38), 3) := by decide +kernel
theorem dX0_goHour_70 : decode cX0_goHour 70 = .ok (.aload_n 0, 1) := by decide +kernel
theorem dX0_goHour_71 : decode cX0_goHour 71 = .ok (.dup, 1) := by decide +kernel
theorem dX0_goHour_72 : decode cX0_goHour 72 = .ok (.getfield 56, 3) := by decide +kernel
theorem dX0_goHour_75 : decode cX0_goHour 75 = .ok (.iconst 1, 1) := by decide +kernel
theorem dX0_goHour_76 : decode cX0_goHour 76 = .ok (.iadd, 1) := by decide +kernel
theorem dX0_goHour_77 : decode cX0_goHour 77 = .ok (.putfield 56, 3) := by decide +kernel
theorem dX0_goHour_80 : decode cX0_goHour 80 = .ok (.iload_n 1, 1) := by decide +kernel
theorem dX0_goHour_81 : decode cX0_goHour 81 = .ok (.ireturn, 1) := by decide +kernel
theorem dX0_pour_0 : decode cX0_pour 0 = .ok (.iload_n 2, 1) := by decide +kernel
theorem dX0_pour_1 : decode cX0_pour 1 = .ok (.istore_n 3, 1) := by decide +kernel
theorem dX0_pour_2 : decode cX0_pour 2 = .ok (.iload_n 1, 1) := by decide +kernel
theorem dX0_pour_3 : decode cX0_pour 3 = .ok (.istore 4, 2) := by decide +kernel
theorem dX0_pour_5 : decode cX0_pour 5 = .ok (.iload 4, 2) := by decide +kernel
theorem dX0_pour_7 : decode cX0_pour 7 = .ok (.ifCond .lt 60, 3) := by decide +kernel
theorem dX0_pour_10 : decode cX0_pour 10 = .ok (.iload_n 3, 1) := by decide +kernel
theorem dX0_pour_11 : decode cX0_pour 11 = .ok (.ifCond .le 56, 3) := by decide +kernel
theorem dX0_pour_14 : decode cX0_pour 14 = .ok (.aload_n 0, 1) := by decide +kernel
theorem dX0_pour_15 : decode cX0_pour 15 = .ok (.getfield 25, 3) := by decide +kernel
theorem dX0_pour_18 : decode cX0_pour 18 = .ok (.iload 4, 2) := by decide +kernel
theorem dX0_pour_20 : decode cX0_pour 20 = .ok (.iaload, 1) := by decide +kernel
theorem dX0_pour_21 : decode cX0_pour 21 = .ok (.iload_n 3, 1) := by decide +kernel
theorem dX0_pour_22 : decode cX0_pour 22 = .ok (.iadd, 1) := by decide +kernel
theorem dX0_pour_23 : decode cX0_pour 23 = .ok (.istore 5, 2) := by decide +kernel
theorem dX0_pour_25 : decode cX0_pour 25 = .ok (.aload_n 0, 1) := by decide +kernel
theorem dX0_pour_26 : decode cX0_pour 26 = .ok (.getfield 25, 3) := by decide +kernel
theorem dX0_pour_29 : decode cX0_pour 29 = .ok (.iload 4, 2) := by decide +kernel
theorem dX0_pour_31 : decode cX0_pour 31 = .ok (.iload 5, 2) := by decide +kernel
theorem dX0_pour_33 : decode cX0_pour 33 = .ok (.bipush 100, 2) := by decide +kernel
theorem dX0_pour_35 : decode cX0_pour 35 = .ok (.invokestatic 98, 3) := by decide +kernel
theorem dX0_pour_38 : decode cX0_pour 38 = .ok (.iastore, 1) := by decide +kernel
theorem dX0_pour_39 : decode cX0_pour 39 = .ok (.iload 5, 2) := by decide +kernel
theorem dX0_pour_41 : decode cX0_pour 41 = .ok (.aload_n 0, 1) := by decide +kernel
theorem dX0_pour_42 : decode cX0_pour 42 = .ok (.getfield 25, 3) := by decide +kernel
theorem dX0_pour_45 : decode cX0_pour 45 = .ok (.iload 4, 2) := by decide +kernel
theorem dX0_pour_47 : decode cX0_pour 47 = .ok (.iaload, 1) := by decide +kernel
theorem dX0_pour_48 : decode cX0_pour 48 = .ok (.isub, 1) := by decide +kernel
theorem dX0_pour_49 : decode cX0_pour 49 = .ok (.istore_n 3, 1) := by decide +kernel
theorem dX0_pour_50 : decode cX0_pour 50 = .ok (.aload_n 0, 1) := by decide +kernel
theorem dX0_pour_51 : decode cX0_pour 51 = .ok (.getfield 28, 3) := by decide +kernel
theorem dX0_pour_54 : decode cX0_pour 54 = .ok (.iload 4, 2) := by decide +kernel
theorem dX0_pour_56 : decode cX0_pour 56 = .ok (.dup2, 1) := by decide +kernel
theorem dX0_pour_57 : decode cX0_pour 57 = .ok (.iaload, 1) := by decide +kernel
theorem dX0_pour_58 : decode cX0_pour 58 = .ok (.iload_n 3, 1) := by decide +kernel
theorem dX0_pour_59 : decode cX0_pour 59 = .ok (.iadd, 1) := by decide +kernel
theorem dX0_pour_60 : decode cX0_pour 60 = .ok (.iastore, 1) := by decide +kernel
theorem dX0_pour_61 : decode cX0_pour 61 = .ok (.iinc 4 (-1), 3) := by decide +kernel
theorem dX0_pour_64 : decode cX0_pour 64 = .ok (.goto (-59), 3) := by decide +kernel
theorem dX0_pour_67 : decode cX0_pour 67 = .ok (.return_, 1) := by decide +kernel
set_option maxRecDepth 20000 in
theorem ggX0_turnMill_X0_pour : GoodIn wsX0_turnMill wsX0_pour := goodIn_r _ [14, 2, 4, 5, 6, 7, 15, 16, 17, 18, 19, 20, 21, 22, 23, 24, 25, 26, 27, 28, 29, 30, 31, 32, 33] (by decide +kernel) (by decide +kernel)
set_option maxRecDepth 20000 in
theorem gX0_turnMill_X0_pour : GoodIn wsX0_turnMill (wsV RX0 85 RX0 yX0_pour wsX0_pour) := goodIn_app (goodIn_of _ (by decide +kernel)) ggX0_turnMill_X0_pour
theorem dX0_turnMill_0 : decode cX0_turnMill 0 = .ok (.aload_n 0, 1) := by decide +kernel
theorem dX0_turnMill_1 : decode cX0_turnMill 1 = .ok (.getfield 15, 3) := by decide +kernel
theorem dX0_turnMill_4 : decode cX0_turnMill 4 = .ok (.istore_n 1, 1) := by decide +kernel
theorem dX0_turnMill_5 : decode cX0_turnMill 5 = .ok (.iload_n 1, 1) := by decide +kernel
theorem dX0_turnMill_6 : decode cX0_turnMill 6 = .ok (.iconst (-1), 1) := by decide +kernel
theorem dX0_turnMill_7 : decode cX0_turnMill 7 = .ok (.if_icmp .eq 16, 3) := by decide +kernel
theorem dX0_turnMill_10 : decode cX0_turnMill 10 = .ok (.aload_n 0, 1) := by decide +kernel
theorem dX0_turnMill_11 : decode cX0_turnMill 11 = .ok (.getfield 25, 3) := by decide +kernel
theorem dX0_turnMill_14 : decode cX0_turnMill 14 = .ok (.iload_n 1, 1) := by decide +kernel
theorem dX0_turnMill_15 : decode cX0_turnMill 15 = .ok (.iaload, 1) := by decide +kernel
theorem dX0_turnMill_16 : decode cX0_turnMill 16 = .ok (.aload_n 0, 1) := by decide +kernel
theorem dX0_turnMill_17 : decode cX0_turnMill 17 = .ok (.getfield 18, 3) := by decide +kernel
theorem dX0_turnMill_20 : decode cX0_turnMill 20 = .ok (.if_icmp .gt 4, 3) := by decide +kernel
theorem dX0_turnMill_23 : decode cX0_turnMill 23 = .ok (.return_, 1) := by decide +kernel
theorem dX0_turnMill_24 : decode cX0_turnMill 24 = .ok (.aload_n 0, 1) := by decide +kernel
theorem dX0_turnMill_25 : decode cX0_turnMill 25 = .ok (.getfield 25, 3) := by decide +kernel
theorem dX0_turnMill_28 : decode cX0_turnMill 28 = .ok (.iload_n 1, 1) := by decide +kernel
theorem dX0_turnMill_29 : decode cX0_turnMill 29 = .ok (.iaload, 1) := by decide +kernel
theorem dX0_turnMill_30 : decode cX0_turnMill 30 = .ok (.aload_n 0, 1) := by decide +kernel
theorem dX0_turnMill_31 : decode cX0_turnMill 31 = .ok (.getfield 18, 3) := by decide +kernel
theorem dX0_turnMill_34 : decode cX0_turnMill 34 = .ok (.isub, 1) := by decide +kernel
theorem dX0_turnMill_35 : decode cX0_turnMill 35 = .ok (.bipush 10, 2) := by decide +kernel
theorem dX0_turnMill_37 : decode cX0_turnMill 37 = .ok (.invokestatic 98, 3) := by decide +kernel
theorem dX0_turnMill_40 : decode cX0_turnMill 40 = .ok (.istore_n 2, 1) := by decide +kernel
theorem dX0_turnMill_41 : decode cX0_turnMill 41 = .ok (.aload_n 0, 1) := by decide +kernel
theorem dX0_turnMill_42 : decode cX0_turnMill 42 = .ok (.getfield 25, 3) := by decide +kernel
theorem dX0_turnMill_45 : decode cX0_turnMill 45 = .ok (.iload_n 1, 1) := by decide +kernel
theorem dX0_turnMill_46 : decode cX0_turnMill 46 = .ok (.dup2, 1) := by decide +kernel
theorem dX0_turnMill_47 : decode cX0_turnMill 47 = .ok (.iaload, 1) := by decide +kernel
theorem dX0_turnMill_48 : decode cX0_turnMill 48 = .ok (.iload_n 2, 1) := by decide +kernel
theorem dX0_turnMill_49 : decode cX0_turnMill 49 = .ok (.isub, 1) := by decide +kernel
theorem dX0_turnMill_50 : decode cX0_turnMill 50 = .ok (.iastore, 1) := by decide +kernel
theorem dX0_turnMill_51 : decode cX0_turnMill 51 = .ok (.aload_n 0, 1) := by decide +kernel
theorem dX0_turnMill_52 : decode cX0_turnMill 52 = .ok (.getfield 31, 3) := by decide +kernel
theorem dX0_turnMill_55 : decode cX0_turnMill 55 = .ok (.iload_n 1, 1) := by decide +kernel
theorem dX0_turnMill_56 : decode cX0_turnMill 56 = .ok (.dup2, 1) := by decide +kernel
theorem dX0_turnMill_57 : decode cX0_turnMill 57 = .ok (.iaload, 1) := by decide +kernel
theorem dX0_turnMill_58 : decode cX0_turnMill 58 = .ok (.iload_n 2, 1) := by decide +kernel
theorem dX0_turnMill_59 : decode cX0_turnMill 59 = .ok (.iadd, 1) := by decide +kernel
theorem dX0_turnMill_60 : decode cX0_turnMill 60 = .ok (.iastore, 1) := by decide +kernel
theorem dX0_turnMill_61 : decode cX0_turnMill 61 = .ok (.aload_n 0, 1) := by decide +kernel
theorem dX0_turnMill_62 : decode cX0_turnMill 62 = .ok (.dup, 1) := by decide +kernel
theorem dX0_turnMill_63 : decode cX0_turnMill 63 = .ok (.getfield 59, 3) := by decide +kernel
theorem dX0_turnMill_66 : decode cX0_turnMill 66 = .ok (.iload_n 2, 1) := by decide +kernel
theorem dX0_turnMill_67 : decode cX0_turnMill 67 = .ok (.iconst 5, 1) := by decide +kernel
theorem dX0_turnMill_68 : decode cX0_turnMill 68 = .ok (.idiv, 1) := by decide +kernel
theorem dX0_turnMill_69 : decode cX0_turnMill 69 = .ok (.iadd, 1) := by decide +kernel
theorem dX0_turnMill_70 : decode cX0_turnMill 70 = .ok (.putfield 59, 3) := by decide +kernel
theorem dX0_turnMill_73 : decode cX0_turnMill 73 = .ok (.aload_n 0, 1) := by decide +kernel
theorem dX0_turnMill_74 : decode cX0_turnMill 74 = .ok (.iload_n 1, 1) := by decide +kernel
theorem dX0_turnMill_75 : decode cX0_turnMill 75 = .ok (.iconst 1, 1) := by decide +kernel
theorem dX0_turnMill_76 : decode cX0_turnMill 76 = .ok (.isub, 1) := by decide +kernel
theorem dX0_turnMill_77 : decode cX0_turnMill 77 = .ok (.iload_n 2, 1) := by decide +kernel
theorem dX0_turnMill_78 : decode cX0_turnMill 78 = .ok (.invokevirtual 85, 3) := by decide +kernel
theorem dX0_turnMill_81 : decode cX0_turnMill 81 = .ok (.return_, 1) := by decide +kernel
set_option maxRecDepth 20000 in
theorem ggX0_nextBarge_X0_waitsAt : GoodIn wsX0_nextBarge wsX0_waitsAt := goodIn_r _ [6, 7, 8, 9, 10, 5, 11, 12, 13, 14, 15, 16, 34, 35, 36, 37, 38, 39, 40, 41, 42, 43, 44, 45, 46, 47, 48, 49, 50, 51] (by decide +kernel) (by decide +kernel)
set_option maxRecDepth 20000 in
theorem gX0_nextBarge_X0_waitsAt : GoodIn wsX0_nextBarge (wsV RX0 101 RX0 yX0_waitsAt wsX0_waitsAt) := goodIn_app (goodIn_of _ (by decide +kernel)) ggX0_nextBarge_X0_waitsAt
set_option maxRecDepth 20000 in
theorem ggX0_nextBarge_X0_canServe : GoodIn wsX0_nextBarge wsX0_canServe := goodIn_r _ [20, 21, 22, 23, 24, 25, 26, 27, 5, 28, 13, 14, 15, 16, 12, 7, 29, 30, 31, 32, 33, 34, 35, 36, 37, 38, 39, 40, 41, 42, 43, 44, 45, 46, 47, 48, 49, 50, 51] (by decide +kernel) (by decide +kernel)
set_option maxRecDepth 20000 in
theorem gX0_nextBarge_X0_canServe : GoodIn wsX0_nextBarge (wsV RX0 105 RX0 yX0_canServe wsX0_canServe) := goodIn_app (goodIn_of _ (by decide +kernel)) ggX0_nextBarge_X0_canServe
set_option maxRecDepth 20000 in
theorem ggX0_nextBarge_X0_fits : GoodIn wsX0_nextBarge wsX0_fits := goodIn_r _ [28, 24, 13, 14, 15, 5, 16, 12, 7, 34, 35, 36, 37, 38, 39, 40, 41, 42, 43, 44, 45, 46, 47, 48, 49, 50, 51] (by decide +kernel) (by decide +kernel)
set_option maxRecDepth 20000 in
theorem gX0_nextBarge_X0_fits : GoodIn wsX0_nextBarge (wsV RX0 109 RX0 yX0_fits wsX0_fits) := goodIn_app (goodIn_of _ (by decide +kernel)) ggX0_nextBarge_X0_fits
theorem dX0_nextBarge_0 : decode cX0_nextBarge 0 = .ok (.iconst (-1), 1) := by decide +kernel
theorem dX0_nextBarge_1 : decode cX0_nextBarge 1 = .ok (.istore_n 3, 1) := by decide +kernel
theorem dX0_nextBarge_2 : decode cX0_nextBarge 2 = .ok (.iconst 0, 1) := by decide +kernel
theorem dX0_nextBarge_3 : decode cX0_nextBarge 3 = .ok (.istore 4, 2) := by decide +kernel
theorem dX0_nextBarge_5 : decode cX0_nextBarge 5 = .ok (.iload 4, 2) := by decide +kernel
theorem dX0_nextBarge_7 : decode cX0_nextBarge 7 = .ok (.aload_n 0, 1) := by decide +kernel
theorem dX0_nextBarge_8 : decode cX0_nextBarge 8 = .ok (.getfield 72, 3) := by decide +kernel
theorem dX0_nextBarge_11 : decode cX0_nextBarge 11 = .ok (.if_icmp .ge 71, 3) := by decide +kernel
theorem dX0_nextBarge_14 : decode cX0_nextBarge 14 = .ok (.aload_n 0, 1) := by decide +kernel
theorem dX0_nextBarge_15 : decode cX0_nextBarge 15 = .ok (.iload 4, 2) := by decide +kernel
theorem dX0_nextBarge_17 : decode cX0_nextBarge 17 = .ok (.invokevirtual 101, 3) := by decide +kernel
theorem dX0_nextBarge_20 : decode cX0_nextBarge 20 = .ok (.iload_n 1, 1) := by decide +kernel
theorem dX0_nextBarge_21 : decode cX0_nextBarge 21 = .ok (.if_icmp .ne 16, 3) := by decide +kernel
theorem dX0_nextBarge_24 : decode cX0_nextBarge 24 = .ok (.iload_n 2, 1) := by decide +kernel
theorem dX0_nextBarge_25 : decode cX0_nextBarge 25 = .ok (.iload 4, 2) := by decide +kernel
theorem dX0_nextBarge_27 : decode cX0_nextBarge 27 = .ok (.ishr, 1) := by decide +kernel
theorem dX0_nextBarge_28 : decode cX0_nextBarge 28 = .ok (.iconst 1, 1) := by decide +kernel
theorem dX0_nextBarge_29 : decode cX0_nextBarge 29 = .ok (.iand, 1) := by decide +kernel
theorem dX0_nextBarge_30 : decode cX0_nextBarge 30 = .ok (.ifCond .ne 7, 3) := by decide +kernel
theorem dX0_nextBarge_33 : decode cX0_nextBarge 33 = .ok (.iconst 1, 1) := by decide +kernel
theorem dX0_nextBarge_34 : decode cX0_nextBarge 34 = .ok (.goto 4, 3) := by decide +kernel
theorem dX0_nextBarge_37 : decode cX0_nextBarge 37 = .ok (.iconst 0, 1) := by decide +kernel
theorem dX0_nextBarge_38 : decode cX0_nextBarge 38 = .ok (.istore 5, 2) := by decide +kernel
theorem dX0_nextBarge_40 : decode cX0_nextBarge 40 = .ok (.iload 5, 2) := by decide +kernel
theorem dX0_nextBarge_42 : decode cX0_nextBarge 42 = .ok (.ifCond .eq 34, 3) := by decide +kernel
theorem dX0_nextBarge_45 : decode cX0_nextBarge 45 = .ok (.aload_n 0, 1) := by decide +kernel
theorem dX0_nextBarge_46 : decode cX0_nextBarge 46 = .ok (.iload_n 1, 1) := by decide +kernel
theorem dX0_nextBarge_47 : decode cX0_nextBarge 47 = .ok (.iload 4, 2) := by decide +kernel
theorem dX0_nextBarge_49 : decode cX0_nextBarge 49 = .ok (.invokevirtual 105, 3) := by decide +kernel
theorem dX0_nextBarge_52 : decode cX0_nextBarge 52 = .ok (.ifCond .eq 24, 3) := by decide +kernel
theorem dX0_nextBarge_55 : decode cX0_nextBarge 55 = .ok (.aload_n 0, 1) := by decide +kernel
theorem dX0_nextBarge_56 : decode cX0_nextBarge 56 = .ok (.iload_n 1, 1) := by decide +kernel
theorem dX0_nextBarge_57 : decode cX0_nextBarge 57 = .ok (.iload 4, 2) := by decide +kernel
theorem dX0_nextBarge_59 : decode cX0_nextBarge 59 = .ok (.invokevirtual 109, 3) := by decide +kernel
theorem dX0_nextBarge_62 : decode cX0_nextBarge 62 = .ok (.ifCond .eq 6, 3) := by decide +kernel
theorem dX0_nextBarge_65 : decode cX0_nextBarge 65 = .ok (.iload 4, 2) := by decide +kernel
theorem dX0_nextBarge_67 : decode cX0_nextBarge 67 = .ok (.ireturn, 1) := by decide +kernel
theorem dX0_nextBarge_68 : decode cX0_nextBarge 68 = .ok (.iload_n 3, 1) := by decide +kernel
theorem dX0_nextBarge_69 : decode cX0_nextBarge 69 = .ok (.iconst (-1), 1) := by decide +kernel
theorem dX0_nextBarge_70 : decode cX0_nextBarge 70 = .ok (.if_icmp .ne 6, 3) := by decide +kernel
theorem dX0_nextBarge_73 : decode cX0_nextBarge 73 = .ok (.iload 4, 2) := by decide +kernel
theorem dX0_nextBarge_75 : decode cX0_nextBarge 75 = .ok (.istore_n 3, 1) := by decide +kernel
theorem dX0_nextBarge_76 : decode cX0_nextBarge 76 = .ok (.iinc 4 1, 3) := by decide +kernel
theorem dX0_nextBarge_79 : decode cX0_nextBarge 79 = .ok (.goto (-74), 3) := by decide +kernel
theorem dX0_nextBarge_82 : decode cX0_nextBarge 82 = .ok (.iload_n 3, 1) := by decide +kernel
theorem dX0_nextBarge_83 : decode cX0_nextBarge 83 = .ok (.ireturn, 1) := by decide +kernel
set_option maxRecDepth 20000 in
theorem ggX0_canServe_X0_fits : GoodIn wsX0_canServe wsX0_fits := goodIn_r _ [9, 4, 10, 11, 12, 8, 13, 14, 15, 21, 22, 23, 24, 25, 26, 27, 28, 29, 30, 31, 32, 33, 34, 35, 36, 37, 38] (by decide +kernel) (by decide +kernel)
set_option maxRecDepth 20000 in
theorem gX0_canServe_X0_fits : GoodIn wsX0_canServe (wsV RX0 109 RX0 yX0_fits wsX0_fits) := goodIn_app (goodIn_of _ (by decide +kernel)) ggX0_canServe_X0_fits
set_option maxRecDepth 20000 in
theorem ggX0_canServe_X0_goesDown : GoodIn wsX0_canServe wsX0_goesDown := goodIn_r _ [13, 14, 15, 21, 22, 23, 24, 25, 26, 27, 28, 29, 30, 31, 32, 33, 34, 35, 36, 37, 38] (by decide +kernel) (by decide +kernel)
set_option maxRecDepth 20000 in
theorem gX0_canServe_X0_goesDown : GoodIn wsX0_canServe (wsV RX0 112 RX0 yX0_goesDown wsX0_goesDown) := goodIn_app (goodIn_of _ (by decide +kernel)) ggX0_canServe_X0_goesDown
set_option maxRecDepth 20000 in
theorem ggX0_canServe_X0_canFill : GoodIn wsX0_canServe wsX0_canFill := goodIn_r _ [19, 20, 21, 22, 23, 24, 25, 26, 27, 28, 29, 30, 31, 32, 33, 34, 35, 36, 37, 38] (by decide +kernel) (by decide +kernel)
set_option maxRecDepth 20000 in
theorem gX0_canServe_X0_canFill : GoodIn wsX0_canServe (wsV RX0 116 RX0 yX0_canFill wsX0_canFill) := goodIn_app (goodIn_of _ (by decide +kernel)) ggX0_canServe_X0_canFill
theorem dX0_canServe_0 : decode cX0_canServe 0 = .ok (.aload_n 0, 1) := by decide +kernel
theorem dX0_canServe_1 : decode cX0_canServe 1 = .ok (.getfield 50, 3) := by decide +kernel
theorem dX0_canServe_4 : decode cX0_canServe 4 = .ok (.iload_n 2, 1) := by decide +kernel
theorem dX0_canServe_5 : decode cX0_canServe 5 = .ok (.iaload, 1) := by decide +kernel
theorem dX0_canServe_6 : decode cX0_canServe 6 = .ok (.aload_n 0, 1) := by decide +kernel
theorem dX0_canServe_7 : decode cX0_canServe 7 = .ok (.getfield 9, 3) := by decide +kernel
theorem dX0_canServe_10 : decode cX0_canServe 10 = .ok (.if_icmp .ge 5, 3) := by decide +kernel
theorem dX0_canServe_13 : decode cX0_canServe 13 = .ok (.iconst 0, 1) := by decide +kernel
theorem dX0_canServe_14 : decode cX0_canServe 14 = .ok (.ireturn, 1) := by decide +kernel
theorem dX0_canServe_15 : decode cX0_canServe 15 = .ok (.aload_n 0, 1) := by decide +kernel
theorem dX0_canServe_16 : decode cX0_canServe 16 = .ok (.getfield 62, 3) := by decide +kernel
theorem dX0_canServe_19 : decode cX0_canServe 19 = .ok (.ifCond .eq 14, 3) := by decide +kernel
theorem dX0_canServe_22 : decode cX0_canServe 22 = .ok (.aload_n 0, 1) := by decide +kernel
theorem dX0_canServe_23 : decode cX0_canServe 23 = .ok (.iload_n 1, 1) := by decide +kernel
theorem dX0_canServe_24 : decode cX0_canServe 24 = .ok (.iload_n 2, 1) := by decide +kernel
theorem dX0_canServe_25 : decode cX0_canServe 25 = .ok (.invokevirtual 109, 3) := by decide +kernel
theorem dX0_canServe_28 : decode cX0_canServe 28 = .ok (.ifCond .ne 5, 3) := by decide +kernel
theorem dX0_canServe_31 : decode cX0_canServe 31 = .ok (.iconst 0, 1) := by decide +kernel
theorem dX0_canServe_32 : decode cX0_canServe 32 = .ok (.ireturn, 1) := by decide +kernel
theorem dX0_canServe_33 : decode cX0_canServe 33 = .ok (.aload_n 0, 1) := by decide +kernel
theorem dX0_canServe_34 : decode cX0_canServe 34 = .ok (.iload_n 2, 1) := by decide +kernel
theorem dX0_canServe_35 : decode cX0_canServe 35 = .ok (.invokevirtual 112, 3) := by decide +kernel
theorem dX0_canServe_38 : decode cX0_canServe 38 = .ok (.ifCond .eq 12, 3) := by decide +kernel
theorem dX0_canServe_41 : decode cX0_canServe 41 = .ok (.aload_n 0, 1) := by decide +kernel
theorem dX0_canServe_42 : decode cX0_canServe 42 = .ok (.getfield 34, 3) := by decide +kernel
theorem dX0_canServe_45 : decode cX0_canServe 45 = .ok (.iload_n 1, 1) := by decide +kernel
theorem dX0_canServe_46 : decode cX0_canServe 46 = .ok (.baload, 1) := by decide +kernel
theorem dX0_canServe_47 : decode cX0_canServe 47 = .ok (.ifCond .ne 7, 3) := by decide +kernel
theorem dX0_canServe_50 : decode cX0_canServe 50 = .ok (.iconst 1, 1) := by decide +kernel
theorem dX0_canServe_51 : decode cX0_canServe 51 = .ok (.goto 4, 3) := by decide +kernel
theorem dX0_canServe_54 : decode cX0_canServe 54 = .ok (.iconst 0, 1) := by decide +kernel
theorem dX0_canServe_55 : decode cX0_canServe 55 = .ok (.istore_n 3, 1) := by decide +kernel
theorem dX0_canServe_56 : decode cX0_canServe 56 = .ok (.iload_n 3, 1) := by decide +kernel
theorem dX0_canServe_57 : decode cX0_canServe 57 = .ok (.ifCond .eq 11, 3) := by decide +kernel
theorem dX0_canServe_60 : decode cX0_canServe 60 = .ok (.aload_n 0, 1) := by decide +kernel
theorem dX0_canServe_61 : decode cX0_canServe 61 = .ok (.iload_n 1, 1) := by decide +kernel
theorem dX0_canServe_62 : decode cX0_canServe 62 = .ok (.invokevirtual 116, 3) := by decide +kernel
theorem dX0_canServe_65 : decode cX0_canServe 65 = .ok (.ifCond .eq 7, 3) := by decide +kernel
theorem dX0_canServe_68 : decode cX0_canServe 68 = .ok (.iconst 1, 1) := by decide +kernel
theorem dX0_canServe_69 : decode cX0_canServe 69 = .ok (.goto 4, 3) := by decide +kernel
theorem dX0_canServe_72 : decode cX0_canServe 72 = .ok (.iconst 0, 1) := by decide +kernel
theorem dX0_canServe_73 : decode cX0_canServe 73 = .ok (.ireturn, 1) := by decide +kernel
theorem dX0_canFill_0 : decode cX0_canFill 0 = .ok (.aload_n 0, 1) := by decide +kernel
theorem dX0_canFill_1 : decode cX0_canFill 1 = .ok (.getfield 25, 3) := by decide +kernel
theorem dX0_canFill_4 : decode cX0_canFill 4 = .ok (.iload_n 1, 1) := by decide +kernel
theorem dX0_canFill_5 : decode cX0_canFill 5 = .ok (.iconst 1, 1) := by decide +kernel
theorem dX0_canFill_6 : decode cX0_canFill 6 = .ok (.iadd, 1) := by decide +kernel
theorem dX0_canFill_7 : decode cX0_canFill 7 = .ok (.iaload, 1) := by decide +kernel
theorem dX0_canFill_8 : decode cX0_canFill 8 = .ok (.bipush 32, 2) := by decide +kernel
theorem dX0_canFill_10 : decode cX0_canFill 10 = .ok (.if_icmp .lt 7, 3) := by decide +kernel
theorem dX0_canFill_13 : decode cX0_canFill 13 = .ok (.iconst 1, 1) := by decide +kernel
theorem dX0_canFill_14 : decode cX0_canFill 14 = .ok (.goto 4, 3) := by decide +kernel
theorem dX0_canFill_17 : decode cX0_canFill 17 = .ok (.iconst 0, 1) := by decide +kernel
theorem dX0_canFill_18 : decode cX0_canFill 18 = .ok (.ireturn, 1) := by decide +kernel
set_option maxRecDepth 20000 in
theorem ggX0_fits_X0_goesDown : GoodIn wsX0_fits wsX0_goesDown := goodIn_r _ [6, 7, 8, 9, 10, 11, 12, 13, 14, 15, 16, 17, 18, 19, 20, 21, 22, 23, 24, 25, 26] (by decide +kernel) (by decide +kernel)
set_option maxRecDepth 20000 in
theorem gX0_fits_X0_goesDown : GoodIn wsX0_fits (wsV RX0 112 RX0 yX0_goesDown wsX0_goesDown) := goodIn_app (goodIn_of _ (by decide +kernel)) ggX0_fits_X0_goesDown
theorem dX0_fits_0 : decode cX0_fits 0 = .ok (.aload_n 0, 1) := by decide +kernel
theorem dX0_fits_1 : decode cX0_fits 1 = .ok (.getfield 34, 3) := by decide +kernel
theorem dX0_fits_4 : decode cX0_fits 4 = .ok (.iload_n 1, 1) := by decide +kernel
theorem dX0_fits_5 : decode cX0_fits 5 = .ok (.baload, 1) := by decide +kernel
theorem dX0_fits_6 : decode cX0_fits 6 = .ok (.aload_n 0, 1) := by decide +kernel
theorem dX0_fits_7 : decode cX0_fits 7 = .ok (.iload_n 2, 1) := by decide +kernel
theorem dX0_fits_8 : decode cX0_fits 8 = .ok (.invokevirtual 112, 3) := by decide +kernel
theorem dX0_fits_11 : decode cX0_fits 11 = .ok (.if_icmp .ne 7, 3) := by decide +kernel
theorem dX0_fits_14 : decode cX0_fits 14 = .ok (.iconst 1, 1) := by decide +kernel
theorem dX0_fits_15 : decode cX0_fits 15 = .ok (.goto 4, 3) := by decide +kernel
theorem dX0_fits_18 : decode cX0_fits 18 = .ok (.iconst 0, 1) := by decide +kernel
theorem dX0_fits_19 : decode cX0_fits 19 = .ok (.ireturn, 1) := by decide +kernel
theorem dX0_goesDown_0 : decode cX0_goesDown 0 = .ok (.aload_n 0, 1) := by decide +kernel
theorem dX0_goesDown_1 : decode cX0_goesDown 1 = .ok (.getfield 47, 3) := by decide +kernel
theorem dX0_goesDown_4 : decode cX0_goesDown 4 = .ok (.iload_n 1, 1) := by decide +kernel
theorem dX0_goesDown_5 : decode cX0_goesDown 5 = .ok (.iaload, 1) := by decide +kernel
theorem dX0_goesDown_6 : decode cX0_goesDown 6 = .ok (.aload_n 0, 1) := by decide +kernel
theorem dX0_goesDown_7 : decode cX0_goesDown 7 = .ok (.getfield 44, 3) := by decide +kernel
theorem dX0_goesDown_10 : decode cX0_goesDown 10 = .ok (.iload_n 1, 1) := by decide +kernel
theorem dX0_goesDown_11 : decode cX0_goesDown 11 = .ok (.iaload, 1) := by decide +kernel
theorem dX0_goesDown_12 : decode cX0_goesDown 12 = .ok (.if_icmp .ge 7, 3) := by decide +kernel
theorem dX0_goesDown_15 : decode cX0_goesDown 15 = .ok (.iconst 1, 1) := by decide +kernel
theorem dX0_goesDown_16 : decode cX0_goesDown 16 = .ok (.goto 4, 3) := by decide +kernel
theorem dX0_goesDown_19 : decode cX0_goesDown 19 = .ok (.iconst 0, 1) := by decide +kernel
theorem dX0_goesDown_20 : decode cX0_goesDown 20 = .ok (.ireturn, 1) := by decide +kernel
theorem dX0_hasCome_0 : decode cX0_hasCome 0 = .ok (.aload_n 0, 1) := by decide +kernel
theorem dX0_hasCome_1 : decode cX0_hasCome 1 = .ok (.getfield 44, 3) := by decide +kernel
theorem dX0_hasCome_4 : decode cX0_hasCome 4 = .ok (.iload_n 1, 1) := by decide +kernel
theorem dX0_hasCome_5 : decode cX0_hasCome 5 = .ok (.iaload, 1) := by decide +kernel
theorem dX0_hasCome_6 : decode cX0_hasCome 6 = .ok (.aload_n 0, 1) := by decide +kernel
theorem dX0_hasCome_7 : decode cX0_hasCome 7 = .ok (.getfield 47, 3) := by decide +kernel
theorem dX0_hasCome_10 : decode cX0_hasCome 10 = .ok (.iload_n 1, 1) := by decide +kernel
theorem dX0_hasCome_11 : decode cX0_hasCome 11 = .ok (.iaload, 1) := by decide +kernel
theorem dX0_hasCome_12 : decode cX0_hasCome 12 = .ok (.if_icmp .ne 7, 3) := by decide +kernel
theorem dX0_hasCome_15 : decode cX0_hasCome 15 = .ok (.iconst 1, 1) := by decide +kernel
theorem dX0_hasCome_16 : decode cX0_hasCome 16 = .ok (.goto 4, 3) := by decide +kernel
theorem dX0_hasCome_19 : decode cX0_hasCome 19 = .ok (.iconst 0, 1) := by decide +kernel
theorem dX0_hasCome_20 : decode cX0_hasCome 20 = .ok (.ireturn, 1) := by decide +kernel
set_option maxRecDepth 20000 in
theorem ggX0_waitsAt_X0_hasCome : GoodIn wsX0_waitsAt wsX0_hasCome := goodIn_r _ [6, 1, 7, 12, 13, 14, 15, 16, 17, 18, 19, 20, 21, 22, 23, 24, 25, 26, 27, 28, 29] (by decide +kernel) (by decide +kernel)
set_option maxRecDepth 20000 in
theorem gX0_waitsAt_X0_hasCome : GoodIn wsX0_waitsAt (wsV RX0 119 RX0 yX0_hasCome wsX0_hasCome) := goodIn_app (goodIn_of _ (by decide +kernel)) ggX0_waitsAt_X0_hasCome
set_option maxRecDepth 20000 in
theorem ggX0_waitsAt_X0_goesDown : GoodIn wsX0_waitsAt wsX0_goesDown := goodIn_r _ [11, 7, 1, 12, 13, 14, 15, 16, 17, 18, 19, 20, 21, 22, 23, 24, 25, 26, 27, 28, 29] (by decide +kernel) (by decide +kernel)
set_option maxRecDepth 20000 in
theorem gX0_waitsAt_X0_goesDown : GoodIn wsX0_waitsAt (wsV RX0 112 RX0 yX0_goesDown wsX0_goesDown) := goodIn_app (goodIn_of _ (by decide +kernel)) ggX0_waitsAt_X0_goesDown
theorem dX0_waitsAt_0 : decode cX0_waitsAt 0 = .ok (.aload_n 0, 1) := by decide +kernel
theorem dX0_waitsAt_1 : decode cX0_waitsAt 1 = .ok (.iload_n 1, 1) := by decide +kernel
theorem dX0_waitsAt_2 : decode cX0_waitsAt 2 = .ok (.invokevirtual 119, 3) := by decide +kernel
theorem dX0_waitsAt_5 : decode cX0_waitsAt 5 = .ok (.ifCond .eq 5, 3) := by decide +kernel
theorem dX0_waitsAt_8 : decode cX0_waitsAt 8 = .ok (.iconst (-1), 1) := by decide +kernel
theorem dX0_waitsAt_9 : decode cX0_waitsAt 9 = .ok (.ireturn, 1) := by decide +kernel
theorem dX0_waitsAt_10 : decode cX0_waitsAt 10 = .ok (.aload_n 0, 1) := by decide +kernel
theorem dX0_waitsAt_11 : decode cX0_waitsAt 11 = .ok (.iload_n 1, 1) := by decide +kernel
theorem dX0_waitsAt_12 : decode cX0_waitsAt 12 = .ok (.invokevirtual 112, 3) := by decide +kernel
theorem dX0_waitsAt_15 : decode cX0_waitsAt 15 = .ok (.ifCond .eq 14, 3) := by decide +kernel
theorem dX0_waitsAt_18 : decode cX0_waitsAt 18 = .ok (.aload_n 0, 1) := by decide +kernel
theorem dX0_waitsAt_19 : decode cX0_waitsAt 19 = .ok (.getfield 44, 3) := by decide +kernel
theorem dX0_waitsAt_22 : decode cX0_waitsAt 22 = .ok (.iload_n 1, 1) := by decide +kernel
theorem dX0_waitsAt_23 : decode cX0_waitsAt 23 = .ok (.iaload, 1) := by decide +kernel
theorem dX0_waitsAt_24 : decode cX0_waitsAt 24 = .ok (.iconst 1, 1) := by decide +kernel
theorem dX0_waitsAt_25 : decode cX0_waitsAt 25 = .ok (.isub, 1) := by decide +kernel
theorem dX0_waitsAt_26 : decode cX0_waitsAt 26 = .ok (.goto 9, 3) := by decide +kernel
theorem dX0_waitsAt_29 : decode cX0_waitsAt 29 = .ok (.aload_n 0, 1) := by decide +kernel
theorem dX0_waitsAt_30 : decode cX0_waitsAt 30 = .ok (.getfield 44, 3) := by decide +kernel
theorem dX0_waitsAt_33 : decode cX0_waitsAt 33 = .ok (.iload_n 1, 1) := by decide +kernel
theorem dX0_waitsAt_34 : decode cX0_waitsAt 34 = .ok (.iaload, 1) := by decide +kernel
theorem dX0_waitsAt_35 : decode cX0_waitsAt 35 = .ok (.ireturn, 1) := by decide +kernel
set_option maxRecDepth 20000 in
theorem ggX0_serve_X0_fits : GoodIn wsX0_serve wsX0_fits := goodIn_r _ [11, 12, 13, 14, 15, 10, 16, 17, 1, 33, 34, 35, 36, 37, 38, 39, 40, 41, 42, 43, 44, 45, 46, 47, 48, 49, 50] (by decide +kernel) (by decide +kernel)
set_option maxRecDepth 20000 in
theorem gX0_serve_X0_fits : GoodIn wsX0_serve (wsV RX0 109 RX0 yX0_fits wsX0_fits) := goodIn_app (goodIn_of _ (by decide +kernel)) ggX0_serve_X0_fits
set_option maxRecDepth 20000 in
theorem ggX0_serve_X0_turnChamber : GoodIn wsX0_serve wsX0_turnChamber := goodIn_r _ [21, 12, 22, 23, 24, 25, 26, 10, 27, 28, 29, 30, 31, 32, 33, 34, 35, 36, 37, 38, 39, 40, 41, 42, 43, 44, 45, 46, 47, 48, 49, 50] (by decide +kernel) (by decide +kernel)
set_option maxRecDepth 20000 in
theorem gX0_serve_X0_turnChamber : GoodIn wsX0_serve (wsV RX0 122 RX0 yX0_turnChamber wsX0_turnChamber) := goodIn_app (goodIn_of _ (by decide +kernel)) ggX0_serve_X0_turnChamber
set_option maxRecDepth 20000 in
theorem ggX0_serve_X0_goesDown : GoodIn wsX0_serve wsX0_goesDown := goodIn_r _ [16, 17, 1, 33, 34, 35, 36, 37, 38, 39, 40, 41, 42, 43, 44, 45, 46, 47, 48, 49, 50] (by decide +kernel) (by decide +kernel)
set_option maxRecDepth 20000 in
theorem gX0_serve_X0_goesDown : GoodIn wsX0_serve (wsV RX0 112 RX0 yX0_goesDown wsX0_goesDown) := goodIn_app (goodIn_of _ (by decide +kernel)) ggX0_serve_X0_goesDown
theorem dX0_serve_0 : decode cX0_serve 0 = .ok (.aload_n 0, 1) := by decide +kernel
theorem dX0_serve_1 : decode cX0_serve 1 = .ok (.iload_n 1, 1) := by decide +kernel
theorem dX0_serve_2 : decode cX0_serve 2 = .ok (.iload_n 2, 1) := by decide +kernel
theorem dX0_serve_3 : decode cX0_serve 3 = .ok (.invokevirtual 109, 3) := by decide +kernel
theorem dX0_serve_6 : decode cX0_serve 6 = .ok (.ifCond .ne 8, 3) := by decide +kernel
theorem dX0_serve_9 : decode cX0_serve 9 = .ok (.aload_n 0, 1) := by decide +kernel
theorem dX0_serve_10 : decode cX0_serve 10 = .ok (.iload_n 1, 1) := by decide +kernel
theorem dX0_serve_11 : decode cX0_serve 11 = .ok (.invokevirtual 122, 3) := by decide +kernel
theorem dX0_serve_14 : decode cX0_serve 14 = .ok (.aload_n 0, 1) := by decide +kernel
theorem dX0_serve_15 : decode cX0_serve 15 = .ok (.iload_n 1, 1) := by decide +kernel
theorem dX0_serve_16 : decode cX0_serve 16 = .ok (.invokevirtual 122, 3) := by decide +kernel
theorem dX0_serve_19 : decode cX0_serve 19 = .ok (.aload_n 0, 1) := by decide +kernel
theorem dX0_serve_20 : decode cX0_serve 20 = .ok (.getfield 44, 3) := by decide +kernel
theorem dX0_serve_23 : decode cX0_serve 23 = .ok (.iload_n 2, 1) := by decide +kernel
theorem dX0_serve_24 : decode cX0_serve 24 = .ok (.aload_n 0, 1) := by decide +kernel
theorem dX0_serve_25 : decode cX0_serve 25 = .ok (.iload_n 2, 1) := by decide +kernel
theorem dX0_serve_26 : decode cX0_serve 26 = .ok (.invokevirtual 112, 3) := by decide +kernel
theorem dX0_serve_29 : decode cX0_serve 29 = .ok (.ifCond .eq 7, 3) := by decide +kernel
theorem dX0_serve_32 : decode cX0_serve 32 = .ok (.iload_n 1, 1) := by decide +kernel
theorem dX0_serve_33 : decode cX0_serve 33 = .ok (.goto 6, 3) := by decide +kernel
theorem dX0_serve_36 : decode cX0_serve 36 = .ok (.iload_n 1, 1) := by decide +kernel
theorem dX0_serve_37 : decode cX0_serve 37 = .ok (.iconst 1, 1) := by decide +kernel
theorem dX0_serve_38 : decode cX0_serve 38 = .ok (.iadd, 1) := by decide +kernel
theorem dX0_serve_39 : decode cX0_serve 39 = .ok (.iastore, 1) := by decide +kernel
theorem dX0_serve_40 : decode cX0_serve 40 = .ok (.aload_n 0, 1) := by decide +kernel
theorem dX0_serve_41 : decode cX0_serve 41 = .ok (.getfield 50, 3) := by decide +kernel
theorem dX0_serve_44 : decode cX0_serve 44 = .ok (.iload_n 2, 1) := by decide +kernel
theorem dX0_serve_45 : decode cX0_serve 45 = .ok (.dup2, 1) := by decide +kernel
theorem dX0_serve_46 : decode cX0_serve 46 = .ok (.iaload, 1) := by decide +kernel
theorem dX0_serve_47 : decode cX0_serve 47 = .ok (.aload_n 0, 1) := by decide +kernel
theorem dX0_serve_48 : decode cX0_serve 48 = .ok (.getfield 9, 3) := by decide +kernel
theorem dX0_serve_51 : decode cX0_serve 51 = .ok (.isub, 1) := by decide +kernel
theorem dX0_serve_52 : decode cX0_serve 52 = .ok (.iastore, 1) := by decide +kernel
theorem dX0_serve_53 : decode cX0_serve 53 = .ok (.aload_n 0, 1) := by decide +kernel
theorem dX0_serve_54 : decode cX0_serve 54 = .ok (.dup, 1) := by decide +kernel
theorem dX0_serve_55 : decode cX0_serve 55 = .ok (.getfield 59, 3) := by decide +kernel
theorem dX0_serve_58 : decode cX0_serve 58 = .ok (.aload_n 0, 1) := by decide +kernel
theorem dX0_serve_59 : decode cX0_serve 59 = .ok (.getfield 9, 3) := by decide +kernel
theorem dX0_serve_62 : decode cX0_serve 62 = .ok (.iadd, 1) := by decide +kernel
theorem dX0_serve_63 : decode cX0_serve 63 = .ok (.putfield 59, 3) := by decide +kernel
theorem dX0_serve_66 : decode cX0_serve 66 = .ok (.aload_n 0, 1) := by decide +kernel
theorem dX0_serve_67 : decode cX0_serve 67 = .ok (.getfield 53, 3) := by decide +kernel
theorem dX0_serve_70 : decode cX0_serve 70 = .ok (.iload_n 2, 1) := by decide +kernel
theorem dX0_serve_71 : decode cX0_serve 71 = .ok (.dup2, 1) := by decide +kernel
theorem dX0_serve_72 : decode cX0_serve 72 = .ok (.iaload, 1) := by decide +kernel
theorem dX0_serve_73 : decode cX0_serve 73 = .ok (.iconst 1, 1) := by decide +kernel
theorem dX0_serve_74 : decode cX0_serve 74 = .ok (.iadd, 1) := by decide +kernel
theorem dX0_serve_75 : decode cX0_serve 75 = .ok (.iastore, 1) := by decide +kernel
theorem dX0_serve_76 : decode cX0_serve 76 = .ok (.aload_n 0, 1) := by decide +kernel
theorem dX0_serve_77 : decode cX0_serve 77 = .ok (.getfield 38, 3) := by decide +kernel
theorem dX0_serve_80 : decode cX0_serve 80 = .ok (.iload_n 1, 1) := by decide +kernel
theorem dX0_serve_81 : decode cX0_serve 81 = .ok (.dup2, 1) := by decide +kernel
theorem dX0_serve_82 : decode cX0_serve 82 = .ok (.iaload, 1) := by decide +kernel
theorem dX0_serve_83 : decode cX0_serve 83 = .ok (.iconst 1, 1) := by decide +kernel
theorem dX0_serve_84 : decode cX0_serve 84 = .ok (.iadd, 1) := by decide +kernel
theorem dX0_serve_85 : decode cX0_serve 85 = .ok (.iastore, 1) := by decide +kernel
theorem dX0_serve_86 : decode cX0_serve 86 = .ok (.return_, 1) := by decide +kernel
set_option maxRecDepth 20000 in
theorem ggX0_turnChamber_X0_pour : GoodIn wsX0_turnChamber wsX0_pour := goodIn_r _ [8, 2, 9, 10, 11, 12, 13, 14, 15, 16, 17, 18, 19, 20, 21, 22, 23, 24, 25, 26, 27, 28, 29, 30, 31] (by decide +kernel) (by decide +kernel)
set_option maxRecDepth 20000 in
theorem gX0_turnChamber_X0_pour : GoodIn wsX0_turnChamber (wsV RX0 85 RX0 yX0_pour wsX0_pour) := goodIn_app (goodIn_of _ (by decide +kernel)) ggX0_turnChamber_X0_pour
theorem dX0_turnChamber_0 : decode cX0_turnChamber 0 = .ok (.aload_n 0, 1) := by decide +kernel
theorem dX0_turnChamber_1 : decode cX0_turnChamber 1 = .ok (.getfield 34, 3) := by decide +kernel
theorem dX0_turnChamber_4 : decode cX0_turnChamber 4 = .ok (.iload_n 1, 1) := by decide +kernel
theorem dX0_turnChamber_5 : decode cX0_turnChamber 5 = .ok (.baload, 1) := by decide +kernel
theorem dX0_turnChamber_6 : decode cX0_turnChamber 6 = .ok (.ifCond .eq 20, 3) := by decide +kernel
theorem dX0_turnChamber_9 : decode cX0_turnChamber 9 = .ok (.aload_n 0, 1) := by decide +kernel
theorem dX0_turnChamber_10 : decode cX0_turnChamber 10 = .ok (.getfield 34, 3) := by decide +kernel
theorem dX0_turnChamber_13 : decode cX0_turnChamber 13 = .ok (.iload_n 1, 1) := by decide +kernel
theorem dX0_turnChamber_14 : decode cX0_turnChamber 14 = .ok (.iconst 0, 1) := by decide +kernel
theorem dX0_turnChamber_15 : decode cX0_turnChamber 15 = .ok (.bastore, 1) := by decide +kernel
theorem dX0_turnChamber_16 : decode cX0_turnChamber 16 = .ok (.aload_n 0, 1) := by decide +kernel
theorem dX0_turnChamber_17 : decode cX0_turnChamber 17 = .ok (.iload_n 1, 1) := by decide +kernel
theorem dX0_turnChamber_18 : decode cX0_turnChamber 18 = .ok (.bipush 12, 2) := by decide +kernel
theorem dX0_turnChamber_20 : decode cX0_turnChamber 20 = .ok (.invokevirtual 85, 3) := by decide +kernel
theorem dX0_turnChamber_23 : decode cX0_turnChamber 23 = .ok (.goto 34, 3) := by decide +kernel
theorem dX0_turnChamber_26 : decode cX0_turnChamber 26 = .ok (.aload_n 0, 1) := by decide +kernel
theorem dX0_turnChamber_27 : decode cX0_turnChamber 27 = .ok (.getfield 34, 3) := by decide +kernel
theorem dX0_turnChamber_30 : decode cX0_turnChamber 30 = .ok (.iload_n 1, 1) := by decide +kernel
theorem dX0_turnChamber_31 : decode cX0_turnChamber 31 = .ok (.iconst 1, 1) := by decide +kernel
theorem dX0_turnChamber_32 : decode cX0_turnChamber 32 = .ok (.bastore, 1) := by decide +kernel
theorem dX0_turnChamber_33 : decode cX0_turnChamber 33 = .ok (.aload_n 0, 1) := by decide +kernel
theorem dX0_turnChamber_34 : decode cX0_turnChamber 34 = .ok (.getfield 25, 3) := by decide +kernel
theorem dX0_turnChamber_37 : decode cX0_turnChamber 37 = .ok (.iload_n 1, 1) := by decide +kernel
theorem dX0_turnChamber_38 : decode cX0_turnChamber 38 = .ok (.iconst 1, 1) := by decide +kernel
theorem dX0_turnChamber_39 : decode cX0_turnChamber 39 = .ok (.iadd, 1) := by decide +kernel
theorem dX0_turnChamber_40 : decode cX0_turnChamber 40 = .ok (.dup2, 1) := by decide +kernel
theorem dX0_turnChamber_41 : decode cX0_turnChamber 41 = .ok (.iaload, 1) := by decide +kernel
theorem dX0_turnChamber_42 : decode cX0_turnChamber 42 = .ok (.bipush 12, 2) := by decide +kernel
theorem dX0_turnChamber_44 : decode cX0_turnChamber 44 = .ok (.isub, 1) := by decide +kernel
theorem dX0_turnChamber_45 : decode cX0_turnChamber 45 = .ok (.iastore, 1) := by decide +kernel
theorem dX0_turnChamber_46 : decode cX0_turnChamber 46 = .ok (.aload_n 0, 1) := by decide +kernel
theorem dX0_turnChamber_47 : decode cX0_turnChamber 47 = .ok (.getfield 41, 3) := by decide +kernel
theorem dX0_turnChamber_50 : decode cX0_turnChamber 50 = .ok (.iload_n 1, 1) := by decide +kernel
theorem dX0_turnChamber_51 : decode cX0_turnChamber 51 = .ok (.dup2, 1) := by decide +kernel
theorem dX0_turnChamber_52 : decode cX0_turnChamber 52 = .ok (.iaload, 1) := by decide +kernel
theorem dX0_turnChamber_53 : decode cX0_turnChamber 53 = .ok (.bipush 12, 2) := by decide +kernel
theorem dX0_turnChamber_55 : decode cX0_turnChamber 55 = .ok (.iadd, 1) := by decide +kernel
theorem dX0_turnChamber_56 : decode cX0_turnChamber 56 = .ok (.iastore, 1) := by decide +kernel
theorem dX0_turnChamber_57 : decode cX0_turnChamber 57 = .ok (.return_, 1) := by decide +kernel
set_option maxRecDepth 20000 in
theorem ggX0_tellBarge_X0_waitsAt : GoodIn wsX0_tellBarge wsX0_waitsAt := goodIn_r _ [9, 1, 10, 11, 12, 8, 13, 2, 14, 15, 16, 17, 18, 19, 20, 21, 22, 23, 24, 25, 26, 27, 28, 29, 30, 31, 32, 33, 34, 35] (by decide +kernel) (by decide +kernel)
set_option maxRecDepth 20000 in
theorem gX0_tellBarge_X0_waitsAt : GoodIn wsX0_tellBarge (wsV RX0 101 RX0 yX0_waitsAt wsX0_waitsAt) := goodIn_app (goodIn_of _ (by decide +kernel)) ggX0_tellBarge_X0_waitsAt
theorem dX0_tellBarge_0 : decode cX0_tellBarge 0 = .ok (.iload_n 2, 1) := by decide +kernel
theorem dX0_tellBarge_1 : decode cX0_tellBarge 1 = .ok (.tableswitch 59 0 3 #[31, 38, 45, 52], 31) := by decide +kernel
theorem dX0_tellBarge_32 : decode cX0_tellBarge 32 = .ok (.aload_n 0, 1) := by decide +kernel
theorem dX0_tellBarge_33 : decode cX0_tellBarge 33 = .ok (.getfield 44, 3) := by decide +kernel
theorem dX0_tellBarge_36 : decode cX0_tellBarge 36 = .ok (.iload_n 1, 1) := by decide +kernel
theorem dX0_tellBarge_37 : decode cX0_tellBarge 37 = .ok (.iaload, 1) := by decide +kernel
theorem dX0_tellBarge_38 : decode cX0_tellBarge 38 = .ok (.ireturn, 1) := by decide +kernel
theorem dX0_tellBarge_39 : decode cX0_tellBarge 39 = .ok (.aload_n 0, 1) := by decide +kernel
theorem dX0_tellBarge_40 : decode cX0_tellBarge 40 = .ok (.getfield 47, 3) := by decide +kernel
theorem dX0_tellBarge_43 : decode cX0_tellBarge 43 = .ok (.iload_n 1, 1) := by decide +kernel
theorem dX0_tellBarge_44 : decode cX0_tellBarge 44 = .ok (.iaload, 1) := by decide +kernel
theorem dX0_tellBarge_45 : decode cX0_tellBarge 45 = .ok (.ireturn, 1) := by decide +kernel
theorem dX0_tellBarge_46 : decode cX0_tellBarge 46 = .ok (.aload_n 0, 1) := by decide +kernel
theorem dX0_tellBarge_47 : decode cX0_tellBarge 47 = .ok (.getfield 50, 3) := by decide +kernel
theorem dX0_tellBarge_50 : decode cX0_tellBarge 50 = .ok (.iload_n 1, 1) := by decide +kernel
theorem dX0_tellBarge_51 : decode cX0_tellBarge 51 = .ok (.iaload, 1) := by decide +kernel
theorem dX0_tellBarge_52 : decode cX0_tellBarge 52 = .ok (.ireturn, 1) := by decide +kernel
theorem dX0_tellBarge_53 : decode cX0_tellBarge 53 = .ok (.aload_n 0, 1) := by decide +kernel
theorem dX0_tellBarge_54 : decode cX0_tellBarge 54 = .ok (.getfield 53, 3) := by decide +kernel
theorem dX0_tellBarge_57 : decode cX0_tellBarge 57 = .ok (.iload_n 1, 1) := by decide +kernel
theorem dX0_tellBarge_58 : decode cX0_tellBarge 58 = .ok (.iaload, 1) := by decide +kernel
theorem dX0_tellBarge_59 : decode cX0_tellBarge 59 = .ok (.ireturn, 1) := by decide +kernel
theorem dX0_tellBarge_60 : decode cX0_tellBarge 60 = .ok (.aload_n 0, 1) := by decide +kernel
theorem dX0_tellBarge_61 : decode cX0_tellBarge 61 = .ok (.iload_n 1, 1) := by decide +kernel
theorem dX0_tellBarge_62 : decode cX0_tellBarge 62 = .ok (.invokevirtual 101, 3) := by decide +kernel
theorem dX0_tellBarge_65 : decode cX0_tellBarge 65 = .ok (.ireturn, 1) := by decide +kernel
set_option maxRecDepth 20000 in
theorem ggX0_tellPound_X0_bargesAt : GoodIn wsX0_tellPound wsX0_bargesAt := goodIn_r _ [8, 9, 10, 11, 12, 13, 14, 15, 16, 17, 18, 19, 20, 21, 22, 23, 24, 25, 26, 27, 28] (by decide +kernel) (by decide +kernel)
set_option maxRecDepth 20000 in
theorem gX0_tellPound_X0_bargesAt : GoodIn wsX0_tellPound (wsV RX0 126 RX0 yX0_bargesAt wsX0_bargesAt) := goodIn_app (goodIn_of _ (by decide +kernel)) ggX0_tellPound_X0_bargesAt
theorem dX0_tellPound_0 : decode cX0_tellPound 0 = .ok (.iload_n 2, 1) := by decide +kernel
theorem dX0_tellPound_1 : decode cX0_tellPound 1 = .ok (.tableswitch 47 0 2 #[27, 34, 40], 27) := by decide +kernel
theorem dX0_tellPound_28 : decode cX0_tellPound 28 = .ok (.aload_n 0, 1) := by decide +kernel
theorem dX0_tellPound_29 : decode cX0_tellPound 29 = .ok (.getfield 25, 3) := by decide +kernel
theorem dX0_tellPound_32 : decode cX0_tellPound 32 = .ok (.iload_n 1, 1) := by decide +kernel
theorem dX0_tellPound_33 : decode cX0_tellPound 33 = .ok (.iaload, 1) := by decide +kernel
theorem dX0_tellPound_34 : decode cX0_tellPound 34 = .ok (.ireturn, 1) := by decide +kernel
theorem dX0_tellPound_35 : decode cX0_tellPound 35 = .ok (.aload_n 0, 1) := by decide +kernel
theorem dX0_tellPound_36 : decode cX0_tellPound 36 = .ok (.iload_n 1, 1) := by decide +kernel
theorem dX0_tellPound_37 : decode cX0_tellPound 37 = .ok (.invokevirtual 126, 3) := by decide +kernel
theorem dX0_tellPound_40 : decode cX0_tellPound 40 = .ok (.ireturn, 1) := by decide +kernel
theorem dX0_tellPound_41 : decode cX0_tellPound 41 = .ok (.aload_n 0, 1) := by decide +kernel
theorem dX0_tellPound_42 : decode cX0_tellPound 42 = .ok (.getfield 28, 3) := by decide +kernel
theorem dX0_tellPound_45 : decode cX0_tellPound 45 = .ok (.iload_n 1, 1) := by decide +kernel
theorem dX0_tellPound_46 : decode cX0_tellPound 46 = .ok (.iaload, 1) := by decide +kernel
theorem dX0_tellPound_47 : decode cX0_tellPound 47 = .ok (.ireturn, 1) := by decide +kernel
theorem dX0_tellPound_48 : decode cX0_tellPound 48 = .ok (.aload_n 0, 1) := by decide +kernel
theorem dX0_tellPound_49 : decode cX0_tellPound 49 = .ok (.getfield 31, 3) := by decide +kernel
theorem dX0_tellPound_52 : decode cX0_tellPound 52 = .ok (.iload_n 1, 1) := by decide +kernel
theorem dX0_tellPound_53 : decode cX0_tellPound 53 = .ok (.iaload, 1) := by decide +kernel
theorem dX0_tellPound_54 : decode cX0_tellPound 54 = .ok (.ireturn, 1) := by decide +kernel
set_option maxRecDepth 20000 in
theorem ggX0_tellLock_X0_bargesWaitingAt : GoodIn wsX0_tellLock wsX0_bargesWaitingAt := goodIn_r _ [8, 9, 10, 11, 12, 7, 13, 14, 15, 16, 17, 18, 19, 20, 21, 22, 23, 44, 45, 46, 47, 48, 49, 50, 51, 52, 53, 54, 55, 56, 57, 58, 59, 60, 61] (by decide +kernel) (by decide +kernel)
set_option maxRecDepth 20000 in
theorem gX0_tellLock_X0_bargesWaitingAt : GoodIn wsX0_tellLock (wsV RX0 129 RX0 yX0_bargesWaitingAt wsX0_bargesWaitingAt) := goodIn_app (goodIn_of _ (by decide +kernel)) ggX0_tellLock_X0_bargesWaitingAt
set_option maxRecDepth 20000 in
theorem ggX0_tellLock_X0_nextBarge : GoodIn wsX0_tellLock wsX0_nextBarge := goodIn_r _ [27, 9, 10, 11, 12, 7, 13, 14, 15, 16, 17, 18, 19, 20, 21, 22, 23, 28, 29, 30, 31, 32, 33, 34, 1, 35, 36, 37, 38, 39, 40, 41, 42, 43, 44, 45, 46, 47, 48, 49, 50, 51, 52, 53, 54, 55, 56, 57, 58, 59, 60, 61] (by decide +kernel) (by decide +kernel)
set_option maxRecDepth 20000 in
theorem gX0_tellLock_X0_nextBarge : GoodIn wsX0_tellLock (wsV RX0 92 RX0 yX0_nextBarge wsX0_nextBarge) := goodIn_app (goodIn_of _ (by decide +kernel)) ggX0_tellLock_X0_nextBarge
theorem dX0_tellLock_0 : decode cX0_tellLock 0 = .ok (.iload_n 2, 1) := by decide +kernel
theorem dX0_tellLock_1 : decode cX0_tellLock 1 = .ok (.tableswitch 66 0 3 #[31, 46, 52, 59], 31) := by decide +kernel
theorem dX0_tellLock_32 : decode cX0_tellLock 32 = .ok (.aload_n 0, 1) := by decide +kernel
theorem dX0_tellLock_33 : decode cX0_tellLock 33 = .ok (.getfield 34, 3) := by decide +kernel
theorem dX0_tellLock_36 : decode cX0_tellLock 36 = .ok (.iload_n 1, 1) := by decide +kernel
theorem dX0_tellLock_37 : decode cX0_tellLock 37 = .ok (.baload, 1) := by decide +kernel
theorem dX0_tellLock_38 : decode cX0_tellLock 38 = .ok (.ifCond .eq 7, 3) := by decide +kernel
theorem dX0_tellLock_41 : decode cX0_tellLock 41 = .ok (.iconst 1, 1) := by decide +kernel
theorem dX0_tellLock_42 : decode cX0_tellLock 42 = .ok (.goto 4, 3) := by decide +kernel
theorem dX0_tellLock_45 : decode cX0_tellLock 45 = .ok (.iconst 0, 1) := by decide +kernel
theorem dX0_tellLock_46 : decode cX0_tellLock 46 = .ok (.ireturn, 1) := by decide +kernel
theorem dX0_tellLock_47 : decode cX0_tellLock 47 = .ok (.aload_n 0, 1) := by decide +kernel
theorem dX0_tellLock_48 : decode cX0_tellLock 48 = .ok (.iload_n 1, 1) := by decide +kernel
theorem dX0_tellLock_49 : decode cX0_tellLock 49 = .ok (.invokevirtual 129, 3) := by decide +kernel
theorem dX0_tellLock_52 : decode cX0_tellLock 52 = .ok (.ireturn, 1) := by decide +kernel
theorem dX0_tellLock_53 : decode cX0_tellLock 53 = .ok (.aload_n 0, 1) := by decide +kernel
theorem dX0_tellLock_54 : decode cX0_tellLock 54 = .ok (.getfield 38, 3) := by decide +kernel
theorem dX0_tellLock_57 : decode cX0_tellLock 57 = .ok (.iload_n 1, 1) := by decide +kernel
theorem dX0_tellLock_58 : decode cX0_tellLock 58 = .ok (.iaload, 1) := by decide +kernel
theorem dX0_tellLock_59 : decode cX0_tellLock 59 = .ok (.ireturn, 1) := by decide +kernel
theorem dX0_tellLock_60 : decode cX0_tellLock 60 = .ok (.aload_n 0, 1) := by decide +kernel
theorem dX0_tellLock_61 : decode cX0_tellLock 61 = .ok (.getfield 41, 3) := by decide +kernel
theorem dX0_tellLock_64 : decode cX0_tellLock 64 = .ok (.iload_n 1, 1) := by decide +kernel
theorem dX0_tellLock_65 : decode cX0_tellLock 65 = .ok (.iaload, 1) := by decide +kernel
theorem dX0_tellLock_66 : decode cX0_tellLock 66 = .ok (.ireturn, 1) := by decide +kernel
theorem dX0_tellLock_67 : decode cX0_tellLock 67 = .ok (.aload_n 0, 1) := by decide +kernel
theorem dX0_tellLock_68 : decode cX0_tellLock 68 = .ok (.iload_n 1, 1) := by decide +kernel
theorem dX0_tellLock_69 : decode cX0_tellLock 69 = .ok (.iconst 0, 1) := by decide +kernel
theorem dX0_tellLock_70 : decode cX0_tellLock 70 = .ok (.invokevirtual 92, 3) := by decide +kernel
theorem dX0_tellLock_73 : decode cX0_tellLock 73 = .ok (.ireturn, 1) := by decide +kernel
set_option maxRecDepth 20000 in
theorem ggX0_tellWhole_X0_bargesThatHaveCome : GoodIn wsX0_tellWhole wsX0_bargesThatHaveCome := goodIn_r _ [13, 2, 14, 15, 16, 12, 17, 18, 19, 30, 31, 32, 33, 34, 35, 36, 37, 38, 39, 40, 41, 42, 43, 44, 45, 46, 47] (by decide +kernel) (by decide +kernel)
set_option maxRecDepth 20000 in
theorem gX0_tellWhole_X0_bargesThatHaveCome : GoodIn wsX0_tellWhole (wsV RX0 132 RX0 yX0_bargesThatHaveCome wsX0_bargesThatHaveCome) := goodIn_app (goodIn_of _ (by decide +kernel)) ggX0_tellWhole_X0_bargesThatHaveCome
set_option maxRecDepth 20000 in
theorem ggX0_tellWhole_X0_waterOfAll : GoodIn wsX0_tellWhole wsX0_waterOfAll := goodIn_r _ [23, 24, 30, 31, 32, 33, 34, 35, 36, 37, 38, 39, 40, 41, 42, 43, 44, 45, 46, 47] (by decide +kernel) (by decide +kernel)
set_option maxRecDepth 20000 in
theorem gX0_tellWhole_X0_waterOfAll : GoodIn wsX0_tellWhole (wsV RX0 135 RX0 yX0_waterOfAll wsX0_waterOfAll) := goodIn_app (goodIn_of _ (by decide +kernel)) ggX0_tellWhole_X0_waterOfAll
set_option maxRecDepth 20000 in
theorem ggX0_tellWhole_X0_fullChambers : GoodIn wsX0_tellWhole wsX0_fullChambers := goodIn_r _ [28, 29, 30, 31, 32, 33, 34, 35, 36, 37, 38, 39, 40, 41, 42, 43, 44, 45, 46, 47] (by decide +kernel) (by decide +kernel)
set_option maxRecDepth 20000 in
theorem gX0_tellWhole_X0_fullChambers : GoodIn wsX0_tellWhole (wsV RX0 138 RX0 yX0_fullChambers wsX0_fullChambers) := goodIn_app (goodIn_of _ (by decide +kernel)) ggX0_tellWhole_X0_fullChambers
theorem dX0_tellWhole_0 : decode cX0_tellWhole 0 = .ok (.iload_n 1, 1) := by decide +kernel
theorem dX0_tellWhole_1 : decode cX0_tellWhole 1 = .ok (.tableswitch 105 0 8 #[51, 56, 61, 66, 71, 76, 81, 95, 100], 51) := by decide +kernel
theorem dX0_tellWhole_52 : decode cX0_tellWhole 52 = .ok (.aload_n 0, 1) := by decide +kernel
theorem dX0_tellWhole_53 : decode cX0_tellWhole 53 = .ok (.getfield 56, 3) := by decide +kernel
theorem dX0_tellWhole_56 : decode cX0_tellWhole 56 = .ok (.ireturn, 1) := by decide +kernel
theorem dX0_tellWhole_57 : decode cX0_tellWhole 57 = .ok (.aload_n 0, 1) := by decide +kernel
theorem dX0_tellWhole_58 : decode cX0_tellWhole 58 = .ok (.getfield 72, 3) := by decide +kernel
theorem dX0_tellWhole_61 : decode cX0_tellWhole 61 = .ok (.ireturn, 1) := by decide +kernel
theorem dX0_tellWhole_62 : decode cX0_tellWhole 62 = .ok (.aload_n 0, 1) := by decide +kernel
theorem dX0_tellWhole_63 : decode cX0_tellWhole 63 = .ok (.invokevirtual 132, 3) := by decide +kernel
theorem dX0_tellWhole_66 : decode cX0_tellWhole 66 = .ok (.ireturn, 1) := by decide +kernel
theorem dX0_tellWhole_67 : decode cX0_tellWhole 67 = .ok (.aload_n 0, 1) := by decide +kernel
theorem dX0_tellWhole_68 : decode cX0_tellWhole 68 = .ok (.getfield 59, 3) := by decide +kernel
theorem dX0_tellWhole_71 : decode cX0_tellWhole 71 = .ok (.ireturn, 1) := by decide +kernel
theorem dX0_tellWhole_72 : decode cX0_tellWhole 72 = .ok (.aload_n 0, 1) := by decide +kernel
theorem dX0_tellWhole_73 : decode cX0_tellWhole 73 = .ok (.invokevirtual 135, 3) := by decide +kernel
theorem dX0_tellWhole_76 : decode cX0_tellWhole 76 = .ok (.ireturn, 1) := by decide +kernel
theorem dX0_tellWhole_77 : decode cX0_tellWhole 77 = .ok (.aload_n 0, 1) := by decide +kernel
theorem dX0_tellWhole_78 : decode cX0_tellWhole 78 = .ok (.invokevirtual 138, 3) := by decide +kernel
theorem dX0_tellWhole_81 : decode cX0_tellWhole 81 = .ok (.ireturn, 1) := by decide +kernel
theorem dX0_tellWhole_82 : decode cX0_tellWhole 82 = .ok (.aload_n 0, 1) := by decide +kernel
theorem dX0_tellWhole_83 : decode cX0_tellWhole 83 = .ok (.getfield 28, 3) := by decide +kernel
theorem dX0_tellWhole_86 : decode cX0_tellWhole 86 = .ok (.iconst 0, 1) := by decide +kernel
theorem dX0_tellWhole_87 : decode cX0_tellWhole 87 = .ok (.iaload, 1) := by decide +kernel
theorem dX0_tellWhole_88 : decode cX0_tellWhole 88 = .ok (.aload_n 0, 1) := by decide +kernel
theorem dX0_tellWhole_89 : decode cX0_tellWhole 89 = .ok (.getfield 31, 3) := by decide +kernel
theorem dX0_tellWhole_92 : decode cX0_tellWhole 92 = .ok (.iconst 0, 1) := by decide +kernel
theorem dX0_tellWhole_93 : decode cX0_tellWhole 93 = .ok (.iaload, 1) := by decide +kernel
theorem dX0_tellWhole_94 : decode cX0_tellWhole 94 = .ok (.iadd, 1) := by decide +kernel
theorem dX0_tellWhole_95 : decode cX0_tellWhole 95 = .ok (.ireturn, 1) := by decide +kernel
theorem dX0_tellWhole_96 : decode cX0_tellWhole 96 = .ok (.aload_n 0, 1) := by decide +kernel
theorem dX0_tellWhole_97 : decode cX0_tellWhole 97 = .ok (.getfield 9, 3) := by decide +kernel
theorem dX0_tellWhole_100 : decode cX0_tellWhole 100 = .ok (.ireturn, 1) := by decide +kernel
theorem dX0_tellWhole_101 : decode cX0_tellWhole 101 = .ok (.aload_n 0, 1) := by decide +kernel
theorem dX0_tellWhole_102 : decode cX0_tellWhole 102 = .ok (.getfield 18, 3) := by decide +kernel
theorem dX0_tellWhole_105 : decode cX0_tellWhole 105 = .ok (.ireturn, 1) := by decide +kernel
theorem dX0_tellWhole_106 : decode cX0_tellWhole 106 = .ok (.aload_n 0, 1) := by decide +kernel
theorem dX0_tellWhole_107 : decode cX0_tellWhole 107 = .ok (.getfield 15, 3) := by decide +kernel
theorem dX0_tellWhole_110 : decode cX0_tellWhole 110 = .ok (.ireturn, 1) := by decide +kernel
theorem dX0_bargesAt_0 : decode cX0_bargesAt 0 = .ok (.iconst 0, 1) := by decide +kernel
theorem dX0_bargesAt_1 : decode cX0_bargesAt 1 = .ok (.istore_n 2, 1) := by decide +kernel
theorem dX0_bargesAt_2 : decode cX0_bargesAt 2 = .ok (.iconst 0, 1) := by decide +kernel
theorem dX0_bargesAt_3 : decode cX0_bargesAt 3 = .ok (.istore_n 3, 1) := by decide +kernel
theorem dX0_bargesAt_4 : decode cX0_bargesAt 4 = .ok (.iload_n 3, 1) := by decide +kernel
theorem dX0_bargesAt_5 : decode cX0_bargesAt 5 = .ok (.aload_n 0, 1) := by decide +kernel
theorem dX0_bargesAt_6 : decode cX0_bargesAt 6 = .ok (.getfield 72, 3) := by decide +kernel
theorem dX0_bargesAt_9 : decode cX0_bargesAt 9 = .ok (.if_icmp .ge 27, 3) := by decide +kernel
theorem dX0_bargesAt_12 : decode cX0_bargesAt 12 = .ok (.iload_n 2, 1) := by decide +kernel
theorem dX0_bargesAt_13 : decode cX0_bargesAt 13 = .ok (.aload_n 0, 1) := by decide +kernel
theorem dX0_bargesAt_14 : decode cX0_bargesAt 14 = .ok (.getfield 44, 3) := by decide +kernel
theorem dX0_bargesAt_17 : decode cX0_bargesAt 17 = .ok (.iload_n 3, 1) := by decide +kernel
theorem dX0_bargesAt_18 : decode cX0_bargesAt 18 = .ok (.iaload, 1) := by decide +kernel
theorem dX0_bargesAt_19 : decode cX0_bargesAt 19 = .ok (.iload_n 1, 1) := by decide +kernel
theorem dX0_bargesAt_20 : decode cX0_bargesAt 20 = .ok (.if_icmp .ne 7, 3) := by decide +kernel
theorem dX0_bargesAt_23 : decode cX0_bargesAt 23 = .ok (.iconst 1, 1) := by decide +kernel
theorem dX0_bargesAt_24 : decode cX0_bargesAt 24 = .ok (.goto 4, 3) := by decide +kernel
theorem dX0_bargesAt_27 : decode cX0_bargesAt 27 = .ok (.iconst 0, 1) := by decide +kernel
theorem dX0_bargesAt_28 : decode cX0_bargesAt 28 = .ok (.iadd, 1) := by decide +kernel
theorem dX0_bargesAt_29 : decode cX0_bargesAt 29 = .ok (.istore_n 2, 1) := by decide +kernel
theorem dX0_bargesAt_30 : decode cX0_bargesAt 30 = .ok (.iinc 3 1, 3) := by decide +kernel
theorem dX0_bargesAt_33 : decode cX0_bargesAt 33 = .ok (.goto (-29), 3) := by decide +kernel
theorem dX0_bargesAt_36 : decode cX0_bargesAt 36 = .ok (.iload_n 2, 1) := by decide +kernel
theorem dX0_bargesAt_37 : decode cX0_bargesAt 37 = .ok (.ireturn, 1) := by decide +kernel
set_option maxRecDepth 20000 in
theorem ggX0_bargesWaitingAt_X0_waitsAt : GoodIn wsX0_bargesWaitingAt wsX0_waitsAt := goodIn_r _ [6, 7, 8, 9, 10, 5, 11, 12, 13, 14, 15, 16, 17, 18, 19, 20, 21, 22, 23, 24, 25, 26, 27, 28, 29, 30, 31, 32, 33, 34] (by decide +kernel) (by decide +kernel)
set_option maxRecDepth 20000 in
theorem gX0_bargesWaitingAt_X0_waitsAt : GoodIn wsX0_bargesWaitingAt (wsV RX0 101 RX0 yX0_waitsAt wsX0_waitsAt) := goodIn_app (goodIn_of _ (by decide +kernel)) ggX0_bargesWaitingAt_X0_waitsAt
theorem dX0_bargesWaitingAt_0 : decode cX0_bargesWaitingAt 0 = .ok (.iconst 0, 1) := by decide +kernel
theorem dX0_bargesWaitingAt_1 : decode cX0_bargesWaitingAt 1 = .ok (.istore_n 2, 1) := by decide +kernel
theorem dX0_bargesWaitingAt_2 : decode cX0_bargesWaitingAt 2 = .ok (.iconst 0, 1) := by decide +kernel
theorem dX0_bargesWaitingAt_3 : decode cX0_bargesWaitingAt 3 = .ok (.istore_n 3, 1) := by decide +kernel
theorem dX0_bargesWaitingAt_4 : decode cX0_bargesWaitingAt 4 = .ok (.iload_n 3, 1) := by decide +kernel
theorem dX0_bargesWaitingAt_5 : decode cX0_bargesWaitingAt 5 = .ok (.aload_n 0, 1) := by decide +kernel
theorem dX0_bargesWaitingAt_6 : decode cX0_bargesWaitingAt 6 = .ok (.getfield 72, 3) := by decide +kernel
theorem dX0_bargesWaitingAt_9 : decode cX0_bargesWaitingAt 9 = .ok (.if_icmp .ge 26, 3) := by decide +kernel
theorem dX0_bargesWaitingAt_12 : decode cX0_bargesWaitingAt 12 = .ok (.iload_n 2, 1) := by decide +kernel
theorem dX0_bargesWaitingAt_13 : decode cX0_bargesWaitingAt 13 = .ok (.aload_n 0, 1) := by decide +kernel
theorem dX0_bargesWaitingAt_14 : decode cX0_bargesWaitingAt 14 = .ok (.iload_n 3, 1) := by decide +kernel
theorem dX0_bargesWaitingAt_15 : decode cX0_bargesWaitingAt 15 = .ok (.invokevirtual 101, 3) := by decide +kernel
theorem dX0_bargesWaitingAt_18 : decode cX0_bargesWaitingAt 18 = .ok (.iload_n 1, 1) := by decide +kernel
theorem dX0_bargesWaitingAt_19 : decode cX0_bargesWaitingAt 19 = .ok (.if_icmp .ne 7, 3) := by decide +kernel
theorem dX0_bargesWaitingAt_22 : decode cX0_bargesWaitingAt 22 = .ok (.iconst 1, 1) := by decide +kernel
theorem dX0_bargesWaitingAt_23 : decode cX0_bargesWaitingAt 23 = .ok (.goto 4, 3) := by decide +kernel
theorem dX0_bargesWaitingAt_26 : decode cX0_bargesWaitingAt 26 = .ok (.iconst 0, 1) := by decide +kernel
theorem dX0_bargesWaitingAt_27 : decode cX0_bargesWaitingAt 27 = .ok (.iadd, 1) := by decide +kernel
theorem dX0_bargesWaitingAt_28 : decode cX0_bargesWaitingAt 28 = .ok (.istore_n 2, 1) := by decide +kernel
theorem dX0_bargesWaitingAt_29 : decode cX0_bargesWaitingAt 29 = .ok (.iinc 3 1, 3) := by decide +kernel
theorem dX0_bargesWaitingAt_32 : decode cX0_bargesWaitingAt 32 = .ok (.goto (-28), 3) := by decide +kernel
theorem dX0_bargesWaitingAt_35 : decode cX0_bargesWaitingAt 35 = .ok (.iload_n 2, 1) := by decide +kernel
theorem dX0_bargesWaitingAt_36 : decode cX0_bargesWaitingAt 36 = .ok (.ireturn, 1) := by decide +kernel
set_option maxRecDepth 20000 in
theorem ggX0_bargesThatHaveCome_X0_hasCome : GoodIn wsX0_bargesThatHaveCome wsX0_hasCome := goodIn_r _ [6, 7, 8, 9, 10, 11, 12, 13, 14, 15, 16, 17, 18, 19, 20, 21, 22, 23, 24, 25, 26] (by decide +kernel) (by decide +kernel)
set_option maxRecDepth 20000 in
theorem gX0_bargesThatHaveCome_X0_hasCome : GoodIn wsX0_bargesThatHaveCome (wsV RX0 119 RX0 yX0_hasCome wsX0_hasCome) := goodIn_app (goodIn_of _ (by decide +kernel)) ggX0_bargesThatHaveCome_X0_hasCome
theorem dX0_bargesThatHaveCome_0 : decode cX0_bargesThatHaveCome 0 = .ok (.iconst 0, 1) := by decide +kernel
theorem dX0_bargesThatHaveCome_1 : decode cX0_bargesThatHaveCome 1 = .ok (.istore_n 1, 1) := by decide +kernel
theorem dX0_bargesThatHaveCome_2 : decode cX0_bargesThatHaveCome 2 = .ok (.iconst 0, 1) := by decide +kernel
theorem dX0_bargesThatHaveCome_3 : decode cX0_bargesThatHaveCome 3 = .ok (.istore_n 2, 1) := by decide +kernel
theorem dX0_bargesThatHaveCome_4 : decode cX0_bargesThatHaveCome 4 = .ok (.iload_n 2, 1) := by decide +kernel
theorem dX0_bargesThatHaveCome_5 : decode cX0_bargesThatHaveCome 5 = .ok (.aload_n 0, 1) := by decide +kernel
theorem dX0_bargesThatHaveCome_6 : decode cX0_bargesThatHaveCome 6 = .ok (.getfield 72, 3) := by decide +kernel
theorem dX0_bargesThatHaveCome_9 : decode cX0_bargesThatHaveCome 9 = .ok (.if_icmp .ge 25, 3) := by decide +kernel
theorem dX0_bargesThatHaveCome_12 : decode cX0_bargesThatHaveCome 12 = .ok (.iload_n 1, 1) := by decide +kernel
theorem dX0_bargesThatHaveCome_13 : decode cX0_bargesThatHaveCome 13 = .ok (.aload_n 0, 1) := by decide +kernel
theorem dX0_bargesThatHaveCome_14 : decode cX0_bargesThatHaveCome 14 = .ok (.iload_n 2, 1) := by decide +kernel
theorem dX0_bargesThatHaveCome_15 : decode cX0_bargesThatHaveCome 15 = .ok (.invokevirtual 119, 3) := by decide +kernel
theorem dX0_bargesThatHaveCome_18 : decode cX0_bargesThatHaveCome 18 = .ok (.ifCond .eq 7, 3) := by decide +kernel
theorem dX0_bargesThatHaveCome_21 : decode cX0_bargesThatHaveCome 21 = .ok (.iconst 1, 1) := by decide +kernel
theorem dX0_bargesThatHaveCome_22 : decode cX0_bargesThatHaveCome 22 = .ok (.goto 4, 3) := by decide +kernel
theorem dX0_bargesThatHaveCome_25 : decode cX0_bargesThatHaveCome 25 = .ok (.iconst 0, 1) := by decide +kernel
theorem dX0_bargesThatHaveCome_26 : decode cX0_bargesThatHaveCome 26 = .ok (.iadd, 1) := by decide +kernel
theorem dX0_bargesThatHaveCome_27 : decode cX0_bargesThatHaveCome 27 = .ok (.istore_n 1, 1) := by decide +kernel
theorem dX0_bargesThatHaveCome_28 : decode cX0_bargesThatHaveCome 28 = .ok (.iinc 2 1, 3) := by decide +kernel
theorem dX0_bargesThatHaveCome_31 : decode cX0_bargesThatHaveCome 31 = .ok (.goto (-27), 3) := by decide +kernel
theorem dX0_bargesThatHaveCome_34 : decode cX0_bargesThatHaveCome 34 = .ok (.iload_n 1, 1) := by decide +kernel
theorem dX0_bargesThatHaveCome_35 : decode cX0_bargesThatHaveCome 35 = .ok (.ireturn, 1) := by decide +kernel
theorem dX0_fullChambers_0 : decode cX0_fullChambers 0 = .ok (.iconst 0, 1) := by decide +kernel
theorem dX0_fullChambers_1 : decode cX0_fullChambers 1 = .ok (.istore_n 1, 1) := by decide +kernel
theorem dX0_fullChambers_2 : decode cX0_fullChambers 2 = .ok (.iconst 0, 1) := by decide +kernel
theorem dX0_fullChambers_3 : decode cX0_fullChambers 3 = .ok (.istore_n 2, 1) := by decide +kernel
theorem dX0_fullChambers_4 : decode cX0_fullChambers 4 = .ok (.iload_n 2, 1) := by decide +kernel
theorem dX0_fullChambers_5 : decode cX0_fullChambers 5 = .ok (.iconst 5, 1) := by decide +kernel
theorem dX0_fullChambers_6 : decode cX0_fullChambers 6 = .ok (.if_icmp .ge 26, 3) := by decide +kernel
theorem dX0_fullChambers_9 : decode cX0_fullChambers 9 = .ok (.iload_n 1, 1) := by decide +kernel
theorem dX0_fullChambers_10 : decode cX0_fullChambers 10 = .ok (.aload_n 0, 1) := by decide +kernel
theorem dX0_fullChambers_11 : decode cX0_fullChambers 11 = .ok (.getfield 34, 3) := by decide +kernel
theorem dX0_fullChambers_14 : decode cX0_fullChambers 14 = .ok (.iload_n 2, 1) := by decide +kernel
theorem dX0_fullChambers_15 : decode cX0_fullChambers 15 = .ok (.baload, 1) := by decide +kernel
theorem dX0_fullChambers_16 : decode cX0_fullChambers 16 = .ok (.ifCond .eq 7, 3) := by decide +kernel
theorem dX0_fullChambers_19 : decode cX0_fullChambers 19 = .ok (.iconst 1, 1) := by decide +kernel
theorem dX0_fullChambers_20 : decode cX0_fullChambers 20 = .ok (.goto 4, 3) := by decide +kernel
theorem dX0_fullChambers_23 : decode cX0_fullChambers 23 = .ok (.iconst 0, 1) := by decide +kernel
theorem dX0_fullChambers_24 : decode cX0_fullChambers 24 = .ok (.iadd, 1) := by decide +kernel
theorem dX0_fullChambers_25 : decode cX0_fullChambers 25 = .ok (.istore_n 1, 1) := by decide +kernel
theorem dX0_fullChambers_26 : decode cX0_fullChambers 26 = .ok (.iinc 2 1, 3) := by decide +kernel
theorem dX0_fullChambers_29 : decode cX0_fullChambers 29 = .ok (.goto (-25), 3) := by decide +kernel
theorem dX0_fullChambers_32 : decode cX0_fullChambers 32 = .ok (.iload_n 1, 1) := by decide +kernel
theorem dX0_fullChambers_33 : decode cX0_fullChambers 33 = .ok (.ireturn, 1) := by decide +kernel
theorem dX0_waterOfAll_0 : decode cX0_waterOfAll 0 = .ok (.iconst 0, 1) := by decide +kernel
theorem dX0_waterOfAll_1 : decode cX0_waterOfAll 1 = .ok (.istore_n 1, 1) := by decide +kernel
theorem dX0_waterOfAll_2 : decode cX0_waterOfAll 2 = .ok (.iconst 0, 1) := by decide +kernel
theorem dX0_waterOfAll_3 : decode cX0_waterOfAll 3 = .ok (.istore_n 2, 1) := by decide +kernel
theorem dX0_waterOfAll_4 : decode cX0_waterOfAll 4 = .ok (.iload_n 2, 1) := by decide +kernel
theorem dX0_waterOfAll_5 : decode cX0_waterOfAll 5 = .ok (.bipush 6, 2) := by decide +kernel
theorem dX0_waterOfAll_7 : decode cX0_waterOfAll 7 = .ok (.if_icmp .ge 18, 3) := by decide +kernel
theorem dX0_waterOfAll_10 : decode cX0_waterOfAll 10 = .ok (.iload_n 1, 1) := by decide +kernel
theorem dX0_waterOfAll_11 : decode cX0_waterOfAll 11 = .ok (.aload_n 0, 1) := by decide +kernel
theorem dX0_waterOfAll_12 : decode cX0_waterOfAll 12 = .ok (.getfield 25, 3) := by decide +kernel
theorem dX0_waterOfAll_15 : decode cX0_waterOfAll 15 = .ok (.iload_n 2, 1) := by decide +kernel
theorem dX0_waterOfAll_16 : decode cX0_waterOfAll 16 = .ok (.iaload, 1) := by decide +kernel
theorem dX0_waterOfAll_17 : decode cX0_waterOfAll 17 = .ok (.iadd, 1) := by decide +kernel
theorem dX0_waterOfAll_18 : decode cX0_waterOfAll 18 = .ok (.istore_n 1, 1) := by decide +kernel
theorem dX0_waterOfAll_19 : decode cX0_waterOfAll 19 = .ok (.iinc 2 1, 3) := by decide +kernel
theorem dX0_waterOfAll_22 : decode cX0_waterOfAll 22 = .ok (.goto (-18), 3) := by decide +kernel
theorem dX0_waterOfAll_25 : decode cX0_waterOfAll 25 = .ok (.iload_n 1, 1) := by decide +kernel
theorem dX0_waterOfAll_26 : decode cX0_waterOfAll 26 = .ok (.ireturn, 1) := by decide +kernel
end
section
set_option maxRecDepth 20000 in
theorem ggX1_init_X0_init : GoodIn wsX1_init wsX0_init := goodIn_r _ [11, 12, 2, 3, 13, 14, 15, 16, 17, 18, 19, 20, 21, 22, 23, 24, 25, 26, 27, 28, 29, 30, 31, 32, 33, 34, 35, 36, 37, 38, 39, 40, 41, 42, 43, 44, 45, 46] (by decide +kernel) (by decide +kernel)
set_option maxRecDepth 20000 in
theorem gX1_init_X0_init : GoodIn wsX1_init (wsX0_init) := ggX1_init_X0_init
theorem dX1_init_0 : decode cX1_init 0 = .ok (.aload_n 0, 1) := by decide +kernel
theorem dX1_init_1 : decode cX1_init 1 = .ok (.invokespecial 3, 3) := by decide +kernel
theorem dX1_init_4 : decode cX1_init 4 = .ok (.aload_n 0, 1) := by decide +kernel
theorem dX1_init_5 : decode cX1_init 5 = .ok (.new 9, 3) := by decide +kernel
theorem dX1_init_8 : decode cX1_init 8 = .ok (.dup, 1) := by decide +kernel
theorem dX1_init_9 : decode cX1_init 9 = .ok (.invokespecial 11, 3) := by decide +kernel
theorem dX1_init_12 : decode cX1_init 12 = .ok (.putfield 12, 3) := by decide +kernel
theorem dX1_init_15 : decode cX1_init 15 = .ok (.aload_n 0, 1) := by decide +kernel
theorem dX1_init_16 : decode cX1_init 16 = .ok (.new 9, 3) := by decide +kernel
theorem dX1_init_19 : decode cX1_init 19 = .ok (.dup, 1) := by decide +kernel
theorem dX1_init_20 : decode cX1_init 20 = .ok (.invokespecial 11, 3) := by decide +kernel
theorem dX1_init_23 : decode cX1_init 23 = .ok (.putfield 16, 3) := by decide +kernel
theorem dX1_init_26 : decode cX1_init 26 = .ok (.return_, 1) := by decide +kernel
set_option maxRecDepth 20000 in
theorem ggX1_setSpring_X1_requireIndex : GoodIn wsX1_setSpring wsX1_requireIndex := goodIn_ca (goodIn_r _ [6, 7, 8] (by decide +kernel) (by decide +kernel)) (goodIn_sub (fun _ h => List.mem_cons_of_mem _ (List.mem_append_left _ (List.mem_append_right _ h))) (by decide +kernel))
set_option maxRecDepth 20000 in
theorem gX1_setSpring_X1_requireIndex : GoodIn wsX1_setSpring (va_wsS RX1 19 yX1_requireIndex wsX1_requireIndex) := goodIn_app (goodIn_of _ (by decide +kernel)) ggX1_setSpring_X1_requireIndex
set_option maxRecDepth 20000 in
theorem ggX1_setSpring_X1_requireArgument : GoodIn wsX1_setSpring wsX1_requireArgument := goodIn_ca (goodIn_r _ [11, 12, 13] (by decide +kernel) (by decide +kernel)) (goodIn_sub (fun _ h => List.mem_cons_of_mem _ (List.mem_append_right _ h)) (by decide +kernel))
set_option maxRecDepth 20000 in
theorem gX1_setSpring_X1_requireArgument : GoodIn wsX1_setSpring (va_wsS RX1 23 yX1_requireArgument wsX1_requireArgument) := goodIn_app (goodIn_of _ (by decide +kernel)) ggX1_setSpring_X1_requireArgument
theorem dX1_setSpring_0 : decode cX1_setSpring 0 = .ok (.iload_n 1, 1) := by decide +kernel
theorem dX1_setSpring_1 : decode cX1_setSpring 1 = .ok (.iconst 0, 1) := by decide +kernel
theorem dX1_setSpring_2 : decode cX1_setSpring 2 = .ok (.bipush 7, 2) := by decide +kernel
theorem dX1_setSpring_4 : decode cX1_setSpring 4 = .ok (.invokestatic 19, 3) := by decide +kernel
theorem dX1_setSpring_7 : decode cX1_setSpring 7 = .ok (.iload_n 2, 1) := by decide +kernel
theorem dX1_setSpring_8 : decode cX1_setSpring 8 = .ok (.iconst 0, 1) := by decide +kernel
theorem dX1_setSpring_9 : decode cX1_setSpring 9 = .ok (.bipush 30, 2) := by decide +kernel
theorem dX1_setSpring_11 : decode cX1_setSpring 11 = .ok (.invokestatic 23, 3) := by decide +kernel
theorem dX1_setSpring_14 : decode cX1_setSpring 14 = .ok (.aload_n 0, 1) := by decide +kernel
theorem dX1_setSpring_15 : decode cX1_setSpring 15 = .ok (.getfield 12, 3) := by decide +kernel
theorem dX1_setSpring_18 : decode cX1_setSpring 18 = .ok (.getfield 26, 3) := by decide +kernel
theorem dX1_setSpring_21 : decode cX1_setSpring 21 = .ok (.iload_n 1, 1) := by decide +kernel
theorem dX1_setSpring_22 : decode cX1_setSpring 22 = .ok (.iaload, 1) := by decide +kernel
theorem dX1_setSpring_23 : decode cX1_setSpring 23 = .ok (.istore_n 3, 1) := by decide +kernel
theorem dX1_setSpring_24 : decode cX1_setSpring 24 = .ok (.aload_n 0, 1) := by decide +kernel
theorem dX1_setSpring_25 : decode cX1_setSpring 25 = .ok (.getfield 12, 3) := by decide +kernel
theorem dX1_setSpring_28 : decode cX1_setSpring 28 = .ok (.getfield 26, 3) := by decide +kernel
theorem dX1_setSpring_31 : decode cX1_setSpring 31 = .ok (.iload_n 1, 1) := by decide +kernel
theorem dX1_setSpring_32 : decode cX1_setSpring 32 = .ok (.iload_n 2, 1) := by decide +kernel
theorem dX1_setSpring_33 : decode cX1_setSpring 33 = .ok (.iastore, 1) := by decide +kernel
theorem dX1_setSpring_34 : decode cX1_setSpring 34 = .ok (.iload_n 3, 1) := by decide +kernel
theorem dX1_setSpring_35 : decode cX1_setSpring 35 = .ok (.ireturn, 1) := by decide +kernel
set_option maxRecDepth 20000 in
theorem ggX1_setMill_X1_requireIndex : GoodIn wsX1_setMill wsX1_requireIndex := goodIn_ca (goodIn_r _ [7, 8, 9] (by decide +kernel) (by decide +kernel)) (goodIn_sub (fun _ h => List.mem_cons_of_mem _ (List.mem_append_left _ (List.mem_append_right _ h))) (by decide +kernel))
set_option maxRecDepth 20000 in
theorem gX1_setMill_X1_requireIndex : GoodIn wsX1_setMill (va_wsS RX1 19 yX1_requireIndex wsX1_requireIndex) := goodIn_app (goodIn_of _ (by decide +kernel)) ggX1_setMill_X1_requireIndex
set_option maxRecDepth 20000 in
theorem ggX1_setMill_X1_requireArgument : GoodIn wsX1_setMill wsX1_requireArgument := goodIn_ca (goodIn_r _ [12, 13, 14] (by decide +kernel) (by decide +kernel)) (goodIn_sub (fun _ h => List.mem_cons_of_mem _ (List.mem_append_right _ h)) (by decide +kernel))
set_option maxRecDepth 20000 in
theorem gX1_setMill_X1_requireArgument : GoodIn wsX1_setMill (va_wsS RX1 23 yX1_requireArgument wsX1_requireArgument) := goodIn_app (goodIn_of _ (by decide +kernel)) ggX1_setMill_X1_requireArgument
theorem dX1_setMill_0 : decode cX1_setMill 0 = .ok (.iload_n 1, 1) := by decide +kernel
theorem dX1_setMill_1 : decode cX1_setMill 1 = .ok (.iconst (-1), 1) := by decide +kernel
theorem dX1_setMill_2 : decode cX1_setMill 2 = .ok (.iconst 5, 1) := by decide +kernel
theorem dX1_setMill_3 : decode cX1_setMill 3 = .ok (.invokestatic 19, 3) := by decide +kernel
theorem dX1_setMill_6 : decode cX1_setMill 6 = .ok (.iload_n 2, 1) := by decide +kernel
theorem dX1_setMill_7 : decode cX1_setMill 7 = .ok (.iconst 0, 1) := by decide +kernel
theorem dX1_setMill_8 : decode cX1_setMill 8 = .ok (.bipush 100, 2) := by decide +kernel
theorem dX1_setMill_10 : decode cX1_setMill 10 = .ok (.invokestatic 23, 3) := by decide +kernel
theorem dX1_setMill_13 : decode cX1_setMill 13 = .ok (.aload_n 0, 1) := by decide +kernel
theorem dX1_setMill_14 : decode cX1_setMill 14 = .ok (.getfield 12, 3) := by decide +kernel
theorem dX1_setMill_17 : decode cX1_setMill 17 = .ok (.getfield 30, 3) := by decide +kernel
theorem dX1_setMill_20 : decode cX1_setMill 20 = .ok (.istore_n 3, 1) := by decide +kernel
theorem dX1_setMill_21 : decode cX1_setMill 21 = .ok (.aload_n 0, 1) := by decide +kernel
theorem dX1_setMill_22 : decode cX1_setMill 22 = .ok (.getfield 12, 3) := by decide +kernel
theorem dX1_setMill_25 : decode cX1_setMill 25 = .ok (.iload_n 1, 1) := by decide +kernel
theorem dX1_setMill_26 : decode cX1_setMill 26 = .ok (.putfield 34, 3) := by decide +kernel
theorem dX1_setMill_29 : decode cX1_setMill 29 = .ok (.aload_n 0, 1) := by decide +kernel
theorem dX1_setMill_30 : decode cX1_setMill 30 = .ok (.getfield 12, 3) := by decide +kernel
theorem dX1_setMill_33 : decode cX1_setMill 33 = .ok (.iload_n 2, 1) := by decide +kernel
theorem dX1_setMill_34 : decode cX1_setMill 34 = .ok (.putfield 30, 3) := by decide +kernel
theorem dX1_setMill_37 : decode cX1_setMill 37 = .ok (.iload_n 3, 1) := by decide +kernel
theorem dX1_setMill_38 : decode cX1_setMill 38 = .ok (.ireturn, 1) := by decide +kernel
theorem dX1_setDrought_0 : decode cX1_setDrought 0 = .ok (.aload_n 0, 1) := by decide +kernel
theorem dX1_setDrought_1 : decode cX1_setDrought 1 = .ok (.getfield 12, 3) := by decide +kernel
theorem dX1_setDrought_4 : decode cX1_setDrought 4 = .ok (.getfield 37, 3) := by decide +kernel
theorem dX1_setDrought_7 : decode cX1_setDrought 7 = .ok (.istore_n 2, 1) := by decide +kernel
theorem dX1_setDrought_8 : decode cX1_setDrought 8 = .ok (.aload_n 0, 1) := by decide +kernel
theorem dX1_setDrought_9 : decode cX1_setDrought 9 = .ok (.getfield 12, 3) := by decide +kernel
theorem dX1_setDrought_12 : decode cX1_setDrought 12 = .ok (.iload_n 1, 1) := by decide +kernel
theorem dX1_setDrought_13 : decode cX1_setDrought 13 = .ok (.putfield 37, 3) := by decide +kernel
theorem dX1_setDrought_16 : decode cX1_setDrought 16 = .ok (.iload_n 2, 1) := by decide +kernel
theorem dX1_setDrought_17 : decode cX1_setDrought 17 = .ok (.ireturn, 1) := by decide +kernel
set_option maxRecDepth 20000 in
theorem ggX1_setFee_X1_requireArgument : GoodIn wsX1_setFee wsX1_requireArgument := goodIn_ca (goodIn_r _ [6, 7, 8] (by decide +kernel) (by decide +kernel)) (goodIn_sub (fun _ h => List.mem_cons_of_mem _ (List.mem_append_right _ h)) (by decide +kernel))
set_option maxRecDepth 20000 in
theorem gX1_setFee_X1_requireArgument : GoodIn wsX1_setFee (va_wsS RX1 23 yX1_requireArgument wsX1_requireArgument) := goodIn_app (goodIn_of _ (by decide +kernel)) ggX1_setFee_X1_requireArgument
theorem dX1_setFee_0 : decode cX1_setFee 0 = .ok (.iload_n 1, 1) := by decide +kernel
theorem dX1_setFee_1 : decode cX1_setFee 1 = .ok (.iconst 0, 1) := by decide +kernel
theorem dX1_setFee_2 : decode cX1_setFee 2 = .ok (.bipush 20, 2) := by decide +kernel
theorem dX1_setFee_4 : decode cX1_setFee 4 = .ok (.invokestatic 23, 3) := by decide +kernel
theorem dX1_setFee_7 : decode cX1_setFee 7 = .ok (.aload_n 0, 1) := by decide +kernel
theorem dX1_setFee_8 : decode cX1_setFee 8 = .ok (.getfield 12, 3) := by decide +kernel
theorem dX1_setFee_11 : decode cX1_setFee 11 = .ok (.getfield 41, 3) := by decide +kernel
theorem dX1_setFee_14 : decode cX1_setFee 14 = .ok (.istore_n 2, 1) := by decide +kernel
theorem dX1_setFee_15 : decode cX1_setFee 15 = .ok (.aload_n 0, 1) := by decide +kernel
theorem dX1_setFee_16 : decode cX1_setFee 16 = .ok (.getfield 12, 3) := by decide +kernel
theorem dX1_setFee_19 : decode cX1_setFee 19 = .ok (.iload_n 1, 1) := by decide +kernel
theorem dX1_setFee_20 : decode cX1_setFee 20 = .ok (.putfield 41, 3) := by decide +kernel
theorem dX1_setFee_23 : decode cX1_setFee 23 = .ok (.iload_n 2, 1) := by decide +kernel
theorem dX1_setFee_24 : decode cX1_setFee 24 = .ok (.ireturn, 1) := by decide +kernel
set_option maxRecDepth 20000 in
theorem ggX1_water_X1_requireIndex : GoodIn wsX1_water wsX1_requireIndex := goodIn_ca (goodIn_r _ [8, 9, 10] (by decide +kernel) (by decide +kernel)) (goodIn_sub (fun _ h => List.mem_cons_of_mem _ (List.mem_append_left _ (List.mem_append_right _ h))) (by decide +kernel))
set_option maxRecDepth 20000 in
theorem gX1_water_X1_requireIndex : GoodIn wsX1_water (va_wsS RX1 19 yX1_requireIndex wsX1_requireIndex) := goodIn_app (goodIn_of _ (by decide +kernel)) ggX1_water_X1_requireIndex
set_option maxRecDepth 20000 in
theorem ggX1_water_X1_requireArgument : GoodIn wsX1_water wsX1_requireArgument := goodIn_ca (goodIn_r _ [13, 14, 15] (by decide +kernel) (by decide +kernel)) (goodIn_sub (fun _ h => List.mem_cons_of_mem _ (List.mem_append_right _ h)) (by decide +kernel))
set_option maxRecDepth 20000 in
theorem gX1_water_X1_requireArgument : GoodIn wsX1_water (va_wsS RX1 23 yX1_requireArgument wsX1_requireArgument) := goodIn_app (goodIn_of _ (by decide +kernel)) ggX1_water_X1_requireArgument
set_option maxRecDepth 20000 in
theorem ggX1_water_X0_pour : GoodIn wsX1_water wsX0_pour := goodIn_r _ [20, 21, 22, 23, 24, 25, 26, 29, 30, 31, 32, 33, 34, 35, 36, 37, 38, 39, 40, 41, 42, 43, 44, 45, 46] (by decide +kernel) (by decide +kernel)
set_option maxRecDepth 20000 in
theorem gX1_water_X0_pour : GoodIn wsX1_water (wsV RX1 54 RX0 yX0_pour wsX0_pour) := goodIn_app (goodIn_of _ (by decide +kernel)) ggX1_water_X0_pour
theorem dX1_water_0 : decode cX1_water 0 = .ok (.iload_n 1, 1) := by decide +kernel
theorem dX1_water_1 : decode cX1_water 1 = .ok (.iconst 0, 1) := by decide +kernel
theorem dX1_water_2 : decode cX1_water 2 = .ok (.iconst 5, 1) := by decide +kernel
theorem dX1_water_3 : decode cX1_water 3 = .ok (.invokestatic 19, 3) := by decide +kernel
theorem dX1_water_6 : decode cX1_water 6 = .ok (.iload_n 2, 1) := by decide +kernel
theorem dX1_water_7 : decode cX1_water 7 = .ok (.iconst 1, 1) := by decide +kernel
theorem dX1_water_8 : decode cX1_water 8 = .ok (.bipush 60, 2) := by decide +kernel
theorem dX1_water_10 : decode cX1_water 10 = .ok (.invokestatic 23, 3) := by decide +kernel
theorem dX1_water_13 : decode cX1_water 13 = .ok (.iload_n 2, 1) := by decide +kernel
theorem dX1_water_14 : decode cX1_water 14 = .ok (.iconst 1, 1) := by decide +kernel
theorem dX1_water_15 : decode cX1_water 15 = .ok (.iadd, 1) := by decide +kernel
theorem dX1_water_16 : decode cX1_water 16 = .ok (.iconst 2, 1) := by decide +kernel
theorem dX1_water_17 : decode cX1_water 17 = .ok (.idiv, 1) := by decide +kernel
theorem dX1_water_18 : decode cX1_water 18 = .ok (.istore_n 3, 1) := by decide +kernel
theorem dX1_water_19 : decode cX1_water 19 = .ok (.aload_n 0, 1) := by decide +kernel
theorem dX1_water_20 : decode cX1_water 20 = .ok (.getfield 12, 3) := by decide +kernel
theorem dX1_water_23 : decode cX1_water 23 = .ok (.getfield 44, 3) := by decide +kernel
theorem dX1_water_26 : decode cX1_water 26 = .ok (.iload_n 3, 1) := by decide +kernel
theorem dX1_water_27 : decode cX1_water 27 = .ok (.if_icmp .ge 13, 3) := by decide +kernel
theorem dX1_water_30 : decode cX1_water 30 = .ok (.new 47, 3) := by decide +kernel
theorem dX1_water_33 : decode cX1_water 33 = .ok (.dup, 1) := by decide +kernel
theorem dX1_water_34 : decode cX1_water 34 = .ok (.ldc 49, 2) := by decide +kernel
theorem dX1_water_36 : decode cX1_water 36 = .ok (.invokespecial 51, 3) := by decide +kernel
theorem dX1_water_39 : decode cX1_water 39 = .ok (.athrow, 1) := by decide +kernel
theorem dX1_water_40 : decode cX1_water 40 = .ok (.aload_n 0, 1) := by decide +kernel
theorem dX1_water_41 : decode cX1_water 41 = .ok (.getfield 12, 3) := by decide +kernel
theorem dX1_water_44 : decode cX1_water 44 = .ok (.dup, 1) := by decide +kernel
theorem dX1_water_45 : decode cX1_water 45 = .ok (.getfield 44, 3) := by decide +kernel
theorem dX1_water_48 : decode cX1_water 48 = .ok (.iload_n 3, 1) := by decide +kernel
theorem dX1_water_49 : decode cX1_water 49 = .ok (.isub, 1) := by decide +kernel
theorem dX1_water_50 : decode cX1_water 50 = .ok (.putfield 44, 3) := by decide +kernel
theorem dX1_water_53 : decode cX1_water 53 = .ok (.aload_n 0, 1) := by decide +kernel
theorem dX1_water_54 : decode cX1_water 54 = .ok (.getfield 12, 3) := by decide +kernel
theorem dX1_water_57 : decode cX1_water 57 = .ok (.iload_n 1, 1) := by decide +kernel
theorem dX1_water_58 : decode cX1_water 58 = .ok (.iload_n 2, 1) := by decide +kernel
theorem dX1_water_59 : decode cX1_water 59 = .ok (.invokevirtual 54, 3) := by decide +kernel
theorem dX1_water_62 : decode cX1_water 62 = .ok (.aload_n 0, 1) := by decide +kernel
theorem dX1_water_63 : decode cX1_water 63 = .ok (.getfield 12, 3) := by decide +kernel
theorem dX1_water_66 : decode cX1_water 66 = .ok (.getfield 44, 3) := by decide +kernel
theorem dX1_water_69 : decode cX1_water 69 = .ok (.ireturn, 1) := by decide +kernel
set_option maxRecDepth 20000 in
theorem ggX1_work_X1_requireIndex : GoodIn wsX1_work wsX1_requireIndex := goodIn_ca (goodIn_r _ [8, 9, 10] (by decide +kernel) (by decide +kernel)) (goodIn_sub (fun _ h => List.mem_cons_of_mem _ (List.mem_append_right _ h)) (by decide +kernel))
set_option maxRecDepth 20000 in
theorem gX1_work_X1_requireIndex : GoodIn wsX1_work (va_wsS RX1 19 yX1_requireIndex wsX1_requireIndex) := goodIn_app (goodIn_of _ (by decide +kernel)) ggX1_work_X1_requireIndex
set_option maxRecDepth 20000 in
theorem ggX1_work_X0_canFill : GoodIn wsX1_work wsX0_canFill := goodIn_r _ [15, 16, 34, 35, 36, 37, 38, 39, 40, 41, 42, 43, 44, 45, 46, 47, 48, 49, 50, 51] (by decide +kernel) (by decide +kernel)
set_option maxRecDepth 20000 in
theorem gX1_work_X0_canFill : GoodIn wsX1_work (wsV RX1 62 RX0 yX0_canFill wsX0_canFill) := goodIn_app (goodIn_of _ (by decide +kernel)) ggX1_work_X0_canFill
set_option maxRecDepth 20000 in
theorem ggX1_work_X0_turnChamber : GoodIn wsX1_work wsX0_turnChamber := goodIn_r _ [20, 21, 16, 22, 23, 24, 25, 14, 26, 27, 28, 29, 30, 31, 34, 35, 36, 37, 38, 39, 40, 41, 42, 43, 44, 45, 46, 47, 48, 49, 50, 51] (by decide +kernel) (by decide +kernel)
set_option maxRecDepth 20000 in
theorem gX1_work_X0_turnChamber : GoodIn wsX1_work (wsV RX1 68 RX0 yX0_turnChamber wsX0_turnChamber) := goodIn_app (goodIn_of _ (by decide +kernel)) ggX1_work_X0_turnChamber
theorem dX1_work_0 : decode cX1_work 0 = .ok (.iload_n 1, 1) := by decide +kernel
theorem dX1_work_1 : decode cX1_work 1 = .ok (.iconst 0, 1) := by decide +kernel
theorem dX1_work_2 : decode cX1_work 2 = .ok (.iconst 4, 1) := by decide +kernel
theorem dX1_work_3 : decode cX1_work 3 = .ok (.invokestatic 19, 3) := by decide +kernel
theorem dX1_work_6 : decode cX1_work 6 = .ok (.aload_n 0, 1) := by decide +kernel
theorem dX1_work_7 : decode cX1_work 7 = .ok (.getfield 12, 3) := by decide +kernel
theorem dX1_work_10 : decode cX1_work 10 = .ok (.getfield 58, 3) := by decide +kernel
theorem dX1_work_13 : decode cX1_work 13 = .ok (.iload_n 1, 1) := by decide +kernel
theorem dX1_work_14 : decode cX1_work 14 = .ok (.baload, 1) := by decide +kernel
theorem dX1_work_15 : decode cX1_work 15 = .ok (.ifCond .ne 24, 3) := by decide +kernel
theorem dX1_work_18 : decode cX1_work 18 = .ok (.aload_n 0, 1) := by decide +kernel
theorem dX1_work_19 : decode cX1_work 19 = .ok (.getfield 12, 3) := by decide +kernel
theorem dX1_work_22 : decode cX1_work 22 = .ok (.iload_n 1, 1) := by decide +kernel
theorem dX1_work_23 : decode cX1_work 23 = .ok (.invokevirtual 62, 3) := by decide +kernel
theorem dX1_work_26 : decode cX1_work 26 = .ok (.ifCond .ne 13, 3) := by decide +kernel
theorem dX1_work_29 : decode cX1_work 29 = .ok (.new 47, 3) := by decide +kernel
theorem dX1_work_32 : decode cX1_work 32 = .ok (.dup, 1) := by decide +kernel
theorem dX1_work_33 : decode cX1_work 33 = .ok (.ldc 66, 2) := by decide +kernel
theorem dX1_work_35 : decode cX1_work 35 = .ok (.invokespecial 51, 3) := by decide +kernel
theorem dX1_work_38 : decode cX1_work 38 = .ok (.athrow, 1) := by decide +kernel
theorem dX1_work_39 : decode cX1_work 39 = .ok (.aload_n 0, 1) := by decide +kernel
theorem dX1_work_40 : decode cX1_work 40 = .ok (.getfield 12, 3) := by decide +kernel
theorem dX1_work_43 : decode cX1_work 43 = .ok (.iload_n 1, 1) := by decide +kernel
theorem dX1_work_44 : decode cX1_work 44 = .ok (.invokevirtual 68, 3) := by decide +kernel
theorem dX1_work_47 : decode cX1_work 47 = .ok (.aload_n 0, 1) := by decide +kernel
theorem dX1_work_48 : decode cX1_work 48 = .ok (.getfield 12, 3) := by decide +kernel
theorem dX1_work_51 : decode cX1_work 51 = .ok (.getfield 58, 3) := by decide +kernel
theorem dX1_work_54 : decode cX1_work 54 = .ok (.iload_n 1, 1) := by decide +kernel
theorem dX1_work_55 : decode cX1_work 55 = .ok (.baload, 1) := by decide +kernel
theorem dX1_work_56 : decode cX1_work 56 = .ok (.ireturn, 1) := by decide +kernel
set_option maxRecDepth 20000 in
theorem ggX1_barge_X1_requireIndex : GoodIn wsX1_barge wsX1_requireIndex := goodIn_ca (goodIn_r _ [11, 12, 13] (by decide +kernel) (by decide +kernel)) (goodIn_sub (fun _ h => List.mem_cons_of_mem _ (List.mem_append_left _ (List.mem_append_right _ h))) (by decide +kernel))
set_option maxRecDepth 20000 in
theorem gX1_barge_X1_requireIndex : GoodIn wsX1_barge (va_wsS RX1 19 yX1_requireIndex wsX1_requireIndex) := goodIn_app (goodIn_of _ (by decide +kernel)) ggX1_barge_X1_requireIndex
set_option maxRecDepth 20000 in
theorem ggX1_barge_X1_requireArgument : GoodIn wsX1_barge wsX1_requireArgument := goodIn_ca (goodIn_r _ [16, 17, 18] (by decide +kernel) (by decide +kernel)) (goodIn_sub (fun _ h => List.mem_cons_of_mem _ (List.mem_append_right _ h)) (by decide +kernel))
set_option maxRecDepth 20000 in
theorem gX1_barge_X1_requireArgument : GoodIn wsX1_barge (va_wsS RX1 23 yX1_requireArgument wsX1_requireArgument) := goodIn_app (goodIn_of _ (by decide +kernel)) ggX1_barge_X1_requireArgument
theorem dX1_barge_0 : decode cX1_barge 0 = .ok (.iload_n 1, 1) := by decide +kernel
theorem dX1_barge_1 : decode cX1_barge 1 = .ok (.iconst 0, 1) := by decide +kernel
theorem dX1_barge_2 : decode cX1_barge 2 = .ok (.iconst 5, 1) := by decide +kernel
theorem dX1_barge_3 : decode cX1_barge 3 = .ok (.invokestatic 19, 3) := by decide +kernel
theorem dX1_barge_6 : decode cX1_barge 6 = .ok (.iload_n 2, 1) := by decide +kernel
theorem dX1_barge_7 : decode cX1_barge 7 = .ok (.iconst 0, 1) := by decide +kernel
theorem dX1_barge_8 : decode cX1_barge 8 = .ok (.iconst 5, 1) := by decide +kernel
theorem dX1_barge_9 : decode cX1_barge 9 = .ok (.invokestatic 19, 3) := by decide +kernel
theorem dX1_barge_12 : decode cX1_barge 12 = .ok (.iload_n 3, 1) := by decide +kernel
theorem dX1_barge_13 : decode cX1_barge 13 = .ok (.iconst 0, 1) := by decide +kernel
theorem dX1_barge_14 : decode cX1_barge 14 = .ok (.bipush 99, 2) := by decide +kernel
theorem dX1_barge_16 : decode cX1_barge 16 = .ok (.invokestatic 23, 3) := by decide +kernel
theorem dX1_barge_19 : decode cX1_barge 19 = .ok (.aload_n 0, 1) := by decide +kernel
theorem dX1_barge_20 : decode cX1_barge 20 = .ok (.getfield 12, 3) := by decide +kernel
theorem dX1_barge_23 : decode cX1_barge 23 = .ok (.getfield 72, 3) := by decide +kernel
theorem dX1_barge_26 : decode cX1_barge 26 = .ok (.istore 4, 2) := by decide +kernel
theorem dX1_barge_28 : decode cX1_barge 28 = .ok (.iload 4, 2) := by decide +kernel
theorem dX1_barge_30 : decode cX1_barge 30 = .ok (.bipush 10, 2) := by decide +kernel
theorem dX1_barge_32 : decode cX1_barge 32 = .ok (.if_icmp .lt 13, 3) := by decide +kernel
theorem dX1_barge_35 : decode cX1_barge 35 = .ok (.new 47, 3) := by decide +kernel
theorem dX1_barge_38 : decode cX1_barge 38 = .ok (.dup, 1) := by decide +kernel
theorem dX1_barge_39 : decode cX1_barge 39 = .ok (.ldc 75, 2) := by decide +kernel
theorem dX1_barge_41 : decode cX1_barge 41 = .ok (.invokespecial 51, 3) := by decide +kernel
theorem dX1_barge_44 : decode cX1_barge 44 = .ok (.athrow, 1) := by decide +kernel
theorem dX1_barge_45 : decode cX1_barge 45 = .ok (.aload_n 0, 1) := by decide +kernel
theorem dX1_barge_46 : decode cX1_barge 46 = .ok (.getfield 12, 3) := by decide +kernel
theorem dX1_barge_49 : decode cX1_barge 49 = .ok (.getfield 77, 3) := by decide +kernel
theorem dX1_barge_52 : decode cX1_barge 52 = .ok (.iload 4, 2) := by decide +kernel
theorem dX1_barge_54 : decode cX1_barge 54 = .ok (.iload_n 1, 1) := by decide +kernel
theorem dX1_barge_55 : decode cX1_barge 55 = .ok (.iastore, 1) := by decide +kernel
theorem dX1_barge_56 : decode cX1_barge 56 = .ok (.aload_n 0, 1) := by decide +kernel
theorem dX1_barge_57 : decode cX1_barge 57 = .ok (.getfield 12, 3) := by decide +kernel
theorem dX1_barge_60 : decode cX1_barge 60 = .ok (.getfield 80, 3) := by decide +kernel
theorem dX1_barge_63 : decode cX1_barge 63 = .ok (.iload 4, 2) := by decide +kernel
theorem dX1_barge_65 : decode cX1_barge 65 = .ok (.iload_n 2, 1) := by decide +kernel
theorem dX1_barge_66 : decode cX1_barge 66 = .ok (.iastore, 1) := by decide +kernel
theorem dX1_barge_67 : decode cX1_barge 67 = .ok (.aload_n 0, 1) := by decide +kernel
theorem dX1_barge_68 : decode cX1_barge 68 = .ok (.getfield 12, 3) := by decide +kernel
theorem dX1_barge_71 : decode cX1_barge 71 = .ok (.getfield 83, 3) := by decide +kernel
theorem dX1_barge_74 : decode cX1_barge 74 = .ok (.iload 4, 2) := by decide +kernel
theorem dX1_barge_76 : decode cX1_barge 76 = .ok (.iload_n 3, 1) := by decide +kernel
theorem dX1_barge_77 : decode cX1_barge 77 = .ok (.iastore, 1) := by decide +kernel
theorem dX1_barge_78 : decode cX1_barge 78 = .ok (.aload_n 0, 1) := by decide +kernel
theorem dX1_barge_79 : decode cX1_barge 79 = .ok (.getfield 12, 3) := by decide +kernel
theorem dX1_barge_82 : decode cX1_barge 82 = .ok (.iload 4, 2) := by decide +kernel
theorem dX1_barge_84 : decode cX1_barge 84 = .ok (.iconst 1, 1) := by decide +kernel
theorem dX1_barge_85 : decode cX1_barge 85 = .ok (.iadd, 1) := by decide +kernel
theorem dX1_barge_86 : decode cX1_barge 86 = .ok (.putfield 72, 3) := by decide +kernel
theorem dX1_barge_89 : decode cX1_barge 89 = .ok (.iload 4, 2) := by decide +kernel
theorem dX1_barge_91 : decode cX1_barge 91 = .ok (.ireturn, 1) := by decide +kernel
set_option maxRecDepth 20000 in
theorem ggX1_send_X1_requireIndex : GoodIn wsX1_send wsX1_requireIndex := goodIn_ca (goodIn_r _ [7, 8, 9] (by decide +kernel) (by decide +kernel)) (goodIn_sub (fun _ h => List.mem_cons_of_mem _ (List.mem_append_right _ h)) (by decide +kernel))
set_option maxRecDepth 20000 in
theorem gX1_send_X1_requireIndex : GoodIn wsX1_send (va_wsS RX1 19 yX1_requireIndex wsX1_requireIndex) := goodIn_app (goodIn_of _ (by decide +kernel)) ggX1_send_X1_requireIndex
theorem dX1_send_0 : decode cX1_send 0 = .ok (.iload_n 1, 1) := by decide +kernel
theorem dX1_send_1 : decode cX1_send 1 = .ok (.iconst 0, 1) := by decide +kernel
theorem dX1_send_2 : decode cX1_send 2 = .ok (.aload_n 0, 1) := by decide +kernel
theorem dX1_send_3 : decode cX1_send 3 = .ok (.getfield 12, 3) := by decide +kernel
theorem dX1_send_6 : decode cX1_send 6 = .ok (.getfield 72, 3) := by decide +kernel
theorem dX1_send_9 : decode cX1_send 9 = .ok (.iconst 1, 1) := by decide +kernel
theorem dX1_send_10 : decode cX1_send 10 = .ok (.isub, 1) := by decide +kernel
theorem dX1_send_11 : decode cX1_send 11 = .ok (.invokestatic 19, 3) := by decide +kernel
theorem dX1_send_14 : decode cX1_send 14 = .ok (.iload_n 2, 1) := by decide +kernel
theorem dX1_send_15 : decode cX1_send 15 = .ok (.iconst 0, 1) := by decide +kernel
theorem dX1_send_16 : decode cX1_send 16 = .ok (.iconst 5, 1) := by decide +kernel
theorem dX1_send_17 : decode cX1_send 17 = .ok (.invokestatic 19, 3) := by decide +kernel
theorem dX1_send_20 : decode cX1_send 20 = .ok (.aload_n 0, 1) := by decide +kernel
theorem dX1_send_21 : decode cX1_send 21 = .ok (.getfield 12, 3) := by decide +kernel
theorem dX1_send_24 : decode cX1_send 24 = .ok (.getfield 80, 3) := by decide +kernel
theorem dX1_send_27 : decode cX1_send 27 = .ok (.iload_n 1, 1) := by decide +kernel
theorem dX1_send_28 : decode cX1_send 28 = .ok (.iaload, 1) := by decide +kernel
theorem dX1_send_29 : decode cX1_send 29 = .ok (.istore_n 3, 1) := by decide +kernel
theorem dX1_send_30 : decode cX1_send 30 = .ok (.aload_n 0, 1) := by decide +kernel
theorem dX1_send_31 : decode cX1_send 31 = .ok (.getfield 12, 3) := by decide +kernel
theorem dX1_send_34 : decode cX1_send 34 = .ok (.getfield 80, 3) := by decide +kernel
theorem dX1_send_37 : decode cX1_send 37 = .ok (.iload_n 1, 1) := by decide +kernel
theorem dX1_send_38 : decode cX1_send 38 = .ok (.iload_n 2, 1) := by decide +kernel
theorem dX1_send_39 : decode cX1_send 39 = .ok (.iastore, 1) := by decide +kernel
theorem dX1_send_40 : decode cX1_send 40 = .ok (.iload_n 3, 1) := by decide +kernel
theorem dX1_send_41 : decode cX1_send 41 = .ok (.ireturn, 1) := by decide +kernel
set_option maxRecDepth 20000 in
theorem ggX1_told_X1_requireIndex : GoodIn wsX1_told wsX1_requireIndex := goodIn_ca (goodIn_r _ [6, 7, 8] (by decide +kernel) (by decide +kernel)) (goodIn_sub (fun _ h => List.mem_cons_of_mem _ (List.mem_append_right _ h)) (by decide +kernel))
set_option maxRecDepth 20000 in
theorem gX1_told_X1_requireIndex : GoodIn wsX1_told (va_wsS RX1 19 yX1_requireIndex wsX1_requireIndex) := goodIn_app (goodIn_of _ (by decide +kernel)) ggX1_told_X1_requireIndex
set_option maxRecDepth 20000 in
theorem ggX1_told_X0_tellBarge : GoodIn wsX1_told wsX0_tellBarge := goodIn_r _ [13, 14, 15, 16, 17, 18, 19, 20, 12, 21, 22, 23, 24, 25, 26, 27, 28, 29, 32, 33, 34, 35, 36, 37, 38, 39, 40, 41, 42, 43, 44, 45, 46, 47, 48, 49] (by decide +kernel) (by decide +kernel)
set_option maxRecDepth 20000 in
theorem gX1_told_X0_tellBarge : GoodIn wsX1_told (wsV RX1 86 RX0 yX0_tellBarge wsX0_tellBarge) := goodIn_app (goodIn_of _ (by decide +kernel)) ggX1_told_X0_tellBarge
theorem dX1_told_0 : decode cX1_told 0 = .ok (.iload_n 1, 1) := by decide +kernel
theorem dX1_told_1 : decode cX1_told 1 = .ok (.iconst 0, 1) := by decide +kernel
theorem dX1_told_2 : decode cX1_told 2 = .ok (.aload_n 0, 1) := by decide +kernel
theorem dX1_told_3 : decode cX1_told 3 = .ok (.getfield 12, 3) := by decide +kernel
theorem dX1_told_6 : decode cX1_told 6 = .ok (.getfield 72, 3) := by decide +kernel
theorem dX1_told_9 : decode cX1_told 9 = .ok (.iconst 1, 1) := by decide +kernel
theorem dX1_told_10 : decode cX1_told 10 = .ok (.isub, 1) := by decide +kernel
theorem dX1_told_11 : decode cX1_told 11 = .ok (.invokestatic 19, 3) := by decide +kernel
theorem dX1_told_14 : decode cX1_told 14 = .ok (.iload_n 2, 1) := by decide +kernel
theorem dX1_told_15 : decode cX1_told 15 = .ok (.iconst 0, 1) := by decide +kernel
theorem dX1_told_16 : decode cX1_told 16 = .ok (.iconst 4, 1) := by decide +kernel
theorem dX1_told_17 : decode cX1_told 17 = .ok (.invokestatic 19, 3) := by decide +kernel
theorem dX1_told_20 : decode cX1_told 20 = .ok (.aload_n 0, 1) := by decide +kernel
theorem dX1_told_21 : decode cX1_told 21 = .ok (.getfield 12, 3) := by decide +kernel
theorem dX1_told_24 : decode cX1_told 24 = .ok (.iload_n 1, 1) := by decide +kernel
theorem dX1_told_25 : decode cX1_told 25 = .ok (.iload_n 2, 1) := by decide +kernel
theorem dX1_told_26 : decode cX1_told 26 = .ok (.invokevirtual 86, 3) := by decide +kernel
theorem dX1_told_29 : decode cX1_told 29 = .ok (.ireturn, 1) := by decide +kernel
set_option maxRecDepth 20000 in
theorem ggX1_pound_X1_requireIndex : GoodIn wsX1_pound wsX1_requireIndex := goodIn_ca (goodIn_r _ [5, 6, 7] (by decide +kernel) (by decide +kernel)) (goodIn_sub (fun _ h => List.mem_cons_of_mem _ (List.mem_append_right _ h)) (by decide +kernel))
set_option maxRecDepth 20000 in
theorem gX1_pound_X1_requireIndex : GoodIn wsX1_pound (va_wsS RX1 19 yX1_requireIndex wsX1_requireIndex) := goodIn_app (goodIn_of _ (by decide +kernel)) ggX1_pound_X1_requireIndex
set_option maxRecDepth 20000 in
theorem ggX1_pound_X0_tellPound : GoodIn wsX1_pound wsX0_tellPound := goodIn_r _ [12, 13, 14, 15, 16, 17, 18, 11, 19, 20, 21, 24, 25, 26, 27, 28, 29, 30, 31, 32, 33, 34, 35, 36, 37, 38, 39, 40, 41] (by decide +kernel) (by decide +kernel)
set_option maxRecDepth 20000 in
theorem gX1_pound_X0_tellPound : GoodIn wsX1_pound (wsV RX1 90 RX0 yX0_tellPound wsX0_tellPound) := goodIn_app (goodIn_of _ (by decide +kernel)) ggX1_pound_X0_tellPound
theorem dX1_pound_0 : decode cX1_pound 0 = .ok (.iload_n 1, 1) := by decide +kernel
theorem dX1_pound_1 : decode cX1_pound 1 = .ok (.iconst 0, 1) := by decide +kernel
theorem dX1_pound_2 : decode cX1_pound 2 = .ok (.iconst 5, 1) := by decide +kernel
theorem dX1_pound_3 : decode cX1_pound 3 = .ok (.invokestatic 19, 3) := by decide +kernel
theorem dX1_pound_6 : decode cX1_pound 6 = .ok (.iload_n 2, 1) := by decide +kernel
theorem dX1_pound_7 : decode cX1_pound 7 = .ok (.iconst 0, 1) := by decide +kernel
theorem dX1_pound_8 : decode cX1_pound 8 = .ok (.iconst 3, 1) := by decide +kernel
theorem dX1_pound_9 : decode cX1_pound 9 = .ok (.invokestatic 19, 3) := by decide +kernel
theorem dX1_pound_12 : decode cX1_pound 12 = .ok (.aload_n 0, 1) := by decide +kernel
theorem dX1_pound_13 : decode cX1_pound 13 = .ok (.getfield 12, 3) := by decide +kernel
theorem dX1_pound_16 : decode cX1_pound 16 = .ok (.iload_n 1, 1) := by decide +kernel
theorem dX1_pound_17 : decode cX1_pound 17 = .ok (.iload_n 2, 1) := by decide +kernel
theorem dX1_pound_18 : decode cX1_pound 18 = .ok (.invokevirtual 90, 3) := by decide +kernel
theorem dX1_pound_21 : decode cX1_pound 21 = .ok (.ireturn, 1) := by decide +kernel
set_option maxRecDepth 20000 in
theorem ggX1_lock_X1_requireIndex : GoodIn wsX1_lock wsX1_requireIndex := goodIn_ca (goodIn_r _ [5, 6, 7] (by decide +kernel) (by decide +kernel)) (goodIn_sub (fun _ h => List.mem_cons_of_mem _ (List.mem_append_right _ h)) (by decide +kernel))
set_option maxRecDepth 20000 in
theorem gX1_lock_X1_requireIndex : GoodIn wsX1_lock (va_wsS RX1 19 yX1_requireIndex wsX1_requireIndex) := goodIn_app (goodIn_of _ (by decide +kernel)) ggX1_lock_X1_requireIndex
set_option maxRecDepth 20000 in
theorem ggX1_lock_X0_tellLock : GoodIn wsX1_lock wsX0_tellLock := goodIn_r _ [12, 13, 14, 15, 16, 17, 18, 11, 19, 20, 21, 22, 23, 24, 25, 26, 27, 28, 29, 30, 31, 32, 33, 34, 35, 36, 37, 38, 39, 40, 41, 42, 43, 44, 45, 46, 47, 48, 49, 50, 51, 52, 53, 54, 57, 58, 59, 60, 61, 62, 63, 64, 65, 66, 67, 68, 69, 70, 71, 72, 73, 74] (by decide +kernel) (by decide +kernel)
set_option maxRecDepth 20000 in
theorem gX1_lock_X0_tellLock : GoodIn wsX1_lock (wsV RX1 93 RX0 yX0_tellLock wsX0_tellLock) := goodIn_app (goodIn_of _ (by decide +kernel)) ggX1_lock_X0_tellLock
theorem dX1_lock_0 : decode cX1_lock 0 = .ok (.iload_n 1, 1) := by decide +kernel
theorem dX1_lock_1 : decode cX1_lock 1 = .ok (.iconst 0, 1) := by decide +kernel
theorem dX1_lock_2 : decode cX1_lock 2 = .ok (.iconst 4, 1) := by decide +kernel
theorem dX1_lock_3 : decode cX1_lock 3 = .ok (.invokestatic 19, 3) := by decide +kernel
theorem dX1_lock_6 : decode cX1_lock 6 = .ok (.iload_n 2, 1) := by decide +kernel
theorem dX1_lock_7 : decode cX1_lock 7 = .ok (.iconst 0, 1) := by decide +kernel
theorem dX1_lock_8 : decode cX1_lock 8 = .ok (.iconst 4, 1) := by decide +kernel
theorem dX1_lock_9 : decode cX1_lock 9 = .ok (.invokestatic 19, 3) := by decide +kernel
theorem dX1_lock_12 : decode cX1_lock 12 = .ok (.aload_n 0, 1) := by decide +kernel
theorem dX1_lock_13 : decode cX1_lock 13 = .ok (.getfield 12, 3) := by decide +kernel
theorem dX1_lock_16 : decode cX1_lock 16 = .ok (.iload_n 1, 1) := by decide +kernel
theorem dX1_lock_17 : decode cX1_lock 17 = .ok (.iload_n 2, 1) := by decide +kernel
theorem dX1_lock_18 : decode cX1_lock 18 = .ok (.invokevirtual 93, 3) := by decide +kernel
theorem dX1_lock_21 : decode cX1_lock 21 = .ok (.ireturn, 1) := by decide +kernel
set_option maxRecDepth 20000 in
theorem ggX1_count_X1_requireIndex : GoodIn wsX1_count wsX1_requireIndex := goodIn_ca (goodIn_r _ [5, 6, 7] (by decide +kernel) (by decide +kernel)) (goodIn_sub (fun _ h => List.mem_cons_of_mem _ (List.mem_append_right _ h)) (by decide +kernel))
set_option maxRecDepth 20000 in
theorem gX1_count_X1_requireIndex : GoodIn wsX1_count (va_wsS RX1 19 yX1_requireIndex wsX1_requireIndex) := goodIn_app (goodIn_of _ (by decide +kernel)) ggX1_count_X1_requireIndex
set_option maxRecDepth 20000 in
theorem ggX1_count_X0_tellWhole : GoodIn wsX1_count wsX0_tellWhole := goodIn_r _ [12, 13, 14, 15, 16, 17, 18, 19, 20, 21, 22, 23, 11, 24, 25, 26, 27, 28, 29, 30, 31, 32, 33, 34, 35, 36, 37, 38, 39, 40, 43, 44, 45, 46, 47, 48, 49, 50, 51, 52, 53, 54, 55, 56, 57, 58, 59, 60] (by decide +kernel) (by decide +kernel)
set_option maxRecDepth 20000 in
theorem gX1_count_X0_tellWhole : GoodIn wsX1_count (wsV RX1 96 RX0 yX0_tellWhole wsX0_tellWhole) := goodIn_app (goodIn_of _ (by decide +kernel)) ggX1_count_X0_tellWhole
theorem dX1_count_0 : decode cX1_count 0 = .ok (.iload_n 1, 1) := by decide +kernel
theorem dX1_count_1 : decode cX1_count 1 = .ok (.iconst 0, 1) := by decide +kernel
theorem dX1_count_2 : decode cX1_count 2 = .ok (.bipush 9, 2) := by decide +kernel
theorem dX1_count_4 : decode cX1_count 4 = .ok (.invokestatic 19, 3) := by decide +kernel
theorem dX1_count_7 : decode cX1_count 7 = .ok (.aload_n 0, 1) := by decide +kernel
theorem dX1_count_8 : decode cX1_count 8 = .ok (.getfield 12, 3) := by decide +kernel
theorem dX1_count_11 : decode cX1_count 11 = .ok (.iload_n 1, 1) := by decide +kernel
theorem dX1_count_12 : decode cX1_count 12 = .ok (.invokevirtual 96, 3) := by decide +kernel
theorem dX1_count_15 : decode cX1_count 15 = .ok (.ireturn, 1) := by decide +kernel
set_option maxRecDepth 20000 in
theorem ggX1_pass_X1_requireArgument : GoodIn wsX1_pass wsX1_requireArgument := goodIn_ca (goodIn_r _ [5, 6, 7] (by decide +kernel) (by decide +kernel)) (goodIn_sub (fun _ h => List.mem_cons_of_mem _ (List.mem_append_right _ h)) (by decide +kernel))
set_option maxRecDepth 20000 in
theorem gX1_pass_X1_requireArgument : GoodIn wsX1_pass (va_wsS RX1 23 yX1_requireArgument wsX1_requireArgument) := goodIn_app (goodIn_of _ (by decide +kernel)) ggX1_pass_X1_requireArgument
set_option maxRecDepth 20000 in
theorem ggX1_pass_X0_goHours : GoodIn wsX1_pass wsX0_goHours := goodIn_r _ [12, 13, 14, 15, 11, 16, 17, 18, 19, 20, 21, 22, 23, 24, 25, 26, 27, 28, 29, 30, 31, 32, 33, 34, 35, 36, 37, 38, 39, 40, 41, 42, 43, 44, 45, 46, 47, 48, 49, 50, 51, 52, 53, 54, 55, 56, 57, 58, 59, 60, 61, 62, 63, 64, 65, 66, 67, 68, 69, 70, 71, 72, 73, 74, 75, 76, 77, 78, 79, 80, 81, 82, 83, 84, 85, 86, 89, 90, 91, 92, 93, 94, 95, 96, 97, 98, 99, 100, 101, 102, 103, 104, 105, 106] (by decide +kernel) (by decide +kernel)
set_option maxRecDepth 20000 in
theorem gX1_pass_X0_goHours : GoodIn wsX1_pass (wsV RX1 100 RX0 yX0_goHours wsX0_goHours) := goodIn_app (goodIn_of _ (by decide +kernel)) ggX1_pass_X0_goHours
theorem dX1_pass_0 : decode cX1_pass 0 = .ok (.iload_n 1, 1) := by decide +kernel
theorem dX1_pass_1 : decode cX1_pass 1 = .ok (.iconst 1, 1) := by decide +kernel
theorem dX1_pass_2 : decode cX1_pass 2 = .ok (.bipush 60, 2) := by decide +kernel
theorem dX1_pass_4 : decode cX1_pass 4 = .ok (.invokestatic 23, 3) := by decide +kernel
theorem dX1_pass_7 : decode cX1_pass 7 = .ok (.aload_n 0, 1) := by decide +kernel
theorem dX1_pass_8 : decode cX1_pass 8 = .ok (.getfield 12, 3) := by decide +kernel
theorem dX1_pass_11 : decode cX1_pass 11 = .ok (.iload_n 1, 1) := by decide +kernel
theorem dX1_pass_12 : decode cX1_pass 12 = .ok (.invokevirtual 100, 3) := by decide +kernel
theorem dX1_pass_15 : decode cX1_pass 15 = .ok (.ireturn, 1) := by decide +kernel
set_option maxRecDepth 20000 in
theorem ggX1_arrives_X1_requireIndex : GoodIn wsX1_arrives wsX1_requireIndex := goodIn_ca (goodIn_r _ [7, 8, 9] (by decide +kernel) (by decide +kernel)) (goodIn_sub (fun _ h => List.mem_cons_of_mem _ (List.mem_append_right _ h)) (by decide +kernel))
set_option maxRecDepth 20000 in
theorem gX1_arrives_X1_requireIndex : GoodIn wsX1_arrives (va_wsS RX1 19 yX1_requireIndex wsX1_requireIndex) := goodIn_app (goodIn_of _ (by decide +kernel)) ggX1_arrives_X1_requireIndex
set_option maxRecDepth 20000 in
theorem ggX1_arrives_X0_copyFrom : GoodIn wsX1_arrives wsX0_copyFrom := goodIn_r _ [14, 15, 16, 17, 18, 19, 20, 21, 22, 23, 24, 25, 26, 27, 28, 29, 30, 31, 32, 33, 34, 35, 36, 96, 97, 98, 99, 100, 101, 102, 103, 104, 105, 106, 107, 108, 109, 110, 111, 112, 113] (by decide +kernel) (by decide +kernel)
set_option maxRecDepth 20000 in
theorem gX1_arrives_X0_copyFrom : GoodIn wsX1_arrives (wsV RX1 103 RX0 yX0_copyFrom wsX0_copyFrom) := goodIn_app (goodIn_of _ (by decide +kernel)) ggX1_arrives_X0_copyFrom
set_option maxRecDepth 20000 in
theorem ggX1_arrives_X0_hasCome : GoodIn wsX1_arrives wsX0_hasCome := goodIn_r _ [40, 33, 34, 96, 97, 98, 99, 100, 101, 102, 103, 104, 105, 106, 107, 108, 109, 110, 111, 112, 113] (by decide +kernel) (by decide +kernel)
set_option maxRecDepth 20000 in
theorem gX1_arrives_X0_hasCome : GoodIn wsX1_arrives (wsV RX1 107 RX0 yX0_hasCome wsX0_hasCome) := goodIn_app (goodIn_of _ (by decide +kernel)) ggX1_arrives_X0_hasCome
set_option maxRecDepth 20000 in
theorem ggX1_arrives_X0_goHour : GoodIn wsX1_arrives wsX0_goHour := goodIn_r _ [44, 21, 15, 45, 46, 47, 48, 49, 50, 51, 13, 52, 26, 53, 54, 55, 56, 27, 57, 58, 59, 60, 19, 20, 28, 16, 61, 62, 63, 64, 32, 65, 66, 67, 68, 33, 69, 38, 39, 40, 34, 70, 71, 72, 73, 74, 75, 76, 77, 35, 17, 18, 29, 78, 79, 80, 81, 82, 83, 84, 85, 86, 87, 88, 89, 36, 30, 90, 91, 92, 93, 31, 96, 97, 98, 99, 100, 101, 102, 103, 104, 105, 106, 107, 108, 109, 110, 111, 112, 113] (by decide +kernel) (by decide +kernel)
set_option maxRecDepth 20000 in
theorem gX1_arrives_X0_goHour : GoodIn wsX1_arrives (wsV RX1 110 RX0 yX0_goHour wsX0_goHour) := goodIn_app (goodIn_of _ (by decide +kernel)) ggX1_arrives_X0_goHour
theorem dX1_arrives_0 : decode cX1_arrives 0 = .ok (.iload_n 1, 1) := by decide +kernel
theorem dX1_arrives_1 : decode cX1_arrives 1 = .ok (.iconst 0, 1) := by decide +kernel
theorem dX1_arrives_2 : decode cX1_arrives 2 = .ok (.aload_n 0, 1) := by decide +kernel
theorem dX1_arrives_3 : decode cX1_arrives 3 = .ok (.getfield 12, 3) := by decide +kernel
theorem dX1_arrives_6 : decode cX1_arrives 6 = .ok (.getfield 72, 3) := by decide +kernel
theorem dX1_arrives_9 : decode cX1_arrives 9 = .ok (.iconst 1, 1) := by decide +kernel
theorem dX1_arrives_10 : decode cX1_arrives 10 = .ok (.isub, 1) := by decide +kernel
theorem dX1_arrives_11 : decode cX1_arrives 11 = .ok (.invokestatic 19, 3) := by decide +kernel
theorem dX1_arrives_14 : decode cX1_arrives 14 = .ok (.aload_n 0, 1) := by decide +kernel
theorem dX1_arrives_15 : decode cX1_arrives 15 = .ok (.getfield 16, 3) := by decide +kernel
theorem dX1_arrives_18 : decode cX1_arrives 18 = .ok (.aload_n 0, 1) := by decide +kernel
theorem dX1_arrives_19 : decode cX1_arrives 19 = .ok (.getfield 12, 3) := by decide +kernel
theorem dX1_arrives_22 : decode cX1_arrives 22 = .ok (.invokevirtual 103, 3) := by decide +kernel
theorem dX1_arrives_25 : decode cX1_arrives 25 = .ok (.iconst 0, 1) := by decide +kernel
theorem dX1_arrives_26 : decode cX1_arrives 26 = .ok (.istore_n 2, 1) := by decide +kernel
theorem dX1_arrives_27 : decode cX1_arrives 27 = .ok (.iload_n 2, 1) := by decide +kernel
theorem dX1_arrives_28 : decode cX1_arrives 28 = .ok (.bipush 120, 2) := by decide +kernel
theorem dX1_arrives_30 : decode cX1_arrives 30 = .ok (.if_icmp .ge 30, 3) := by decide +kernel
theorem dX1_arrives_33 : decode cX1_arrives 33 = .ok (.aload_n 0, 1) := by decide +kernel
theorem dX1_arrives_34 : decode cX1_arrives 34 = .ok (.getfield 16, 3) := by decide +kernel
theorem dX1_arrives_37 : decode cX1_arrives 37 = .ok (.iload_n 1, 1) := by decide +kernel
theorem dX1_arrives_38 : decode cX1_arrives 38 = .ok (.invokevirtual 107, 3) := by decide +kernel
theorem dX1_arrives_41 : decode cX1_arrives 41 = .ok (.ifCond .eq 5, 3) := by decide +kernel
theorem dX1_arrives_44 : decode cX1_arrives 44 = .ok (.iload_n 2, 1) := by decide +kernel
theorem dX1_arrives_45 : decode cX1_arrives 45 = .ok (.ireturn, 1) := by decide +kernel
theorem dX1_arrives_46 : decode cX1_arrives 46 = .ok (.aload_n 0, 1) := by decide +kernel
theorem dX1_arrives_47 : decode cX1_arrives 47 = .ok (.getfield 16, 3) := by decide +kernel
theorem dX1_arrives_50 : decode cX1_arrives 50 = .ok (.invokevirtual 110, 3) := by decide +kernel
theorem dX1_arrives_53 : decode cX1_arrives 53 = .ok (.pop, 1) := by decide +kernel
theorem dX1_arrives_54 : decode cX1_arrives 54 = .ok (.iinc 2 1, 3) := by decide +kernel
theorem dX1_arrives_57 : decode cX1_arrives 57 = .ok (.goto (-30), 3) := by decide +kernel
theorem dX1_arrives_60 : decode cX1_arrives 60 = .ok (.aload_n 0, 1) := by decide +kernel
theorem dX1_arrives_61 : decode cX1_arrives 61 = .ok (.getfield 16, 3) := by decide +kernel
theorem dX1_arrives_64 : decode cX1_arrives 64 = .ok (.iload_n 1, 1) := by decide +kernel
theorem dX1_arrives_65 : decode cX1_arrives 65 = .ok (.invokevirtual 107, 3) := by decide +kernel
theorem dX1_arrives_68 : decode cX1_arrives 68 = .ok (.ifCond .eq 8, 3) := by decide +kernel
theorem dX1_arrives_71 : decode cX1_arrives 71 = .ok (.bipush 120, 2) := by decide +kernel
theorem dX1_arrives_73 : decode cX1_arrives 73 = .ok (.goto 4, 3) := by decide +kernel
theorem dX1_arrives_76 : decode cX1_arrives 76 = .ok (.iconst (-1), 1) := by decide +kernel
theorem dX1_arrives_77 : decode cX1_arrives 77 = .ok (.ireturn, 1) := by decide +kernel
set_option maxRecDepth 20000 in
theorem ggX1_foresee_X1_requireArgument : GoodIn wsX1_foresee wsX1_requireArgument := goodIn_ca (goodIn_r _ [6, 7, 8] (by decide +kernel) (by decide +kernel)) (goodIn_sub (fun _ h => List.mem_cons_of_mem _ (List.mem_append_left _ (List.mem_append_right _ h))) (by decide +kernel))
set_option maxRecDepth 20000 in
theorem gX1_foresee_X1_requireArgument : GoodIn wsX1_foresee (va_wsS RX1 23 yX1_requireArgument wsX1_requireArgument) := goodIn_app (goodIn_of _ (by decide +kernel)) ggX1_foresee_X1_requireArgument
set_option maxRecDepth 20000 in
theorem ggX1_foresee_X1_requireIndex : GoodIn wsX1_foresee wsX1_requireIndex := goodIn_ca (goodIn_r _ [11, 12, 13] (by decide +kernel) (by decide +kernel)) (goodIn_sub (fun _ h => List.mem_cons_of_mem _ (List.mem_append_right _ h)) (by decide +kernel))
set_option maxRecDepth 20000 in
theorem gX1_foresee_X1_requireIndex : GoodIn wsX1_foresee (va_wsS RX1 19 yX1_requireIndex wsX1_requireIndex) := goodIn_app (goodIn_of _ (by decide +kernel)) ggX1_foresee_X1_requireIndex
set_option maxRecDepth 20000 in
theorem ggX1_foresee_X0_copyFrom : GoodIn wsX1_foresee wsX0_copyFrom := goodIn_r _ [18, 19, 20, 21, 22, 23, 24, 25, 26, 27, 28, 29, 30, 31, 32, 33, 34, 35, 36, 37, 38, 39, 40, 119, 120, 121, 122, 123, 124, 125, 126, 127, 128, 129, 130, 131, 132, 133, 134, 135, 136] (by decide +kernel) (by decide +kernel)
set_option maxRecDepth 20000 in
theorem gX1_foresee_X0_copyFrom : GoodIn wsX1_foresee (wsV RX1 103 RX0 yX0_copyFrom wsX0_copyFrom) := goodIn_app (goodIn_of _ (by decide +kernel)) ggX1_foresee_X0_copyFrom
set_option maxRecDepth 20000 in
theorem ggX1_foresee_X0_goHours : GoodIn wsX1_foresee wsX0_goHours := goodIn_r _ [44, 45, 46, 47, 17, 48, 25, 19, 49, 50, 51, 52, 53, 54, 55, 56, 30, 57, 58, 59, 60, 31, 61, 62, 63, 64, 23, 24, 32, 20, 65, 66, 67, 68, 36, 69, 70, 71, 72, 37, 73, 74, 75, 76, 38, 77, 78, 79, 80, 81, 82, 83, 84, 39, 21, 22, 33, 85, 86, 87, 88, 89, 90, 91, 92, 93, 94, 95, 96, 40, 34, 97, 98, 99, 100, 35, 119, 120, 121, 122, 123, 124, 125, 126, 127, 128, 129, 130, 131, 132, 133, 134, 135, 136] (by decide +kernel) (by decide +kernel)
set_option maxRecDepth 20000 in
theorem gX1_foresee_X0_goHours : GoodIn wsX1_foresee (wsV RX1 100 RX0 yX0_goHours wsX0_goHours) := goodIn_app (goodIn_of _ (by decide +kernel)) ggX1_foresee_X0_goHours
set_option maxRecDepth 20000 in
theorem ggX1_foresee_X0_tellWhole : GoodIn wsX1_foresee wsX0_tellWhole := goodIn_r _ [104, 19, 36, 20, 31, 32, 21, 24, 23, 105, 106, 107, 17, 108, 73, 74, 75, 76, 37, 38, 109, 110, 111, 112, 30, 113, 114, 115, 116, 33, 119, 120, 121, 122, 123, 124, 125, 126, 127, 128, 129, 130, 131, 132, 133, 134, 135, 136] (by decide +kernel) (by decide +kernel)
set_option maxRecDepth 20000 in
theorem gX1_foresee_X0_tellWhole : GoodIn wsX1_foresee (wsV RX1 96 RX0 yX0_tellWhole wsX0_tellWhole) := goodIn_app (goodIn_of _ (by decide +kernel)) ggX1_foresee_X0_tellWhole
theorem dX1_foresee_0 : decode cX1_foresee 0 = .ok (.iload_n 1, 1) := by decide +kernel
theorem dX1_foresee_1 : decode cX1_foresee 1 = .ok (.iconst 1, 1) := by decide +kernel
theorem dX1_foresee_2 : decode cX1_foresee 2 = .ok (.bipush 60, 2) := by decide +kernel
theorem dX1_foresee_4 : decode cX1_foresee 4 = .ok (.invokestatic 23, 3) := by decide +kernel
theorem dX1_foresee_7 : decode cX1_foresee 7 = .ok (.iload_n 2, 1) := by decide +kernel
theorem dX1_foresee_8 : decode cX1_foresee 8 = .ok (.iconst 2, 1) := by decide +kernel
theorem dX1_foresee_9 : decode cX1_foresee 9 = .ok (.bipush 6, 2) := by decide +kernel
theorem dX1_foresee_11 : decode cX1_foresee 11 = .ok (.invokestatic 19, 3) := by decide +kernel
theorem dX1_foresee_14 : decode cX1_foresee 14 = .ok (.aload_n 0, 1) := by decide +kernel
theorem dX1_foresee_15 : decode cX1_foresee 15 = .ok (.getfield 16, 3) := by decide +kernel
theorem dX1_foresee_18 : decode cX1_foresee 18 = .ok (.aload_n 0, 1) := by decide +kernel
theorem dX1_foresee_19 : decode cX1_foresee 19 = .ok (.getfield 12, 3) := by decide +kernel
theorem dX1_foresee_22 : decode cX1_foresee 22 = .ok (.invokevirtual 103, 3) := by decide +kernel
theorem dX1_foresee_25 : decode cX1_foresee 25 = .ok (.aload_n 0, 1) := by decide +kernel
theorem dX1_foresee_26 : decode cX1_foresee 26 = .ok (.getfield 16, 3) := by decide +kernel
theorem dX1_foresee_29 : decode cX1_foresee 29 = .ok (.iload_n 1, 1) := by decide +kernel
theorem dX1_foresee_30 : decode cX1_foresee 30 = .ok (.invokevirtual 100, 3) := by decide +kernel
theorem dX1_foresee_33 : decode cX1_foresee 33 = .ok (.pop, 1) := by decide +kernel
theorem dX1_foresee_34 : decode cX1_foresee 34 = .ok (.aload_n 0, 1) := by decide +kernel
theorem dX1_foresee_35 : decode cX1_foresee 35 = .ok (.getfield 16, 3) := by decide +kernel
theorem dX1_foresee_38 : decode cX1_foresee 38 = .ok (.iload_n 2, 1) := by decide +kernel
theorem dX1_foresee_39 : decode cX1_foresee 39 = .ok (.invokevirtual 96, 3) := by decide +kernel
theorem dX1_foresee_42 : decode cX1_foresee 42 = .ok (.ireturn, 1) := by decide +kernel
set_option maxRecDepth 20000 in
theorem ggX1_advise_X1_requireArgument : GoodIn wsX1_advise wsX1_requireArgument := goodIn_ca (goodIn_r _ [8, 9, 10] (by decide +kernel) (by decide +kernel)) (goodIn_sub (fun _ h => List.mem_cons_of_mem _ (List.mem_append_right _ h)) (by decide +kernel))
set_option maxRecDepth 20000 in
theorem gX1_advise_X1_requireArgument : GoodIn wsX1_advise (va_wsS RX1 23 yX1_requireArgument wsX1_requireArgument) := goodIn_app (goodIn_of _ (by decide +kernel)) ggX1_advise_X1_requireArgument
set_option maxRecDepth 20000 in
theorem ggX1_advise_X0_copyFrom : GoodIn wsX1_advise wsX0_copyFrom := goodIn_r _ [15, 16, 17, 18, 19, 20, 21, 22, 23, 24, 25, 26, 27, 28, 29, 30, 31, 32, 33, 34, 35, 36, 37, 100, 101, 102, 103, 104, 105, 106, 107, 108, 109, 110, 111, 112, 113, 114, 115, 116, 117] (by decide +kernel) (by decide +kernel)
set_option maxRecDepth 20000 in
theorem gX1_advise_X0_copyFrom : GoodIn wsX1_advise (wsV RX1 103 RX0 yX0_copyFrom wsX0_copyFrom) := goodIn_app (goodIn_of _ (by decide +kernel)) ggX1_advise_X0_copyFrom
set_option maxRecDepth 20000 in
theorem ggX1_advise_X0_goHours : GoodIn wsX1_advise wsX0_goHours := goodIn_r _ [41, 42, 43, 44, 14, 45, 22, 16, 46, 47, 48, 49, 50, 51, 52, 53, 27, 54, 55, 56, 57, 28, 58, 59, 60, 61, 20, 21, 29, 17, 62, 63, 64, 65, 33, 66, 67, 68, 69, 34, 70, 71, 72, 73, 35, 74, 75, 76, 77, 78, 79, 80, 81, 36, 18, 19, 30, 82, 83, 84, 85, 86, 87, 88, 89, 90, 91, 92, 93, 37, 31, 94, 95, 96, 97, 32, 100, 101, 102, 103, 104, 105, 106, 107, 108, 109, 110, 111, 112, 113, 114, 115, 116, 117] (by decide +kernel) (by decide +kernel)
set_option maxRecDepth 20000 in
theorem gX1_advise_X0_goHours : GoodIn wsX1_advise (wsV RX1 100 RX0 yX0_goHours wsX0_goHours) := goodIn_app (goodIn_of _ (by decide +kernel)) ggX1_advise_X0_goHours
theorem dX1_advise_0 : decode cX1_advise 0 = .ok (.iload_n 1, 1) := by decide +kernel
theorem dX1_advise_1 : decode cX1_advise 1 = .ok (.iconst 1, 1) := by decide +kernel
theorem dX1_advise_2 : decode cX1_advise 2 = .ok (.bipush 40, 2) := by decide +kernel
theorem dX1_advise_4 : decode cX1_advise 4 = .ok (.invokestatic 23, 3) := by decide +kernel
theorem dX1_advise_7 : decode cX1_advise 7 = .ok (.iconst 0, 1) := by decide +kernel
theorem dX1_advise_8 : decode cX1_advise 8 = .ok (.istore_n 2, 1) := by decide +kernel
theorem dX1_advise_9 : decode cX1_advise 9 = .ok (.iconst 0, 1) := by decide +kernel
theorem dX1_advise_10 : decode cX1_advise 10 = .ok (.istore_n 3, 1) := by decide +kernel
theorem dX1_advise_11 : decode cX1_advise 11 = .ok (.iconst 0, 1) := by decide +kernel
theorem dX1_advise_12 : decode cX1_advise 12 = .ok (.istore 4, 2) := by decide +kernel
theorem dX1_advise_14 : decode cX1_advise 14 = .ok (.iload 4, 2) := by decide +kernel
theorem dX1_advise_16 : decode cX1_advise 16 = .ok (.bipush 100, 2) := by decide +kernel
theorem dX1_advise_18 : decode cX1_advise 18 = .ok (.if_icmp .gt 60, 3) := by decide +kernel
theorem dX1_advise_21 : decode cX1_advise 21 = .ok (.aload_n 0, 1) := by decide +kernel
theorem dX1_advise_22 : decode cX1_advise 22 = .ok (.getfield 16, 3) := by decide +kernel
theorem dX1_advise_25 : decode cX1_advise 25 = .ok (.aload_n 0, 1) := by decide +kernel
theorem dX1_advise_26 : decode cX1_advise 26 = .ok (.getfield 12, 3) := by decide +kernel
theorem dX1_advise_29 : decode cX1_advise 29 = .ok (.invokevirtual 103, 3) := by decide +kernel
theorem dX1_advise_32 : decode cX1_advise 32 = .ok (.aload_n 0, 1) := by decide +kernel
theorem dX1_advise_33 : decode cX1_advise 33 = .ok (.getfield 16, 3) := by decide +kernel
theorem dX1_advise_36 : decode cX1_advise 36 = .ok (.iload 4, 2) := by decide +kernel
theorem dX1_advise_38 : decode cX1_advise 38 = .ok (.putfield 30, 3) := by decide +kernel
theorem dX1_advise_41 : decode cX1_advise 41 = .ok (.aload_n 0, 1) := by decide +kernel
theorem dX1_advise_42 : decode cX1_advise 42 = .ok (.getfield 16, 3) := by decide +kernel
theorem dX1_advise_45 : decode cX1_advise 45 = .ok (.iload_n 1, 1) := by decide +kernel
theorem dX1_advise_46 : decode cX1_advise 46 = .ok (.invokevirtual 100, 3) := by decide +kernel
theorem dX1_advise_49 : decode cX1_advise 49 = .ok (.pop, 1) := by decide +kernel
theorem dX1_advise_50 : decode cX1_advise 50 = .ok (.aload_n 0, 1) := by decide +kernel
theorem dX1_advise_51 : decode cX1_advise 51 = .ok (.getfield 16, 3) := by decide +kernel
theorem dX1_advise_54 : decode cX1_advise 54 = .ok (.getfield 44, 3) := by decide +kernel
theorem dX1_advise_57 : decode cX1_advise 57 = .ok (.iload_n 3, 1) := by decide +kernel
theorem dX1_advise_58 : decode cX1_advise 58 = .ok (.if_icmp .lt 14, 3) := by decide +kernel
theorem dX1_advise_61 : decode cX1_advise 61 = .ok (.aload_n 0, 1) := by decide +kernel
theorem dX1_advise_62 : decode cX1_advise 62 = .ok (.getfield 16, 3) := by decide +kernel
theorem dX1_advise_65 : decode cX1_advise 65 = .ok (.getfield 44, 3) := by decide +kernel
theorem dX1_advise_68 : decode cX1_advise 68 = .ok (.istore_n 3, 1) := by decide +kernel
theorem dX1_advise_69 : decode cX1_advise 69 = .ok (.iload 4, 2) := by decide +kernel
theorem dX1_advise_71 : decode cX1_advise 71 = .ok (.istore_n 2, 1) := by decide +kernel
theorem dX1_advise_72 : decode cX1_advise 72 = .ok (.iinc 4 10, 3) := by decide +kernel
theorem dX1_advise_75 : decode cX1_advise 75 = .ok (.goto (-61), 3) := by decide +kernel
theorem dX1_advise_78 : decode cX1_advise 78 = .ok (.iload_n 2, 1) := by decide +kernel
theorem dX1_advise_79 : decode cX1_advise 79 = .ok (.ireturn, 1) := by decide +kernel
set_option maxRecDepth 20000 in
theorem ggX1_stops_X0_copyFrom : GoodIn wsX1_stops wsX0_copyFrom := goodIn_r _ [7, 8, 9, 10, 11, 12, 13, 14, 15, 16, 17, 18, 19, 20, 21, 22, 23, 24, 25, 26, 27, 28, 29, 88, 89, 90, 91, 92, 93, 94, 95, 96, 97, 98, 99, 100, 101, 102, 103, 104, 105] (by decide +kernel) (by decide +kernel)
set_option maxRecDepth 20000 in
theorem gX1_stops_X0_copyFrom : GoodIn wsX1_stops (wsV RX1 103 RX0 yX0_copyFrom wsX0_copyFrom) := goodIn_app (goodIn_of _ (by decide +kernel)) ggX1_stops_X0_copyFrom
set_option maxRecDepth 20000 in
theorem ggX1_stops_X0_goHour : GoodIn wsX1_stops wsX0_goHour := goodIn_r _ [33, 14, 8, 34, 35, 36, 37, 38, 39, 40, 6, 41, 19, 42, 43, 44, 45, 20, 46, 47, 48, 49, 12, 13, 21, 9, 50, 51, 52, 53, 25, 54, 55, 56, 57, 26, 58, 59, 60, 61, 27, 62, 63, 64, 65, 66, 67, 68, 69, 28, 10, 11, 22, 70, 71, 72, 73, 74, 75, 76, 77, 78, 79, 80, 81, 29, 23, 82, 83, 84, 85, 24, 88, 89, 90, 91, 92, 93, 94, 95, 96, 97, 98, 99, 100, 101, 102, 103, 104, 105] (by decide +kernel) (by decide +kernel)
set_option maxRecDepth 20000 in
theorem gX1_stops_X0_goHour : GoodIn wsX1_stops (wsV RX1 110 RX0 yX0_goHour wsX0_goHour) := goodIn_app (goodIn_of _ (by decide +kernel)) ggX1_stops_X0_goHour
theorem dX1_stops_0 : decode cX1_stops 0 = .ok (.aload_n 0, 1) := by decide +kernel
theorem dX1_stops_1 : decode cX1_stops 1 = .ok (.getfield 16, 3) := by decide +kernel
theorem dX1_stops_4 : decode cX1_stops 4 = .ok (.aload_n 0, 1) := by decide +kernel
theorem dX1_stops_5 : decode cX1_stops 5 = .ok (.getfield 12, 3) := by decide +kernel
theorem dX1_stops_8 : decode cX1_stops 8 = .ok (.invokevirtual 103, 3) := by decide +kernel
theorem dX1_stops_11 : decode cX1_stops 11 = .ok (.iconst 0, 1) := by decide +kernel
theorem dX1_stops_12 : decode cX1_stops 12 = .ok (.istore_n 1, 1) := by decide +kernel
theorem dX1_stops_13 : decode cX1_stops 13 = .ok (.iload_n 1, 1) := by decide +kernel
theorem dX1_stops_14 : decode cX1_stops 14 = .ok (.bipush 60, 2) := by decide +kernel
theorem dX1_stops_16 : decode cX1_stops 16 = .ok (.if_icmp .ge 21, 3) := by decide +kernel
theorem dX1_stops_19 : decode cX1_stops 19 = .ok (.aload_n 0, 1) := by decide +kernel
theorem dX1_stops_20 : decode cX1_stops 20 = .ok (.getfield 16, 3) := by decide +kernel
theorem dX1_stops_23 : decode cX1_stops 23 = .ok (.invokevirtual 110, 3) := by decide +kernel
theorem dX1_stops_26 : decode cX1_stops 26 = .ok (.ifCond .ne 5, 3) := by decide +kernel
theorem dX1_stops_29 : decode cX1_stops 29 = .ok (.iload_n 1, 1) := by decide +kernel
theorem dX1_stops_30 : decode cX1_stops 30 = .ok (.ireturn, 1) := by decide +kernel
theorem dX1_stops_31 : decode cX1_stops 31 = .ok (.iinc 1 1, 3) := by decide +kernel
theorem dX1_stops_34 : decode cX1_stops 34 = .ok (.goto (-21), 3) := by decide +kernel
theorem dX1_stops_37 : decode cX1_stops 37 = .ok (.iconst (-1), 1) := by decide +kernel
theorem dX1_stops_38 : decode cX1_stops 38 = .ok (.ireturn, 1) := by decide +kernel
set_option maxRecDepth 20000 in
theorem ggX1_mean_X0_waterOfAll : GoodIn wsX1_mean wsX0_waterOfAll := goodIn_r _ [7, 8, 11, 12, 13, 14, 15, 16, 17, 18, 19, 20, 21, 22, 23, 24, 25, 26, 27, 28] (by decide +kernel) (by decide +kernel)
set_option maxRecDepth 20000 in
theorem gX1_mean_X0_waterOfAll : GoodIn wsX1_mean (wsV RX1 114 RX0 yX0_waterOfAll wsX0_waterOfAll) := goodIn_app (goodIn_of _ (by decide +kernel)) ggX1_mean_X0_waterOfAll
theorem dX1_mean_0 : decode cX1_mean 0 = .ok (.aload_n 0, 1) := by decide +kernel
theorem dX1_mean_1 : decode cX1_mean 1 = .ok (.getfield 12, 3) := by decide +kernel
theorem dX1_mean_4 : decode cX1_mean 4 = .ok (.invokevirtual 114, 3) := by decide +kernel
theorem dX1_mean_7 : decode cX1_mean 7 = .ok (.i2d, 1) := by decide +kernel
theorem dX1_mean_8 : decode cX1_mean 8 = .ok (.ldc2_w 117, 3) := by decide +kernel
theorem dX1_mean_11 : decode cX1_mean 11 = .ok (.ddiv, 1) := by decide +kernel
theorem dX1_mean_12 : decode cX1_mean 12 = .ok (.dreturn, 1) := by decide +kernel
set_option maxRecDepth 20000 in
theorem ggX1_digest_X0_tellWhole : GoodIn wsX1_digest wsX0_tellWhole := goodIn_r _ [10, 11, 12, 13, 14, 15, 16, 17, 18, 19, 20, 21, 9, 22, 23, 24, 25, 26, 27, 28, 29, 30, 31, 32, 33, 34, 35, 36, 37, 38, 95, 96, 97, 98, 99, 100, 101, 102, 103, 104, 105, 106, 107, 108, 109, 110, 111, 112] (by decide +kernel) (by decide +kernel)
set_option maxRecDepth 20000 in
theorem gX1_digest_X0_tellWhole : GoodIn wsX1_digest (wsV RX1 96 RX0 yX0_tellWhole wsX0_tellWhole) := goodIn_app (goodIn_of _ (by decide +kernel)) ggX1_digest_X0_tellWhole
set_option maxRecDepth 20000 in
theorem ggX1_digest_X1_mix : GoodIn wsX1_digest wsX1_mix := goodIn_r _ [42, 43] (by decide +kernel) (by decide +kernel)
set_option maxRecDepth 20000 in
theorem gX1_digest_X1_mix : GoodIn wsX1_digest (va_wsS RX1 121 yX1_mix wsX1_mix) := goodIn_app (goodIn_of _ (by decide +kernel)) ggX1_digest_X1_mix
set_option maxRecDepth 20000 in
theorem ggX1_digest_X0_tellPound : GoodIn wsX1_digest wsX0_tellPound := goodIn_r _ [47, 33, 14, 15, 48, 49, 50, 9, 51, 12, 27, 95, 96, 97, 98, 99, 100, 101, 102, 103, 104, 105, 106, 107, 108, 109, 110, 111, 112] (by decide +kernel) (by decide +kernel)
set_option maxRecDepth 20000 in
theorem gX1_digest_X0_tellPound : GoodIn wsX1_digest (wsV RX1 90 RX0 yX0_tellPound wsX0_tellPound) := goodIn_app (goodIn_of _ (by decide +kernel)) ggX1_digest_X0_tellPound
set_option maxRecDepth 20000 in
theorem ggX1_digest_X0_tellLock : GoodIn wsX1_digest wsX0_tellLock := goodIn_r _ [55, 38, 56, 57, 58, 59, 60, 9, 61, 12, 62, 63, 64, 65, 27, 23, 24, 25, 26, 28, 66, 67, 68, 69, 70, 71, 72, 73, 74, 75, 76, 77, 78, 16, 79, 80, 81, 82, 83, 84, 85, 86, 87, 33, 95, 96, 97, 98, 99, 100, 101, 102, 103, 104, 105, 106, 107, 108, 109, 110, 111, 112] (by decide +kernel) (by decide +kernel)
set_option maxRecDepth 20000 in
theorem gX1_digest_X0_tellLock : GoodIn wsX1_digest (wsV RX1 93 RX0 yX0_tellLock wsX0_tellLock) := goodIn_app (goodIn_of _ (by decide +kernel)) ggX1_digest_X0_tellLock
set_option maxRecDepth 20000 in
theorem ggX1_digest_X0_tellBarge : GoodIn wsX1_digest wsX0_tellBarge := goodIn_r _ [91, 27, 28, 78, 92, 62, 63, 64, 9, 65, 23, 24, 25, 26, 66, 67, 68, 69, 95, 96, 97, 98, 99, 100, 101, 102, 103, 104, 105, 106, 107, 108, 109, 110, 111, 112] (by decide +kernel) (by decide +kernel)
set_option maxRecDepth 20000 in
theorem gX1_digest_X0_tellBarge : GoodIn wsX1_digest (wsV RX1 86 RX0 yX0_tellBarge wsX0_tellBarge) := goodIn_app (goodIn_of _ (by decide +kernel)) ggX1_digest_X0_tellBarge
theorem dX1_digest_0 : decode cX1_digest 0 = .ok (.ldc2_w 119, 3) := by decide +kernel
theorem dX1_digest_3 : decode cX1_digest 3 = .ok (.lstore_n 1, 1) := by decide +kernel
theorem dX1_digest_4 : decode cX1_digest 4 = .ok (.iconst 0, 1) := by decide +kernel
theorem dX1_digest_5 : decode cX1_digest 5 = .ok (.istore_n 3, 1) := by decide +kernel
theorem dX1_digest_6 : decode cX1_digest 6 = .ok (.iload_n 3, 1) := by decide +kernel
theorem dX1_digest_7 : decode cX1_digest 7 = .ok (.bipush 10, 2) := by decide +kernel
theorem dX1_digest_9 : decode cX1_digest 9 = .ok (.if_icmp .ge 22, 3) := by decide +kernel
theorem dX1_digest_12 : decode cX1_digest 12 = .ok (.lload_n 1, 1) := by decide +kernel
theorem dX1_digest_13 : decode cX1_digest 13 = .ok (.aload_n 0, 1) := by decide +kernel
theorem dX1_digest_14 : decode cX1_digest 14 = .ok (.getfield 12, 3) := by decide +kernel
theorem dX1_digest_17 : decode cX1_digest 17 = .ok (.iload_n 3, 1) := by decide +kernel
theorem dX1_digest_18 : decode cX1_digest 18 = .ok (.invokevirtual 96, 3) := by decide +kernel
theorem dX1_digest_21 : decode cX1_digest 21 = .ok (.invokestatic 121, 3) := by decide +kernel
theorem dX1_digest_24 : decode cX1_digest 24 = .ok (.lstore_n 1, 1) := by decide +kernel
theorem dX1_digest_25 : decode cX1_digest 25 = .ok (.iinc 3 1, 3) := by decide +kernel
theorem dX1_digest_28 : decode cX1_digest 28 = .ok (.goto (-22), 3) := by decide +kernel
theorem dX1_digest_31 : decode cX1_digest 31 = .ok (.lload_n 1, 1) := by decide +kernel
theorem dX1_digest_32 : decode cX1_digest 32 = .ok (.aload_n 0, 1) := by decide +kernel
theorem dX1_digest_33 : decode cX1_digest 33 = .ok (.getfield 12, 3) := by decide +kernel
theorem dX1_digest_36 : decode cX1_digest 36 = .ok (.getfield 37, 3) := by decide +kernel
theorem dX1_digest_39 : decode cX1_digest 39 = .ok (.ifCond .eq 7, 3) := by decide +kernel
theorem dX1_digest_42 : decode cX1_digest 42 = .ok (.iconst 1, 1) := by decide +kernel
theorem dX1_digest_43 : decode cX1_digest 43 = .ok (.goto 4, 3) := by decide +kernel
theorem dX1_digest_46 : decode cX1_digest 46 = .ok (.iconst 0, 1) := by decide +kernel
theorem dX1_digest_47 : decode cX1_digest 47 = .ok (.invokestatic 121, 3) := by decide +kernel
theorem dX1_digest_50 : decode cX1_digest 50 = .ok (.lstore_n 1, 1) := by decide +kernel
theorem dX1_digest_51 : decode cX1_digest 51 = .ok (.iconst 0, 1) := by decide +kernel
theorem dX1_digest_52 : decode cX1_digest 52 = .ok (.istore_n 3, 1) := by decide +kernel
theorem dX1_digest_53 : decode cX1_digest 53 = .ok (.iload_n 3, 1) := by decide +kernel
theorem dX1_digest_54 : decode cX1_digest 54 = .ok (.bipush 8, 2) := by decide +kernel
theorem dX1_digest_56 : decode cX1_digest 56 = .ok (.if_icmp .ge 23, 3) := by decide +kernel
theorem dX1_digest_59 : decode cX1_digest 59 = .ok (.lload_n 1, 1) := by decide +kernel
theorem dX1_digest_60 : decode cX1_digest 60 = .ok (.aload_n 0, 1) := by decide +kernel
theorem dX1_digest_61 : decode cX1_digest 61 = .ok (.getfield 12, 3) := by decide +kernel
theorem dX1_digest_64 : decode cX1_digest 64 = .ok (.getfield 26, 3) := by decide +kernel
theorem dX1_digest_67 : decode cX1_digest 67 = .ok (.iload_n 3, 1) := by decide +kernel
theorem dX1_digest_68 : decode cX1_digest 68 = .ok (.iaload, 1) := by decide +kernel
theorem dX1_digest_69 : decode cX1_digest 69 = .ok (.invokestatic 121, 3) := by decide +kernel
theorem dX1_digest_72 : decode cX1_digest 72 = .ok (.lstore_n 1, 1) := by decide +kernel
theorem dX1_digest_73 : decode cX1_digest 73 = .ok (.iinc 3 1, 3) := by decide +kernel
theorem dX1_digest_76 : decode cX1_digest 76 = .ok (.goto (-23), 3) := by decide +kernel
theorem dX1_digest_79 : decode cX1_digest 79 = .ok (.iconst 0, 1) := by decide +kernel
theorem dX1_digest_80 : decode cX1_digest 80 = .ok (.istore_n 3, 1) := by decide +kernel
theorem dX1_digest_81 : decode cX1_digest 81 = .ok (.iload_n 3, 1) := by decide +kernel
theorem dX1_digest_82 : decode cX1_digest 82 = .ok (.bipush 6, 2) := by decide +kernel
theorem dX1_digest_84 : decode cX1_digest 84 = .ok (.if_icmp .ge 39, 3) := by decide +kernel
theorem dX1_digest_87 : decode cX1_digest 87 = .ok (.iconst 0, 1) := by decide +kernel
theorem dX1_digest_88 : decode cX1_digest 88 = .ok (.istore 4, 2) := by decide +kernel
theorem dX1_digest_90 : decode cX1_digest 90 = .ok (.iload 4, 2) := by decide +kernel
theorem dX1_digest_92 : decode cX1_digest 92 = .ok (.iconst 4, 1) := by decide +kernel
theorem dX1_digest_93 : decode cX1_digest 93 = .ok (.if_icmp .ge 24, 3) := by decide +kernel
theorem dX1_digest_96 : decode cX1_digest 96 = .ok (.lload_n 1, 1) := by decide +kernel
theorem dX1_digest_97 : decode cX1_digest 97 = .ok (.aload_n 0, 1) := by decide +kernel
theorem dX1_digest_98 : decode cX1_digest 98 = .ok (.getfield 12, 3) := by decide +kernel
theorem dX1_digest_101 : decode cX1_digest 101 = .ok (.iload_n 3, 1) := by decide +kernel
theorem dX1_digest_102 : decode cX1_digest 102 = .ok (.iload 4, 2) := by decide +kernel
theorem dX1_digest_104 : decode cX1_digest 104 = .ok (.invokevirtual 90, 3) := by decide +kernel
theorem dX1_digest_107 : decode cX1_digest 107 = .ok (.invokestatic 121, 3) := by decide +kernel
theorem dX1_digest_110 : decode cX1_digest 110 = .ok (.lstore_n 1, 1) := by decide +kernel
theorem dX1_digest_111 : decode cX1_digest 111 = .ok (.iinc 4 1, 3) := by decide +kernel
theorem dX1_digest_114 : decode cX1_digest 114 = .ok (.goto (-24), 3) := by decide +kernel
theorem dX1_digest_117 : decode cX1_digest 117 = .ok (.iinc 3 1, 3) := by decide +kernel
theorem dX1_digest_120 : decode cX1_digest 120 = .ok (.goto (-39), 3) := by decide +kernel
theorem dX1_digest_123 : decode cX1_digest 123 = .ok (.iconst 0, 1) := by decide +kernel
theorem dX1_digest_124 : decode cX1_digest 124 = .ok (.istore_n 3, 1) := by decide +kernel
theorem dX1_digest_125 : decode cX1_digest 125 = .ok (.iload_n 3, 1) := by decide +kernel
theorem dX1_digest_126 : decode cX1_digest 126 = .ok (.iconst 5, 1) := by decide +kernel
theorem dX1_digest_127 : decode cX1_digest 127 = .ok (.if_icmp .ge 39, 3) := by decide +kernel
theorem dX1_digest_130 : decode cX1_digest 130 = .ok (.iconst 0, 1) := by decide +kernel
theorem dX1_digest_131 : decode cX1_digest 131 = .ok (.istore 4, 2) := by decide +kernel
theorem dX1_digest_133 : decode cX1_digest 133 = .ok (.iload 4, 2) := by decide +kernel
theorem dX1_digest_135 : decode cX1_digest 135 = .ok (.iconst 5, 1) := by decide +kernel
theorem dX1_digest_136 : decode cX1_digest 136 = .ok (.if_icmp .ge 24, 3) := by decide +kernel
theorem dX1_digest_139 : decode cX1_digest 139 = .ok (.lload_n 1, 1) := by decide +kernel
theorem dX1_digest_140 : decode cX1_digest 140 = .ok (.aload_n 0, 1) := by decide +kernel
theorem dX1_digest_141 : decode cX1_digest 141 = .ok (.getfield 12, 3) := by decide +kernel
theorem dX1_digest_144 : decode cX1_digest 144 = .ok (.iload_n 3, 1) := by decide +kernel
theorem dX1_digest_145 : decode cX1_digest 145 = .ok (.iload 4, 2) := by decide +kernel
theorem dX1_digest_147 : decode cX1_digest 147 = .ok (.invokevirtual 93, 3) := by decide +kernel
theorem dX1_digest_150 : decode cX1_digest 150 = .ok (.invokestatic 121, 3) := by decide +kernel
theorem dX1_digest_153 : decode cX1_digest 153 = .ok (.lstore_n 1, 1) := by decide +kernel
theorem dX1_digest_154 : decode cX1_digest 154 = .ok (.iinc 4 1, 3) := by decide +kernel
theorem dX1_digest_157 : decode cX1_digest 157 = .ok (.goto (-24), 3) := by decide +kernel
theorem dX1_digest_160 : decode cX1_digest 160 = .ok (.iinc 3 1, 3) := by decide +kernel
theorem dX1_digest_163 : decode cX1_digest 163 = .ok (.goto (-38), 3) := by decide +kernel
theorem dX1_digest_166 : decode cX1_digest 166 = .ok (.iconst 0, 1) := by decide +kernel
theorem dX1_digest_167 : decode cX1_digest 167 = .ok (.istore_n 3, 1) := by decide +kernel
theorem dX1_digest_168 : decode cX1_digest 168 = .ok (.iload_n 3, 1) := by decide +kernel
theorem dX1_digest_169 : decode cX1_digest 169 = .ok (.aload_n 0, 1) := by decide +kernel
theorem dX1_digest_170 : decode cX1_digest 170 = .ok (.getfield 12, 3) := by decide +kernel
theorem dX1_digest_173 : decode cX1_digest 173 = .ok (.getfield 72, 3) := by decide +kernel
theorem dX1_digest_176 : decode cX1_digest 176 = .ok (.if_icmp .ge 39, 3) := by decide +kernel
theorem dX1_digest_179 : decode cX1_digest 179 = .ok (.iconst 0, 1) := by decide +kernel
theorem dX1_digest_180 : decode cX1_digest 180 = .ok (.istore 4, 2) := by decide +kernel
theorem dX1_digest_182 : decode cX1_digest 182 = .ok (.iload 4, 2) := by decide +kernel
theorem dX1_digest_184 : decode cX1_digest 184 = .ok (.iconst 5, 1) := by decide +kernel
theorem dX1_digest_185 : decode cX1_digest 185 = .ok (.if_icmp .ge 24, 3) := by decide +kernel
theorem dX1_digest_188 : decode cX1_digest 188 = .ok (.lload_n 1, 1) := by decide +kernel
theorem dX1_digest_189 : decode cX1_digest 189 = .ok (.aload_n 0, 1) := by decide +kernel
theorem dX1_digest_190 : decode cX1_digest 190 = .ok (.getfield 12, 3) := by decide +kernel
theorem dX1_digest_193 : decode cX1_digest 193 = .ok (.iload_n 3, 1) := by decide +kernel
theorem dX1_digest_194 : decode cX1_digest 194 = .ok (.iload 4, 2) := by decide +kernel
theorem dX1_digest_196 : decode cX1_digest 196 = .ok (.invokevirtual 86, 3) := by decide +kernel
theorem dX1_digest_199 : decode cX1_digest 199 = .ok (.invokestatic 121, 3) := by decide +kernel
theorem dX1_digest_202 : decode cX1_digest 202 = .ok (.lstore_n 1, 1) := by decide +kernel
theorem dX1_digest_203 : decode cX1_digest 203 = .ok (.iinc 4 1, 3) := by decide +kernel
theorem dX1_digest_206 : decode cX1_digest 206 = .ok (.goto (-24), 3) := by decide +kernel
theorem dX1_digest_209 : decode cX1_digest 209 = .ok (.iinc 3 1, 3) := by decide +kernel
theorem dX1_digest_212 : decode cX1_digest 212 = .ok (.goto (-44), 3) := by decide +kernel
theorem dX1_digest_215 : decode cX1_digest 215 = .ok (.lload_n 1, 1) := by decide +kernel
theorem dX1_digest_216 : decode cX1_digest 216 = .ok (.lreturn, 1) := by decide +kernel
theorem dX1_mix_0 : decode cX1_mix 0 = .ok (.lload_n 0, 1) := by decide +kernel
theorem dX1_mix_1 : decode cX1_mix 1 = .ok (.ldc2_w 125, 3) := by decide +kernel
theorem dX1_mix_4 : decode cX1_mix 4 = .ok (.lmul, 1) := by decide +kernel
theorem dX1_mix_5 : decode cX1_mix 5 = .ok (.iload_n 2, 1) := by decide +kernel
theorem dX1_mix_6 : decode cX1_mix 6 = .ok (.i2l, 1) := by decide +kernel
theorem dX1_mix_7 : decode cX1_mix 7 = .ok (.ladd, 1) := by decide +kernel
theorem dX1_mix_8 : decode cX1_mix 8 = .ok (.lreturn, 1) := by decide +kernel
theorem dX1_requireIndex_0 : decode cX1_requireIndex 0 = .ok (.iload_n 0, 1) := by decide +kernel
theorem dX1_requireIndex_1 : decode cX1_requireIndex 1 = .ok (.iload_n 1, 1) := by decide +kernel
theorem dX1_requireIndex_2 : decode cX1_requireIndex 2 = .ok (.if_icmp .lt 8, 3) := by decide +kernel
theorem dX1_requireIndex_5 : decode cX1_requireIndex 5 = .ok (.iload_n 0, 1) := by decide +kernel
theorem dX1_requireIndex_6 : decode cX1_requireIndex 6 = .ok (.iload_n 2, 1) := by decide +kernel
theorem dX1_requireIndex_7 : decode cX1_requireIndex 7 = .ok (.if_icmp .le 13, 3) := by decide +kernel
theorem dX1_requireIndex_10 : decode cX1_requireIndex 10 = .ok (.new 127, 3) := by decide +kernel
theorem dX1_requireIndex_13 : decode cX1_requireIndex 13 = .ok (.dup, 1) := by decide +kernel
theorem dX1_requireIndex_14 : decode cX1_requireIndex 14 = .ok (.ldc 129, 2) := by decide +kernel
theorem dX1_requireIndex_16 : decode cX1_requireIndex 16 = .ok (.invokespecial 131, 3) := by decide +kernel
theorem dX1_requireIndex_19 : decode cX1_requireIndex 19 = .ok (.athrow, 1) := by decide +kernel
theorem dX1_requireIndex_20 : decode cX1_requireIndex 20 = .ok (.return_, 1) := by decide +kernel
theorem dX1_requireArgument_0 : decode cX1_requireArgument 0 = .ok (.iload_n 0, 1) := by decide +kernel
theorem dX1_requireArgument_1 : decode cX1_requireArgument 1 = .ok (.iload_n 1, 1) := by decide +kernel
theorem dX1_requireArgument_2 : decode cX1_requireArgument 2 = .ok (.if_icmp .lt 8, 3) := by decide +kernel
theorem dX1_requireArgument_5 : decode cX1_requireArgument 5 = .ok (.iload_n 0, 1) := by decide +kernel
theorem dX1_requireArgument_6 : decode cX1_requireArgument 6 = .ok (.iload_n 2, 1) := by decide +kernel
theorem dX1_requireArgument_7 : decode cX1_requireArgument 7 = .ok (.if_icmp .le 13, 3) := by decide +kernel
theorem dX1_requireArgument_10 : decode cX1_requireArgument 10 = .ok (.new 132, 3) := by decide +kernel
theorem dX1_requireArgument_13 : decode cX1_requireArgument 13 = .ok (.dup, 1) := by decide +kernel
theorem dX1_requireArgument_14 : decode cX1_requireArgument 14 = .ok (.ldc 134, 2) := by decide +kernel
theorem dX1_requireArgument_16 : decode cX1_requireArgument 16 = .ok (.invokespecial 136, 3) := by decide +kernel
theorem dX1_requireArgument_19 : decode cX1_requireArgument 19 = .ok (.athrow, 1) := by decide +kernel
theorem dX1_requireArgument_20 : decode cX1_requireArgument 20 = .ok (.return_, 1) := by decide +kernel
end
section
theorem dX2_init_0 : decode cX2_init 0 = .ok (.aload_n 0, 1) := by decide +kernel
theorem dX2_init_1 : decode cX2_init 1 = .ok (.invokespecial 3, 3) := by decide +kernel
theorem dX2_init_4 : decode cX2_init 4 = .ok (.aload_n 0, 1) := by decide +kernel
theorem dX2_init_5 : decode cX2_init 5 = .ok (.bipush 50, 2) := by decide +kernel
theorem dX2_init_7 : decode cX2_init 7 = .ok (.putfield 9, 3) := by decide +kernel
theorem dX2_init_10 : decode cX2_init 10 = .ok (.aload_n 0, 1) := by decide +kernel
theorem dX2_init_11 : decode cX2_init 11 = .ok (.bipush 6, 2) := by decide +kernel
theorem dX2_init_13 : decode cX2_init 13 = .ok (.newarray .int, 2) := by decide +kernel
theorem dX2_init_15 : decode cX2_init 15 = .ok (.dup, 1) := by decide +kernel
theorem dX2_init_16 : decode cX2_init 16 = .ok (.iconst 0, 1) := by decide +kernel
theorem dX2_init_17 : decode cX2_init 17 = .ok (.bipush 60, 2) := by decide +kernel
theorem dX2_init_19 : decode cX2_init 19 = .ok (.iastore, 1) := by decide +kernel
theorem dX2_init_20 : decode cX2_init 20 = .ok (.dup, 1) := by decide +kernel
theorem dX2_init_21 : decode cX2_init 21 = .ok (.iconst 1, 1) := by decide +kernel
theorem dX2_init_22 : decode cX2_init 22 = .ok (.bipush 60, 2) := by decide +kernel
theorem dX2_init_24 : decode cX2_init 24 = .ok (.iastore, 1) := by decide +kernel
theorem dX2_init_25 : decode cX2_init 25 = .ok (.dup, 1) := by decide +kernel
theorem dX2_init_26 : decode cX2_init 26 = .ok (.iconst 2, 1) := by decide +kernel
theorem dX2_init_27 : decode cX2_init 27 = .ok (.bipush 60, 2) := by decide +kernel
theorem dX2_init_29 : decode cX2_init 29 = .ok (.iastore, 1) := by decide +kernel
theorem dX2_init_30 : decode cX2_init 30 = .ok (.dup, 1) := by decide +kernel
theorem dX2_init_31 : decode cX2_init 31 = .ok (.iconst 3, 1) := by decide +kernel
theorem dX2_init_32 : decode cX2_init 32 = .ok (.bipush 60, 2) := by decide +kernel
theorem dX2_init_34 : decode cX2_init 34 = .ok (.iastore, 1) := by decide +kernel
theorem dX2_init_35 : decode cX2_init 35 = .ok (.dup, 1) := by decide +kernel
theorem dX2_init_36 : decode cX2_init 36 = .ok (.iconst 4, 1) := by decide +kernel
theorem dX2_init_37 : decode cX2_init 37 = .ok (.bipush 60, 2) := by decide +kernel
theorem dX2_init_39 : decode cX2_init 39 = .ok (.iastore, 1) := by decide +kernel
theorem dX2_init_40 : decode cX2_init 40 = .ok (.dup, 1) := by decide +kernel
theorem dX2_init_41 : decode cX2_init 41 = .ok (.iconst 5, 1) := by decide +kernel
theorem dX2_init_42 : decode cX2_init 42 = .ok (.bipush 60, 2) := by decide +kernel
theorem dX2_init_44 : decode cX2_init 44 = .ok (.iastore, 1) := by decide +kernel
theorem dX2_init_45 : decode cX2_init 45 = .ok (.putfield 15, 3) := by decide +kernel
theorem dX2_init_48 : decode cX2_init 48 = .ok (.aload_n 0, 1) := by decide +kernel
theorem dX2_init_49 : decode cX2_init 49 = .ok (.bipush 6, 2) := by decide +kernel
theorem dX2_init_51 : decode cX2_init 51 = .ok (.newarray .int, 2) := by decide +kernel
theorem dX2_init_53 : decode cX2_init 53 = .ok (.putfield 19, 3) := by decide +kernel
theorem dX2_init_56 : decode cX2_init 56 = .ok (.aload_n 0, 1) := by decide +kernel
theorem dX2_init_57 : decode cX2_init 57 = .ok (.bipush 6, 2) := by decide +kernel
theorem dX2_init_59 : decode cX2_init 59 = .ok (.newarray .int, 2) := by decide +kernel
theorem dX2_init_61 : decode cX2_init 61 = .ok (.putfield 22, 3) := by decide +kernel
theorem dX2_init_64 : decode cX2_init 64 = .ok (.aload_n 0, 1) := by decide +kernel
theorem dX2_init_65 : decode cX2_init 65 = .ok (.iconst 5, 1) := by decide +kernel
theorem dX2_init_66 : decode cX2_init 66 = .ok (.newarray .int, 2) := by decide +kernel
theorem dX2_init_68 : decode cX2_init 68 = .ok (.putfield 25, 3) := by decide +kernel
theorem dX2_init_71 : decode cX2_init 71 = .ok (.aload_n 0, 1) := by decide +kernel
theorem dX2_init_72 : decode cX2_init 72 = .ok (.iconst 5, 1) := by decide +kernel
theorem dX2_init_73 : decode cX2_init 73 = .ok (.newarray .int, 2) := by decide +kernel
theorem dX2_init_75 : decode cX2_init 75 = .ok (.putfield 28, 3) := by decide +kernel
theorem dX2_init_78 : decode cX2_init 78 = .ok (.aload_n 0, 1) := by decide +kernel
theorem dX2_init_79 : decode cX2_init 79 = .ok (.iconst 5, 1) := by decide +kernel
theorem dX2_init_80 : decode cX2_init 80 = .ok (.newarray .int, 2) := by decide +kernel
theorem dX2_init_82 : decode cX2_init 82 = .ok (.putfield 31, 3) := by decide +kernel
theorem dX2_init_85 : decode cX2_init 85 = .ok (.aload_n 0, 1) := by decide +kernel
theorem dX2_init_86 : decode cX2_init 86 = .ok (.bipush 10, 2) := by decide +kernel
theorem dX2_init_88 : decode cX2_init 88 = .ok (.newarray .int, 2) := by decide +kernel
theorem dX2_init_90 : decode cX2_init 90 = .ok (.putfield 34, 3) := by decide +kernel
theorem dX2_init_93 : decode cX2_init 93 = .ok (.aload_n 0, 1) := by decide +kernel
theorem dX2_init_94 : decode cX2_init 94 = .ok (.bipush 10, 2) := by decide +kernel
theorem dX2_init_96 : decode cX2_init 96 = .ok (.newarray .int, 2) := by decide +kernel
theorem dX2_init_98 : decode cX2_init 98 = .ok (.putfield 37, 3) := by decide +kernel
theorem dX2_init_101 : decode cX2_init 101 = .ok (.aload_n 0, 1) := by decide +kernel
theorem dX2_init_102 : decode cX2_init 102 = .ok (.bipush 10, 2) := by decide +kernel
theorem dX2_init_104 : decode cX2_init 104 = .ok (.newarray .int, 2) := by decide +kernel
theorem dX2_init_106 : decode cX2_init 106 = .ok (.putfield 40, 3) := by decide +kernel
theorem dX2_init_109 : decode cX2_init 109 = .ok (.aload_n 0, 1) := by decide +kernel
theorem dX2_init_110 : decode cX2_init 110 = .ok (.bipush 10, 2) := by decide +kernel
theorem dX2_init_112 : decode cX2_init 112 = .ok (.newarray .int, 2) := by decide +kernel
theorem dX2_init_114 : decode cX2_init 114 = .ok (.dup, 1) := by decide +kernel
theorem dX2_init_115 : decode cX2_init 115 = .ok (.iconst 0, 1) := by decide +kernel
theorem dX2_init_116 : decode cX2_init 116 = .ok (.iconst (-1), 1) := by decide +kernel
theorem dX2_init_117 : decode cX2_init 117 = .ok (.iastore, 1) := by decide +kernel
theorem dX2_init_118 : decode cX2_init 118 = .ok (.dup, 1) := by decide +kernel
theorem dX2_init_119 : decode cX2_init 119 = .ok (.iconst 1, 1) := by decide +kernel
theorem dX2_init_120 : decode cX2_init 120 = .ok (.iconst (-1), 1) := by decide +kernel
theorem dX2_init_121 : decode cX2_init 121 = .ok (.iastore, 1) := by decide +kernel
theorem dX2_init_122 : decode cX2_init 122 = .ok (.dup, 1) := by decide +kernel
theorem dX2_init_123 : decode cX2_init 123 = .ok (.iconst 2, 1) := by decide +kernel
theorem dX2_init_124 : decode cX2_init 124 = .ok (.iconst (-1), 1) := by decide +kernel
theorem dX2_init_125 : decode cX2_init 125 = .ok (.iastore, 1) := by decide +kernel
theorem dX2_init_126 : decode cX2_init 126 = .ok (.dup, 1) := by decide +kernel
theorem dX2_init_127 : decode cX2_init 127 = .ok (.iconst 3, 1) := by decide +kernel
theorem dX2_init_128 : decode cX2_init 128 = .ok (.iconst (-1), 1) := by decide +kernel
theorem dX2_init_129 : decode cX2_init 129 = .ok (.iastore, 1) := by decide +kernel
theorem dX2_init_130 : decode cX2_init 130 = .ok (.dup, 1) := by decide +kernel
theorem dX2_init_131 : decode cX2_init 131 = .ok (.iconst 4, 1) := by decide +kernel
theorem dX2_init_132 : decode cX2_init 132 = .ok (.iconst (-1), 1) := by decide +kernel
theorem dX2_init_133 : decode cX2_init 133 = .ok (.iastore, 1) := by decide +kernel
theorem dX2_init_134 : decode cX2_init 134 = .ok (.dup, 1) := by decide +kernel
theorem dX2_init_135 : decode cX2_init 135 = .ok (.iconst 5, 1) := by decide +kernel
theorem dX2_init_136 : decode cX2_init 136 = .ok (.iconst (-1), 1) := by decide +kernel
theorem dX2_init_137 : decode cX2_init 137 = .ok (.iastore, 1) := by decide +kernel
theorem dX2_init_138 : decode cX2_init 138 = .ok (.dup, 1) := by decide +kernel
theorem dX2_init_139 : decode cX2_init 139 = .ok (.bipush 6, 2) := by decide +kernel
theorem dX2_init_141 : decode cX2_init 141 = .ok (.iconst (-1), 1) := by decide +kernel
theorem dX2_init_142 : decode cX2_init 142 = .ok (.iastore, 1) := by decide +kernel
theorem dX2_init_143 : decode cX2_init 143 = .ok (.dup, 1) := by decide +kernel
theorem dX2_init_144 : decode cX2_init 144 = .ok (.bipush 7, 2) := by decide +kernel
theorem dX2_init_146 : decode cX2_init 146 = .ok (.iconst (-1), 1) := by decide +kernel
theorem dX2_init_147 : decode cX2_init 147 = .ok (.iastore, 1) := by decide +kernel
theorem dX2_init_148 : decode cX2_init 148 = .ok (.dup, 1) := by decide +kernel
theorem dX2_init_149 : decode cX2_init 149 = .ok (.bipush 8, 2) := by decide +kernel
theorem dX2_init_151 : decode cX2_init 151 = .ok (.iconst (-1), 1) := by decide +kernel
theorem dX2_init_152 : decode cX2_init 152 = .ok (.iastore, 1) := by decide +kernel
theorem dX2_init_153 : decode cX2_init 153 = .ok (.dup, 1) := by decide +kernel
theorem dX2_init_154 : decode cX2_init 154 = .ok (.bipush 9, 2) := by decide +kernel
theorem dX2_init_156 : decode cX2_init 156 = .ok (.iconst (-1), 1) := by decide +kernel
theorem dX2_init_157 : decode cX2_init 157 = .ok (.iastore, 1) := by decide +kernel
theorem dX2_init_158 : decode cX2_init 158 = .ok (.putfield 43, 3) := by decide +kernel
theorem dX2_init_161 : decode cX2_init 161 = .ok (.return_, 1) := by decide +kernel
theorem dX2_copy_0 : decode cX2_copy 0 = .ok (.aload_n 0, 1) := by decide +kernel
theorem dX2_copy_1 : decode cX2_copy 1 = .ok (.iconst 0, 1) := by decide +kernel
theorem dX2_copy_2 : decode cX2_copy 2 = .ok (.aload_n 1, 1) := by decide +kernel
theorem dX2_copy_3 : decode cX2_copy 3 = .ok (.iconst 0, 1) := by decide +kernel
theorem dX2_copy_4 : decode cX2_copy 4 = .ok (.aload_n 0, 1) := by decide +kernel
theorem dX2_copy_5 : decode cX2_copy 5 = .ok (.arraylength, 1) := by decide +kernel
theorem dX2_copy_6 : decode cX2_copy 6 = .ok (.invokestatic 46, 3) := by decide +kernel
theorem dX2_copy_9 : decode cX2_copy 9 = .ok (.return_, 1) := by decide +kernel
set_option maxRecDepth 20000 in
theorem ggX2_become_X2_copy : GoodIn wsX2_become wsX2_copy := goodIn_r _ [18, 19, 20, 21, 22] (by decide +kernel) (by decide +kernel)
set_option maxRecDepth 20000 in
theorem gX2_become_X2_copy : GoodIn wsX2_become (va_wsS RX2 61 yX2_copy wsX2_copy) := goodIn_app (goodIn_of _ (by decide +kernel)) ggX2_become_X2_copy
theorem dX2_become_0 : decode cX2_become 0 = .ok (.aload_n 0, 1) := by decide +kernel
theorem dX2_become_1 : decode cX2_become 1 = .ok (.aload_n 1, 1) := by decide +kernel
theorem dX2_become_2 : decode cX2_become 2 = .ok (.getfield 52, 3) := by decide +kernel
theorem dX2_become_5 : decode cX2_become 5 = .ok (.putfield 52, 3) := by decide +kernel
theorem dX2_become_8 : decode cX2_become 8 = .ok (.aload_n 0, 1) := by decide +kernel
theorem dX2_become_9 : decode cX2_become 9 = .ok (.aload_n 1, 1) := by decide +kernel
theorem dX2_become_10 : decode cX2_become 10 = .ok (.getfield 9, 3) := by decide +kernel
theorem dX2_become_13 : decode cX2_become 13 = .ok (.putfield 9, 3) := by decide +kernel
theorem dX2_become_16 : decode cX2_become 16 = .ok (.aload_n 0, 1) := by decide +kernel
theorem dX2_become_17 : decode cX2_become 17 = .ok (.aload_n 1, 1) := by decide +kernel
theorem dX2_become_18 : decode cX2_become 18 = .ok (.getfield 55, 3) := by decide +kernel
theorem dX2_become_21 : decode cX2_become 21 = .ok (.putfield 55, 3) := by decide +kernel
theorem dX2_become_24 : decode cX2_become 24 = .ok (.aload_n 0, 1) := by decide +kernel
theorem dX2_become_25 : decode cX2_become 25 = .ok (.aload_n 1, 1) := by decide +kernel
theorem dX2_become_26 : decode cX2_become 26 = .ok (.getfield 58, 3) := by decide +kernel
theorem dX2_become_29 : decode cX2_become 29 = .ok (.putfield 58, 3) := by decide +kernel
theorem dX2_become_32 : decode cX2_become 32 = .ok (.aload_n 1, 1) := by decide +kernel
theorem dX2_become_33 : decode cX2_become 33 = .ok (.getfield 15, 3) := by decide +kernel
theorem dX2_become_36 : decode cX2_become 36 = .ok (.aload_n 0, 1) := by decide +kernel
theorem dX2_become_37 : decode cX2_become 37 = .ok (.getfield 15, 3) := by decide +kernel
theorem dX2_become_40 : decode cX2_become 40 = .ok (.invokestatic 61, 3) := by decide +kernel
theorem dX2_become_43 : decode cX2_become 43 = .ok (.aload_n 1, 1) := by decide +kernel
theorem dX2_become_44 : decode cX2_become 44 = .ok (.getfield 19, 3) := by decide +kernel
theorem dX2_become_47 : decode cX2_become 47 = .ok (.aload_n 0, 1) := by decide +kernel
theorem dX2_become_48 : decode cX2_become 48 = .ok (.getfield 19, 3) := by decide +kernel
theorem dX2_become_51 : decode cX2_become 51 = .ok (.invokestatic 61, 3) := by decide +kernel
theorem dX2_become_54 : decode cX2_become 54 = .ok (.aload_n 1, 1) := by decide +kernel
theorem dX2_become_55 : decode cX2_become 55 = .ok (.getfield 22, 3) := by decide +kernel
theorem dX2_become_58 : decode cX2_become 58 = .ok (.aload_n 0, 1) := by decide +kernel
theorem dX2_become_59 : decode cX2_become 59 = .ok (.getfield 22, 3) := by decide +kernel
theorem dX2_become_62 : decode cX2_become 62 = .ok (.invokestatic 61, 3) := by decide +kernel
theorem dX2_become_65 : decode cX2_become 65 = .ok (.aload_n 1, 1) := by decide +kernel
theorem dX2_become_66 : decode cX2_become 66 = .ok (.getfield 25, 3) := by decide +kernel
theorem dX2_become_69 : decode cX2_become 69 = .ok (.aload_n 0, 1) := by decide +kernel
theorem dX2_become_70 : decode cX2_become 70 = .ok (.getfield 25, 3) := by decide +kernel
theorem dX2_become_73 : decode cX2_become 73 = .ok (.invokestatic 61, 3) := by decide +kernel
theorem dX2_become_76 : decode cX2_become 76 = .ok (.aload_n 1, 1) := by decide +kernel
theorem dX2_become_77 : decode cX2_become 77 = .ok (.getfield 28, 3) := by decide +kernel
theorem dX2_become_80 : decode cX2_become 80 = .ok (.aload_n 0, 1) := by decide +kernel
theorem dX2_become_81 : decode cX2_become 81 = .ok (.getfield 28, 3) := by decide +kernel
theorem dX2_become_84 : decode cX2_become 84 = .ok (.invokestatic 61, 3) := by decide +kernel
theorem dX2_become_87 : decode cX2_become 87 = .ok (.aload_n 1, 1) := by decide +kernel
theorem dX2_become_88 : decode cX2_become 88 = .ok (.getfield 31, 3) := by decide +kernel
theorem dX2_become_91 : decode cX2_become 91 = .ok (.aload_n 0, 1) := by decide +kernel
theorem dX2_become_92 : decode cX2_become 92 = .ok (.getfield 31, 3) := by decide +kernel
theorem dX2_become_95 : decode cX2_become 95 = .ok (.invokestatic 61, 3) := by decide +kernel
theorem dX2_become_98 : decode cX2_become 98 = .ok (.aload_n 1, 1) := by decide +kernel
theorem dX2_become_99 : decode cX2_become 99 = .ok (.getfield 34, 3) := by decide +kernel
theorem dX2_become_102 : decode cX2_become 102 = .ok (.aload_n 0, 1) := by decide +kernel
theorem dX2_become_103 : decode cX2_become 103 = .ok (.getfield 34, 3) := by decide +kernel
theorem dX2_become_106 : decode cX2_become 106 = .ok (.invokestatic 61, 3) := by decide +kernel
theorem dX2_become_109 : decode cX2_become 109 = .ok (.aload_n 1, 1) := by decide +kernel
theorem dX2_become_110 : decode cX2_become 110 = .ok (.getfield 37, 3) := by decide +kernel
theorem dX2_become_113 : decode cX2_become 113 = .ok (.aload_n 0, 1) := by decide +kernel
theorem dX2_become_114 : decode cX2_become 114 = .ok (.getfield 37, 3) := by decide +kernel
theorem dX2_become_117 : decode cX2_become 117 = .ok (.invokestatic 61, 3) := by decide +kernel
theorem dX2_become_120 : decode cX2_become 120 = .ok (.aload_n 1, 1) := by decide +kernel
theorem dX2_become_121 : decode cX2_become 121 = .ok (.getfield 40, 3) := by decide +kernel
theorem dX2_become_124 : decode cX2_become 124 = .ok (.aload_n 0, 1) := by decide +kernel
theorem dX2_become_125 : decode cX2_become 125 = .ok (.getfield 40, 3) := by decide +kernel
theorem dX2_become_128 : decode cX2_become 128 = .ok (.invokestatic 61, 3) := by decide +kernel
theorem dX2_become_131 : decode cX2_become 131 = .ok (.aload_n 1, 1) := by decide +kernel
theorem dX2_become_132 : decode cX2_become 132 = .ok (.getfield 43, 3) := by decide +kernel
theorem dX2_become_135 : decode cX2_become 135 = .ok (.aload_n 0, 1) := by decide +kernel
theorem dX2_become_136 : decode cX2_become 136 = .ok (.getfield 43, 3) := by decide +kernel
theorem dX2_become_139 : decode cX2_become 139 = .ok (.invokestatic 61, 3) := by decide +kernel
theorem dX2_become_142 : decode cX2_become 142 = .ok (.aload_n 0, 1) := by decide +kernel
theorem dX2_become_143 : decode cX2_become 143 = .ok (.areturn, 1) := by decide +kernel
theorem dX2_pour_0 : decode cX2_pour 0 = .ok (.iload_n 2, 1) := by decide +kernel
theorem dX2_pour_1 : decode cX2_pour 1 = .ok (.istore_n 3, 1) := by decide +kernel
theorem dX2_pour_2 : decode cX2_pour 2 = .ok (.iload_n 1, 1) := by decide +kernel
theorem dX2_pour_3 : decode cX2_pour 3 = .ok (.istore 4, 2) := by decide +kernel
theorem dX2_pour_5 : decode cX2_pour 5 = .ok (.iload 4, 2) := by decide +kernel
theorem dX2_pour_7 : decode cX2_pour 7 = .ok (.ifCond .lt 61, 3) := by decide +kernel
theorem dX2_pour_10 : decode cX2_pour 10 = .ok (.iload_n 3, 1) := by decide +kernel
theorem dX2_pour_11 : decode cX2_pour 11 = .ok (.ifCond .le 57, 3) := by decide +kernel
theorem dX2_pour_14 : decode cX2_pour 14 = .ok (.aload_n 0, 1) := by decide +kernel
theorem dX2_pour_15 : decode cX2_pour 15 = .ok (.getfield 15, 3) := by decide +kernel
theorem dX2_pour_18 : decode cX2_pour 18 = .ok (.iload 4, 2) := by decide +kernel
theorem dX2_pour_20 : decode cX2_pour 20 = .ok (.dup2, 1) := by decide +kernel
theorem dX2_pour_21 : decode cX2_pour 21 = .ok (.iaload, 1) := by decide +kernel
theorem dX2_pour_22 : decode cX2_pour 22 = .ok (.iload_n 3, 1) := by decide +kernel
theorem dX2_pour_23 : decode cX2_pour 23 = .ok (.iadd, 1) := by decide +kernel
theorem dX2_pour_24 : decode cX2_pour 24 = .ok (.iastore, 1) := by decide +kernel
theorem dX2_pour_25 : decode cX2_pour 25 = .ok (.iconst 0, 1) := by decide +kernel
theorem dX2_pour_26 : decode cX2_pour 26 = .ok (.aload_n 0, 1) := by decide +kernel
theorem dX2_pour_27 : decode cX2_pour 27 = .ok (.getfield 15, 3) := by decide +kernel
theorem dX2_pour_30 : decode cX2_pour 30 = .ok (.iload 4, 2) := by decide +kernel
theorem dX2_pour_32 : decode cX2_pour 32 = .ok (.iaload, 1) := by decide +kernel
theorem dX2_pour_33 : decode cX2_pour 33 = .ok (.bipush 100, 2) := by decide +kernel
theorem dX2_pour_35 : decode cX2_pour 35 = .ok (.isub, 1) := by decide +kernel
theorem dX2_pour_36 : decode cX2_pour 36 = .ok (.invokestatic 65, 3) := by decide +kernel
theorem dX2_pour_39 : decode cX2_pour 39 = .ok (.istore_n 3, 1) := by decide +kernel
theorem dX2_pour_40 : decode cX2_pour 40 = .ok (.aload_n 0, 1) := by decide +kernel
theorem dX2_pour_41 : decode cX2_pour 41 = .ok (.getfield 15, 3) := by decide +kernel
theorem dX2_pour_44 : decode cX2_pour 44 = .ok (.iload 4, 2) := by decide +kernel
theorem dX2_pour_46 : decode cX2_pour 46 = .ok (.dup2, 1) := by decide +kernel
theorem dX2_pour_47 : decode cX2_pour 47 = .ok (.iaload, 1) := by decide +kernel
theorem dX2_pour_48 : decode cX2_pour 48 = .ok (.iload_n 3, 1) := by decide +kernel
theorem dX2_pour_49 : decode cX2_pour 49 = .ok (.isub, 1) := by decide +kernel
theorem dX2_pour_50 : decode cX2_pour 50 = .ok (.iastore, 1) := by decide +kernel
theorem dX2_pour_51 : decode cX2_pour 51 = .ok (.aload_n 0, 1) := by decide +kernel
theorem dX2_pour_52 : decode cX2_pour 52 = .ok (.getfield 19, 3) := by decide +kernel
theorem dX2_pour_55 : decode cX2_pour 55 = .ok (.iload 4, 2) := by decide +kernel
theorem dX2_pour_57 : decode cX2_pour 57 = .ok (.dup2, 1) := by decide +kernel
theorem dX2_pour_58 : decode cX2_pour 58 = .ok (.iaload, 1) := by decide +kernel
theorem dX2_pour_59 : decode cX2_pour 59 = .ok (.iload_n 3, 1) := by decide +kernel
theorem dX2_pour_60 : decode cX2_pour 60 = .ok (.iadd, 1) := by decide +kernel
theorem dX2_pour_61 : decode cX2_pour 61 = .ok (.iastore, 1) := by decide +kernel
theorem dX2_pour_62 : decode cX2_pour 62 = .ok (.iinc 4 (-1), 3) := by decide +kernel
theorem dX2_pour_65 : decode cX2_pour 65 = .ok (.goto (-60), 3) := by decide +kernel
theorem dX2_pour_68 : decode cX2_pour 68 = .ok (.aload_n 0, 1) := by decide +kernel
theorem dX2_pour_69 : decode cX2_pour 69 = .ok (.dup, 1) := by decide +kernel
theorem dX2_pour_70 : decode cX2_pour 70 = .ok (.getfield 58, 3) := by decide +kernel
theorem dX2_pour_73 : decode cX2_pour 73 = .ok (.iload_n 3, 1) := by decide +kernel
theorem dX2_pour_74 : decode cX2_pour 74 = .ok (.iadd, 1) := by decide +kernel
theorem dX2_pour_75 : decode cX2_pour 75 = .ok (.putfield 58, 3) := by decide +kernel
theorem dX2_pour_78 : decode cX2_pour 78 = .ok (.return_, 1) := by decide +kernel
theorem dX2_canFill_0 : decode cX2_canFill 0 = .ok (.aload_n 0, 1) := by decide +kernel
theorem dX2_canFill_1 : decode cX2_canFill 1 = .ok (.getfield 15, 3) := by decide +kernel
theorem dX2_canFill_4 : decode cX2_canFill 4 = .ok (.iload_n 1, 1) := by decide +kernel
theorem dX2_canFill_5 : decode cX2_canFill 5 = .ok (.iconst 1, 1) := by decide +kernel
theorem dX2_canFill_6 : decode cX2_canFill 6 = .ok (.iadd, 1) := by decide +kernel
theorem dX2_canFill_7 : decode cX2_canFill 7 = .ok (.iaload, 1) := by decide +kernel
theorem dX2_canFill_8 : decode cX2_canFill 8 = .ok (.bipush 32, 2) := by decide +kernel
theorem dX2_canFill_10 : decode cX2_canFill 10 = .ok (.if_icmp .lt 7, 3) := by decide +kernel
theorem dX2_canFill_13 : decode cX2_canFill 13 = .ok (.iconst 1, 1) := by decide +kernel
theorem dX2_canFill_14 : decode cX2_canFill 14 = .ok (.goto 4, 3) := by decide +kernel
theorem dX2_canFill_17 : decode cX2_canFill 17 = .ok (.iconst 0, 1) := by decide +kernel
theorem dX2_canFill_18 : decode cX2_canFill 18 = .ok (.ireturn, 1) := by decide +kernel
theorem dX2_fill_0 : decode cX2_fill 0 = .ok (.aload_n 0, 1) := by decide +kernel
theorem dX2_fill_1 : decode cX2_fill 1 = .ok (.getfield 15, 3) := by decide +kernel
theorem dX2_fill_4 : decode cX2_fill 4 = .ok (.iload_n 1, 1) := by decide +kernel
theorem dX2_fill_5 : decode cX2_fill 5 = .ok (.iconst 1, 1) := by decide +kernel
theorem dX2_fill_6 : decode cX2_fill 6 = .ok (.iadd, 1) := by decide +kernel
theorem dX2_fill_7 : decode cX2_fill 7 = .ok (.dup2, 1) := by decide +kernel
theorem dX2_fill_8 : decode cX2_fill 8 = .ok (.iaload, 1) := by decide +kernel
theorem dX2_fill_9 : decode cX2_fill 9 = .ok (.bipush 12, 2) := by decide +kernel
theorem dX2_fill_11 : decode cX2_fill 11 = .ok (.isub, 1) := by decide +kernel
theorem dX2_fill_12 : decode cX2_fill 12 = .ok (.iastore, 1) := by decide +kernel
theorem dX2_fill_13 : decode cX2_fill 13 = .ok (.aload_n 0, 1) := by decide +kernel
theorem dX2_fill_14 : decode cX2_fill 14 = .ok (.getfield 31, 3) := by decide +kernel
theorem dX2_fill_17 : decode cX2_fill 17 = .ok (.iload_n 1, 1) := by decide +kernel
theorem dX2_fill_18 : decode cX2_fill 18 = .ok (.dup2, 1) := by decide +kernel
theorem dX2_fill_19 : decode cX2_fill 19 = .ok (.iaload, 1) := by decide +kernel
theorem dX2_fill_20 : decode cX2_fill 20 = .ok (.bipush 12, 2) := by decide +kernel
theorem dX2_fill_22 : decode cX2_fill 22 = .ok (.iadd, 1) := by decide +kernel
theorem dX2_fill_23 : decode cX2_fill 23 = .ok (.iastore, 1) := by decide +kernel
theorem dX2_fill_24 : decode cX2_fill 24 = .ok (.aload_n 0, 1) := by decide +kernel
theorem dX2_fill_25 : decode cX2_fill 25 = .ok (.getfield 25, 3) := by decide +kernel
theorem dX2_fill_28 : decode cX2_fill 28 = .ok (.iload_n 1, 1) := by decide +kernel
theorem dX2_fill_29 : decode cX2_fill 29 = .ok (.iconst 1, 1) := by decide +kernel
theorem dX2_fill_30 : decode cX2_fill 30 = .ok (.iastore, 1) := by decide +kernel
theorem dX2_fill_31 : decode cX2_fill 31 = .ok (.return_, 1) := by decide +kernel
set_option maxRecDepth 20000 in
theorem ggX2_empty_X2_pour : GoodIn wsX2_empty wsX2_pour := goodIn_r _ [6, 7, 8, 9, 10, 11, 12, 13, 14, 15, 16, 17, 18, 19, 20, 21, 22, 23, 24, 25, 26, 27] (by decide +kernel) (by decide +kernel)
set_option maxRecDepth 20000 in
theorem gX2_empty_X2_pour : GoodIn wsX2_empty (wsV RX2 71 RX2 yX2_pour wsX2_pour) := goodIn_app (goodIn_of _ (by decide +kernel)) ggX2_empty_X2_pour
theorem dX2_empty_0 : decode cX2_empty 0 = .ok (.aload_n 0, 1) := by decide +kernel
theorem dX2_empty_1 : decode cX2_empty 1 = .ok (.getfield 25, 3) := by decide +kernel
theorem dX2_empty_4 : decode cX2_empty 4 = .ok (.iload_n 1, 1) := by decide +kernel
theorem dX2_empty_5 : decode cX2_empty 5 = .ok (.iconst 0, 1) := by decide +kernel
theorem dX2_empty_6 : decode cX2_empty 6 = .ok (.iastore, 1) := by decide +kernel
theorem dX2_empty_7 : decode cX2_empty 7 = .ok (.aload_n 0, 1) := by decide +kernel
theorem dX2_empty_8 : decode cX2_empty 8 = .ok (.iload_n 1, 1) := by decide +kernel
theorem dX2_empty_9 : decode cX2_empty 9 = .ok (.bipush 12, 2) := by decide +kernel
theorem dX2_empty_11 : decode cX2_empty 11 = .ok (.invokevirtual 71, 3) := by decide +kernel
theorem dX2_empty_14 : decode cX2_empty 14 = .ok (.return_, 1) := by decide +kernel
theorem dX2_allWater_0 : decode cX2_allWater 0 = .ok (.iconst 0, 1) := by decide +kernel
theorem dX2_allWater_1 : decode cX2_allWater 1 = .ok (.istore_n 1, 1) := by decide +kernel
theorem dX2_allWater_2 : decode cX2_allWater 2 = .ok (.aload_n 0, 1) := by decide +kernel
theorem dX2_allWater_3 : decode cX2_allWater 3 = .ok (.getfield 15, 3) := by decide +kernel
theorem dX2_allWater_6 : decode cX2_allWater 6 = .ok (.astore_n 2, 1) := by decide +kernel
theorem dX2_allWater_7 : decode cX2_allWater 7 = .ok (.aload_n 2, 1) := by decide +kernel
theorem dX2_allWater_8 : decode cX2_allWater 8 = .ok (.arraylength, 1) := by decide +kernel
theorem dX2_allWater_9 : decode cX2_allWater 9 = .ok (.istore_n 3, 1) := by decide +kernel
theorem dX2_allWater_10 : decode cX2_allWater 10 = .ok (.iconst 0, 1) := by decide +kernel
theorem dX2_allWater_11 : decode cX2_allWater 11 = .ok (.istore 4, 2) := by decide +kernel
theorem dX2_allWater_13 : decode cX2_allWater 13 = .ok (.iload 4, 2) := by decide +kernel
theorem dX2_allWater_15 : decode cX2_allWater 15 = .ok (.iload_n 3, 1) := by decide +kernel
theorem dX2_allWater_16 : decode cX2_allWater 16 = .ok (.if_icmp .ge 20, 3) := by decide +kernel
theorem dX2_allWater_19 : decode cX2_allWater 19 = .ok (.aload_n 2, 1) := by decide +kernel
theorem dX2_allWater_20 : decode cX2_allWater 20 = .ok (.iload 4, 2) := by decide +kernel
theorem dX2_allWater_22 : decode cX2_allWater 22 = .ok (.iaload, 1) := by decide +kernel
theorem dX2_allWater_23 : decode cX2_allWater 23 = .ok (.istore 5, 2) := by decide +kernel
theorem dX2_allWater_25 : decode cX2_allWater 25 = .ok (.iload_n 1, 1) := by decide +kernel
theorem dX2_allWater_26 : decode cX2_allWater 26 = .ok (.iload 5, 2) := by decide +kernel
theorem dX2_allWater_28 : decode cX2_allWater 28 = .ok (.iadd, 1) := by decide +kernel
theorem dX2_allWater_29 : decode cX2_allWater 29 = .ok (.istore_n 1, 1) := by decide +kernel
theorem dX2_allWater_30 : decode cX2_allWater 30 = .ok (.iinc 4 1, 3) := by decide +kernel
theorem dX2_allWater_33 : decode cX2_allWater 33 = .ok (.goto (-20), 3) := by decide +kernel
theorem dX2_allWater_36 : decode cX2_allWater 36 = .ok (.iload_n 1, 1) := by decide +kernel
theorem dX2_allWater_37 : decode cX2_allWater 37 = .ok (.ireturn, 1) := by decide +kernel
theorem dX2_fullOnes_0 : decode cX2_fullOnes 0 = .ok (.iconst 0, 1) := by decide +kernel
theorem dX2_fullOnes_1 : decode cX2_fullOnes 1 = .ok (.istore_n 1, 1) := by decide +kernel
theorem dX2_fullOnes_2 : decode cX2_fullOnes 2 = .ok (.aload_n 0, 1) := by decide +kernel
theorem dX2_fullOnes_3 : decode cX2_fullOnes 3 = .ok (.getfield 25, 3) := by decide +kernel
theorem dX2_fullOnes_6 : decode cX2_fullOnes 6 = .ok (.astore_n 2, 1) := by decide +kernel
theorem dX2_fullOnes_7 : decode cX2_fullOnes 7 = .ok (.aload_n 2, 1) := by decide +kernel
theorem dX2_fullOnes_8 : decode cX2_fullOnes 8 = .ok (.arraylength, 1) := by decide +kernel
theorem dX2_fullOnes_9 : decode cX2_fullOnes 9 = .ok (.istore_n 3, 1) := by decide +kernel
theorem dX2_fullOnes_10 : decode cX2_fullOnes 10 = .ok (.iconst 0, 1) := by decide +kernel
theorem dX2_fullOnes_11 : decode cX2_fullOnes 11 = .ok (.istore 4, 2) := by decide +kernel
theorem dX2_fullOnes_13 : decode cX2_fullOnes 13 = .ok (.iload 4, 2) := by decide +kernel
theorem dX2_fullOnes_15 : decode cX2_fullOnes 15 = .ok (.iload_n 3, 1) := by decide +kernel
theorem dX2_fullOnes_16 : decode cX2_fullOnes 16 = .ok (.if_icmp .ge 20, 3) := by decide +kernel
theorem dX2_fullOnes_19 : decode cX2_fullOnes 19 = .ok (.aload_n 2, 1) := by decide +kernel
theorem dX2_fullOnes_20 : decode cX2_fullOnes 20 = .ok (.iload 4, 2) := by decide +kernel
theorem dX2_fullOnes_22 : decode cX2_fullOnes 22 = .ok (.iaload, 1) := by decide +kernel
theorem dX2_fullOnes_23 : decode cX2_fullOnes 23 = .ok (.istore 5, 2) := by decide +kernel
theorem dX2_fullOnes_25 : decode cX2_fullOnes 25 = .ok (.iload_n 1, 1) := by decide +kernel
theorem dX2_fullOnes_26 : decode cX2_fullOnes 26 = .ok (.iload 5, 2) := by decide +kernel
theorem dX2_fullOnes_28 : decode cX2_fullOnes 28 = .ok (.iadd, 1) := by decide +kernel
theorem dX2_fullOnes_29 : decode cX2_fullOnes 29 = .ok (.istore_n 1, 1) := by decide +kernel
theorem dX2_fullOnes_30 : decode cX2_fullOnes 30 = .ok (.iinc 4 1, 3) := by decide +kernel
theorem dX2_fullOnes_33 : decode cX2_fullOnes 33 = .ok (.goto (-20), 3) := by decide +kernel
theorem dX2_fullOnes_36 : decode cX2_fullOnes 36 = .ok (.iload_n 1, 1) := by decide +kernel
theorem dX2_fullOnes_37 : decode cX2_fullOnes 37 = .ok (.ireturn, 1) := by decide +kernel
end
section
set_option maxRecDepth 20000 in
theorem ggX3_init_X2_init : GoodIn wsX3_init wsX2_init := goodIn_r _ [15, 16, 2, 3, 17, 4, 18, 19, 20, 21, 22, 23, 24, 25, 26, 27, 37, 38, 39, 40, 41, 42, 43, 44, 45, 46, 47, 48, 49, 50] (by decide +kernel) (by decide +kernel)
set_option maxRecDepth 20000 in
theorem gX3_init_X2_init_n25 : GoodIn wsX3_init (wsX2_init) := ggX3_init_X2_init
theorem dX3_init_0 : decode cX3_init 0 = .ok (.aload_n 0, 1) := by decide +kernel
theorem dX3_init_1 : decode cX3_init 1 = .ok (.invokespecial 1, 3) := by decide +kernel
theorem dX3_init_4 : decode cX3_init 4 = .ok (.aload_n 0, 1) := by decide +kernel
theorem dX3_init_5 : decode cX3_init 5 = .ok (.bipush 10, 2) := by decide +kernel
theorem dX3_init_7 : decode cX3_init 7 = .ok (.newarray .int, 2) := by decide +kernel
theorem dX3_init_9 : decode cX3_init 9 = .ok (.putfield 9, 3) := by decide +kernel
theorem dX3_init_12 : decode cX3_init 12 = .ok (.aload_n 0, 1) := by decide +kernel
theorem dX3_init_13 : decode cX3_init 13 = .ok (.bipush 8, 2) := by decide +kernel
theorem dX3_init_15 : decode cX3_init 15 = .ok (.newarray .int, 2) := by decide +kernel
theorem dX3_init_17 : decode cX3_init 17 = .ok (.dup, 1) := by decide +kernel
theorem dX3_init_18 : decode cX3_init 18 = .ok (.iconst 0, 1) := by decide +kernel
theorem dX3_init_19 : decode cX3_init 19 = .ok (.bipush 8, 2) := by decide +kernel
theorem dX3_init_21 : decode cX3_init 21 = .ok (.iastore, 1) := by decide +kernel
theorem dX3_init_22 : decode cX3_init 22 = .ok (.dup, 1) := by decide +kernel
theorem dX3_init_23 : decode cX3_init 23 = .ok (.iconst 1, 1) := by decide +kernel
theorem dX3_init_24 : decode cX3_init 24 = .ok (.bipush 8, 2) := by decide +kernel
theorem dX3_init_26 : decode cX3_init 26 = .ok (.iastore, 1) := by decide +kernel
theorem dX3_init_27 : decode cX3_init 27 = .ok (.dup, 1) := by decide +kernel
theorem dX3_init_28 : decode cX3_init 28 = .ok (.iconst 2, 1) := by decide +kernel
theorem dX3_init_29 : decode cX3_init 29 = .ok (.bipush 8, 2) := by decide +kernel
theorem dX3_init_31 : decode cX3_init 31 = .ok (.iastore, 1) := by decide +kernel
theorem dX3_init_32 : decode cX3_init 32 = .ok (.dup, 1) := by decide +kernel
theorem dX3_init_33 : decode cX3_init 33 = .ok (.iconst 3, 1) := by decide +kernel
theorem dX3_init_34 : decode cX3_init 34 = .ok (.bipush 8, 2) := by decide +kernel
theorem dX3_init_36 : decode cX3_init 36 = .ok (.iastore, 1) := by decide +kernel
theorem dX3_init_37 : decode cX3_init 37 = .ok (.dup, 1) := by decide +kernel
theorem dX3_init_38 : decode cX3_init 38 = .ok (.iconst 4, 1) := by decide +kernel
theorem dX3_init_39 : decode cX3_init 39 = .ok (.bipush 8, 2) := by decide +kernel
theorem dX3_init_41 : decode cX3_init 41 = .ok (.iastore, 1) := by decide +kernel
theorem dX3_init_42 : decode cX3_init 42 = .ok (.dup, 1) := by decide +kernel
theorem dX3_init_43 : decode cX3_init 43 = .ok (.iconst 5, 1) := by decide +kernel
theorem dX3_init_44 : decode cX3_init 44 = .ok (.bipush 8, 2) := by decide +kernel
theorem dX3_init_46 : decode cX3_init 46 = .ok (.iastore, 1) := by decide +kernel
theorem dX3_init_47 : decode cX3_init 47 = .ok (.dup, 1) := by decide +kernel
theorem dX3_init_48 : decode cX3_init 48 = .ok (.bipush 6, 2) := by decide +kernel
theorem dX3_init_50 : decode cX3_init 50 = .ok (.bipush 8, 2) := by decide +kernel
theorem dX3_init_52 : decode cX3_init 52 = .ok (.iastore, 1) := by decide +kernel
theorem dX3_init_53 : decode cX3_init 53 = .ok (.dup, 1) := by decide +kernel
theorem dX3_init_54 : decode cX3_init 54 = .ok (.bipush 7, 2) := by decide +kernel
theorem dX3_init_56 : decode cX3_init 56 = .ok (.bipush 8, 2) := by decide +kernel
theorem dX3_init_58 : decode cX3_init 58 = .ok (.iastore, 1) := by decide +kernel
theorem dX3_init_59 : decode cX3_init 59 = .ok (.putfield 13, 3) := by decide +kernel
theorem dX3_init_62 : decode cX3_init 62 = .ok (.aload_n 0, 1) := by decide +kernel
theorem dX3_init_63 : decode cX3_init 63 = .ok (.iconst (-1), 1) := by decide +kernel
theorem dX3_init_64 : decode cX3_init 64 = .ok (.putfield 16, 3) := by decide +kernel
theorem dX3_init_67 : decode cX3_init 67 = .ok (.aload_n 0, 1) := by decide +kernel
theorem dX3_init_68 : decode cX3_init 68 = .ok (.iconst 1, 1) := by decide +kernel
theorem dX3_init_69 : decode cX3_init 69 = .ok (.putfield 20, 3) := by decide +kernel
theorem dX3_init_72 : decode cX3_init 72 = .ok (.aload_n 0, 1) := by decide +kernel
theorem dX3_init_73 : decode cX3_init 73 = .ok (.new 23, 3) := by decide +kernel
theorem dX3_init_76 : decode cX3_init 76 = .ok (.dup, 1) := by decide +kernel
theorem dX3_init_77 : decode cX3_init 77 = .ok (.invokespecial 25, 3) := by decide +kernel
theorem dX3_init_80 : decode cX3_init 80 = .ok (.putfield 26, 3) := by decide +kernel
theorem dX3_init_83 : decode cX3_init 83 = .ok (.aload_n 0, 1) := by decide +kernel
theorem dX3_init_84 : decode cX3_init 84 = .ok (.new 23, 3) := by decide +kernel
theorem dX3_init_87 : decode cX3_init 87 = .ok (.dup, 1) := by decide +kernel
theorem dX3_init_88 : decode cX3_init 88 = .ok (.invokespecial 25, 3) := by decide +kernel
theorem dX3_init_91 : decode cX3_init 91 = .ok (.putfield 30, 3) := by decide +kernel
theorem dX3_init_94 : decode cX3_init 94 = .ok (.return_, 1) := by decide +kernel
theorem dX3_thrown_0 : decode cX3_thrown 0 = .ok (.aload_n 0, 1) := by decide +kernel
theorem dX3_thrown_1 : decode cX3_thrown 1 = .ok (.getfield 33, 3) := by decide +kernel
theorem dX3_thrown_4 : decode cX3_thrown 4 = .ok (.ireturn, 1) := by decide +kernel
theorem dX3_no_0 : decode cX3_no 0 = .ok (.aload_n 0, 1) := by decide +kernel
theorem dX3_no_1 : decode cX3_no 1 = .ok (.iload_n 1, 1) := by decide +kernel
theorem dX3_no_2 : decode cX3_no 2 = .ok (.putfield 33, 3) := by decide +kernel
theorem dX3_no_5 : decode cX3_no 5 = .ok (.iconst 0, 1) := by decide +kernel
theorem dX3_no_6 : decode cX3_no 6 = .ok (.ireturn, 1) := by decide +kernel
theorem dX3_isIn_0 : decode cX3_isIn 0 = .ok (.iload_n 0, 1) := by decide +kernel
theorem dX3_isIn_1 : decode cX3_isIn 1 = .ok (.iload_n 1, 1) := by decide +kernel
theorem dX3_isIn_2 : decode cX3_isIn 2 = .ok (.if_icmp .lt 12, 3) := by decide +kernel
theorem dX3_isIn_5 : decode cX3_isIn 5 = .ok (.iload_n 0, 1) := by decide +kernel
theorem dX3_isIn_6 : decode cX3_isIn 6 = .ok (.iload_n 2, 1) := by decide +kernel
theorem dX3_isIn_7 : decode cX3_isIn 7 = .ok (.if_icmp .gt 7, 3) := by decide +kernel
theorem dX3_isIn_10 : decode cX3_isIn 10 = .ok (.iconst 1, 1) := by decide +kernel
theorem dX3_isIn_11 : decode cX3_isIn 11 = .ok (.goto 4, 3) := by decide +kernel
theorem dX3_isIn_14 : decode cX3_isIn 14 = .ok (.iconst 0, 1) := by decide +kernel
theorem dX3_isIn_15 : decode cX3_isIn 15 = .ok (.ireturn, 1) := by decide +kernel
set_option maxRecDepth 20000 in
theorem ggX3_isBarge_X3_isIn : GoodIn wsX3_isBarge wsX3_isIn := goodIn_r _ [5] (by decide +kernel) (by decide +kernel)
set_option maxRecDepth 20000 in
theorem gX3_isBarge_X3_isIn : GoodIn wsX3_isBarge (va_wsS RX3 39 yX3_isIn wsX3_isIn) := goodIn_app (goodIn_of _ (by decide +kernel)) ggX3_isBarge_X3_isIn
theorem dX3_isBarge_0 : decode cX3_isBarge 0 = .ok (.iload_n 1, 1) := by decide +kernel
theorem dX3_isBarge_1 : decode cX3_isBarge 1 = .ok (.iconst 0, 1) := by decide +kernel
theorem dX3_isBarge_2 : decode cX3_isBarge 2 = .ok (.aload_n 0, 1) := by decide +kernel
theorem dX3_isBarge_3 : decode cX3_isBarge 3 = .ok (.getfield 36, 3) := by decide +kernel
theorem dX3_isBarge_6 : decode cX3_isBarge 6 = .ok (.iconst 1, 1) := by decide +kernel
theorem dX3_isBarge_7 : decode cX3_isBarge 7 = .ok (.isub, 1) := by decide +kernel
theorem dX3_isBarge_8 : decode cX3_isBarge 8 = .ok (.invokestatic 39, 3) := by decide +kernel
theorem dX3_isBarge_11 : decode cX3_isBarge 11 = .ok (.ireturn, 1) := by decide +kernel
theorem dX3_lockOf_0 : decode cX3_lockOf 0 = .ok (.aload_n 0, 1) := by decide +kernel
theorem dX3_lockOf_1 : decode cX3_lockOf 1 = .ok (.getfield 9, 3) := by decide +kernel
theorem dX3_lockOf_4 : decode cX3_lockOf 4 = .ok (.iload_n 2, 1) := by decide +kernel
theorem dX3_lockOf_5 : decode cX3_lockOf 5 = .ok (.iaload, 1) := by decide +kernel
theorem dX3_lockOf_6 : decode cX3_lockOf 6 = .ok (.aload_n 1, 1) := by decide +kernel
theorem dX3_lockOf_7 : decode cX3_lockOf 7 = .ok (.getfield 43, 3) := by decide +kernel
theorem dX3_lockOf_10 : decode cX3_lockOf 10 = .ok (.iload_n 2, 1) := by decide +kernel
theorem dX3_lockOf_11 : decode cX3_lockOf 11 = .ok (.iaload, 1) := by decide +kernel
theorem dX3_lockOf_12 : decode cX3_lockOf 12 = .ok (.if_icmp .ge 14, 3) := by decide +kernel
theorem dX3_lockOf_15 : decode cX3_lockOf 15 = .ok (.aload_n 1, 1) := by decide +kernel
theorem dX3_lockOf_16 : decode cX3_lockOf 16 = .ok (.getfield 43, 3) := by decide +kernel
theorem dX3_lockOf_19 : decode cX3_lockOf 19 = .ok (.iload_n 2, 1) := by decide +kernel
theorem dX3_lockOf_20 : decode cX3_lockOf 20 = .ok (.iaload, 1) := by decide +kernel
theorem dX3_lockOf_21 : decode cX3_lockOf 21 = .ok (.iconst 1, 1) := by decide +kernel
theorem dX3_lockOf_22 : decode cX3_lockOf 22 = .ok (.isub, 1) := by decide +kernel
theorem dX3_lockOf_23 : decode cX3_lockOf 23 = .ok (.goto 28, 3) := by decide +kernel
theorem dX3_lockOf_26 : decode cX3_lockOf 26 = .ok (.aload_n 0, 1) := by decide +kernel
theorem dX3_lockOf_27 : decode cX3_lockOf 27 = .ok (.getfield 9, 3) := by decide +kernel
theorem dX3_lockOf_30 : decode cX3_lockOf 30 = .ok (.iload_n 2, 1) := by decide +kernel
theorem dX3_lockOf_31 : decode cX3_lockOf 31 = .ok (.iaload, 1) := by decide +kernel
theorem dX3_lockOf_32 : decode cX3_lockOf 32 = .ok (.aload_n 1, 1) := by decide +kernel
theorem dX3_lockOf_33 : decode cX3_lockOf 33 = .ok (.getfield 43, 3) := by decide +kernel
theorem dX3_lockOf_36 : decode cX3_lockOf 36 = .ok (.iload_n 2, 1) := by decide +kernel
theorem dX3_lockOf_37 : decode cX3_lockOf 37 = .ok (.iaload, 1) := by decide +kernel
theorem dX3_lockOf_38 : decode cX3_lockOf 38 = .ok (.if_icmp .le 12, 3) := by decide +kernel
theorem dX3_lockOf_41 : decode cX3_lockOf 41 = .ok (.aload_n 1, 1) := by decide +kernel
theorem dX3_lockOf_42 : decode cX3_lockOf 42 = .ok (.getfield 43, 3) := by decide +kernel
theorem dX3_lockOf_45 : decode cX3_lockOf 45 = .ok (.iload_n 2, 1) := by decide +kernel
theorem dX3_lockOf_46 : decode cX3_lockOf 46 = .ok (.iaload, 1) := by decide +kernel
theorem dX3_lockOf_47 : decode cX3_lockOf 47 = .ok (.goto 4, 3) := by decide +kernel
theorem dX3_lockOf_50 : decode cX3_lockOf 50 = .ok (.iconst (-1), 1) := by decide +kernel
theorem dX3_lockOf_51 : decode cX3_lockOf 51 = .ok (.ireturn, 1) := by decide +kernel
theorem dX3_goesDown_0 : decode cX3_goesDown 0 = .ok (.aload_n 0, 1) := by decide +kernel
theorem dX3_goesDown_1 : decode cX3_goesDown 1 = .ok (.getfield 9, 3) := by decide +kernel
theorem dX3_goesDown_4 : decode cX3_goesDown 4 = .ok (.iload_n 2, 1) := by decide +kernel
theorem dX3_goesDown_5 : decode cX3_goesDown 5 = .ok (.iaload, 1) := by decide +kernel
theorem dX3_goesDown_6 : decode cX3_goesDown 6 = .ok (.aload_n 1, 1) := by decide +kernel
theorem dX3_goesDown_7 : decode cX3_goesDown 7 = .ok (.getfield 43, 3) := by decide +kernel
theorem dX3_goesDown_10 : decode cX3_goesDown 10 = .ok (.iload_n 2, 1) := by decide +kernel
theorem dX3_goesDown_11 : decode cX3_goesDown 11 = .ok (.iaload, 1) := by decide +kernel
theorem dX3_goesDown_12 : decode cX3_goesDown 12 = .ok (.if_icmp .ge 7, 3) := by decide +kernel
theorem dX3_goesDown_15 : decode cX3_goesDown 15 = .ok (.iconst 1, 1) := by decide +kernel
theorem dX3_goesDown_16 : decode cX3_goesDown 16 = .ok (.goto 4, 3) := by decide +kernel
theorem dX3_goesDown_19 : decode cX3_goesDown 19 = .ok (.iconst 0, 1) := by decide +kernel
theorem dX3_goesDown_20 : decode cX3_goesDown 20 = .ok (.ireturn, 1) := by decide +kernel
set_option maxRecDepth 20000 in
theorem ggX3_isWaiting_X3_lockOf : GoodIn wsX3_isWaiting wsX3_lockOf := goodIn_r _ [5, 6, 21, 22, 23, 24, 25, 26, 27, 28, 29, 7, 8, 9, 10, 11, 12, 13, 14, 15, 16, 17, 18, 19, 20] (by decide +kernel) (by decide +kernel)
set_option maxRecDepth 20000 in
theorem gX3_isWaiting_X3_lockOf : GoodIn wsX3_isWaiting (wsV RX3 46 RX3 yX3_lockOf wsX3_lockOf) := goodIn_app (goodIn_of _ (by decide +kernel)) ggX3_isWaiting_X3_lockOf
theorem dX3_isWaiting_0 : decode cX3_isWaiting 0 = .ok (.aload_n 0, 1) := by decide +kernel
theorem dX3_isWaiting_1 : decode cX3_isWaiting 1 = .ok (.aload_n 1, 1) := by decide +kernel
theorem dX3_isWaiting_2 : decode cX3_isWaiting 2 = .ok (.iload_n 2, 1) := by decide +kernel
theorem dX3_isWaiting_3 : decode cX3_isWaiting 3 = .ok (.invokevirtual 46, 3) := by decide +kernel
theorem dX3_isWaiting_6 : decode cX3_isWaiting 6 = .ok (.iload_n 3, 1) := by decide +kernel
theorem dX3_isWaiting_7 : decode cX3_isWaiting 7 = .ok (.if_icmp .ne 20, 3) := by decide +kernel
theorem dX3_isWaiting_10 : decode cX3_isWaiting 10 = .ok (.aload_n 1, 1) := by decide +kernel
theorem dX3_isWaiting_11 : decode cX3_isWaiting 11 = .ok (.getfield 50, 3) := by decide +kernel
theorem dX3_isWaiting_14 : decode cX3_isWaiting 14 = .ok (.iload_n 2, 1) := by decide +kernel
theorem dX3_isWaiting_15 : decode cX3_isWaiting 15 = .ok (.iaload, 1) := by decide +kernel
theorem dX3_isWaiting_16 : decode cX3_isWaiting 16 = .ok (.aload_n 1, 1) := by decide +kernel
theorem dX3_isWaiting_17 : decode cX3_isWaiting 17 = .ok (.getfield 53, 3) := by decide +kernel
theorem dX3_isWaiting_20 : decode cX3_isWaiting 20 = .ok (.if_icmp .eq 7, 3) := by decide +kernel
theorem dX3_isWaiting_23 : decode cX3_isWaiting 23 = .ok (.iconst 1, 1) := by decide +kernel
theorem dX3_isWaiting_24 : decode cX3_isWaiting 24 = .ok (.goto 4, 3) := by decide +kernel
theorem dX3_isWaiting_27 : decode cX3_isWaiting 27 = .ok (.iconst 0, 1) := by decide +kernel
theorem dX3_isWaiting_28 : decode cX3_isWaiting 28 = .ok (.ireturn, 1) := by decide +kernel
set_option maxRecDepth 20000 in
theorem ggX3_fits_X3_goesDown : GoodIn wsX3_fits wsX3_goesDown := goodIn_r _ [5, 6, 21, 22, 23, 24, 25, 26, 27, 28, 29, 7, 8, 9, 10, 11, 12, 13, 14, 15, 16, 17, 18, 19, 20] (by decide +kernel) (by decide +kernel)
set_option maxRecDepth 20000 in
theorem gX3_fits_X3_goesDown : GoodIn wsX3_fits (wsV RX3 56 RX3 yX3_goesDown wsX3_goesDown) := goodIn_app (goodIn_of _ (by decide +kernel)) ggX3_fits_X3_goesDown
theorem dX3_fits_0 : decode cX3_fits 0 = .ok (.aload_n 0, 1) := by decide +kernel
theorem dX3_fits_1 : decode cX3_fits 1 = .ok (.aload_n 1, 1) := by decide +kernel
theorem dX3_fits_2 : decode cX3_fits 2 = .ok (.iload_n 2, 1) := by decide +kernel
theorem dX3_fits_3 : decode cX3_fits 3 = .ok (.invokevirtual 56, 3) := by decide +kernel
theorem dX3_fits_6 : decode cX3_fits 6 = .ok (.aload_n 1, 1) := by decide +kernel
theorem dX3_fits_7 : decode cX3_fits 7 = .ok (.getfield 60, 3) := by decide +kernel
theorem dX3_fits_10 : decode cX3_fits 10 = .ok (.iload_n 3, 1) := by decide +kernel
theorem dX3_fits_11 : decode cX3_fits 11 = .ok (.iaload, 1) := by decide +kernel
theorem dX3_fits_12 : decode cX3_fits 12 = .ok (.iconst 1, 1) := by decide +kernel
theorem dX3_fits_13 : decode cX3_fits 13 = .ok (.if_icmp .ne 7, 3) := by decide +kernel
theorem dX3_fits_16 : decode cX3_fits 16 = .ok (.iconst 1, 1) := by decide +kernel
theorem dX3_fits_17 : decode cX3_fits 17 = .ok (.goto 4, 3) := by decide +kernel
theorem dX3_fits_20 : decode cX3_fits 20 = .ok (.iconst 0, 1) := by decide +kernel
theorem dX3_fits_21 : decode cX3_fits 21 = .ok (.if_icmp .ne 7, 3) := by decide +kernel
theorem dX3_fits_24 : decode cX3_fits 24 = .ok (.iconst 1, 1) := by decide +kernel
theorem dX3_fits_25 : decode cX3_fits 25 = .ok (.goto 4, 3) := by decide +kernel
theorem dX3_fits_28 : decode cX3_fits 28 = .ok (.iconst 0, 1) := by decide +kernel
theorem dX3_fits_29 : decode cX3_fits 29 = .ok (.ireturn, 1) := by decide +kernel
set_option maxRecDepth 20000 in
theorem ggX3_canServe_X3_fits : GoodIn wsX3_canServe wsX3_fits := goodIn_r _ [7, 8, 9, 10, 6, 11, 12, 19, 20, 21, 22, 23, 24, 25, 26, 27, 28, 29, 30, 31, 32, 33, 34, 35, 36, 37, 38, 39, 40, 41] (by decide +kernel) (by decide +kernel)
set_option maxRecDepth 20000 in
theorem gX3_canServe_X3_fits : GoodIn wsX3_canServe (wsV RX3 70 RX3 yX3_fits wsX3_fits) := goodIn_app (goodIn_of _ (by decide +kernel)) ggX3_canServe_X3_fits
set_option maxRecDepth 20000 in
theorem ggX3_canServe_X3_goesDown : GoodIn wsX3_canServe wsX3_goesDown := goodIn_r _ [11, 12, 33, 34, 35, 36, 37, 38, 39, 40, 41, 19, 20, 21, 22, 23, 24, 25, 26, 27, 28, 29, 30, 31, 32] (by decide +kernel) (by decide +kernel)
set_option maxRecDepth 20000 in
theorem gX3_canServe_X3_goesDown : GoodIn wsX3_canServe (wsV RX3 56 RX3 yX3_goesDown wsX3_goesDown) := goodIn_app (goodIn_of _ (by decide +kernel)) ggX3_canServe_X3_goesDown
set_option maxRecDepth 20000 in
theorem ggX3_canServe_X2_canFill : GoodIn wsX3_canServe wsX2_canFill := goodIn_r _ [17, 18, 19, 20, 21, 22, 23, 24, 25, 26, 27, 28, 29, 30, 31, 32] (by decide +kernel) (by decide +kernel)
set_option maxRecDepth 20000 in
theorem gX3_canServe_X2_canFill : GoodIn wsX3_canServe (wsV RX3 74 RX2 yX2_canFill wsX2_canFill) := goodIn_app (goodIn_of _ (by decide +kernel)) ggX3_canServe_X2_canFill
theorem dX3_canServe_0 : decode cX3_canServe 0 = .ok (.aload_n 1, 1) := by decide +kernel
theorem dX3_canServe_1 : decode cX3_canServe 1 = .ok (.getfield 63, 3) := by decide +kernel
theorem dX3_canServe_4 : decode cX3_canServe 4 = .ok (.iload_n 2, 1) := by decide +kernel
theorem dX3_canServe_5 : decode cX3_canServe 5 = .ok (.iaload, 1) := by decide +kernel
theorem dX3_canServe_6 : decode cX3_canServe 6 = .ok (.aload_n 0, 1) := by decide +kernel
theorem dX3_canServe_7 : decode cX3_canServe 7 = .ok (.getfield 20, 3) := by decide +kernel
theorem dX3_canServe_10 : decode cX3_canServe 10 = .ok (.if_icmp .lt 20, 3) := by decide +kernel
theorem dX3_canServe_13 : decode cX3_canServe 13 = .ok (.aload_n 0, 1) := by decide +kernel
theorem dX3_canServe_14 : decode cX3_canServe 14 = .ok (.getfield 66, 3) := by decide +kernel
theorem dX3_canServe_17 : decode cX3_canServe 17 = .ok (.ifCond .eq 15, 3) := by decide +kernel
theorem dX3_canServe_20 : decode cX3_canServe 20 = .ok (.aload_n 0, 1) := by decide +kernel
theorem dX3_canServe_21 : decode cX3_canServe 21 = .ok (.aload_n 1, 1) := by decide +kernel
theorem dX3_canServe_22 : decode cX3_canServe 22 = .ok (.iload_n 2, 1) := by decide +kernel
theorem dX3_canServe_23 : decode cX3_canServe 23 = .ok (.iload_n 3, 1) := by decide +kernel
theorem dX3_canServe_24 : decode cX3_canServe 24 = .ok (.invokevirtual 70, 3) := by decide +kernel
theorem dX3_canServe_27 : decode cX3_canServe 27 = .ok (.ifCond .ne 5, 3) := by decide +kernel
theorem dX3_canServe_30 : decode cX3_canServe 30 = .ok (.iconst 0, 1) := by decide +kernel
theorem dX3_canServe_31 : decode cX3_canServe 31 = .ok (.ireturn, 1) := by decide +kernel
theorem dX3_canServe_32 : decode cX3_canServe 32 = .ok (.aload_n 0, 1) := by decide +kernel
theorem dX3_canServe_33 : decode cX3_canServe 33 = .ok (.aload_n 1, 1) := by decide +kernel
theorem dX3_canServe_34 : decode cX3_canServe 34 = .ok (.iload_n 2, 1) := by decide +kernel
theorem dX3_canServe_35 : decode cX3_canServe 35 = .ok (.invokevirtual 56, 3) := by decide +kernel
theorem dX3_canServe_38 : decode cX3_canServe 38 = .ok (.ifCond .eq 13, 3) := by decide +kernel
theorem dX3_canServe_41 : decode cX3_canServe 41 = .ok (.aload_n 1, 1) := by decide +kernel
theorem dX3_canServe_42 : decode cX3_canServe 42 = .ok (.getfield 60, 3) := by decide +kernel
theorem dX3_canServe_45 : decode cX3_canServe 45 = .ok (.iload_n 3, 1) := by decide +kernel
theorem dX3_canServe_46 : decode cX3_canServe 46 = .ok (.iaload, 1) := by decide +kernel
theorem dX3_canServe_47 : decode cX3_canServe 47 = .ok (.iconst 1, 1) := by decide +kernel
theorem dX3_canServe_48 : decode cX3_canServe 48 = .ok (.if_icmp .eq 11, 3) := by decide +kernel
theorem dX3_canServe_51 : decode cX3_canServe 51 = .ok (.aload_n 1, 1) := by decide +kernel
theorem dX3_canServe_52 : decode cX3_canServe 52 = .ok (.iload_n 3, 1) := by decide +kernel
theorem dX3_canServe_53 : decode cX3_canServe 53 = .ok (.invokevirtual 74, 3) := by decide +kernel
theorem dX3_canServe_56 : decode cX3_canServe 56 = .ok (.ifCond .eq 7, 3) := by decide +kernel
theorem dX3_canServe_59 : decode cX3_canServe 59 = .ok (.iconst 1, 1) := by decide +kernel
theorem dX3_canServe_60 : decode cX3_canServe 60 = .ok (.goto 4, 3) := by decide +kernel
theorem dX3_canServe_63 : decode cX3_canServe 63 = .ok (.iconst 0, 1) := by decide +kernel
theorem dX3_canServe_64 : decode cX3_canServe 64 = .ok (.ireturn, 1) := by decide +kernel
set_option maxRecDepth 20000 in
theorem ggX3_nextAt_X3_isWaiting : GoodIn wsX3_nextAt wsX3_isWaiting := goodIn_r _ [6, 7, 8, 9, 5, 10, 11, 41, 42, 43, 44, 45, 46, 47, 48, 49, 50, 51, 52, 53, 54, 32, 33, 34, 35, 36, 37, 38, 39, 40] (by decide +kernel) (by decide +kernel)
set_option maxRecDepth 20000 in
theorem gX3_nextAt_X3_isWaiting : GoodIn wsX3_nextAt (wsV RX3 78 RX3 yX3_isWaiting wsX3_isWaiting) := goodIn_app (goodIn_of _ (by decide +kernel)) ggX3_nextAt_X3_isWaiting
set_option maxRecDepth 20000 in
theorem ggX3_nextAt_X3_canServe : GoodIn wsX3_nextAt wsX3_canServe := goodIn_r _ [15, 16, 17, 18, 19, 20, 5, 21, 22, 23, 24, 25, 11, 26, 27, 28, 29, 30, 31, 41, 42, 43, 44, 45, 46, 47, 48, 49, 50, 51, 52, 53, 54, 32, 33, 34, 35, 36, 37, 38, 39, 40] (by decide +kernel) (by decide +kernel)
set_option maxRecDepth 20000 in
theorem gX3_nextAt_X3_canServe : GoodIn wsX3_nextAt (wsV RX3 81 RX3 yX3_canServe wsX3_canServe) := goodIn_app (goodIn_of _ (by decide +kernel)) ggX3_nextAt_X3_canServe
set_option maxRecDepth 20000 in
theorem ggX3_nextAt_X3_fits : GoodIn wsX3_nextAt wsX3_fits := goodIn_r _ [21, 22, 23, 24, 5, 25, 11, 41, 42, 43, 44, 45, 46, 47, 48, 49, 50, 51, 52, 53, 54, 32, 33, 34, 35, 36, 37, 38, 39, 40] (by decide +kernel) (by decide +kernel)
set_option maxRecDepth 20000 in
theorem gX3_nextAt_X3_fits : GoodIn wsX3_nextAt (wsV RX3 70 RX3 yX3_fits wsX3_fits) := goodIn_app (goodIn_of _ (by decide +kernel)) ggX3_nextAt_X3_fits
theorem dX3_nextAt_0 : decode cX3_nextAt 0 = .ok (.iconst (-1), 1) := by decide +kernel
theorem dX3_nextAt_1 : decode cX3_nextAt 1 = .ok (.istore_n 3, 1) := by decide +kernel
theorem dX3_nextAt_2 : decode cX3_nextAt 2 = .ok (.iconst 0, 1) := by decide +kernel
theorem dX3_nextAt_3 : decode cX3_nextAt 3 = .ok (.istore 4, 2) := by decide +kernel
theorem dX3_nextAt_5 : decode cX3_nextAt 5 = .ok (.iload 4, 2) := by decide +kernel
theorem dX3_nextAt_7 : decode cX3_nextAt 7 = .ok (.aload_n 0, 1) := by decide +kernel
theorem dX3_nextAt_8 : decode cX3_nextAt 8 = .ok (.getfield 36, 3) := by decide +kernel
theorem dX3_nextAt_11 : decode cX3_nextAt 11 = .ok (.if_icmp .ge 60, 3) := by decide +kernel
theorem dX3_nextAt_14 : decode cX3_nextAt 14 = .ok (.aload_n 0, 1) := by decide +kernel
theorem dX3_nextAt_15 : decode cX3_nextAt 15 = .ok (.aload_n 1, 1) := by decide +kernel
theorem dX3_nextAt_16 : decode cX3_nextAt 16 = .ok (.iload 4, 2) := by decide +kernel
theorem dX3_nextAt_18 : decode cX3_nextAt 18 = .ok (.iload_n 2, 1) := by decide +kernel
theorem dX3_nextAt_19 : decode cX3_nextAt 19 = .ok (.invokevirtual 78, 3) := by decide +kernel
theorem dX3_nextAt_22 : decode cX3_nextAt 22 = .ok (.ifCond .eq 43, 3) := by decide +kernel
theorem dX3_nextAt_25 : decode cX3_nextAt 25 = .ok (.aload_n 0, 1) := by decide +kernel
theorem dX3_nextAt_26 : decode cX3_nextAt 26 = .ok (.aload_n 1, 1) := by decide +kernel
theorem dX3_nextAt_27 : decode cX3_nextAt 27 = .ok (.iload 4, 2) := by decide +kernel
theorem dX3_nextAt_29 : decode cX3_nextAt 29 = .ok (.iload_n 2, 1) := by decide +kernel
theorem dX3_nextAt_30 : decode cX3_nextAt 30 = .ok (.invokevirtual 81, 3) := by decide +kernel
theorem dX3_nextAt_33 : decode cX3_nextAt 33 = .ok (.ifCond .ne 6, 3) := by decide +kernel
theorem dX3_nextAt_36 : decode cX3_nextAt 36 = .ok (.goto 29, 3) := by decide +kernel
theorem dX3_nextAt_39 : decode cX3_nextAt 39 = .ok (.aload_n 0, 1) := by decide +kernel
theorem dX3_nextAt_40 : decode cX3_nextAt 40 = .ok (.aload_n 1, 1) := by decide +kernel
theorem dX3_nextAt_41 : decode cX3_nextAt 41 = .ok (.iload 4, 2) := by decide +kernel
theorem dX3_nextAt_43 : decode cX3_nextAt 43 = .ok (.iload_n 2, 1) := by decide +kernel
theorem dX3_nextAt_44 : decode cX3_nextAt 44 = .ok (.invokevirtual 70, 3) := by decide +kernel
theorem dX3_nextAt_47 : decode cX3_nextAt 47 = .ok (.ifCond .eq 6, 3) := by decide +kernel
theorem dX3_nextAt_50 : decode cX3_nextAt 50 = .ok (.iload 4, 2) := by decide +kernel
theorem dX3_nextAt_52 : decode cX3_nextAt 52 = .ok (.ireturn, 1) := by decide +kernel
theorem dX3_nextAt_53 : decode cX3_nextAt 53 = .ok (.iload_n 3, 1) := by decide +kernel
theorem dX3_nextAt_54 : decode cX3_nextAt 54 = .ok (.iconst (-1), 1) := by decide +kernel
theorem dX3_nextAt_55 : decode cX3_nextAt 55 = .ok (.if_icmp .ne 8, 3) := by decide +kernel
theorem dX3_nextAt_58 : decode cX3_nextAt 58 = .ok (.iload 4, 2) := by decide +kernel
theorem dX3_nextAt_60 : decode cX3_nextAt 60 = .ok (.goto 4, 3) := by decide +kernel
theorem dX3_nextAt_63 : decode cX3_nextAt 63 = .ok (.iload_n 3, 1) := by decide +kernel
theorem dX3_nextAt_64 : decode cX3_nextAt 64 = .ok (.istore_n 3, 1) := by decide +kernel
theorem dX3_nextAt_65 : decode cX3_nextAt 65 = .ok (.iinc 4 1, 3) := by decide +kernel
theorem dX3_nextAt_68 : decode cX3_nextAt 68 = .ok (.goto (-63), 3) := by decide +kernel
theorem dX3_nextAt_71 : decode cX3_nextAt 71 = .ok (.iload_n 3, 1) := by decide +kernel
theorem dX3_nextAt_72 : decode cX3_nextAt 72 = .ok (.ireturn, 1) := by decide +kernel
set_option maxRecDepth 20000 in
theorem ggX3_serve_X3_goesDown : GoodIn wsX3_serve wsX3_goesDown := goodIn_r _ [6, 7, 44, 45, 46, 47, 48, 49, 50, 51, 52, 30, 31, 32, 33, 34, 35, 36, 37, 38, 39, 40, 41, 42, 43] (by decide +kernel) (by decide +kernel)
set_option maxRecDepth 20000 in
theorem gX3_serve_X3_goesDown : GoodIn wsX3_serve (wsV RX3 56 RX3 yX3_goesDown wsX3_goesDown) := goodIn_app (goodIn_of _ (by decide +kernel)) ggX3_serve_X3_goesDown
set_option maxRecDepth 20000 in
theorem ggX3_serve_X2_fill : GoodIn wsX3_serve wsX2_fill := goodIn_r _ [12, 13, 14, 15, 30, 31, 32, 33, 34, 35, 36, 37, 38, 39, 40, 41, 42, 43] (by decide +kernel) (by decide +kernel)
set_option maxRecDepth 20000 in
theorem gX3_serve_X2_fill : GoodIn wsX3_serve (wsV RX3 84 RX2 yX2_fill wsX2_fill) := goodIn_app (goodIn_of _ (by decide +kernel)) ggX3_serve_X2_fill
set_option maxRecDepth 20000 in
theorem ggX3_serve_X2_empty : GoodIn wsX3_serve wsX2_empty := goodIn_r _ [19, 15, 20, 21, 22, 11, 23, 13, 24, 25, 26, 27, 28, 29, 30, 31, 32, 33, 34, 35, 36, 37, 38, 39, 40, 41, 42, 43] (by decide +kernel) (by decide +kernel)
set_option maxRecDepth 20000 in
theorem gX3_serve_X2_empty : GoodIn wsX3_serve (wsV RX3 88 RX2 yX2_empty wsX2_empty) := goodIn_app (goodIn_of _ (by decide +kernel)) ggX3_serve_X2_empty
theorem dX3_serve_0 : decode cX3_serve 0 = .ok (.aload_n 0, 1) := by decide +kernel
theorem dX3_serve_1 : decode cX3_serve 1 = .ok (.aload_n 1, 1) := by decide +kernel
theorem dX3_serve_2 : decode cX3_serve 2 = .ok (.iload_n 3, 1) := by decide +kernel
theorem dX3_serve_3 : decode cX3_serve 3 = .ok (.invokevirtual 56, 3) := by decide +kernel
theorem dX3_serve_6 : decode cX3_serve 6 = .ok (.ifCond .eq 35, 3) := by decide +kernel
theorem dX3_serve_9 : decode cX3_serve 9 = .ok (.aload_n 1, 1) := by decide +kernel
theorem dX3_serve_10 : decode cX3_serve 10 = .ok (.getfield 60, 3) := by decide +kernel
theorem dX3_serve_13 : decode cX3_serve 13 = .ok (.iload_n 2, 1) := by decide +kernel
theorem dX3_serve_14 : decode cX3_serve 14 = .ok (.iaload, 1) := by decide +kernel
theorem dX3_serve_15 : decode cX3_serve 15 = .ok (.ifCond .ne 8, 3) := by decide +kernel
theorem dX3_serve_18 : decode cX3_serve 18 = .ok (.aload_n 1, 1) := by decide +kernel
theorem dX3_serve_19 : decode cX3_serve 19 = .ok (.iload_n 2, 1) := by decide +kernel
theorem dX3_serve_20 : decode cX3_serve 20 = .ok (.invokevirtual 84, 3) := by decide +kernel
theorem dX3_serve_23 : decode cX3_serve 23 = .ok (.aload_n 1, 1) := by decide +kernel
theorem dX3_serve_24 : decode cX3_serve 24 = .ok (.iload_n 2, 1) := by decide +kernel
theorem dX3_serve_25 : decode cX3_serve 25 = .ok (.invokevirtual 88, 3) := by decide +kernel
theorem dX3_serve_28 : decode cX3_serve 28 = .ok (.aload_n 1, 1) := by decide +kernel
theorem dX3_serve_29 : decode cX3_serve 29 = .ok (.getfield 43, 3) := by decide +kernel
theorem dX3_serve_32 : decode cX3_serve 32 = .ok (.iload_n 3, 1) := by decide +kernel
theorem dX3_serve_33 : decode cX3_serve 33 = .ok (.dup2, 1) := by decide +kernel
theorem dX3_serve_34 : decode cX3_serve 34 = .ok (.iaload, 1) := by decide +kernel
theorem dX3_serve_35 : decode cX3_serve 35 = .ok (.iconst 1, 1) := by decide +kernel
theorem dX3_serve_36 : decode cX3_serve 36 = .ok (.isub, 1) := by decide +kernel
theorem dX3_serve_37 : decode cX3_serve 37 = .ok (.iastore, 1) := by decide +kernel
theorem dX3_serve_38 : decode cX3_serve 38 = .ok (.goto 33, 3) := by decide +kernel
theorem dX3_serve_41 : decode cX3_serve 41 = .ok (.aload_n 1, 1) := by decide +kernel
theorem dX3_serve_42 : decode cX3_serve 42 = .ok (.getfield 60, 3) := by decide +kernel
theorem dX3_serve_45 : decode cX3_serve 45 = .ok (.iload_n 2, 1) := by decide +kernel
theorem dX3_serve_46 : decode cX3_serve 46 = .ok (.iaload, 1) := by decide +kernel
theorem dX3_serve_47 : decode cX3_serve 47 = .ok (.iconst 1, 1) := by decide +kernel
theorem dX3_serve_48 : decode cX3_serve 48 = .ok (.if_icmp .ne 8, 3) := by decide +kernel
theorem dX3_serve_51 : decode cX3_serve 51 = .ok (.aload_n 1, 1) := by decide +kernel
theorem dX3_serve_52 : decode cX3_serve 52 = .ok (.iload_n 2, 1) := by decide +kernel
theorem dX3_serve_53 : decode cX3_serve 53 = .ok (.invokevirtual 88, 3) := by decide +kernel
theorem dX3_serve_56 : decode cX3_serve 56 = .ok (.aload_n 1, 1) := by decide +kernel
theorem dX3_serve_57 : decode cX3_serve 57 = .ok (.iload_n 2, 1) := by decide +kernel
theorem dX3_serve_58 : decode cX3_serve 58 = .ok (.invokevirtual 84, 3) := by decide +kernel
theorem dX3_serve_61 : decode cX3_serve 61 = .ok (.aload_n 1, 1) := by decide +kernel
theorem dX3_serve_62 : decode cX3_serve 62 = .ok (.getfield 43, 3) := by decide +kernel
theorem dX3_serve_65 : decode cX3_serve 65 = .ok (.iload_n 3, 1) := by decide +kernel
theorem dX3_serve_66 : decode cX3_serve 66 = .ok (.dup2, 1) := by decide +kernel
theorem dX3_serve_67 : decode cX3_serve 67 = .ok (.iaload, 1) := by decide +kernel
theorem dX3_serve_68 : decode cX3_serve 68 = .ok (.iconst 1, 1) := by decide +kernel
theorem dX3_serve_69 : decode cX3_serve 69 = .ok (.iadd, 1) := by decide +kernel
theorem dX3_serve_70 : decode cX3_serve 70 = .ok (.iastore, 1) := by decide +kernel
theorem dX3_serve_71 : decode cX3_serve 71 = .ok (.aload_n 1, 1) := by decide +kernel
theorem dX3_serve_72 : decode cX3_serve 72 = .ok (.getfield 63, 3) := by decide +kernel
theorem dX3_serve_75 : decode cX3_serve 75 = .ok (.iload_n 3, 1) := by decide +kernel
theorem dX3_serve_76 : decode cX3_serve 76 = .ok (.dup2, 1) := by decide +kernel
theorem dX3_serve_77 : decode cX3_serve 77 = .ok (.iaload, 1) := by decide +kernel
theorem dX3_serve_78 : decode cX3_serve 78 = .ok (.aload_n 0, 1) := by decide +kernel
theorem dX3_serve_79 : decode cX3_serve 79 = .ok (.getfield 20, 3) := by decide +kernel
theorem dX3_serve_82 : decode cX3_serve 82 = .ok (.isub, 1) := by decide +kernel
theorem dX3_serve_83 : decode cX3_serve 83 = .ok (.iastore, 1) := by decide +kernel
theorem dX3_serve_84 : decode cX3_serve 84 = .ok (.aload_n 1, 1) := by decide +kernel
theorem dX3_serve_85 : decode cX3_serve 85 = .ok (.dup, 1) := by decide +kernel
theorem dX3_serve_86 : decode cX3_serve 86 = .ok (.getfield 91, 3) := by decide +kernel
theorem dX3_serve_89 : decode cX3_serve 89 = .ok (.aload_n 0, 1) := by decide +kernel
theorem dX3_serve_90 : decode cX3_serve 90 = .ok (.getfield 20, 3) := by decide +kernel
theorem dX3_serve_93 : decode cX3_serve 93 = .ok (.iadd, 1) := by decide +kernel
theorem dX3_serve_94 : decode cX3_serve 94 = .ok (.putfield 91, 3) := by decide +kernel
theorem dX3_serve_97 : decode cX3_serve 97 = .ok (.aload_n 1, 1) := by decide +kernel
theorem dX3_serve_98 : decode cX3_serve 98 = .ok (.getfield 94, 3) := by decide +kernel
theorem dX3_serve_101 : decode cX3_serve 101 = .ok (.iload_n 3, 1) := by decide +kernel
theorem dX3_serve_102 : decode cX3_serve 102 = .ok (.dup2, 1) := by decide +kernel
theorem dX3_serve_103 : decode cX3_serve 103 = .ok (.iaload, 1) := by decide +kernel
theorem dX3_serve_104 : decode cX3_serve 104 = .ok (.iconst 1, 1) := by decide +kernel
theorem dX3_serve_105 : decode cX3_serve 105 = .ok (.iadd, 1) := by decide +kernel
theorem dX3_serve_106 : decode cX3_serve 106 = .ok (.iastore, 1) := by decide +kernel
theorem dX3_serve_107 : decode cX3_serve 107 = .ok (.aload_n 1, 1) := by decide +kernel
theorem dX3_serve_108 : decode cX3_serve 108 = .ok (.getfield 97, 3) := by decide +kernel
theorem dX3_serve_111 : decode cX3_serve 111 = .ok (.iload_n 2, 1) := by decide +kernel
theorem dX3_serve_112 : decode cX3_serve 112 = .ok (.dup2, 1) := by decide +kernel
theorem dX3_serve_113 : decode cX3_serve 113 = .ok (.iaload, 1) := by decide +kernel
theorem dX3_serve_114 : decode cX3_serve 114 = .ok (.iconst 1, 1) := by decide +kernel
theorem dX3_serve_115 : decode cX3_serve 115 = .ok (.iadd, 1) := by decide +kernel
theorem dX3_serve_116 : decode cX3_serve 116 = .ok (.iastore, 1) := by decide +kernel
theorem dX3_serve_117 : decode cX3_serve 117 = .ok (.aload_n 1, 1) := by decide +kernel
theorem dX3_serve_118 : decode cX3_serve 118 = .ok (.getfield 50, 3) := by decide +kernel
theorem dX3_serve_121 : decode cX3_serve 121 = .ok (.iload_n 3, 1) := by decide +kernel
theorem dX3_serve_122 : decode cX3_serve 122 = .ok (.aload_n 1, 1) := by decide +kernel
theorem dX3_serve_123 : decode cX3_serve 123 = .ok (.getfield 53, 3) := by decide +kernel
theorem dX3_serve_126 : decode cX3_serve 126 = .ok (.iastore, 1) := by decide +kernel
theorem dX3_serve_127 : decode cX3_serve 127 = .ok (.return_, 1) := by decide +kernel
set_option maxRecDepth 20000 in
theorem ggX3_grind_X2_pour : GoodIn wsX3_grind wsX2_pour := goodIn_r _ [10, 11, 12, 13, 4, 14, 15, 16, 26, 27, 28, 29, 30, 31, 32, 33, 34, 35, 36, 37, 38, 39] (by decide +kernel) (by decide +kernel)
set_option maxRecDepth 20000 in
theorem gX3_grind_X2_pour : GoodIn wsX3_grind (wsV RX3 115 RX2 yX2_pour wsX2_pour) := goodIn_app (goodIn_of _ (by decide +kernel)) ggX3_grind_X2_pour
theorem dX3_grind_0 : decode cX3_grind 0 = .ok (.aload_n 0, 1) := by decide +kernel
theorem dX3_grind_1 : decode cX3_grind 1 = .ok (.getfield 16, 3) := by decide +kernel
theorem dX3_grind_4 : decode cX3_grind 4 = .ok (.iconst (-1), 1) := by decide +kernel
theorem dX3_grind_5 : decode cX3_grind 5 = .ok (.if_icmp .eq 19, 3) := by decide +kernel
theorem dX3_grind_8 : decode cX3_grind 8 = .ok (.aload_n 1, 1) := by decide +kernel
theorem dX3_grind_9 : decode cX3_grind 9 = .ok (.getfield 100, 3) := by decide +kernel
theorem dX3_grind_12 : decode cX3_grind 12 = .ok (.aload_n 0, 1) := by decide +kernel
theorem dX3_grind_13 : decode cX3_grind 13 = .ok (.getfield 16, 3) := by decide +kernel
theorem dX3_grind_16 : decode cX3_grind 16 = .ok (.iaload, 1) := by decide +kernel
theorem dX3_grind_17 : decode cX3_grind 17 = .ok (.aload_n 1, 1) := by decide +kernel
theorem dX3_grind_18 : decode cX3_grind 18 = .ok (.getfield 103, 3) := by decide +kernel
theorem dX3_grind_21 : decode cX3_grind 21 = .ok (.if_icmp .gt 4, 3) := by decide +kernel
theorem dX3_grind_24 : decode cX3_grind 24 = .ok (.return_, 1) := by decide +kernel
theorem dX3_grind_25 : decode cX3_grind 25 = .ok (.bipush 10, 2) := by decide +kernel
theorem dX3_grind_27 : decode cX3_grind 27 = .ok (.aload_n 1, 1) := by decide +kernel
theorem dX3_grind_28 : decode cX3_grind 28 = .ok (.getfield 100, 3) := by decide +kernel
theorem dX3_grind_31 : decode cX3_grind 31 = .ok (.aload_n 0, 1) := by decide +kernel
theorem dX3_grind_32 : decode cX3_grind 32 = .ok (.getfield 16, 3) := by decide +kernel
theorem dX3_grind_35 : decode cX3_grind 35 = .ok (.iaload, 1) := by decide +kernel
theorem dX3_grind_36 : decode cX3_grind 36 = .ok (.aload_n 1, 1) := by decide +kernel
theorem dX3_grind_37 : decode cX3_grind 37 = .ok (.getfield 103, 3) := by decide +kernel
theorem dX3_grind_40 : decode cX3_grind 40 = .ok (.isub, 1) := by decide +kernel
theorem dX3_grind_41 : decode cX3_grind 41 = .ok (.invokestatic 106, 3) := by decide +kernel
theorem dX3_grind_44 : decode cX3_grind 44 = .ok (.istore_n 2, 1) := by decide +kernel
theorem dX3_grind_45 : decode cX3_grind 45 = .ok (.aload_n 1, 1) := by decide +kernel
theorem dX3_grind_46 : decode cX3_grind 46 = .ok (.getfield 100, 3) := by decide +kernel
theorem dX3_grind_49 : decode cX3_grind 49 = .ok (.aload_n 0, 1) := by decide +kernel
theorem dX3_grind_50 : decode cX3_grind 50 = .ok (.getfield 16, 3) := by decide +kernel
theorem dX3_grind_53 : decode cX3_grind 53 = .ok (.dup2, 1) := by decide +kernel
theorem dX3_grind_54 : decode cX3_grind 54 = .ok (.iaload, 1) := by decide +kernel
theorem dX3_grind_55 : decode cX3_grind 55 = .ok (.iload_n 2, 1) := by decide +kernel
theorem dX3_grind_56 : decode cX3_grind 56 = .ok (.isub, 1) := by decide +kernel
theorem dX3_grind_57 : decode cX3_grind 57 = .ok (.iastore, 1) := by decide +kernel
theorem dX3_grind_58 : decode cX3_grind 58 = .ok (.aload_n 1, 1) := by decide +kernel
theorem dX3_grind_59 : decode cX3_grind 59 = .ok (.getfield 112, 3) := by decide +kernel
theorem dX3_grind_62 : decode cX3_grind 62 = .ok (.aload_n 0, 1) := by decide +kernel
theorem dX3_grind_63 : decode cX3_grind 63 = .ok (.getfield 16, 3) := by decide +kernel
theorem dX3_grind_66 : decode cX3_grind 66 = .ok (.dup2, 1) := by decide +kernel
theorem dX3_grind_67 : decode cX3_grind 67 = .ok (.iaload, 1) := by decide +kernel
theorem dX3_grind_68 : decode cX3_grind 68 = .ok (.iload_n 2, 1) := by decide +kernel
theorem dX3_grind_69 : decode cX3_grind 69 = .ok (.iadd, 1) := by decide +kernel
theorem dX3_grind_70 : decode cX3_grind 70 = .ok (.iastore, 1) := by decide +kernel
theorem dX3_grind_71 : decode cX3_grind 71 = .ok (.aload_n 1, 1) := by decide +kernel
theorem dX3_grind_72 : decode cX3_grind 72 = .ok (.dup, 1) := by decide +kernel
theorem dX3_grind_73 : decode cX3_grind 73 = .ok (.getfield 91, 3) := by decide +kernel
theorem dX3_grind_76 : decode cX3_grind 76 = .ok (.iload_n 2, 1) := by decide +kernel
theorem dX3_grind_77 : decode cX3_grind 77 = .ok (.iconst 5, 1) := by decide +kernel
theorem dX3_grind_78 : decode cX3_grind 78 = .ok (.idiv, 1) := by decide +kernel
theorem dX3_grind_79 : decode cX3_grind 79 = .ok (.iadd, 1) := by decide +kernel
theorem dX3_grind_80 : decode cX3_grind 80 = .ok (.putfield 91, 3) := by decide +kernel
theorem dX3_grind_83 : decode cX3_grind 83 = .ok (.aload_n 1, 1) := by decide +kernel
theorem dX3_grind_84 : decode cX3_grind 84 = .ok (.aload_n 0, 1) := by decide +kernel
theorem dX3_grind_85 : decode cX3_grind 85 = .ok (.getfield 16, 3) := by decide +kernel
theorem dX3_grind_88 : decode cX3_grind 88 = .ok (.iconst 1, 1) := by decide +kernel
theorem dX3_grind_89 : decode cX3_grind 89 = .ok (.isub, 1) := by decide +kernel
theorem dX3_grind_90 : decode cX3_grind 90 = .ok (.iload_n 2, 1) := by decide +kernel
theorem dX3_grind_91 : decode cX3_grind 91 = .ok (.invokevirtual 115, 3) := by decide +kernel
theorem dX3_grind_94 : decode cX3_grind 94 = .ok (.return_, 1) := by decide +kernel
set_option maxRecDepth 20000 in
theorem ggX3_pass_X2_pour : GoodIn wsX3_pass wsX2_pour := goodIn_r _ [6, 7, 8, 9, 10, 11, 12, 13, 79, 80, 81, 82, 83, 84, 85, 86, 87, 88, 89, 90, 91, 92] (by decide +kernel) (by decide +kernel)
set_option maxRecDepth 20000 in
theorem gX3_pass_X2_pour : GoodIn wsX3_pass (wsV RX3 115 RX2 yX2_pour wsX2_pour) := goodIn_app (goodIn_of _ (by decide +kernel)) ggX3_pass_X2_pour
set_option maxRecDepth 20000 in
theorem ggX3_pass_X3_grind : GoodIn wsX3_pass wsX3_grind := goodIn_r _ [18, 19, 20, 21, 10, 22, 2, 3, 4, 5, 6, 7, 8, 9, 11, 12, 13, 70, 71, 72, 73, 74, 75, 76, 77, 78, 79, 80, 81, 82, 83, 84, 85, 86, 87, 88, 89, 90, 91, 92] (by decide +kernel) (by decide +kernel)
set_option maxRecDepth 20000 in
theorem gX3_pass_X3_grind : GoodIn wsX3_pass (wsV RX3 119 RX3 yX3_grind wsX3_grind) := goodIn_app (goodIn_of _ (by decide +kernel)) ggX3_pass_X3_grind
set_option maxRecDepth 20000 in
theorem ggX3_pass_X3_nextAt : GoodIn wsX3_pass wsX3_nextAt := goodIn_r _ [26, 27, 28, 29, 30, 17, 31, 32, 33, 34, 35, 36, 37, 38, 39, 40, 41, 42, 43, 44, 45, 46, 47, 48, 49, 50, 51, 52, 53, 5, 54, 7, 70, 71, 72, 73, 74, 75, 76, 77, 78, 79, 80, 81, 82, 83, 84, 85, 86, 87, 88, 89, 90, 91, 92] (by decide +kernel) (by decide +kernel)
set_option maxRecDepth 20000 in
theorem gX3_pass_X3_nextAt : GoodIn wsX3_pass (wsV RX3 123 RX3 yX3_nextAt wsX3_nextAt) := goodIn_app (goodIn_of _ (by decide +kernel)) ggX3_pass_X3_nextAt
set_option maxRecDepth 20000 in
theorem ggX3_pass_X3_serve : GoodIn wsX3_pass wsX3_serve := goodIn_r _ [58, 41, 47, 48, 49, 17, 50, 36, 59, 60, 61, 5, 62, 7, 63, 64, 65, 66, 67, 68, 69, 3, 4, 6, 8, 9, 10, 11, 12, 13, 79, 80, 81, 82, 83, 84, 85, 86, 87, 88, 89, 90, 91, 92, 70, 71, 72, 73, 74, 75, 76, 77, 78] (by decide +kernel) (by decide +kernel)
set_option maxRecDepth 20000 in
theorem gX3_pass_X3_serve : GoodIn wsX3_pass (wsV RX3 126 RX3 yX3_serve wsX3_serve) := goodIn_app (goodIn_of _ (by decide +kernel)) ggX3_pass_X3_serve
theorem dX3_pass_0 : decode cX3_pass 0 = .ok (.aload_n 1, 1) := by decide +kernel
theorem dX3_pass_1 : decode cX3_pass 1 = .ok (.iconst 5, 1) := by decide +kernel
theorem dX3_pass_2 : decode cX3_pass 2 = .ok (.aload_n 0, 1) := by decide +kernel
theorem dX3_pass_3 : decode cX3_pass 3 = .ok (.getfield 13, 3) := by decide +kernel
theorem dX3_pass_6 : decode cX3_pass 6 = .ok (.aload_n 1, 1) := by decide +kernel
theorem dX3_pass_7 : decode cX3_pass 7 = .ok (.getfield 53, 3) := by decide +kernel
theorem dX3_pass_10 : decode cX3_pass 10 = .ok (.bipush 8, 2) := by decide +kernel
theorem dX3_pass_12 : decode cX3_pass 12 = .ok (.irem, 1) := by decide +kernel
theorem dX3_pass_13 : decode cX3_pass 13 = .ok (.iaload, 1) := by decide +kernel
theorem dX3_pass_14 : decode cX3_pass 14 = .ok (.invokevirtual 115, 3) := by decide +kernel
theorem dX3_pass_17 : decode cX3_pass 17 = .ok (.aload_n 0, 1) := by decide +kernel
theorem dX3_pass_18 : decode cX3_pass 18 = .ok (.aload_n 1, 1) := by decide +kernel
theorem dX3_pass_19 : decode cX3_pass 19 = .ok (.invokevirtual 119, 3) := by decide +kernel
theorem dX3_pass_22 : decode cX3_pass 22 = .ok (.iconst 0, 1) := by decide +kernel
theorem dX3_pass_23 : decode cX3_pass 23 = .ok (.istore_n 2, 1) := by decide +kernel
theorem dX3_pass_24 : decode cX3_pass 24 = .ok (.iconst 4, 1) := by decide +kernel
theorem dX3_pass_25 : decode cX3_pass 25 = .ok (.istore_n 3, 1) := by decide +kernel
theorem dX3_pass_26 : decode cX3_pass 26 = .ok (.iload_n 3, 1) := by decide +kernel
theorem dX3_pass_27 : decode cX3_pass 27 = .ok (.ifCond .lt 37, 3) := by decide +kernel
theorem dX3_pass_30 : decode cX3_pass 30 = .ok (.aload_n 0, 1) := by decide +kernel
theorem dX3_pass_31 : decode cX3_pass 31 = .ok (.aload_n 1, 1) := by decide +kernel
theorem dX3_pass_32 : decode cX3_pass 32 = .ok (.iload_n 3, 1) := by decide +kernel
theorem dX3_pass_33 : decode cX3_pass 33 = .ok (.invokevirtual 123, 3) := by decide +kernel
theorem dX3_pass_36 : decode cX3_pass 36 = .ok (.istore 4, 2) := by decide +kernel
theorem dX3_pass_38 : decode cX3_pass 38 = .ok (.iload 4, 2) := by decide +kernel
theorem dX3_pass_40 : decode cX3_pass 40 = .ok (.iconst (-1), 1) := by decide +kernel
theorem dX3_pass_41 : decode cX3_pass 41 = .ok (.if_icmp .ne 6, 3) := by decide +kernel
theorem dX3_pass_44 : decode cX3_pass 44 = .ok (.goto 14, 3) := by decide +kernel
theorem dX3_pass_47 : decode cX3_pass 47 = .ok (.aload_n 0, 1) := by decide +kernel
theorem dX3_pass_48 : decode cX3_pass 48 = .ok (.aload_n 1, 1) := by decide +kernel
theorem dX3_pass_49 : decode cX3_pass 49 = .ok (.iload_n 3, 1) := by decide +kernel
theorem dX3_pass_50 : decode cX3_pass 50 = .ok (.iload 4, 2) := by decide +kernel
theorem dX3_pass_52 : decode cX3_pass 52 = .ok (.invokevirtual 126, 3) := by decide +kernel
theorem dX3_pass_55 : decode cX3_pass 55 = .ok (.iinc 2 1, 3) := by decide +kernel
theorem dX3_pass_58 : decode cX3_pass 58 = .ok (.iinc 3 (-1), 3) := by decide +kernel
theorem dX3_pass_61 : decode cX3_pass 61 = .ok (.goto (-35), 3) := by decide +kernel
theorem dX3_pass_64 : decode cX3_pass 64 = .ok (.aload_n 1, 1) := by decide +kernel
theorem dX3_pass_65 : decode cX3_pass 65 = .ok (.dup, 1) := by decide +kernel
theorem dX3_pass_66 : decode cX3_pass 66 = .ok (.getfield 53, 3) := by decide +kernel
theorem dX3_pass_69 : decode cX3_pass 69 = .ok (.iconst 1, 1) := by decide +kernel
theorem dX3_pass_70 : decode cX3_pass 70 = .ok (.iadd, 1) := by decide +kernel
theorem dX3_pass_71 : decode cX3_pass 71 = .ok (.putfield 53, 3) := by decide +kernel
theorem dX3_pass_74 : decode cX3_pass 74 = .ok (.iload_n 2, 1) := by decide +kernel
theorem dX3_pass_75 : decode cX3_pass 75 = .ok (.ireturn, 1) := by decide +kernel
set_option maxRecDepth 20000 in
theorem ggX3_passAll_X3_pass : GoodIn wsX3_passAll wsX3_pass := goodIn_r _ [5, 6, 7, 8, 9, 10, 11, 12, 13, 14, 15, 16, 17, 18, 19, 20, 21, 4, 22, 23, 24, 25, 26, 27, 28, 29, 30, 31, 32, 33, 34, 35, 36, 37, 38, 39, 40, 41, 42, 43, 44, 45, 46, 47, 48, 49, 50, 51, 52, 53, 54, 55, 56, 57, 58, 59, 60, 61, 62, 63, 64, 65, 66, 67, 68, 69, 70, 71, 72, 73, 74, 75, 76, 77, 78, 79, 80, 81, 82, 83, 84, 85, 86, 87, 88, 89, 90, 91, 92, 93, 94, 95, 96] (by decide +kernel) (by decide +kernel)
set_option maxRecDepth 20000 in
theorem gX3_passAll_X3_pass : GoodIn wsX3_passAll (wsV RX3 130 RX3 yX3_pass wsX3_pass) := goodIn_app (goodIn_of _ (by decide +kernel)) ggX3_passAll_X3_pass
theorem dX3_passAll_0 : decode cX3_passAll 0 = .ok (.iconst 0, 1) := by decide +kernel
theorem dX3_passAll_1 : decode cX3_passAll 1 = .ok (.istore_n 3, 1) := by decide +kernel
theorem dX3_passAll_2 : decode cX3_passAll 2 = .ok (.iconst 0, 1) := by decide +kernel
theorem dX3_passAll_3 : decode cX3_passAll 3 = .ok (.istore 4, 2) := by decide +kernel
theorem dX3_passAll_5 : decode cX3_passAll 5 = .ok (.iload 4, 2) := by decide +kernel
theorem dX3_passAll_7 : decode cX3_passAll 7 = .ok (.iload_n 2, 1) := by decide +kernel
theorem dX3_passAll_8 : decode cX3_passAll 8 = .ok (.if_icmp .ge 17, 3) := by decide +kernel
theorem dX3_passAll_11 : decode cX3_passAll 11 = .ok (.iload_n 3, 1) := by decide +kernel
theorem dX3_passAll_12 : decode cX3_passAll 12 = .ok (.aload_n 0, 1) := by decide +kernel
theorem dX3_passAll_13 : decode cX3_passAll 13 = .ok (.aload_n 1, 1) := by decide +kernel
theorem dX3_passAll_14 : decode cX3_passAll 14 = .ok (.invokevirtual 130, 3) := by decide +kernel
theorem dX3_passAll_17 : decode cX3_passAll 17 = .ok (.iadd, 1) := by decide +kernel
theorem dX3_passAll_18 : decode cX3_passAll 18 = .ok (.istore_n 3, 1) := by decide +kernel
theorem dX3_passAll_19 : decode cX3_passAll 19 = .ok (.iinc 4 1, 3) := by decide +kernel
theorem dX3_passAll_22 : decode cX3_passAll 22 = .ok (.goto (-17), 3) := by decide +kernel
theorem dX3_passAll_25 : decode cX3_passAll 25 = .ok (.iload_n 3, 1) := by decide +kernel
theorem dX3_passAll_26 : decode cX3_passAll 26 = .ok (.ireturn, 1) := by decide +kernel
set_option maxRecDepth 20000 in
theorem ggX3_setSpring_X3_isIn : GoodIn wsX3_setSpring wsX3_isIn := goodIn_r _ [6] (by decide +kernel) (by decide +kernel)
set_option maxRecDepth 20000 in
theorem gX3_setSpring_X3_isIn : GoodIn wsX3_setSpring (va_wsS RX3 39 yX3_isIn wsX3_isIn) := goodIn_app (goodIn_of _ (by decide +kernel)) ggX3_setSpring_X3_isIn
set_option maxRecDepth 20000 in
theorem ggX3_setSpring_X3_no : GoodIn wsX3_setSpring wsX3_no := goodIn_r _ [10, 1, 11, 12, 13, 14, 15, 16, 17, 18, 19] (by decide +kernel) (by decide +kernel)
set_option maxRecDepth 20000 in
theorem gX3_setSpring_X3_no : GoodIn wsX3_setSpring (wsV RX3 134 RX3 yX3_no wsX3_no) := goodIn_app (goodIn_of _ (by decide +kernel)) ggX3_setSpring_X3_no
theorem dX3_setSpring_0 : decode cX3_setSpring 0 = .ok (.aload_n 0, 1) := by decide +kernel
theorem dX3_setSpring_1 : decode cX3_setSpring 1 = .ok (.iconst 0, 1) := by decide +kernel
theorem dX3_setSpring_2 : decode cX3_setSpring 2 = .ok (.putfield 33, 3) := by decide +kernel
theorem dX3_setSpring_5 : decode cX3_setSpring 5 = .ok (.iload_n 1, 1) := by decide +kernel
theorem dX3_setSpring_6 : decode cX3_setSpring 6 = .ok (.iconst 0, 1) := by decide +kernel
theorem dX3_setSpring_7 : decode cX3_setSpring 7 = .ok (.bipush 7, 2) := by decide +kernel
theorem dX3_setSpring_9 : decode cX3_setSpring 9 = .ok (.invokestatic 39, 3) := by decide +kernel
theorem dX3_setSpring_12 : decode cX3_setSpring 12 = .ok (.ifCond .ne 9, 3) := by decide +kernel
theorem dX3_setSpring_15 : decode cX3_setSpring 15 = .ok (.aload_n 0, 1) := by decide +kernel
theorem dX3_setSpring_16 : decode cX3_setSpring 16 = .ok (.iconst 1, 1) := by decide +kernel
theorem dX3_setSpring_17 : decode cX3_setSpring 17 = .ok (.invokevirtual 134, 3) := by decide +kernel
theorem dX3_setSpring_20 : decode cX3_setSpring 20 = .ok (.ireturn, 1) := by decide +kernel
theorem dX3_setSpring_21 : decode cX3_setSpring 21 = .ok (.iload_n 2, 1) := by decide +kernel
theorem dX3_setSpring_22 : decode cX3_setSpring 22 = .ok (.iconst 0, 1) := by decide +kernel
theorem dX3_setSpring_23 : decode cX3_setSpring 23 = .ok (.bipush 30, 2) := by decide +kernel
theorem dX3_setSpring_25 : decode cX3_setSpring 25 = .ok (.invokestatic 39, 3) := by decide +kernel
theorem dX3_setSpring_28 : decode cX3_setSpring 28 = .ok (.ifCond .ne 9, 3) := by decide +kernel
theorem dX3_setSpring_31 : decode cX3_setSpring 31 = .ok (.aload_n 0, 1) := by decide +kernel
theorem dX3_setSpring_32 : decode cX3_setSpring 32 = .ok (.iconst 2, 1) := by decide +kernel
theorem dX3_setSpring_33 : decode cX3_setSpring 33 = .ok (.invokevirtual 134, 3) := by decide +kernel
theorem dX3_setSpring_36 : decode cX3_setSpring 36 = .ok (.ireturn, 1) := by decide +kernel
theorem dX3_setSpring_37 : decode cX3_setSpring 37 = .ok (.aload_n 0, 1) := by decide +kernel
theorem dX3_setSpring_38 : decode cX3_setSpring 38 = .ok (.getfield 13, 3) := by decide +kernel
theorem dX3_setSpring_41 : decode cX3_setSpring 41 = .ok (.iload_n 1, 1) := by decide +kernel
theorem dX3_setSpring_42 : decode cX3_setSpring 42 = .ok (.iaload, 1) := by decide +kernel
theorem dX3_setSpring_43 : decode cX3_setSpring 43 = .ok (.istore_n 3, 1) := by decide +kernel
theorem dX3_setSpring_44 : decode cX3_setSpring 44 = .ok (.aload_n 0, 1) := by decide +kernel
theorem dX3_setSpring_45 : decode cX3_setSpring 45 = .ok (.getfield 13, 3) := by decide +kernel
theorem dX3_setSpring_48 : decode cX3_setSpring 48 = .ok (.iload_n 1, 1) := by decide +kernel
theorem dX3_setSpring_49 : decode cX3_setSpring 49 = .ok (.iload_n 2, 1) := by decide +kernel
theorem dX3_setSpring_50 : decode cX3_setSpring 50 = .ok (.iastore, 1) := by decide +kernel
theorem dX3_setSpring_51 : decode cX3_setSpring 51 = .ok (.iload_n 3, 1) := by decide +kernel
theorem dX3_setSpring_52 : decode cX3_setSpring 52 = .ok (.ireturn, 1) := by decide +kernel
set_option maxRecDepth 20000 in
theorem ggX3_setMill_X3_isIn : GoodIn wsX3_setMill wsX3_isIn := goodIn_r _ [7] (by decide +kernel) (by decide +kernel)
set_option maxRecDepth 20000 in
theorem gX3_setMill_X3_isIn : GoodIn wsX3_setMill (va_wsS RX3 39 yX3_isIn wsX3_isIn) := goodIn_app (goodIn_of _ (by decide +kernel)) ggX3_setMill_X3_isIn
set_option maxRecDepth 20000 in
theorem ggX3_setMill_X3_no : GoodIn wsX3_setMill wsX3_no := goodIn_r _ [11, 1, 12, 13, 14, 15, 16, 17, 18, 19, 20] (by decide +kernel) (by decide +kernel)
set_option maxRecDepth 20000 in
theorem gX3_setMill_X3_no : GoodIn wsX3_setMill (wsV RX3 134 RX3 yX3_no wsX3_no) := goodIn_app (goodIn_of _ (by decide +kernel)) ggX3_setMill_X3_no
theorem dX3_setMill_0 : decode cX3_setMill 0 = .ok (.aload_n 0, 1) := by decide +kernel
theorem dX3_setMill_1 : decode cX3_setMill 1 = .ok (.iconst 0, 1) := by decide +kernel
theorem dX3_setMill_2 : decode cX3_setMill 2 = .ok (.putfield 33, 3) := by decide +kernel
theorem dX3_setMill_5 : decode cX3_setMill 5 = .ok (.iload_n 1, 1) := by decide +kernel
theorem dX3_setMill_6 : decode cX3_setMill 6 = .ok (.iconst (-1), 1) := by decide +kernel
theorem dX3_setMill_7 : decode cX3_setMill 7 = .ok (.iconst 5, 1) := by decide +kernel
theorem dX3_setMill_8 : decode cX3_setMill 8 = .ok (.invokestatic 39, 3) := by decide +kernel
theorem dX3_setMill_11 : decode cX3_setMill 11 = .ok (.ifCond .ne 9, 3) := by decide +kernel
theorem dX3_setMill_14 : decode cX3_setMill 14 = .ok (.aload_n 0, 1) := by decide +kernel
theorem dX3_setMill_15 : decode cX3_setMill 15 = .ok (.iconst 1, 1) := by decide +kernel
theorem dX3_setMill_16 : decode cX3_setMill 16 = .ok (.invokevirtual 134, 3) := by decide +kernel
theorem dX3_setMill_19 : decode cX3_setMill 19 = .ok (.ireturn, 1) := by decide +kernel
theorem dX3_setMill_20 : decode cX3_setMill 20 = .ok (.iload_n 2, 1) := by decide +kernel
theorem dX3_setMill_21 : decode cX3_setMill 21 = .ok (.iconst 0, 1) := by decide +kernel
theorem dX3_setMill_22 : decode cX3_setMill 22 = .ok (.bipush 100, 2) := by decide +kernel
theorem dX3_setMill_24 : decode cX3_setMill 24 = .ok (.invokestatic 39, 3) := by decide +kernel
theorem dX3_setMill_27 : decode cX3_setMill 27 = .ok (.ifCond .ne 9, 3) := by decide +kernel
theorem dX3_setMill_30 : decode cX3_setMill 30 = .ok (.aload_n 0, 1) := by decide +kernel
theorem dX3_setMill_31 : decode cX3_setMill 31 = .ok (.iconst 2, 1) := by decide +kernel
theorem dX3_setMill_32 : decode cX3_setMill 32 = .ok (.invokevirtual 134, 3) := by decide +kernel
theorem dX3_setMill_35 : decode cX3_setMill 35 = .ok (.ireturn, 1) := by decide +kernel
theorem dX3_setMill_36 : decode cX3_setMill 36 = .ok (.aload_n 0, 1) := by decide +kernel
theorem dX3_setMill_37 : decode cX3_setMill 37 = .ok (.getfield 26, 3) := by decide +kernel
theorem dX3_setMill_40 : decode cX3_setMill 40 = .ok (.getfield 103, 3) := by decide +kernel
theorem dX3_setMill_43 : decode cX3_setMill 43 = .ok (.istore_n 3, 1) := by decide +kernel
theorem dX3_setMill_44 : decode cX3_setMill 44 = .ok (.aload_n 0, 1) := by decide +kernel
theorem dX3_setMill_45 : decode cX3_setMill 45 = .ok (.iload_n 1, 1) := by decide +kernel
theorem dX3_setMill_46 : decode cX3_setMill 46 = .ok (.putfield 16, 3) := by decide +kernel
theorem dX3_setMill_49 : decode cX3_setMill 49 = .ok (.aload_n 0, 1) := by decide +kernel
theorem dX3_setMill_50 : decode cX3_setMill 50 = .ok (.getfield 26, 3) := by decide +kernel
theorem dX3_setMill_53 : decode cX3_setMill 53 = .ok (.iload_n 2, 1) := by decide +kernel
theorem dX3_setMill_54 : decode cX3_setMill 54 = .ok (.putfield 103, 3) := by decide +kernel
theorem dX3_setMill_57 : decode cX3_setMill 57 = .ok (.iload_n 3, 1) := by decide +kernel
theorem dX3_setMill_58 : decode cX3_setMill 58 = .ok (.ireturn, 1) := by decide +kernel
theorem dX3_setDrought_0 : decode cX3_setDrought 0 = .ok (.aload_n 0, 1) := by decide +kernel
theorem dX3_setDrought_1 : decode cX3_setDrought 1 = .ok (.iconst 0, 1) := by decide +kernel
theorem dX3_setDrought_2 : decode cX3_setDrought 2 = .ok (.putfield 33, 3) := by decide +kernel
theorem dX3_setDrought_5 : decode cX3_setDrought 5 = .ok (.aload_n 0, 1) := by decide +kernel
theorem dX3_setDrought_6 : decode cX3_setDrought 6 = .ok (.getfield 66, 3) := by decide +kernel
theorem dX3_setDrought_9 : decode cX3_setDrought 9 = .ok (.istore_n 2, 1) := by decide +kernel
theorem dX3_setDrought_10 : decode cX3_setDrought 10 = .ok (.aload_n 0, 1) := by decide +kernel
theorem dX3_setDrought_11 : decode cX3_setDrought 11 = .ok (.iload_n 1, 1) := by decide +kernel
theorem dX3_setDrought_12 : decode cX3_setDrought 12 = .ok (.putfield 66, 3) := by decide +kernel
theorem dX3_setDrought_15 : decode cX3_setDrought 15 = .ok (.iload_n 2, 1) := by decide +kernel
theorem dX3_setDrought_16 : decode cX3_setDrought 16 = .ok (.ireturn, 1) := by decide +kernel
set_option maxRecDepth 20000 in
theorem ggX3_setFee_X3_isIn : GoodIn wsX3_setFee wsX3_isIn := goodIn_r _ [6] (by decide +kernel) (by decide +kernel)
set_option maxRecDepth 20000 in
theorem gX3_setFee_X3_isIn : GoodIn wsX3_setFee (va_wsS RX3 39 yX3_isIn wsX3_isIn) := goodIn_app (goodIn_of _ (by decide +kernel)) ggX3_setFee_X3_isIn
set_option maxRecDepth 20000 in
theorem ggX3_setFee_X3_no : GoodIn wsX3_setFee wsX3_no := goodIn_r _ [10, 1, 11, 12, 13, 14, 15, 16, 17, 18, 19] (by decide +kernel) (by decide +kernel)
set_option maxRecDepth 20000 in
theorem gX3_setFee_X3_no : GoodIn wsX3_setFee (wsV RX3 134 RX3 yX3_no wsX3_no) := goodIn_app (goodIn_of _ (by decide +kernel)) ggX3_setFee_X3_no
theorem dX3_setFee_0 : decode cX3_setFee 0 = .ok (.aload_n 0, 1) := by decide +kernel
theorem dX3_setFee_1 : decode cX3_setFee 1 = .ok (.iconst 0, 1) := by decide +kernel
theorem dX3_setFee_2 : decode cX3_setFee 2 = .ok (.putfield 33, 3) := by decide +kernel
theorem dX3_setFee_5 : decode cX3_setFee 5 = .ok (.iload_n 1, 1) := by decide +kernel
theorem dX3_setFee_6 : decode cX3_setFee 6 = .ok (.iconst 0, 1) := by decide +kernel
theorem dX3_setFee_7 : decode cX3_setFee 7 = .ok (.bipush 20, 2) := by decide +kernel
theorem dX3_setFee_9 : decode cX3_setFee 9 = .ok (.invokestatic 39, 3) := by decide +kernel
theorem dX3_setFee_12 : decode cX3_setFee 12 = .ok (.ifCond .ne 9, 3) := by decide +kernel
theorem dX3_setFee_15 : decode cX3_setFee 15 = .ok (.aload_n 0, 1) := by decide +kernel
theorem dX3_setFee_16 : decode cX3_setFee 16 = .ok (.iconst 1, 1) := by decide +kernel
theorem dX3_setFee_17 : decode cX3_setFee 17 = .ok (.invokevirtual 134, 3) := by decide +kernel
theorem dX3_setFee_20 : decode cX3_setFee 20 = .ok (.ireturn, 1) := by decide +kernel
theorem dX3_setFee_21 : decode cX3_setFee 21 = .ok (.aload_n 0, 1) := by decide +kernel
theorem dX3_setFee_22 : decode cX3_setFee 22 = .ok (.getfield 20, 3) := by decide +kernel
theorem dX3_setFee_25 : decode cX3_setFee 25 = .ok (.istore_n 2, 1) := by decide +kernel
theorem dX3_setFee_26 : decode cX3_setFee 26 = .ok (.aload_n 0, 1) := by decide +kernel
theorem dX3_setFee_27 : decode cX3_setFee 27 = .ok (.iload_n 1, 1) := by decide +kernel
theorem dX3_setFee_28 : decode cX3_setFee 28 = .ok (.putfield 20, 3) := by decide +kernel
theorem dX3_setFee_31 : decode cX3_setFee 31 = .ok (.iload_n 2, 1) := by decide +kernel
theorem dX3_setFee_32 : decode cX3_setFee 32 = .ok (.ireturn, 1) := by decide +kernel
set_option maxRecDepth 20000 in
theorem ggX3_water_X3_isIn : GoodIn wsX3_water wsX3_isIn := goodIn_r _ [6] (by decide +kernel) (by decide +kernel)
set_option maxRecDepth 20000 in
theorem gX3_water_X3_isIn : GoodIn wsX3_water (va_wsS RX3 39 yX3_isIn wsX3_isIn) := goodIn_app (goodIn_of _ (by decide +kernel)) ggX3_water_X3_isIn
set_option maxRecDepth 20000 in
theorem ggX3_water_X3_no : GoodIn wsX3_water wsX3_no := goodIn_r _ [10, 1, 23, 24, 25, 26, 27, 28, 29, 30, 31] (by decide +kernel) (by decide +kernel)
set_option maxRecDepth 20000 in
theorem gX3_water_X3_no : GoodIn wsX3_water (wsV RX3 134 RX3 yX3_no wsX3_no) := goodIn_app (goodIn_of _ (by decide +kernel)) ggX3_water_X3_no
set_option maxRecDepth 20000 in
theorem ggX3_water_X2_pour : GoodIn wsX3_water wsX2_pour := goodIn_r _ [15, 16, 17, 18, 19, 20, 21, 22, 32, 33, 34, 35, 36, 37, 38, 39, 40, 41, 42, 43, 44, 45] (by decide +kernel) (by decide +kernel)
set_option maxRecDepth 20000 in
theorem gX3_water_X2_pour : GoodIn wsX3_water (wsV RX3 115 RX2 yX2_pour wsX2_pour) := goodIn_app (goodIn_of _ (by decide +kernel)) ggX3_water_X2_pour
theorem dX3_water_0 : decode cX3_water 0 = .ok (.aload_n 0, 1) := by decide +kernel
theorem dX3_water_1 : decode cX3_water 1 = .ok (.iconst 0, 1) := by decide +kernel
theorem dX3_water_2 : decode cX3_water 2 = .ok (.putfield 33, 3) := by decide +kernel
theorem dX3_water_5 : decode cX3_water 5 = .ok (.iload_n 1, 1) := by decide +kernel
theorem dX3_water_6 : decode cX3_water 6 = .ok (.iconst 0, 1) := by decide +kernel
theorem dX3_water_7 : decode cX3_water 7 = .ok (.iconst 5, 1) := by decide +kernel
theorem dX3_water_8 : decode cX3_water 8 = .ok (.invokestatic 39, 3) := by decide +kernel
theorem dX3_water_11 : decode cX3_water 11 = .ok (.ifCond .ne 9, 3) := by decide +kernel
theorem dX3_water_14 : decode cX3_water 14 = .ok (.aload_n 0, 1) := by decide +kernel
theorem dX3_water_15 : decode cX3_water 15 = .ok (.iconst 1, 1) := by decide +kernel
theorem dX3_water_16 : decode cX3_water 16 = .ok (.invokevirtual 134, 3) := by decide +kernel
theorem dX3_water_19 : decode cX3_water 19 = .ok (.ireturn, 1) := by decide +kernel
theorem dX3_water_20 : decode cX3_water 20 = .ok (.iload_n 2, 1) := by decide +kernel
theorem dX3_water_21 : decode cX3_water 21 = .ok (.iconst 1, 1) := by decide +kernel
theorem dX3_water_22 : decode cX3_water 22 = .ok (.bipush 60, 2) := by decide +kernel
theorem dX3_water_24 : decode cX3_water 24 = .ok (.invokestatic 39, 3) := by decide +kernel
theorem dX3_water_27 : decode cX3_water 27 = .ok (.ifCond .ne 9, 3) := by decide +kernel
theorem dX3_water_30 : decode cX3_water 30 = .ok (.aload_n 0, 1) := by decide +kernel
theorem dX3_water_31 : decode cX3_water 31 = .ok (.iconst 2, 1) := by decide +kernel
theorem dX3_water_32 : decode cX3_water 32 = .ok (.invokevirtual 134, 3) := by decide +kernel
theorem dX3_water_35 : decode cX3_water 35 = .ok (.ireturn, 1) := by decide +kernel
theorem dX3_water_36 : decode cX3_water 36 = .ok (.iload_n 2, 1) := by decide +kernel
theorem dX3_water_37 : decode cX3_water 37 = .ok (.iconst 1, 1) := by decide +kernel
theorem dX3_water_38 : decode cX3_water 38 = .ok (.iadd, 1) := by decide +kernel
theorem dX3_water_39 : decode cX3_water 39 = .ok (.iconst 2, 1) := by decide +kernel
theorem dX3_water_40 : decode cX3_water 40 = .ok (.idiv, 1) := by decide +kernel
theorem dX3_water_41 : decode cX3_water 41 = .ok (.istore_n 3, 1) := by decide +kernel
theorem dX3_water_42 : decode cX3_water 42 = .ok (.aload_n 0, 1) := by decide +kernel
theorem dX3_water_43 : decode cX3_water 43 = .ok (.getfield 26, 3) := by decide +kernel
theorem dX3_water_46 : decode cX3_water 46 = .ok (.getfield 91, 3) := by decide +kernel
theorem dX3_water_49 : decode cX3_water 49 = .ok (.iload_n 3, 1) := by decide +kernel
theorem dX3_water_50 : decode cX3_water 50 = .ok (.if_icmp .ge 9, 3) := by decide +kernel
theorem dX3_water_53 : decode cX3_water 53 = .ok (.aload_n 0, 1) := by decide +kernel
theorem dX3_water_54 : decode cX3_water 54 = .ok (.iconst 3, 1) := by decide +kernel
theorem dX3_water_55 : decode cX3_water 55 = .ok (.invokevirtual 134, 3) := by decide +kernel
theorem dX3_water_58 : decode cX3_water 58 = .ok (.ireturn, 1) := by decide +kernel
theorem dX3_water_59 : decode cX3_water 59 = .ok (.aload_n 0, 1) := by decide +kernel
theorem dX3_water_60 : decode cX3_water 60 = .ok (.getfield 26, 3) := by decide +kernel
theorem dX3_water_63 : decode cX3_water 63 = .ok (.dup, 1) := by decide +kernel
theorem dX3_water_64 : decode cX3_water 64 = .ok (.getfield 91, 3) := by decide +kernel
theorem dX3_water_67 : decode cX3_water 67 = .ok (.iload_n 3, 1) := by decide +kernel
theorem dX3_water_68 : decode cX3_water 68 = .ok (.isub, 1) := by decide +kernel
theorem dX3_water_69 : decode cX3_water 69 = .ok (.putfield 91, 3) := by decide +kernel
theorem dX3_water_72 : decode cX3_water 72 = .ok (.aload_n 0, 1) := by decide +kernel
theorem dX3_water_73 : decode cX3_water 73 = .ok (.getfield 26, 3) := by decide +kernel
theorem dX3_water_76 : decode cX3_water 76 = .ok (.iload_n 1, 1) := by decide +kernel
theorem dX3_water_77 : decode cX3_water 77 = .ok (.iload_n 2, 1) := by decide +kernel
theorem dX3_water_78 : decode cX3_water 78 = .ok (.invokevirtual 115, 3) := by decide +kernel
theorem dX3_water_81 : decode cX3_water 81 = .ok (.aload_n 0, 1) := by decide +kernel
theorem dX3_water_82 : decode cX3_water 82 = .ok (.getfield 26, 3) := by decide +kernel
theorem dX3_water_85 : decode cX3_water 85 = .ok (.getfield 91, 3) := by decide +kernel
theorem dX3_water_88 : decode cX3_water 88 = .ok (.ireturn, 1) := by decide +kernel
set_option maxRecDepth 20000 in
theorem ggX3_work_X3_isIn : GoodIn wsX3_work wsX3_isIn := goodIn_r _ [6] (by decide +kernel) (by decide +kernel)
set_option maxRecDepth 20000 in
theorem gX3_work_X3_isIn : GoodIn wsX3_work (va_wsS RX3 39 yX3_isIn wsX3_isIn) := goodIn_app (goodIn_of _ (by decide +kernel)) ggX3_work_X3_isIn
set_option maxRecDepth 20000 in
theorem ggX3_work_X2_canFill : GoodIn wsX3_work wsX2_canFill := goodIn_r _ [11, 12, 42, 43, 44, 45, 46, 47, 48, 49, 50, 51, 52, 53, 54, 55] (by decide +kernel) (by decide +kernel)
set_option maxRecDepth 20000 in
theorem gX3_work_X2_canFill : GoodIn wsX3_work (wsV RX3 74 RX2 yX2_canFill wsX2_canFill) := goodIn_app (goodIn_of _ (by decide +kernel)) ggX3_work_X2_canFill
set_option maxRecDepth 20000 in
theorem ggX3_work_X2_empty : GoodIn wsX3_work wsX2_empty := goodIn_r _ [16, 17, 18, 19, 20, 10, 21, 12, 22, 23, 24, 25, 26, 27, 42, 43, 44, 45, 46, 47, 48, 49, 50, 51, 52, 53, 54, 55] (by decide +kernel) (by decide +kernel)
set_option maxRecDepth 20000 in
theorem gX3_work_X2_empty : GoodIn wsX3_work (wsV RX3 88 RX2 yX2_empty wsX2_empty) := goodIn_app (goodIn_of _ (by decide +kernel)) ggX3_work_X2_empty
set_option maxRecDepth 20000 in
theorem ggX3_work_X2_fill : GoodIn wsX3_work wsX2_fill := goodIn_r _ [31, 12, 32, 17, 42, 43, 44, 45, 46, 47, 48, 49, 50, 51, 52, 53, 54, 55] (by decide +kernel) (by decide +kernel)
set_option maxRecDepth 20000 in
theorem gX3_work_X2_fill : GoodIn wsX3_work (wsV RX3 84 RX2 yX2_fill wsX2_fill) := goodIn_app (goodIn_of _ (by decide +kernel)) ggX3_work_X2_fill
theorem dX3_work_0 : decode cX3_work 0 = .ok (.aload_n 0, 1) := by decide +kernel
theorem dX3_work_1 : decode cX3_work 1 = .ok (.iload_n 1, 1) := by decide +kernel
theorem dX3_work_2 : decode cX3_work 2 = .ok (.iconst 0, 1) := by decide +kernel
theorem dX3_work_3 : decode cX3_work 3 = .ok (.iconst 4, 1) := by decide +kernel
theorem dX3_work_4 : decode cX3_work 4 = .ok (.invokestatic 39, 3) := by decide +kernel
theorem dX3_work_7 : decode cX3_work 7 = .ok (.ifCond .ne 7, 3) := by decide +kernel
theorem dX3_work_10 : decode cX3_work 10 = .ok (.iconst 1, 1) := by decide +kernel
theorem dX3_work_11 : decode cX3_work 11 = .ok (.goto 31, 3) := by decide +kernel
theorem dX3_work_14 : decode cX3_work 14 = .ok (.aload_n 0, 1) := by decide +kernel
theorem dX3_work_15 : decode cX3_work 15 = .ok (.getfield 26, 3) := by decide +kernel
theorem dX3_work_18 : decode cX3_work 18 = .ok (.getfield 60, 3) := by decide +kernel
theorem dX3_work_21 : decode cX3_work 21 = .ok (.iload_n 1, 1) := by decide +kernel
theorem dX3_work_22 : decode cX3_work 22 = .ok (.iaload, 1) := by decide +kernel
theorem dX3_work_23 : decode cX3_work 23 = .ok (.ifCond .ne 18, 3) := by decide +kernel
theorem dX3_work_26 : decode cX3_work 26 = .ok (.aload_n 0, 1) := by decide +kernel
theorem dX3_work_27 : decode cX3_work 27 = .ok (.getfield 26, 3) := by decide +kernel
theorem dX3_work_30 : decode cX3_work 30 = .ok (.iload_n 1, 1) := by decide +kernel
theorem dX3_work_31 : decode cX3_work 31 = .ok (.invokevirtual 74, 3) := by decide +kernel
theorem dX3_work_34 : decode cX3_work 34 = .ok (.ifCond .ne 7, 3) := by decide +kernel
theorem dX3_work_37 : decode cX3_work 37 = .ok (.iconst 2, 1) := by decide +kernel
theorem dX3_work_38 : decode cX3_work 38 = .ok (.goto 4, 3) := by decide +kernel
theorem dX3_work_41 : decode cX3_work 41 = .ok (.iconst 0, 1) := by decide +kernel
theorem dX3_work_42 : decode cX3_work 42 = .ok (.putfield 33, 3) := by decide +kernel
theorem dX3_work_45 : decode cX3_work 45 = .ok (.aload_n 0, 1) := by decide +kernel
theorem dX3_work_46 : decode cX3_work 46 = .ok (.getfield 33, 3) := by decide +kernel
theorem dX3_work_49 : decode cX3_work 49 = .ok (.ifCond .le 5, 3) := by decide +kernel
theorem dX3_work_52 : decode cX3_work 52 = .ok (.iconst 0, 1) := by decide +kernel
theorem dX3_work_53 : decode cX3_work 53 = .ok (.ireturn, 1) := by decide +kernel
theorem dX3_work_54 : decode cX3_work 54 = .ok (.aload_n 0, 1) := by decide +kernel
theorem dX3_work_55 : decode cX3_work 55 = .ok (.getfield 26, 3) := by decide +kernel
theorem dX3_work_58 : decode cX3_work 58 = .ok (.getfield 60, 3) := by decide +kernel
theorem dX3_work_61 : decode cX3_work 61 = .ok (.iload_n 1, 1) := by decide +kernel
theorem dX3_work_62 : decode cX3_work 62 = .ok (.iaload, 1) := by decide +kernel
theorem dX3_work_63 : decode cX3_work 63 = .ok (.iconst 1, 1) := by decide +kernel
theorem dX3_work_64 : decode cX3_work 64 = .ok (.if_icmp .ne 14, 3) := by decide +kernel
theorem dX3_work_67 : decode cX3_work 67 = .ok (.aload_n 0, 1) := by decide +kernel
theorem dX3_work_68 : decode cX3_work 68 = .ok (.getfield 26, 3) := by decide +kernel
theorem dX3_work_71 : decode cX3_work 71 = .ok (.iload_n 1, 1) := by decide +kernel
theorem dX3_work_72 : decode cX3_work 72 = .ok (.invokevirtual 88, 3) := by decide +kernel
theorem dX3_work_75 : decode cX3_work 75 = .ok (.goto 11, 3) := by decide +kernel
theorem dX3_work_78 : decode cX3_work 78 = .ok (.aload_n 0, 1) := by decide +kernel
theorem dX3_work_79 : decode cX3_work 79 = .ok (.getfield 26, 3) := by decide +kernel
theorem dX3_work_82 : decode cX3_work 82 = .ok (.iload_n 1, 1) := by decide +kernel
theorem dX3_work_83 : decode cX3_work 83 = .ok (.invokevirtual 84, 3) := by decide +kernel
theorem dX3_work_86 : decode cX3_work 86 = .ok (.aload_n 0, 1) := by decide +kernel
theorem dX3_work_87 : decode cX3_work 87 = .ok (.getfield 26, 3) := by decide +kernel
theorem dX3_work_90 : decode cX3_work 90 = .ok (.getfield 60, 3) := by decide +kernel
theorem dX3_work_93 : decode cX3_work 93 = .ok (.iload_n 1, 1) := by decide +kernel
theorem dX3_work_94 : decode cX3_work 94 = .ok (.iaload, 1) := by decide +kernel
theorem dX3_work_95 : decode cX3_work 95 = .ok (.iconst 1, 1) := by decide +kernel
theorem dX3_work_96 : decode cX3_work 96 = .ok (.if_icmp .ne 7, 3) := by decide +kernel
theorem dX3_work_99 : decode cX3_work 99 = .ok (.iconst 1, 1) := by decide +kernel
theorem dX3_work_100 : decode cX3_work 100 = .ok (.goto 4, 3) := by decide +kernel
theorem dX3_work_103 : decode cX3_work 103 = .ok (.iconst 0, 1) := by decide +kernel
theorem dX3_work_104 : decode cX3_work 104 = .ok (.ireturn, 1) := by decide +kernel
set_option maxRecDepth 20000 in
theorem ggX3_barge_X3_isIn : GoodIn wsX3_barge wsX3_isIn := goodIn_r _ [8] (by decide +kernel) (by decide +kernel)
set_option maxRecDepth 20000 in
theorem gX3_barge_X3_isIn : GoodIn wsX3_barge (va_wsS RX3 39 yX3_isIn wsX3_isIn) := goodIn_app (goodIn_of _ (by decide +kernel)) ggX3_barge_X3_isIn
set_option maxRecDepth 20000 in
theorem ggX3_barge_X3_no : GoodIn wsX3_barge wsX3_no := goodIn_r _ [12, 1, 13, 14, 15, 16, 17, 18, 19, 20, 21] (by decide +kernel) (by decide +kernel)
set_option maxRecDepth 20000 in
theorem gX3_barge_X3_no : GoodIn wsX3_barge (wsV RX3 134 RX3 yX3_no wsX3_no) := goodIn_app (goodIn_of _ (by decide +kernel)) ggX3_barge_X3_no
theorem dX3_barge_0 : decode cX3_barge 0 = .ok (.aload_n 0, 1) := by decide +kernel
theorem dX3_barge_1 : decode cX3_barge 1 = .ok (.iconst 0, 1) := by decide +kernel
theorem dX3_barge_2 : decode cX3_barge 2 = .ok (.putfield 33, 3) := by decide +kernel
theorem dX3_barge_5 : decode cX3_barge 5 = .ok (.iload_n 1, 1) := by decide +kernel
theorem dX3_barge_6 : decode cX3_barge 6 = .ok (.iconst 0, 1) := by decide +kernel
theorem dX3_barge_7 : decode cX3_barge 7 = .ok (.iconst 5, 1) := by decide +kernel
theorem dX3_barge_8 : decode cX3_barge 8 = .ok (.invokestatic 39, 3) := by decide +kernel
theorem dX3_barge_11 : decode cX3_barge 11 = .ok (.ifCond .eq 12, 3) := by decide +kernel
theorem dX3_barge_14 : decode cX3_barge 14 = .ok (.iload_n 2, 1) := by decide +kernel
theorem dX3_barge_15 : decode cX3_barge 15 = .ok (.iconst 0, 1) := by decide +kernel
theorem dX3_barge_16 : decode cX3_barge 16 = .ok (.iconst 5, 1) := by decide +kernel
theorem dX3_barge_17 : decode cX3_barge 17 = .ok (.invokestatic 39, 3) := by decide +kernel
theorem dX3_barge_20 : decode cX3_barge 20 = .ok (.ifCond .ne 9, 3) := by decide +kernel
theorem dX3_barge_23 : decode cX3_barge 23 = .ok (.aload_n 0, 1) := by decide +kernel
theorem dX3_barge_24 : decode cX3_barge 24 = .ok (.iconst 1, 1) := by decide +kernel
theorem dX3_barge_25 : decode cX3_barge 25 = .ok (.invokevirtual 134, 3) := by decide +kernel
theorem dX3_barge_28 : decode cX3_barge 28 = .ok (.ireturn, 1) := by decide +kernel
theorem dX3_barge_29 : decode cX3_barge 29 = .ok (.iload_n 3, 1) := by decide +kernel
theorem dX3_barge_30 : decode cX3_barge 30 = .ok (.iconst 0, 1) := by decide +kernel
theorem dX3_barge_31 : decode cX3_barge 31 = .ok (.bipush 99, 2) := by decide +kernel
theorem dX3_barge_33 : decode cX3_barge 33 = .ok (.invokestatic 39, 3) := by decide +kernel
theorem dX3_barge_36 : decode cX3_barge 36 = .ok (.ifCond .ne 9, 3) := by decide +kernel
theorem dX3_barge_39 : decode cX3_barge 39 = .ok (.aload_n 0, 1) := by decide +kernel
theorem dX3_barge_40 : decode cX3_barge 40 = .ok (.iconst 2, 1) := by decide +kernel
theorem dX3_barge_41 : decode cX3_barge 41 = .ok (.invokevirtual 134, 3) := by decide +kernel
theorem dX3_barge_44 : decode cX3_barge 44 = .ok (.ireturn, 1) := by decide +kernel
theorem dX3_barge_45 : decode cX3_barge 45 = .ok (.aload_n 0, 1) := by decide +kernel
theorem dX3_barge_46 : decode cX3_barge 46 = .ok (.getfield 36, 3) := by decide +kernel
theorem dX3_barge_49 : decode cX3_barge 49 = .ok (.bipush 10, 2) := by decide +kernel
theorem dX3_barge_51 : decode cX3_barge 51 = .ok (.if_icmp .ne 9, 3) := by decide +kernel
theorem dX3_barge_54 : decode cX3_barge 54 = .ok (.aload_n 0, 1) := by decide +kernel
theorem dX3_barge_55 : decode cX3_barge 55 = .ok (.iconst 3, 1) := by decide +kernel
theorem dX3_barge_56 : decode cX3_barge 56 = .ok (.invokevirtual 134, 3) := by decide +kernel
theorem dX3_barge_59 : decode cX3_barge 59 = .ok (.ireturn, 1) := by decide +kernel
theorem dX3_barge_60 : decode cX3_barge 60 = .ok (.aload_n 0, 1) := by decide +kernel
theorem dX3_barge_61 : decode cX3_barge 61 = .ok (.getfield 26, 3) := by decide +kernel
theorem dX3_barge_64 : decode cX3_barge 64 = .ok (.getfield 43, 3) := by decide +kernel
theorem dX3_barge_67 : decode cX3_barge 67 = .ok (.aload_n 0, 1) := by decide +kernel
theorem dX3_barge_68 : decode cX3_barge 68 = .ok (.getfield 36, 3) := by decide +kernel
theorem dX3_barge_71 : decode cX3_barge 71 = .ok (.iload_n 1, 1) := by decide +kernel
theorem dX3_barge_72 : decode cX3_barge 72 = .ok (.iastore, 1) := by decide +kernel
theorem dX3_barge_73 : decode cX3_barge 73 = .ok (.aload_n 0, 1) := by decide +kernel
theorem dX3_barge_74 : decode cX3_barge 74 = .ok (.getfield 26, 3) := by decide +kernel
theorem dX3_barge_77 : decode cX3_barge 77 = .ok (.getfield 63, 3) := by decide +kernel
theorem dX3_barge_80 : decode cX3_barge 80 = .ok (.aload_n 0, 1) := by decide +kernel
theorem dX3_barge_81 : decode cX3_barge 81 = .ok (.getfield 36, 3) := by decide +kernel
theorem dX3_barge_84 : decode cX3_barge 84 = .ok (.iload_n 3, 1) := by decide +kernel
theorem dX3_barge_85 : decode cX3_barge 85 = .ok (.iastore, 1) := by decide +kernel
theorem dX3_barge_86 : decode cX3_barge 86 = .ok (.aload_n 0, 1) := by decide +kernel
theorem dX3_barge_87 : decode cX3_barge 87 = .ok (.getfield 9, 3) := by decide +kernel
theorem dX3_barge_90 : decode cX3_barge 90 = .ok (.aload_n 0, 1) := by decide +kernel
theorem dX3_barge_91 : decode cX3_barge 91 = .ok (.getfield 36, 3) := by decide +kernel
theorem dX3_barge_94 : decode cX3_barge 94 = .ok (.iload_n 2, 1) := by decide +kernel
theorem dX3_barge_95 : decode cX3_barge 95 = .ok (.iastore, 1) := by decide +kernel
theorem dX3_barge_96 : decode cX3_barge 96 = .ok (.aload_n 0, 1) := by decide +kernel
theorem dX3_barge_97 : decode cX3_barge 97 = .ok (.dup, 1) := by decide +kernel
theorem dX3_barge_98 : decode cX3_barge 98 = .ok (.getfield 36, 3) := by decide +kernel
theorem dX3_barge_101 : decode cX3_barge 101 = .ok (.iconst 1, 1) := by decide +kernel
theorem dX3_barge_102 : decode cX3_barge 102 = .ok (.iadd, 1) := by decide +kernel
theorem dX3_barge_103 : decode cX3_barge 103 = .ok (.putfield 36, 3) := by decide +kernel
theorem dX3_barge_106 : decode cX3_barge 106 = .ok (.aload_n 0, 1) := by decide +kernel
theorem dX3_barge_107 : decode cX3_barge 107 = .ok (.getfield 36, 3) := by decide +kernel
theorem dX3_barge_110 : decode cX3_barge 110 = .ok (.iconst 1, 1) := by decide +kernel
theorem dX3_barge_111 : decode cX3_barge 111 = .ok (.isub, 1) := by decide +kernel
theorem dX3_barge_112 : decode cX3_barge 112 = .ok (.ireturn, 1) := by decide +kernel
set_option maxRecDepth 20000 in
theorem ggX3_send_X3_isBarge : GoodIn wsX3_send wsX3_isBarge := goodIn_r _ [7, 8, 9, 10, 6, 11, 16, 17, 18, 19, 20, 21, 22, 23, 24] (by decide +kernel) (by decide +kernel)
set_option maxRecDepth 20000 in
theorem gX3_send_X3_isBarge : GoodIn wsX3_send (wsV RX3 138 RX3 yX3_isBarge wsX3_isBarge) := goodIn_app (goodIn_of _ (by decide +kernel)) ggX3_send_X3_isBarge
set_option maxRecDepth 20000 in
theorem ggX3_send_X3_isIn : GoodIn wsX3_send wsX3_isIn := goodIn_r _ [11] (by decide +kernel) (by decide +kernel)
set_option maxRecDepth 20000 in
theorem gX3_send_X3_isIn : GoodIn wsX3_send (va_wsS RX3 39 yX3_isIn wsX3_isIn) := goodIn_app (goodIn_of _ (by decide +kernel)) ggX3_send_X3_isIn
set_option maxRecDepth 20000 in
theorem ggX3_send_X3_no : GoodIn wsX3_send wsX3_no := goodIn_r _ [15, 1, 16, 17, 18, 19, 20, 21, 22, 23, 24] (by decide +kernel) (by decide +kernel)
set_option maxRecDepth 20000 in
theorem gX3_send_X3_no : GoodIn wsX3_send (wsV RX3 134 RX3 yX3_no wsX3_no) := goodIn_app (goodIn_of _ (by decide +kernel)) ggX3_send_X3_no
theorem dX3_send_0 : decode cX3_send 0 = .ok (.aload_n 0, 1) := by decide +kernel
theorem dX3_send_1 : decode cX3_send 1 = .ok (.iconst 0, 1) := by decide +kernel
theorem dX3_send_2 : decode cX3_send 2 = .ok (.putfield 33, 3) := by decide +kernel
theorem dX3_send_5 : decode cX3_send 5 = .ok (.aload_n 0, 1) := by decide +kernel
theorem dX3_send_6 : decode cX3_send 6 = .ok (.iload_n 1, 1) := by decide +kernel
theorem dX3_send_7 : decode cX3_send 7 = .ok (.invokevirtual 138, 3) := by decide +kernel
theorem dX3_send_10 : decode cX3_send 10 = .ok (.ifCond .eq 12, 3) := by decide +kernel
theorem dX3_send_13 : decode cX3_send 13 = .ok (.iload_n 2, 1) := by decide +kernel
theorem dX3_send_14 : decode cX3_send 14 = .ok (.iconst 0, 1) := by decide +kernel
theorem dX3_send_15 : decode cX3_send 15 = .ok (.iconst 5, 1) := by decide +kernel
theorem dX3_send_16 : decode cX3_send 16 = .ok (.invokestatic 39, 3) := by decide +kernel
theorem dX3_send_19 : decode cX3_send 19 = .ok (.ifCond .ne 9, 3) := by decide +kernel
theorem dX3_send_22 : decode cX3_send 22 = .ok (.aload_n 0, 1) := by decide +kernel
theorem dX3_send_23 : decode cX3_send 23 = .ok (.iconst 1, 1) := by decide +kernel
theorem dX3_send_24 : decode cX3_send 24 = .ok (.invokevirtual 134, 3) := by decide +kernel
theorem dX3_send_27 : decode cX3_send 27 = .ok (.ireturn, 1) := by decide +kernel
theorem dX3_send_28 : decode cX3_send 28 = .ok (.aload_n 0, 1) := by decide +kernel
theorem dX3_send_29 : decode cX3_send 29 = .ok (.getfield 9, 3) := by decide +kernel
theorem dX3_send_32 : decode cX3_send 32 = .ok (.iload_n 1, 1) := by decide +kernel
theorem dX3_send_33 : decode cX3_send 33 = .ok (.iaload, 1) := by decide +kernel
theorem dX3_send_34 : decode cX3_send 34 = .ok (.istore_n 3, 1) := by decide +kernel
theorem dX3_send_35 : decode cX3_send 35 = .ok (.aload_n 0, 1) := by decide +kernel
theorem dX3_send_36 : decode cX3_send 36 = .ok (.getfield 9, 3) := by decide +kernel
theorem dX3_send_39 : decode cX3_send 39 = .ok (.iload_n 1, 1) := by decide +kernel
theorem dX3_send_40 : decode cX3_send 40 = .ok (.iload_n 2, 1) := by decide +kernel
theorem dX3_send_41 : decode cX3_send 41 = .ok (.iastore, 1) := by decide +kernel
theorem dX3_send_42 : decode cX3_send 42 = .ok (.iload_n 3, 1) := by decide +kernel
theorem dX3_send_43 : decode cX3_send 43 = .ok (.ireturn, 1) := by decide +kernel
set_option maxRecDepth 20000 in
theorem ggX3_bargeTold_X3_lockOf : GoodIn wsX3_bargeTold wsX3_lockOf := goodIn_r _ [7, 2, 8, 9, 10, 11, 12, 13, 14, 15, 16, 17, 18, 19, 20, 21, 22, 23, 24, 25, 26, 27, 28, 29, 30] (by decide +kernel) (by decide +kernel)
set_option maxRecDepth 20000 in
theorem gX3_bargeTold_X3_lockOf : GoodIn wsX3_bargeTold (wsV RX3 46 RX3 yX3_lockOf wsX3_lockOf) := goodIn_app (goodIn_of _ (by decide +kernel)) ggX3_bargeTold_X3_lockOf
theorem dX3_bargeTold_0 : decode cX3_bargeTold 0 = .ok (.iload_n 2, 1) := by decide +kernel
theorem dX3_bargeTold_1 : decode cX3_bargeTold 1 = .ok (.tableswitch 68 0 3 #[31, 41, 48, 58], 31) := by decide +kernel
theorem dX3_bargeTold_32 : decode cX3_bargeTold 32 = .ok (.aload_n 0, 1) := by decide +kernel
theorem dX3_bargeTold_33 : decode cX3_bargeTold 33 = .ok (.getfield 26, 3) := by decide +kernel
theorem dX3_bargeTold_36 : decode cX3_bargeTold 36 = .ok (.getfield 43, 3) := by decide +kernel
theorem dX3_bargeTold_39 : decode cX3_bargeTold 39 = .ok (.iload_n 1, 1) := by decide +kernel
theorem dX3_bargeTold_40 : decode cX3_bargeTold 40 = .ok (.iaload, 1) := by decide +kernel
theorem dX3_bargeTold_41 : decode cX3_bargeTold 41 = .ok (.ireturn, 1) := by decide +kernel
theorem dX3_bargeTold_42 : decode cX3_bargeTold 42 = .ok (.aload_n 0, 1) := by decide +kernel
theorem dX3_bargeTold_43 : decode cX3_bargeTold 43 = .ok (.getfield 9, 3) := by decide +kernel
theorem dX3_bargeTold_46 : decode cX3_bargeTold 46 = .ok (.iload_n 1, 1) := by decide +kernel
theorem dX3_bargeTold_47 : decode cX3_bargeTold 47 = .ok (.iaload, 1) := by decide +kernel
theorem dX3_bargeTold_48 : decode cX3_bargeTold 48 = .ok (.ireturn, 1) := by decide +kernel
theorem dX3_bargeTold_49 : decode cX3_bargeTold 49 = .ok (.aload_n 0, 1) := by decide +kernel
theorem dX3_bargeTold_50 : decode cX3_bargeTold 50 = .ok (.getfield 26, 3) := by decide +kernel
theorem dX3_bargeTold_53 : decode cX3_bargeTold 53 = .ok (.getfield 63, 3) := by decide +kernel
theorem dX3_bargeTold_56 : decode cX3_bargeTold 56 = .ok (.iload_n 1, 1) := by decide +kernel
theorem dX3_bargeTold_57 : decode cX3_bargeTold 57 = .ok (.iaload, 1) := by decide +kernel
theorem dX3_bargeTold_58 : decode cX3_bargeTold 58 = .ok (.ireturn, 1) := by decide +kernel
theorem dX3_bargeTold_59 : decode cX3_bargeTold 59 = .ok (.aload_n 0, 1) := by decide +kernel
theorem dX3_bargeTold_60 : decode cX3_bargeTold 60 = .ok (.getfield 26, 3) := by decide +kernel
theorem dX3_bargeTold_63 : decode cX3_bargeTold 63 = .ok (.getfield 94, 3) := by decide +kernel
theorem dX3_bargeTold_66 : decode cX3_bargeTold 66 = .ok (.iload_n 1, 1) := by decide +kernel
theorem dX3_bargeTold_67 : decode cX3_bargeTold 67 = .ok (.iaload, 1) := by decide +kernel
theorem dX3_bargeTold_68 : decode cX3_bargeTold 68 = .ok (.ireturn, 1) := by decide +kernel
theorem dX3_bargeTold_69 : decode cX3_bargeTold 69 = .ok (.aload_n 0, 1) := by decide +kernel
theorem dX3_bargeTold_70 : decode cX3_bargeTold 70 = .ok (.aload_n 0, 1) := by decide +kernel
theorem dX3_bargeTold_71 : decode cX3_bargeTold 71 = .ok (.getfield 26, 3) := by decide +kernel
theorem dX3_bargeTold_74 : decode cX3_bargeTold 74 = .ok (.iload_n 1, 1) := by decide +kernel
theorem dX3_bargeTold_75 : decode cX3_bargeTold 75 = .ok (.invokevirtual 46, 3) := by decide +kernel
theorem dX3_bargeTold_78 : decode cX3_bargeTold 78 = .ok (.ireturn, 1) := by decide +kernel
set_option maxRecDepth 20000 in
theorem ggX3_told_X3_isBarge : GoodIn wsX3_told wsX3_isBarge := goodIn_r _ [6, 7, 8, 9, 5, 10, 25, 26, 27, 28, 29, 30, 31, 32, 33] (by decide +kernel) (by decide +kernel)
set_option maxRecDepth 20000 in
theorem gX3_told_X3_isBarge : GoodIn wsX3_told (wsV RX3 138 RX3 yX3_isBarge wsX3_isBarge) := goodIn_app (goodIn_of _ (by decide +kernel)) ggX3_told_X3_isBarge
set_option maxRecDepth 20000 in
theorem ggX3_told_X3_isIn : GoodIn wsX3_told wsX3_isIn := goodIn_r _ [10] (by decide +kernel) (by decide +kernel)
set_option maxRecDepth 20000 in
theorem gX3_told_X3_isIn : GoodIn wsX3_told (va_wsS RX3 39 yX3_isIn wsX3_isIn) := goodIn_app (goodIn_of _ (by decide +kernel)) ggX3_told_X3_isIn
set_option maxRecDepth 20000 in
theorem ggX3_told_X3_bargeTold : GoodIn wsX3_told wsX3_bargeTold := goodIn_r _ [14, 15, 16, 17, 18, 19, 5, 20, 25, 26, 27, 28, 29, 30, 31, 32, 33, 34, 35, 36, 37, 38, 39, 40, 41, 42, 43, 44, 45, 46, 47] (by decide +kernel) (by decide +kernel)
set_option maxRecDepth 20000 in
theorem gX3_told_X3_bargeTold : GoodIn wsX3_told (wsV RX3 141 RX3 yX3_bargeTold wsX3_bargeTold) := goodIn_app (goodIn_of _ (by decide +kernel)) ggX3_told_X3_bargeTold
set_option maxRecDepth 20000 in
theorem ggX3_told_X3_no : GoodIn wsX3_told wsX3_no := goodIn_r _ [24, 1, 25, 26, 27, 28, 29, 30, 31, 32, 33] (by decide +kernel) (by decide +kernel)
set_option maxRecDepth 20000 in
theorem gX3_told_X3_no : GoodIn wsX3_told (wsV RX3 134 RX3 yX3_no wsX3_no) := goodIn_app (goodIn_of _ (by decide +kernel)) ggX3_told_X3_no
theorem dX3_told_0 : decode cX3_told 0 = .ok (.aload_n 0, 1) := by decide +kernel
theorem dX3_told_1 : decode cX3_told 1 = .ok (.iconst 0, 1) := by decide +kernel
theorem dX3_told_2 : decode cX3_told 2 = .ok (.putfield 33, 3) := by decide +kernel
theorem dX3_told_5 : decode cX3_told 5 = .ok (.aload_n 0, 1) := by decide +kernel
theorem dX3_told_6 : decode cX3_told 6 = .ok (.iload_n 1, 1) := by decide +kernel
theorem dX3_told_7 : decode cX3_told 7 = .ok (.invokevirtual 138, 3) := by decide +kernel
theorem dX3_told_10 : decode cX3_told 10 = .ok (.ifCond .eq 21, 3) := by decide +kernel
theorem dX3_told_13 : decode cX3_told 13 = .ok (.iload_n 2, 1) := by decide +kernel
theorem dX3_told_14 : decode cX3_told 14 = .ok (.iconst 0, 1) := by decide +kernel
theorem dX3_told_15 : decode cX3_told 15 = .ok (.iconst 4, 1) := by decide +kernel
theorem dX3_told_16 : decode cX3_told 16 = .ok (.invokestatic 39, 3) := by decide +kernel
theorem dX3_told_19 : decode cX3_told 19 = .ok (.ifCond .eq 12, 3) := by decide +kernel
theorem dX3_told_22 : decode cX3_told 22 = .ok (.aload_n 0, 1) := by decide +kernel
theorem dX3_told_23 : decode cX3_told 23 = .ok (.iload_n 1, 1) := by decide +kernel
theorem dX3_told_24 : decode cX3_told 24 = .ok (.iload_n 2, 1) := by decide +kernel
theorem dX3_told_25 : decode cX3_told 25 = .ok (.invokevirtual 141, 3) := by decide +kernel
theorem dX3_told_28 : decode cX3_told 28 = .ok (.goto 8, 3) := by decide +kernel
theorem dX3_told_31 : decode cX3_told 31 = .ok (.aload_n 0, 1) := by decide +kernel
theorem dX3_told_32 : decode cX3_told 32 = .ok (.iconst 1, 1) := by decide +kernel
theorem dX3_told_33 : decode cX3_told 33 = .ok (.invokevirtual 134, 3) := by decide +kernel
theorem dX3_told_36 : decode cX3_told 36 = .ok (.ireturn, 1) := by decide +kernel
theorem dX3_bargesAt_0 : decode cX3_bargesAt 0 = .ok (.iconst 0, 1) := by decide +kernel
theorem dX3_bargesAt_1 : decode cX3_bargesAt 1 = .ok (.istore_n 2, 1) := by decide +kernel
theorem dX3_bargesAt_2 : decode cX3_bargesAt 2 = .ok (.iconst 0, 1) := by decide +kernel
theorem dX3_bargesAt_3 : decode cX3_bargesAt 3 = .ok (.istore_n 3, 1) := by decide +kernel
theorem dX3_bargesAt_4 : decode cX3_bargesAt 4 = .ok (.iload_n 3, 1) := by decide +kernel
theorem dX3_bargesAt_5 : decode cX3_bargesAt 5 = .ok (.aload_n 0, 1) := by decide +kernel
theorem dX3_bargesAt_6 : decode cX3_bargesAt 6 = .ok (.getfield 36, 3) := by decide +kernel
theorem dX3_bargesAt_9 : decode cX3_bargesAt 9 = .ok (.if_icmp .ge 30, 3) := by decide +kernel
theorem dX3_bargesAt_12 : decode cX3_bargesAt 12 = .ok (.iload_n 2, 1) := by decide +kernel
theorem dX3_bargesAt_13 : decode cX3_bargesAt 13 = .ok (.aload_n 0, 1) := by decide +kernel
theorem dX3_bargesAt_14 : decode cX3_bargesAt 14 = .ok (.getfield 26, 3) := by decide +kernel
theorem dX3_bargesAt_17 : decode cX3_bargesAt 17 = .ok (.getfield 43, 3) := by decide +kernel
theorem dX3_bargesAt_20 : decode cX3_bargesAt 20 = .ok (.iload_n 3, 1) := by decide +kernel
theorem dX3_bargesAt_21 : decode cX3_bargesAt 21 = .ok (.iaload, 1) := by decide +kernel
theorem dX3_bargesAt_22 : decode cX3_bargesAt 22 = .ok (.iload_n 1, 1) := by decide +kernel
theorem dX3_bargesAt_23 : decode cX3_bargesAt 23 = .ok (.if_icmp .ne 7, 3) := by decide +kernel
theorem dX3_bargesAt_26 : decode cX3_bargesAt 26 = .ok (.iconst 1, 1) := by decide +kernel
theorem dX3_bargesAt_27 : decode cX3_bargesAt 27 = .ok (.goto 4, 3) := by decide +kernel
theorem dX3_bargesAt_30 : decode cX3_bargesAt 30 = .ok (.iconst 0, 1) := by decide +kernel
theorem dX3_bargesAt_31 : decode cX3_bargesAt 31 = .ok (.iadd, 1) := by decide +kernel
theorem dX3_bargesAt_32 : decode cX3_bargesAt 32 = .ok (.istore_n 2, 1) := by decide +kernel
theorem dX3_bargesAt_33 : decode cX3_bargesAt 33 = .ok (.iinc 3 1, 3) := by decide +kernel
theorem dX3_bargesAt_36 : decode cX3_bargesAt 36 = .ok (.goto (-32), 3) := by decide +kernel
theorem dX3_bargesAt_39 : decode cX3_bargesAt 39 = .ok (.iload_n 2, 1) := by decide +kernel
theorem dX3_bargesAt_40 : decode cX3_bargesAt 40 = .ok (.ireturn, 1) := by decide +kernel
set_option maxRecDepth 20000 in
theorem ggX3_poundTold_X3_bargesAt : GoodIn wsX3_poundTold wsX3_bargesAt := goodIn_r _ [6, 7, 1, 8, 9, 10, 11, 12, 13, 14, 15, 16, 17, 18, 19, 20, 21, 22, 23, 24, 25, 26, 27, 28, 29, 30] (by decide +kernel) (by decide +kernel)
set_option maxRecDepth 20000 in
theorem gX3_poundTold_X3_bargesAt : GoodIn wsX3_poundTold (wsV RX3 144 RX3 yX3_bargesAt wsX3_bargesAt) := goodIn_app (goodIn_of _ (by decide +kernel)) ggX3_poundTold_X3_bargesAt
theorem dX3_poundTold_0 : decode cX3_poundTold 0 = .ok (.iload_n 2, 1) := by decide +kernel
theorem dX3_poundTold_1 : decode cX3_poundTold 1 = .ok (.ifCond .ne 15, 3) := by decide +kernel
theorem dX3_poundTold_4 : decode cX3_poundTold 4 = .ok (.aload_n 0, 1) := by decide +kernel
theorem dX3_poundTold_5 : decode cX3_poundTold 5 = .ok (.getfield 26, 3) := by decide +kernel
theorem dX3_poundTold_8 : decode cX3_poundTold 8 = .ok (.getfield 100, 3) := by decide +kernel
theorem dX3_poundTold_11 : decode cX3_poundTold 11 = .ok (.iload_n 1, 1) := by decide +kernel
theorem dX3_poundTold_12 : decode cX3_poundTold 12 = .ok (.iaload, 1) := by decide +kernel
theorem dX3_poundTold_13 : decode cX3_poundTold 13 = .ok (.goto 42, 3) := by decide +kernel
theorem dX3_poundTold_16 : decode cX3_poundTold 16 = .ok (.iload_n 2, 1) := by decide +kernel
theorem dX3_poundTold_17 : decode cX3_poundTold 17 = .ok (.iconst 1, 1) := by decide +kernel
theorem dX3_poundTold_18 : decode cX3_poundTold 18 = .ok (.if_icmp .ne 11, 3) := by decide +kernel
theorem dX3_poundTold_21 : decode cX3_poundTold 21 = .ok (.aload_n 0, 1) := by decide +kernel
theorem dX3_poundTold_22 : decode cX3_poundTold 22 = .ok (.iload_n 1, 1) := by decide +kernel
theorem dX3_poundTold_23 : decode cX3_poundTold 23 = .ok (.invokevirtual 144, 3) := by decide +kernel
theorem dX3_poundTold_26 : decode cX3_poundTold 26 = .ok (.goto 29, 3) := by decide +kernel
theorem dX3_poundTold_29 : decode cX3_poundTold 29 = .ok (.iload_n 2, 1) := by decide +kernel
theorem dX3_poundTold_30 : decode cX3_poundTold 30 = .ok (.iconst 2, 1) := by decide +kernel
theorem dX3_poundTold_31 : decode cX3_poundTold 31 = .ok (.if_icmp .ne 15, 3) := by decide +kernel
theorem dX3_poundTold_34 : decode cX3_poundTold 34 = .ok (.aload_n 0, 1) := by decide +kernel
theorem dX3_poundTold_35 : decode cX3_poundTold 35 = .ok (.getfield 26, 3) := by decide +kernel
theorem dX3_poundTold_38 : decode cX3_poundTold 38 = .ok (.getfield 147, 3) := by decide +kernel
theorem dX3_poundTold_41 : decode cX3_poundTold 41 = .ok (.iload_n 1, 1) := by decide +kernel
theorem dX3_poundTold_42 : decode cX3_poundTold 42 = .ok (.iaload, 1) := by decide +kernel
theorem dX3_poundTold_43 : decode cX3_poundTold 43 = .ok (.goto 12, 3) := by decide +kernel
theorem dX3_poundTold_46 : decode cX3_poundTold 46 = .ok (.aload_n 0, 1) := by decide +kernel
theorem dX3_poundTold_47 : decode cX3_poundTold 47 = .ok (.getfield 26, 3) := by decide +kernel
theorem dX3_poundTold_50 : decode cX3_poundTold 50 = .ok (.getfield 112, 3) := by decide +kernel
theorem dX3_poundTold_53 : decode cX3_poundTold 53 = .ok (.iload_n 1, 1) := by decide +kernel
theorem dX3_poundTold_54 : decode cX3_poundTold 54 = .ok (.iaload, 1) := by decide +kernel
theorem dX3_poundTold_55 : decode cX3_poundTold 55 = .ok (.ireturn, 1) := by decide +kernel
set_option maxRecDepth 20000 in
theorem ggX3_pound_X3_isIn : GoodIn wsX3_pound wsX3_isIn := goodIn_r _ [5] (by decide +kernel) (by decide +kernel)
set_option maxRecDepth 20000 in
theorem gX3_pound_X3_isIn : GoodIn wsX3_pound (va_wsS RX3 39 yX3_isIn wsX3_isIn) := goodIn_app (goodIn_of _ (by decide +kernel)) ggX3_pound_X3_isIn
set_option maxRecDepth 20000 in
theorem ggX3_pound_X3_poundTold : GoodIn wsX3_pound wsX3_poundTold := goodIn_r _ [9, 10, 11, 12, 13, 4, 14, 15, 20, 21, 22, 23, 24, 25, 26, 27, 28, 29, 30, 31, 32, 33, 34, 35, 36, 37, 38, 39, 40, 41, 42] (by decide +kernel) (by decide +kernel)
set_option maxRecDepth 20000 in
theorem gX3_pound_X3_poundTold : GoodIn wsX3_pound (wsV RX3 150 RX3 yX3_poundTold wsX3_poundTold) := goodIn_app (goodIn_of _ (by decide +kernel)) ggX3_pound_X3_poundTold
set_option maxRecDepth 20000 in
theorem ggX3_pound_X3_no : GoodIn wsX3_pound wsX3_no := goodIn_r _ [19, 1, 20, 21, 22, 23, 24, 25, 26, 27, 28] (by decide +kernel) (by decide +kernel)
set_option maxRecDepth 20000 in
theorem gX3_pound_X3_no : GoodIn wsX3_pound (wsV RX3 134 RX3 yX3_no wsX3_no) := goodIn_app (goodIn_of _ (by decide +kernel)) ggX3_pound_X3_no
theorem dX3_pound_0 : decode cX3_pound 0 = .ok (.aload_n 0, 1) := by decide +kernel
theorem dX3_pound_1 : decode cX3_pound 1 = .ok (.iconst 0, 1) := by decide +kernel
theorem dX3_pound_2 : decode cX3_pound 2 = .ok (.putfield 33, 3) := by decide +kernel
theorem dX3_pound_5 : decode cX3_pound 5 = .ok (.iload_n 1, 1) := by decide +kernel
theorem dX3_pound_6 : decode cX3_pound 6 = .ok (.iconst 0, 1) := by decide +kernel
theorem dX3_pound_7 : decode cX3_pound 7 = .ok (.iconst 5, 1) := by decide +kernel
theorem dX3_pound_8 : decode cX3_pound 8 = .ok (.invokestatic 39, 3) := by decide +kernel
theorem dX3_pound_11 : decode cX3_pound 11 = .ok (.ifCond .eq 21, 3) := by decide +kernel
theorem dX3_pound_14 : decode cX3_pound 14 = .ok (.iload_n 2, 1) := by decide +kernel
theorem dX3_pound_15 : decode cX3_pound 15 = .ok (.iconst 0, 1) := by decide +kernel
theorem dX3_pound_16 : decode cX3_pound 16 = .ok (.iconst 3, 1) := by decide +kernel
theorem dX3_pound_17 : decode cX3_pound 17 = .ok (.invokestatic 39, 3) := by decide +kernel
theorem dX3_pound_20 : decode cX3_pound 20 = .ok (.ifCond .eq 12, 3) := by decide +kernel
theorem dX3_pound_23 : decode cX3_pound 23 = .ok (.aload_n 0, 1) := by decide +kernel
theorem dX3_pound_24 : decode cX3_pound 24 = .ok (.iload_n 1, 1) := by decide +kernel
theorem dX3_pound_25 : decode cX3_pound 25 = .ok (.iload_n 2, 1) := by decide +kernel
theorem dX3_pound_26 : decode cX3_pound 26 = .ok (.invokevirtual 150, 3) := by decide +kernel
theorem dX3_pound_29 : decode cX3_pound 29 = .ok (.goto 8, 3) := by decide +kernel
theorem dX3_pound_32 : decode cX3_pound 32 = .ok (.aload_n 0, 1) := by decide +kernel
theorem dX3_pound_33 : decode cX3_pound 33 = .ok (.iconst 1, 1) := by decide +kernel
theorem dX3_pound_34 : decode cX3_pound 34 = .ok (.invokevirtual 134, 3) := by decide +kernel
theorem dX3_pound_37 : decode cX3_pound 37 = .ok (.ireturn, 1) := by decide +kernel
set_option maxRecDepth 20000 in
theorem ggX3_waitingAt_X3_lockOf : GoodIn wsX3_waitingAt wsX3_lockOf := goodIn_r _ [7, 8, 9, 10, 11, 12, 13, 14, 15, 16, 17, 18, 19, 20, 21, 22, 23, 24, 25, 26, 27, 28, 29, 30, 31] (by decide +kernel) (by decide +kernel)
set_option maxRecDepth 20000 in
theorem gX3_waitingAt_X3_lockOf : GoodIn wsX3_waitingAt (wsV RX3 46 RX3 yX3_lockOf wsX3_lockOf) := goodIn_app (goodIn_of _ (by decide +kernel)) ggX3_waitingAt_X3_lockOf
theorem dX3_waitingAt_0 : decode cX3_waitingAt 0 = .ok (.iconst 0, 1) := by decide +kernel
theorem dX3_waitingAt_1 : decode cX3_waitingAt 1 = .ok (.istore_n 2, 1) := by decide +kernel
theorem dX3_waitingAt_2 : decode cX3_waitingAt 2 = .ok (.iconst 0, 1) := by decide +kernel
theorem dX3_waitingAt_3 : decode cX3_waitingAt 3 = .ok (.istore_n 3, 1) := by decide +kernel
theorem dX3_waitingAt_4 : decode cX3_waitingAt 4 = .ok (.iload_n 3, 1) := by decide +kernel
theorem dX3_waitingAt_5 : decode cX3_waitingAt 5 = .ok (.aload_n 0, 1) := by decide +kernel
theorem dX3_waitingAt_6 : decode cX3_waitingAt 6 = .ok (.getfield 36, 3) := by decide +kernel
theorem dX3_waitingAt_9 : decode cX3_waitingAt 9 = .ok (.if_icmp .ge 30, 3) := by decide +kernel
theorem dX3_waitingAt_12 : decode cX3_waitingAt 12 = .ok (.iload_n 2, 1) := by decide +kernel
theorem dX3_waitingAt_13 : decode cX3_waitingAt 13 = .ok (.aload_n 0, 1) := by decide +kernel
theorem dX3_waitingAt_14 : decode cX3_waitingAt 14 = .ok (.aload_n 0, 1) := by decide +kernel
theorem dX3_waitingAt_15 : decode cX3_waitingAt 15 = .ok (.getfield 26, 3) := by decide +kernel
theorem dX3_waitingAt_18 : decode cX3_waitingAt 18 = .ok (.iload_n 3, 1) := by decide +kernel
theorem dX3_waitingAt_19 : decode cX3_waitingAt 19 = .ok (.invokevirtual 46, 3) := by decide +kernel
theorem dX3_waitingAt_22 : decode cX3_waitingAt 22 = .ok (.iload_n 1, 1) := by decide +kernel
theorem dX3_waitingAt_23 : decode cX3_waitingAt 23 = .ok (.if_icmp .ne 7, 3) := by decide +kernel
theorem dX3_waitingAt_26 : decode cX3_waitingAt 26 = .ok (.iconst 1, 1) := by decide +kernel
theorem dX3_waitingAt_27 : decode cX3_waitingAt 27 = .ok (.goto 4, 3) := by decide +kernel
theorem dX3_waitingAt_30 : decode cX3_waitingAt 30 = .ok (.iconst 0, 1) := by decide +kernel
theorem dX3_waitingAt_31 : decode cX3_waitingAt 31 = .ok (.iadd, 1) := by decide +kernel
theorem dX3_waitingAt_32 : decode cX3_waitingAt 32 = .ok (.istore_n 2, 1) := by decide +kernel
theorem dX3_waitingAt_33 : decode cX3_waitingAt 33 = .ok (.iinc 3 1, 3) := by decide +kernel
theorem dX3_waitingAt_36 : decode cX3_waitingAt 36 = .ok (.goto (-32), 3) := by decide +kernel
theorem dX3_waitingAt_39 : decode cX3_waitingAt 39 = .ok (.iload_n 2, 1) := by decide +kernel
theorem dX3_waitingAt_40 : decode cX3_waitingAt 40 = .ok (.ireturn, 1) := by decide +kernel
set_option maxRecDepth 20000 in
theorem ggX3_lockTold_X3_waitingAt : GoodIn wsX3_lockTold wsX3_waitingAt := goodIn_r _ [6, 7, 1, 8, 9, 10, 5, 11, 12, 41, 42, 43, 44, 45, 46, 47, 48, 49, 50, 51, 52, 53, 54, 55, 56, 57, 58, 59, 60, 61, 62, 63] (by decide +kernel) (by decide +kernel)
set_option maxRecDepth 20000 in
theorem gX3_lockTold_X3_waitingAt : GoodIn wsX3_lockTold (wsV RX3 153 RX3 yX3_waitingAt wsX3_waitingAt) := goodIn_app (goodIn_of _ (by decide +kernel)) ggX3_lockTold_X3_waitingAt
set_option maxRecDepth 20000 in
theorem ggX3_lockTold_X3_nextAt : GoodIn wsX3_lockTold wsX3_nextAt := goodIn_r _ [16, 7, 17, 18, 19, 5, 20, 8, 9, 10, 11, 12, 21, 22, 23, 24, 25, 26, 27, 28, 29, 30, 31, 32, 33, 34, 35, 36, 37, 38, 39, 40, 41, 42, 43, 44, 45, 46, 47, 48, 49, 50, 51, 52, 53, 54, 55, 56, 57, 58, 59, 60, 61, 62, 63] (by decide +kernel) (by decide +kernel)
set_option maxRecDepth 20000 in
theorem gX3_lockTold_X3_nextAt : GoodIn wsX3_lockTold (wsV RX3 123 RX3 yX3_nextAt wsX3_nextAt) := goodIn_app (goodIn_of _ (by decide +kernel)) ggX3_lockTold_X3_nextAt
theorem dX3_lockTold_0 : decode cX3_lockTold 0 = .ok (.iload_n 2, 1) := by decide +kernel
theorem dX3_lockTold_1 : decode cX3_lockTold 1 = .ok (.tableswitch 67 0 3 #[31, 41, 47, 57], 31) := by decide +kernel
theorem dX3_lockTold_32 : decode cX3_lockTold 32 = .ok (.aload_n 0, 1) := by decide +kernel
theorem dX3_lockTold_33 : decode cX3_lockTold 33 = .ok (.getfield 26, 3) := by decide +kernel
theorem dX3_lockTold_36 : decode cX3_lockTold 36 = .ok (.getfield 60, 3) := by decide +kernel
theorem dX3_lockTold_39 : decode cX3_lockTold 39 = .ok (.iload_n 1, 1) := by decide +kernel
theorem dX3_lockTold_40 : decode cX3_lockTold 40 = .ok (.iaload, 1) := by decide +kernel
theorem dX3_lockTold_41 : decode cX3_lockTold 41 = .ok (.ireturn, 1) := by decide +kernel
theorem dX3_lockTold_42 : decode cX3_lockTold 42 = .ok (.aload_n 0, 1) := by decide +kernel
theorem dX3_lockTold_43 : decode cX3_lockTold 43 = .ok (.iload_n 1, 1) := by decide +kernel
theorem dX3_lockTold_44 : decode cX3_lockTold 44 = .ok (.invokevirtual 153, 3) := by decide +kernel
theorem dX3_lockTold_47 : decode cX3_lockTold 47 = .ok (.ireturn, 1) := by decide +kernel
theorem dX3_lockTold_48 : decode cX3_lockTold 48 = .ok (.aload_n 0, 1) := by decide +kernel
theorem dX3_lockTold_49 : decode cX3_lockTold 49 = .ok (.getfield 26, 3) := by decide +kernel
theorem dX3_lockTold_52 : decode cX3_lockTold 52 = .ok (.getfield 97, 3) := by decide +kernel
theorem dX3_lockTold_55 : decode cX3_lockTold 55 = .ok (.iload_n 1, 1) := by decide +kernel
theorem dX3_lockTold_56 : decode cX3_lockTold 56 = .ok (.iaload, 1) := by decide +kernel
theorem dX3_lockTold_57 : decode cX3_lockTold 57 = .ok (.ireturn, 1) := by decide +kernel
theorem dX3_lockTold_58 : decode cX3_lockTold 58 = .ok (.aload_n 0, 1) := by decide +kernel
theorem dX3_lockTold_59 : decode cX3_lockTold 59 = .ok (.getfield 26, 3) := by decide +kernel
theorem dX3_lockTold_62 : decode cX3_lockTold 62 = .ok (.getfield 156, 3) := by decide +kernel
theorem dX3_lockTold_65 : decode cX3_lockTold 65 = .ok (.iload_n 1, 1) := by decide +kernel
theorem dX3_lockTold_66 : decode cX3_lockTold 66 = .ok (.iaload, 1) := by decide +kernel
theorem dX3_lockTold_67 : decode cX3_lockTold 67 = .ok (.ireturn, 1) := by decide +kernel
theorem dX3_lockTold_68 : decode cX3_lockTold 68 = .ok (.aload_n 0, 1) := by decide +kernel
theorem dX3_lockTold_69 : decode cX3_lockTold 69 = .ok (.aload_n 0, 1) := by decide +kernel
theorem dX3_lockTold_70 : decode cX3_lockTold 70 = .ok (.getfield 26, 3) := by decide +kernel
theorem dX3_lockTold_73 : decode cX3_lockTold 73 = .ok (.iload_n 1, 1) := by decide +kernel
theorem dX3_lockTold_74 : decode cX3_lockTold 74 = .ok (.invokevirtual 123, 3) := by decide +kernel
theorem dX3_lockTold_77 : decode cX3_lockTold 77 = .ok (.ireturn, 1) := by decide +kernel
set_option maxRecDepth 20000 in
theorem ggX3_lock_X3_isIn : GoodIn wsX3_lock wsX3_isIn := goodIn_r _ [5] (by decide +kernel) (by decide +kernel)
set_option maxRecDepth 20000 in
theorem gX3_lock_X3_isIn : GoodIn wsX3_lock (va_wsS RX3 39 yX3_isIn wsX3_isIn) := goodIn_app (goodIn_of _ (by decide +kernel)) ggX3_lock_X3_isIn
set_option maxRecDepth 20000 in
theorem ggX3_lock_X3_lockTold : GoodIn wsX3_lock wsX3_lockTold := goodIn_r _ [9, 10, 11, 12, 13, 4, 14, 15, 16, 17, 18, 19, 20, 21, 22, 23, 24, 25, 26, 27, 28, 29, 30, 31, 32, 33, 34, 35, 36, 37, 38, 39, 40, 41, 42, 43, 44, 45, 46, 47, 48, 53, 54, 55, 56, 57, 58, 59, 60, 61, 62, 63, 64, 65, 66, 67, 68, 69, 70, 71, 72, 73, 74, 75] (by decide +kernel) (by decide +kernel)
set_option maxRecDepth 20000 in
theorem gX3_lock_X3_lockTold : GoodIn wsX3_lock (wsV RX3 159 RX3 yX3_lockTold wsX3_lockTold) := goodIn_app (goodIn_of _ (by decide +kernel)) ggX3_lock_X3_lockTold
set_option maxRecDepth 20000 in
theorem ggX3_lock_X3_no : GoodIn wsX3_lock wsX3_no := goodIn_r _ [52, 1, 53, 54, 55, 56, 57, 58, 59, 60, 61] (by decide +kernel) (by decide +kernel)
set_option maxRecDepth 20000 in
theorem gX3_lock_X3_no : GoodIn wsX3_lock (wsV RX3 134 RX3 yX3_no wsX3_no) := goodIn_app (goodIn_of _ (by decide +kernel)) ggX3_lock_X3_no
theorem dX3_lock_0 : decode cX3_lock 0 = .ok (.aload_n 0, 1) := by decide +kernel
theorem dX3_lock_1 : decode cX3_lock 1 = .ok (.iconst 0, 1) := by decide +kernel
theorem dX3_lock_2 : decode cX3_lock 2 = .ok (.putfield 33, 3) := by decide +kernel
theorem dX3_lock_5 : decode cX3_lock 5 = .ok (.iload_n 1, 1) := by decide +kernel
theorem dX3_lock_6 : decode cX3_lock 6 = .ok (.iconst 0, 1) := by decide +kernel
theorem dX3_lock_7 : decode cX3_lock 7 = .ok (.iconst 4, 1) := by decide +kernel
theorem dX3_lock_8 : decode cX3_lock 8 = .ok (.invokestatic 39, 3) := by decide +kernel
theorem dX3_lock_11 : decode cX3_lock 11 = .ok (.ifCond .eq 21, 3) := by decide +kernel
theorem dX3_lock_14 : decode cX3_lock 14 = .ok (.iload_n 2, 1) := by decide +kernel
theorem dX3_lock_15 : decode cX3_lock 15 = .ok (.iconst 0, 1) := by decide +kernel
theorem dX3_lock_16 : decode cX3_lock 16 = .ok (.iconst 4, 1) := by decide +kernel
theorem dX3_lock_17 : decode cX3_lock 17 = .ok (.invokestatic 39, 3) := by decide +kernel
theorem dX3_lock_20 : decode cX3_lock 20 = .ok (.ifCond .eq 12, 3) := by decide +kernel
theorem dX3_lock_23 : decode cX3_lock 23 = .ok (.aload_n 0, 1) := by decide +kernel
theorem dX3_lock_24 : decode cX3_lock 24 = .ok (.iload_n 1, 1) := by decide +kernel
theorem dX3_lock_25 : decode cX3_lock 25 = .ok (.iload_n 2, 1) := by decide +kernel
theorem dX3_lock_26 : decode cX3_lock 26 = .ok (.invokevirtual 159, 3) := by decide +kernel
theorem dX3_lock_29 : decode cX3_lock 29 = .ok (.goto 8, 3) := by decide +kernel
theorem dX3_lock_32 : decode cX3_lock 32 = .ok (.aload_n 0, 1) := by decide +kernel
theorem dX3_lock_33 : decode cX3_lock 33 = .ok (.iconst 1, 1) := by decide +kernel
theorem dX3_lock_34 : decode cX3_lock 34 = .ok (.invokevirtual 134, 3) := by decide +kernel
theorem dX3_lock_37 : decode cX3_lock 37 = .ok (.ireturn, 1) := by decide +kernel
theorem dX3_come_0 : decode cX3_come 0 = .ok (.iconst 0, 1) := by decide +kernel
theorem dX3_come_1 : decode cX3_come 1 = .ok (.istore_n 2, 1) := by decide +kernel
theorem dX3_come_2 : decode cX3_come 2 = .ok (.iconst 0, 1) := by decide +kernel
theorem dX3_come_3 : decode cX3_come 3 = .ok (.istore_n 3, 1) := by decide +kernel
theorem dX3_come_4 : decode cX3_come 4 = .ok (.iload_n 3, 1) := by decide +kernel
theorem dX3_come_5 : decode cX3_come 5 = .ok (.aload_n 0, 1) := by decide +kernel
theorem dX3_come_6 : decode cX3_come 6 = .ok (.getfield 36, 3) := by decide +kernel
theorem dX3_come_9 : decode cX3_come 9 = .ok (.if_icmp .ge 32, 3) := by decide +kernel
theorem dX3_come_12 : decode cX3_come 12 = .ok (.iload_n 2, 1) := by decide +kernel
theorem dX3_come_13 : decode cX3_come 13 = .ok (.aload_n 1, 1) := by decide +kernel
theorem dX3_come_14 : decode cX3_come 14 = .ok (.getfield 43, 3) := by decide +kernel
theorem dX3_come_17 : decode cX3_come 17 = .ok (.iload_n 3, 1) := by decide +kernel
theorem dX3_come_18 : decode cX3_come 18 = .ok (.iaload, 1) := by decide +kernel
theorem dX3_come_19 : decode cX3_come 19 = .ok (.aload_n 0, 1) := by decide +kernel
theorem dX3_come_20 : decode cX3_come 20 = .ok (.getfield 9, 3) := by decide +kernel
theorem dX3_come_23 : decode cX3_come 23 = .ok (.iload_n 3, 1) := by decide +kernel
theorem dX3_come_24 : decode cX3_come 24 = .ok (.iaload, 1) := by decide +kernel
theorem dX3_come_25 : decode cX3_come 25 = .ok (.if_icmp .ne 7, 3) := by decide +kernel
theorem dX3_come_28 : decode cX3_come 28 = .ok (.iconst 1, 1) := by decide +kernel
theorem dX3_come_29 : decode cX3_come 29 = .ok (.goto 4, 3) := by decide +kernel
theorem dX3_come_32 : decode cX3_come 32 = .ok (.iconst 0, 1) := by decide +kernel
theorem dX3_come_33 : decode cX3_come 33 = .ok (.iadd, 1) := by decide +kernel
theorem dX3_come_34 : decode cX3_come 34 = .ok (.istore_n 2, 1) := by decide +kernel
theorem dX3_come_35 : decode cX3_come 35 = .ok (.iinc 3 1, 3) := by decide +kernel
theorem dX3_come_38 : decode cX3_come 38 = .ok (.goto (-34), 3) := by decide +kernel
theorem dX3_come_41 : decode cX3_come 41 = .ok (.iload_n 2, 1) := by decide +kernel
theorem dX3_come_42 : decode cX3_come 42 = .ok (.ireturn, 1) := by decide +kernel
set_option maxRecDepth 20000 in
theorem ggX3_counted_X3_come : GoodIn wsX3_counted wsX3_come := goodIn_r _ [8, 1, 9, 35, 36, 37, 38, 39, 40, 41, 42, 43, 21, 22, 23, 24, 25, 26, 27, 28, 29, 30, 31, 32, 33, 34] (by decide +kernel) (by decide +kernel)
set_option maxRecDepth 20000 in
theorem gX3_counted_X3_come : GoodIn wsX3_counted (wsV RX3 162 RX3 yX3_come wsX3_come) := goodIn_app (goodIn_of _ (by decide +kernel)) ggX3_counted_X3_come
set_option maxRecDepth 20000 in
theorem ggX3_counted_X2_allWater : GoodIn wsX3_counted wsX2_allWater := goodIn_r _ [14, 15, 21, 22, 23, 24, 25, 26, 27, 28, 29, 30, 31, 32, 33, 34] (by decide +kernel) (by decide +kernel)
set_option maxRecDepth 20000 in
theorem gX3_counted_X2_allWater : GoodIn wsX3_counted (wsV RX3 165 RX2 yX2_allWater wsX2_allWater) := goodIn_app (goodIn_of _ (by decide +kernel)) ggX3_counted_X2_allWater
set_option maxRecDepth 20000 in
theorem ggX3_counted_X2_fullOnes : GoodIn wsX3_counted wsX2_fullOnes := goodIn_r _ [19, 20, 21, 22, 23, 24, 25, 26, 27, 28, 29, 30, 31, 32, 33, 34] (by decide +kernel) (by decide +kernel)
set_option maxRecDepth 20000 in
theorem gX3_counted_X2_fullOnes : GoodIn wsX3_counted (wsV RX3 169 RX2 yX2_fullOnes wsX2_fullOnes) := goodIn_app (goodIn_of _ (by decide +kernel)) ggX3_counted_X2_fullOnes
theorem dX3_counted_0 : decode cX3_counted 0 = .ok (.iload_n 2, 1) := by decide +kernel
theorem dX3_counted_1 : decode cX3_counted 1 = .ok (.tableswitch 97 0 8 #[51, 56, 61, 67, 72, 77, 82, 87, 92], 51) := by decide +kernel
theorem dX3_counted_52 : decode cX3_counted 52 = .ok (.aload_n 1, 1) := by decide +kernel
theorem dX3_counted_53 : decode cX3_counted 53 = .ok (.getfield 53, 3) := by decide +kernel
theorem dX3_counted_56 : decode cX3_counted 56 = .ok (.ireturn, 1) := by decide +kernel
theorem dX3_counted_57 : decode cX3_counted 57 = .ok (.aload_n 0, 1) := by decide +kernel
theorem dX3_counted_58 : decode cX3_counted 58 = .ok (.getfield 36, 3) := by decide +kernel
theorem dX3_counted_61 : decode cX3_counted 61 = .ok (.ireturn, 1) := by decide +kernel
theorem dX3_counted_62 : decode cX3_counted 62 = .ok (.aload_n 0, 1) := by decide +kernel
theorem dX3_counted_63 : decode cX3_counted 63 = .ok (.aload_n 1, 1) := by decide +kernel
theorem dX3_counted_64 : decode cX3_counted 64 = .ok (.invokevirtual 162, 3) := by decide +kernel
theorem dX3_counted_67 : decode cX3_counted 67 = .ok (.ireturn, 1) := by decide +kernel
theorem dX3_counted_68 : decode cX3_counted 68 = .ok (.aload_n 1, 1) := by decide +kernel
theorem dX3_counted_69 : decode cX3_counted 69 = .ok (.getfield 91, 3) := by decide +kernel
theorem dX3_counted_72 : decode cX3_counted 72 = .ok (.ireturn, 1) := by decide +kernel
theorem dX3_counted_73 : decode cX3_counted 73 = .ok (.aload_n 1, 1) := by decide +kernel
theorem dX3_counted_74 : decode cX3_counted 74 = .ok (.invokevirtual 165, 3) := by decide +kernel
theorem dX3_counted_77 : decode cX3_counted 77 = .ok (.ireturn, 1) := by decide +kernel
theorem dX3_counted_78 : decode cX3_counted 78 = .ok (.aload_n 1, 1) := by decide +kernel
theorem dX3_counted_79 : decode cX3_counted 79 = .ok (.invokevirtual 169, 3) := by decide +kernel
theorem dX3_counted_82 : decode cX3_counted 82 = .ok (.ireturn, 1) := by decide +kernel
theorem dX3_counted_83 : decode cX3_counted 83 = .ok (.aload_n 1, 1) := by decide +kernel
theorem dX3_counted_84 : decode cX3_counted 84 = .ok (.getfield 172, 3) := by decide +kernel
theorem dX3_counted_87 : decode cX3_counted 87 = .ok (.ireturn, 1) := by decide +kernel
theorem dX3_counted_88 : decode cX3_counted 88 = .ok (.aload_n 0, 1) := by decide +kernel
theorem dX3_counted_89 : decode cX3_counted 89 = .ok (.getfield 20, 3) := by decide +kernel
theorem dX3_counted_92 : decode cX3_counted 92 = .ok (.ireturn, 1) := by decide +kernel
theorem dX3_counted_93 : decode cX3_counted 93 = .ok (.aload_n 1, 1) := by decide +kernel
theorem dX3_counted_94 : decode cX3_counted 94 = .ok (.getfield 103, 3) := by decide +kernel
theorem dX3_counted_97 : decode cX3_counted 97 = .ok (.ireturn, 1) := by decide +kernel
theorem dX3_counted_98 : decode cX3_counted 98 = .ok (.aload_n 0, 1) := by decide +kernel
theorem dX3_counted_99 : decode cX3_counted 99 = .ok (.getfield 16, 3) := by decide +kernel
theorem dX3_counted_102 : decode cX3_counted 102 = .ok (.ireturn, 1) := by decide +kernel
set_option maxRecDepth 20000 in
theorem ggX3_count_X3_isIn : GoodIn wsX3_count wsX3_isIn := goodIn_r _ [6] (by decide +kernel) (by decide +kernel)
set_option maxRecDepth 20000 in
theorem gX3_count_X3_isIn : GoodIn wsX3_count (va_wsS RX3 39 yX3_isIn wsX3_isIn) := goodIn_app (goodIn_of _ (by decide +kernel)) ggX3_count_X3_isIn
set_option maxRecDepth 20000 in
theorem ggX3_count_X3_counted : GoodIn wsX3_count wsX3_counted := goodIn_r _ [10, 11, 12, 13, 14, 15, 16, 5, 17, 18, 19, 20, 21, 22, 23, 24, 25, 26, 27, 28, 29, 43, 44, 45, 46, 47, 48, 49, 50, 51, 52, 53, 54, 55, 56, 34, 35, 36, 37, 38, 39, 40, 41, 42] (by decide +kernel) (by decide +kernel)
set_option maxRecDepth 20000 in
theorem gX3_count_X3_counted : GoodIn wsX3_count (wsV RX3 175 RX3 yX3_counted wsX3_counted) := goodIn_app (goodIn_of _ (by decide +kernel)) ggX3_count_X3_counted
set_option maxRecDepth 20000 in
theorem ggX3_count_X3_no : GoodIn wsX3_count wsX3_no := goodIn_r _ [33, 1, 34, 35, 36, 37, 38, 39, 40, 41, 42] (by decide +kernel) (by decide +kernel)
set_option maxRecDepth 20000 in
theorem gX3_count_X3_no : GoodIn wsX3_count (wsV RX3 134 RX3 yX3_no wsX3_no) := goodIn_app (goodIn_of _ (by decide +kernel)) ggX3_count_X3_no
theorem dX3_count_0 : decode cX3_count 0 = .ok (.aload_n 0, 1) := by decide +kernel
theorem dX3_count_1 : decode cX3_count 1 = .ok (.iconst 0, 1) := by decide +kernel
theorem dX3_count_2 : decode cX3_count 2 = .ok (.putfield 33, 3) := by decide +kernel
theorem dX3_count_5 : decode cX3_count 5 = .ok (.iload_n 1, 1) := by decide +kernel
theorem dX3_count_6 : decode cX3_count 6 = .ok (.iconst 0, 1) := by decide +kernel
theorem dX3_count_7 : decode cX3_count 7 = .ok (.bipush 9, 2) := by decide +kernel
theorem dX3_count_9 : decode cX3_count 9 = .ok (.invokestatic 39, 3) := by decide +kernel
theorem dX3_count_12 : decode cX3_count 12 = .ok (.ifCond .eq 15, 3) := by decide +kernel
theorem dX3_count_15 : decode cX3_count 15 = .ok (.aload_n 0, 1) := by decide +kernel
theorem dX3_count_16 : decode cX3_count 16 = .ok (.aload_n 0, 1) := by decide +kernel
theorem dX3_count_17 : decode cX3_count 17 = .ok (.getfield 26, 3) := by decide +kernel
theorem dX3_count_20 : decode cX3_count 20 = .ok (.iload_n 1, 1) := by decide +kernel
theorem dX3_count_21 : decode cX3_count 21 = .ok (.invokevirtual 175, 3) := by decide +kernel
theorem dX3_count_24 : decode cX3_count 24 = .ok (.goto 8, 3) := by decide +kernel
theorem dX3_count_27 : decode cX3_count 27 = .ok (.aload_n 0, 1) := by decide +kernel
theorem dX3_count_28 : decode cX3_count 28 = .ok (.iconst 1, 1) := by decide +kernel
theorem dX3_count_29 : decode cX3_count 29 = .ok (.invokevirtual 134, 3) := by decide +kernel
theorem dX3_count_32 : decode cX3_count 32 = .ok (.ireturn, 1) := by decide +kernel
set_option maxRecDepth 20000 in
theorem ggX3_pass__X3_isIn : GoodIn wsX3_pass_ wsX3_isIn := goodIn_r _ [6] (by decide +kernel) (by decide +kernel)
set_option maxRecDepth 20000 in
theorem gX3_pass__X3_isIn : GoodIn wsX3_pass_ (va_wsS RX3 39 yX3_isIn wsX3_isIn) := goodIn_app (goodIn_of _ (by decide +kernel)) ggX3_pass__X3_isIn
set_option maxRecDepth 20000 in
theorem ggX3_pass__X3_passAll : GoodIn wsX3_pass_ wsX3_passAll := goodIn_r _ [10, 11, 12, 13, 5, 14, 15, 16, 17, 18, 19, 20, 21, 22, 23, 24, 25, 26, 27, 28, 29, 30, 31, 32, 33, 34, 35, 36, 37, 38, 39, 40, 41, 42, 43, 44, 45, 46, 47, 48, 49, 50, 51, 52, 53, 54, 55, 56, 57, 58, 59, 60, 61, 62, 63, 64, 65, 66, 67, 68, 69, 70, 71, 72, 73, 74, 75, 76, 77, 78, 79, 80, 81, 82, 87, 88, 89, 90, 91, 92, 93, 94, 95, 96, 97, 98, 99, 100, 101, 102, 103, 104, 105, 106, 107, 108, 109] (by decide +kernel) (by decide +kernel)
set_option maxRecDepth 20000 in
theorem gX3_pass__X3_passAll : GoodIn wsX3_pass_ (wsV RX3 178 RX3 yX3_passAll wsX3_passAll) := goodIn_app (goodIn_of _ (by decide +kernel)) ggX3_pass__X3_passAll
set_option maxRecDepth 20000 in
theorem ggX3_pass__X3_no : GoodIn wsX3_pass_ wsX3_no := goodIn_r _ [86, 1, 87, 88, 89, 90, 91, 92, 93, 94, 95] (by decide +kernel) (by decide +kernel)
set_option maxRecDepth 20000 in
theorem gX3_pass__X3_no : GoodIn wsX3_pass_ (wsV RX3 134 RX3 yX3_no wsX3_no) := goodIn_app (goodIn_of _ (by decide +kernel)) ggX3_pass__X3_no
theorem dX3_pass__0 : decode cX3_pass_ 0 = .ok (.aload_n 0, 1) := by decide +kernel
theorem dX3_pass__1 : decode cX3_pass_ 1 = .ok (.iconst 0, 1) := by decide +kernel
theorem dX3_pass__2 : decode cX3_pass_ 2 = .ok (.putfield 33, 3) := by decide +kernel
theorem dX3_pass__5 : decode cX3_pass_ 5 = .ok (.iload_n 1, 1) := by decide +kernel
theorem dX3_pass__6 : decode cX3_pass_ 6 = .ok (.iconst 1, 1) := by decide +kernel
theorem dX3_pass__7 : decode cX3_pass_ 7 = .ok (.bipush 60, 2) := by decide +kernel
theorem dX3_pass__9 : decode cX3_pass_ 9 = .ok (.invokestatic 39, 3) := by decide +kernel
theorem dX3_pass__12 : decode cX3_pass_ 12 = .ok (.ifCond .eq 15, 3) := by decide +kernel
theorem dX3_pass__15 : decode cX3_pass_ 15 = .ok (.aload_n 0, 1) := by decide +kernel
theorem dX3_pass__16 : decode cX3_pass_ 16 = .ok (.aload_n 0, 1) := by decide +kernel
theorem dX3_pass__17 : decode cX3_pass_ 17 = .ok (.getfield 26, 3) := by decide +kernel
theorem dX3_pass__20 : decode cX3_pass_ 20 = .ok (.iload_n 1, 1) := by decide +kernel
theorem dX3_pass__21 : decode cX3_pass_ 21 = .ok (.invokevirtual 178, 3) := by decide +kernel
theorem dX3_pass__24 : decode cX3_pass_ 24 = .ok (.goto 8, 3) := by decide +kernel
theorem dX3_pass__27 : decode cX3_pass_ 27 = .ok (.aload_n 0, 1) := by decide +kernel
theorem dX3_pass__28 : decode cX3_pass_ 28 = .ok (.iconst 1, 1) := by decide +kernel
theorem dX3_pass__29 : decode cX3_pass_ 29 = .ok (.invokevirtual 134, 3) := by decide +kernel
theorem dX3_pass__32 : decode cX3_pass_ 32 = .ok (.ireturn, 1) := by decide +kernel
set_option maxRecDepth 20000 in
theorem ggX3_arrives_X3_isBarge : GoodIn wsX3_arrives wsX3_isBarge := goodIn_r _ [9, 10, 11, 12, 8, 13, 108, 109, 110, 111, 112, 113, 114, 115, 116] (by decide +kernel) (by decide +kernel)
set_option maxRecDepth 20000 in
theorem gX3_arrives_X3_isBarge : GoodIn wsX3_arrives (wsV RX3 138 RX3 yX3_isBarge wsX3_isBarge) := goodIn_app (goodIn_of _ (by decide +kernel)) ggX3_arrives_X3_isBarge
set_option maxRecDepth 20000 in
theorem ggX3_arrives_X3_no : GoodIn wsX3_arrives wsX3_no := goodIn_r _ [17, 1, 108, 109, 110, 111, 112, 113, 114, 115, 116] (by decide +kernel) (by decide +kernel)
set_option maxRecDepth 20000 in
theorem gX3_arrives_X3_no : GoodIn wsX3_arrives (wsV RX3 134 RX3 yX3_no wsX3_no) := goodIn_app (goodIn_of _ (by decide +kernel)) ggX3_arrives_X3_no
set_option maxRecDepth 20000 in
theorem ggX3_arrives_X2_become : GoodIn wsX3_arrives wsX2_become := goodIn_r _ [22, 23, 24, 25, 26, 27, 28, 29, 30, 31, 32, 33, 34, 35, 36, 37, 38, 21, 39, 40, 41, 42, 43, 117, 118, 119, 120, 121, 122, 123, 124, 125, 126, 127, 128, 129, 130] (by decide +kernel) (by decide +kernel)
set_option maxRecDepth 20000 in
theorem gX3_arrives_X2_become : GoodIn wsX3_arrives (wsV RX3 181 RX2 yX2_become wsX2_become) := goodIn_app (goodIn_of _ (by decide +kernel)) ggX3_arrives_X2_become
set_option maxRecDepth 20000 in
theorem ggX3_arrives_X3_pass : GoodIn wsX3_arrives wsX3_pass := goodIn_r _ [47, 48, 49, 50, 51, 21, 52, 27, 53, 54, 55, 56, 28, 26, 57, 58, 59, 8, 60, 61, 62, 63, 64, 65, 66, 67, 68, 10, 69, 70, 71, 72, 73, 74, 75, 76, 4, 77, 78, 79, 80, 81, 82, 83, 84, 85, 86, 87, 88, 89, 90, 91, 92, 93, 94, 95, 96, 97, 98, 99, 100, 101, 102, 32, 30, 103, 104, 105, 106, 107, 108, 109, 110, 111, 112, 113, 114, 115, 116, 117, 118, 119, 120, 121, 122, 123, 124, 125, 126, 127, 128, 129, 130] (by decide +kernel) (by decide +kernel)
set_option maxRecDepth 20000 in
theorem gX3_arrives_X3_pass : GoodIn wsX3_arrives (wsV RX3 130 RX3 yX3_pass wsX3_pass) := goodIn_app (goodIn_of _ (by decide +kernel)) ggX3_arrives_X3_pass
theorem dX3_arrives_0 : decode cX3_arrives 0 = .ok (.aload_n 0, 1) := by decide +kernel
theorem dX3_arrives_1 : decode cX3_arrives 1 = .ok (.iconst 0, 1) := by decide +kernel
theorem dX3_arrives_2 : decode cX3_arrives 2 = .ok (.putfield 33, 3) := by decide +kernel
theorem dX3_arrives_5 : decode cX3_arrives 5 = .ok (.aload_n 0, 1) := by decide +kernel
theorem dX3_arrives_6 : decode cX3_arrives 6 = .ok (.iload_n 1, 1) := by decide +kernel
theorem dX3_arrives_7 : decode cX3_arrives 7 = .ok (.invokevirtual 138, 3) := by decide +kernel
theorem dX3_arrives_10 : decode cX3_arrives 10 = .ok (.ifCond .ne 9, 3) := by decide +kernel
theorem dX3_arrives_13 : decode cX3_arrives 13 = .ok (.aload_n 0, 1) := by decide +kernel
theorem dX3_arrives_14 : decode cX3_arrives 14 = .ok (.iconst 1, 1) := by decide +kernel
theorem dX3_arrives_15 : decode cX3_arrives 15 = .ok (.invokevirtual 134, 3) := by decide +kernel
theorem dX3_arrives_18 : decode cX3_arrives 18 = .ok (.ireturn, 1) := by decide +kernel
theorem dX3_arrives_19 : decode cX3_arrives 19 = .ok (.aload_n 0, 1) := by decide +kernel
theorem dX3_arrives_20 : decode cX3_arrives 20 = .ok (.getfield 30, 3) := by decide +kernel
theorem dX3_arrives_23 : decode cX3_arrives 23 = .ok (.aload_n 0, 1) := by decide +kernel
theorem dX3_arrives_24 : decode cX3_arrives 24 = .ok (.getfield 26, 3) := by decide +kernel
theorem dX3_arrives_27 : decode cX3_arrives 27 = .ok (.invokevirtual 181, 3) := by decide +kernel
theorem dX3_arrives_30 : decode cX3_arrives 30 = .ok (.pop, 1) := by decide +kernel
theorem dX3_arrives_31 : decode cX3_arrives 31 = .ok (.iconst 0, 1) := by decide +kernel
theorem dX3_arrives_32 : decode cX3_arrives 32 = .ok (.istore_n 2, 1) := by decide +kernel
theorem dX3_arrives_33 : decode cX3_arrives 33 = .ok (.iload_n 2, 1) := by decide +kernel
theorem dX3_arrives_34 : decode cX3_arrives 34 = .ok (.bipush 120, 2) := by decide +kernel
theorem dX3_arrives_36 : decode cX3_arrives 36 = .ok (.if_icmp .gt 38, 3) := by decide +kernel
theorem dX3_arrives_39 : decode cX3_arrives 39 = .ok (.aload_n 0, 1) := by decide +kernel
theorem dX3_arrives_40 : decode cX3_arrives 40 = .ok (.getfield 30, 3) := by decide +kernel
theorem dX3_arrives_43 : decode cX3_arrives 43 = .ok (.getfield 43, 3) := by decide +kernel
theorem dX3_arrives_46 : decode cX3_arrives 46 = .ok (.iload_n 1, 1) := by decide +kernel
theorem dX3_arrives_47 : decode cX3_arrives 47 = .ok (.iaload, 1) := by decide +kernel
theorem dX3_arrives_48 : decode cX3_arrives 48 = .ok (.aload_n 0, 1) := by decide +kernel
theorem dX3_arrives_49 : decode cX3_arrives 49 = .ok (.getfield 9, 3) := by decide +kernel
theorem dX3_arrives_52 : decode cX3_arrives 52 = .ok (.iload_n 1, 1) := by decide +kernel
theorem dX3_arrives_53 : decode cX3_arrives 53 = .ok (.iaload, 1) := by decide +kernel
theorem dX3_arrives_54 : decode cX3_arrives 54 = .ok (.if_icmp .ne 5, 3) := by decide +kernel
theorem dX3_arrives_57 : decode cX3_arrives 57 = .ok (.iload_n 2, 1) := by decide +kernel
theorem dX3_arrives_58 : decode cX3_arrives 58 = .ok (.ireturn, 1) := by decide +kernel
theorem dX3_arrives_59 : decode cX3_arrives 59 = .ok (.aload_n 0, 1) := by decide +kernel
theorem dX3_arrives_60 : decode cX3_arrives 60 = .ok (.aload_n 0, 1) := by decide +kernel
theorem dX3_arrives_61 : decode cX3_arrives 61 = .ok (.getfield 30, 3) := by decide +kernel
theorem dX3_arrives_64 : decode cX3_arrives 64 = .ok (.invokevirtual 130, 3) := by decide +kernel
theorem dX3_arrives_67 : decode cX3_arrives 67 = .ok (.pop, 1) := by decide +kernel
theorem dX3_arrives_68 : decode cX3_arrives 68 = .ok (.iinc 2 1, 3) := by decide +kernel
theorem dX3_arrives_71 : decode cX3_arrives 71 = .ok (.goto (-38), 3) := by decide +kernel
theorem dX3_arrives_74 : decode cX3_arrives 74 = .ok (.iconst (-1), 1) := by decide +kernel
theorem dX3_arrives_75 : decode cX3_arrives 75 = .ok (.ireturn, 1) := by decide +kernel
set_option maxRecDepth 20000 in
theorem ggX3_foresee_X3_isIn : GoodIn wsX3_foresee wsX3_isIn := goodIn_r _ [7] (by decide +kernel) (by decide +kernel)
set_option maxRecDepth 20000 in
theorem gX3_foresee_X3_isIn : GoodIn wsX3_foresee (va_wsS RX3 39 yX3_isIn wsX3_isIn) := goodIn_app (goodIn_of _ (by decide +kernel)) ggX3_foresee_X3_isIn
set_option maxRecDepth 20000 in
theorem ggX3_foresee_X3_no : GoodIn wsX3_foresee wsX3_no := goodIn_r _ [11, 1, 124, 125, 126, 127, 128, 129, 130, 131, 132] (by decide +kernel) (by decide +kernel)
set_option maxRecDepth 20000 in
theorem gX3_foresee_X3_no : GoodIn wsX3_foresee (wsV RX3 134 RX3 yX3_no wsX3_no) := goodIn_app (goodIn_of _ (by decide +kernel)) ggX3_foresee_X3_no
set_option maxRecDepth 20000 in
theorem ggX3_foresee_X2_become : GoodIn wsX3_foresee wsX2_become := goodIn_r _ [16, 17, 18, 19, 20, 21, 22, 23, 24, 25, 26, 27, 28, 29, 30, 31, 32, 15, 33, 34, 35, 36, 37, 133, 134, 135, 136, 137, 138, 139, 140, 141, 142, 143, 144, 145, 146] (by decide +kernel) (by decide +kernel)
set_option maxRecDepth 20000 in
theorem gX3_foresee_X2_become : GoodIn wsX3_foresee (wsV RX3 181 RX2 yX2_become wsX2_become) := goodIn_app (goodIn_of _ (by decide +kernel)) ggX3_foresee_X2_become
set_option maxRecDepth 20000 in
theorem ggX3_foresee_X3_passAll : GoodIn wsX3_foresee wsX3_passAll := goodIn_r _ [41, 42, 43, 44, 6, 45, 46, 47, 48, 49, 15, 50, 21, 51, 52, 53, 54, 22, 20, 55, 56, 57, 58, 59, 60, 61, 62, 63, 64, 65, 66, 67, 68, 69, 70, 71, 72, 73, 74, 75, 76, 77, 78, 79, 80, 81, 82, 83, 84, 85, 86, 87, 88, 89, 90, 91, 92, 93, 94, 95, 96, 97, 98, 99, 100, 101, 102, 26, 24, 103, 104, 105, 106, 107, 124, 125, 126, 127, 128, 129, 130, 131, 132, 133, 134, 135, 136, 137, 138, 139, 140, 141, 142, 143, 144, 145, 146] (by decide +kernel) (by decide +kernel)
set_option maxRecDepth 20000 in
theorem gX3_foresee_X3_passAll : GoodIn wsX3_foresee (wsV RX3 178 RX3 yX3_passAll wsX3_passAll) := goodIn_app (goodIn_of _ (by decide +kernel)) ggX3_foresee_X3_passAll
set_option maxRecDepth 20000 in
theorem ggX3_foresee_X3_counted : GoodIn wsX3_foresee wsX3_counted := goodIn_r _ [111, 67, 81, 59, 112, 113, 114, 6, 115, 76, 116, 117, 118, 15, 119, 21, 120, 121, 122, 123, 24, 133, 134, 135, 136, 137, 138, 139, 140, 141, 142, 143, 144, 145, 146, 124, 125, 126, 127, 128, 129, 130, 131, 132] (by decide +kernel) (by decide +kernel)
set_option maxRecDepth 20000 in
theorem gX3_foresee_X3_counted : GoodIn wsX3_foresee (wsV RX3 175 RX3 yX3_counted wsX3_counted) := goodIn_app (goodIn_of _ (by decide +kernel)) ggX3_foresee_X3_counted
theorem dX3_foresee_0 : decode cX3_foresee 0 = .ok (.aload_n 0, 1) := by decide +kernel
theorem dX3_foresee_1 : decode cX3_foresee 1 = .ok (.iconst 0, 1) := by decide +kernel
theorem dX3_foresee_2 : decode cX3_foresee 2 = .ok (.putfield 33, 3) := by decide +kernel
theorem dX3_foresee_5 : decode cX3_foresee 5 = .ok (.iload_n 1, 1) := by decide +kernel
theorem dX3_foresee_6 : decode cX3_foresee 6 = .ok (.iconst 1, 1) := by decide +kernel
theorem dX3_foresee_7 : decode cX3_foresee 7 = .ok (.bipush 60, 2) := by decide +kernel
theorem dX3_foresee_9 : decode cX3_foresee 9 = .ok (.invokestatic 39, 3) := by decide +kernel
theorem dX3_foresee_12 : decode cX3_foresee 12 = .ok (.ifCond .ne 9, 3) := by decide +kernel
theorem dX3_foresee_15 : decode cX3_foresee 15 = .ok (.aload_n 0, 1) := by decide +kernel
theorem dX3_foresee_16 : decode cX3_foresee 16 = .ok (.iconst 1, 1) := by decide +kernel
theorem dX3_foresee_17 : decode cX3_foresee 17 = .ok (.invokevirtual 134, 3) := by decide +kernel
theorem dX3_foresee_20 : decode cX3_foresee 20 = .ok (.ireturn, 1) := by decide +kernel
theorem dX3_foresee_21 : decode cX3_foresee 21 = .ok (.iload_n 2, 1) := by decide +kernel
theorem dX3_foresee_22 : decode cX3_foresee 22 = .ok (.iconst 2, 1) := by decide +kernel
theorem dX3_foresee_23 : decode cX3_foresee 23 = .ok (.bipush 6, 2) := by decide +kernel
theorem dX3_foresee_25 : decode cX3_foresee 25 = .ok (.invokestatic 39, 3) := by decide +kernel
theorem dX3_foresee_28 : decode cX3_foresee 28 = .ok (.ifCond .ne 9, 3) := by decide +kernel
theorem dX3_foresee_31 : decode cX3_foresee 31 = .ok (.aload_n 0, 1) := by decide +kernel
theorem dX3_foresee_32 : decode cX3_foresee 32 = .ok (.iconst 2, 1) := by decide +kernel
theorem dX3_foresee_33 : decode cX3_foresee 33 = .ok (.invokevirtual 134, 3) := by decide +kernel
theorem dX3_foresee_36 : decode cX3_foresee 36 = .ok (.ireturn, 1) := by decide +kernel
theorem dX3_foresee_37 : decode cX3_foresee 37 = .ok (.aload_n 0, 1) := by decide +kernel
theorem dX3_foresee_38 : decode cX3_foresee 38 = .ok (.aload_n 0, 1) := by decide +kernel
theorem dX3_foresee_39 : decode cX3_foresee 39 = .ok (.getfield 30, 3) := by decide +kernel
theorem dX3_foresee_42 : decode cX3_foresee 42 = .ok (.aload_n 0, 1) := by decide +kernel
theorem dX3_foresee_43 : decode cX3_foresee 43 = .ok (.getfield 26, 3) := by decide +kernel
theorem dX3_foresee_46 : decode cX3_foresee 46 = .ok (.invokevirtual 181, 3) := by decide +kernel
theorem dX3_foresee_49 : decode cX3_foresee 49 = .ok (.iload_n 1, 1) := by decide +kernel
theorem dX3_foresee_50 : decode cX3_foresee 50 = .ok (.invokevirtual 178, 3) := by decide +kernel
theorem dX3_foresee_53 : decode cX3_foresee 53 = .ok (.pop, 1) := by decide +kernel
theorem dX3_foresee_54 : decode cX3_foresee 54 = .ok (.aload_n 0, 1) := by decide +kernel
theorem dX3_foresee_55 : decode cX3_foresee 55 = .ok (.aload_n 0, 1) := by decide +kernel
theorem dX3_foresee_56 : decode cX3_foresee 56 = .ok (.getfield 30, 3) := by decide +kernel
theorem dX3_foresee_59 : decode cX3_foresee 59 = .ok (.iload_n 2, 1) := by decide +kernel
theorem dX3_foresee_60 : decode cX3_foresee 60 = .ok (.invokevirtual 175, 3) := by decide +kernel
theorem dX3_foresee_63 : decode cX3_foresee 63 = .ok (.ireturn, 1) := by decide +kernel
set_option maxRecDepth 20000 in
theorem ggX3_advise_X3_isIn : GoodIn wsX3_advise wsX3_isIn := goodIn_r _ [7] (by decide +kernel) (by decide +kernel)
set_option maxRecDepth 20000 in
theorem gX3_advise_X3_isIn : GoodIn wsX3_advise (va_wsS RX3 39 yX3_isIn wsX3_isIn) := goodIn_app (goodIn_of _ (by decide +kernel)) ggX3_advise_X3_isIn
set_option maxRecDepth 20000 in
theorem ggX3_advise_X3_no : GoodIn wsX3_advise wsX3_no := goodIn_r _ [11, 1, 108, 109, 110, 111, 112, 113, 114, 115, 116] (by decide +kernel) (by decide +kernel)
set_option maxRecDepth 20000 in
theorem gX3_advise_X3_no : GoodIn wsX3_advise (wsV RX3 134 RX3 yX3_no wsX3_no) := goodIn_app (goodIn_of _ (by decide +kernel)) ggX3_advise_X3_no
set_option maxRecDepth 20000 in
theorem ggX3_advise_X2_become : GoodIn wsX3_advise wsX2_become := goodIn_r _ [16, 17, 18, 19, 20, 21, 22, 23, 24, 25, 26, 27, 28, 29, 30, 31, 32, 15, 33, 34, 35, 36, 37, 117, 118, 119, 120, 121, 122, 123, 124, 125, 126, 127, 128, 129, 130] (by decide +kernel) (by decide +kernel)
set_option maxRecDepth 20000 in
theorem gX3_advise_X2_become : GoodIn wsX3_advise (wsV RX3 181 RX2 yX2_become wsX2_become) := goodIn_app (goodIn_of _ (by decide +kernel)) ggX3_advise_X2_become
set_option maxRecDepth 20000 in
theorem ggX3_advise_X3_passAll : GoodIn wsX3_advise wsX3_passAll := goodIn_r _ [41, 42, 43, 44, 6, 45, 46, 47, 48, 49, 15, 50, 21, 51, 52, 53, 54, 22, 20, 55, 56, 57, 58, 59, 60, 61, 62, 63, 64, 65, 66, 67, 68, 69, 70, 71, 72, 73, 74, 75, 76, 77, 78, 79, 80, 81, 82, 83, 84, 85, 86, 87, 88, 89, 90, 91, 92, 93, 94, 95, 96, 97, 98, 99, 100, 101, 102, 26, 24, 103, 104, 105, 106, 107, 108, 109, 110, 111, 112, 113, 114, 115, 116, 117, 118, 119, 120, 121, 122, 123, 124, 125, 126, 127, 128, 129, 130] (by decide +kernel) (by decide +kernel)
set_option maxRecDepth 20000 in
theorem gX3_advise_X3_passAll : GoodIn wsX3_advise (wsV RX3 178 RX3 yX3_passAll wsX3_passAll) := goodIn_app (goodIn_of _ (by decide +kernel)) ggX3_advise_X3_passAll
theorem dX3_advise_0 : decode cX3_advise 0 = .ok (.aload_n 0, 1) := by decide +kernel
theorem dX3_advise_1 : decode cX3_advise 1 = .ok (.iconst 0, 1) := by decide +kernel
theorem dX3_advise_2 : decode cX3_advise 2 = .ok (.putfield 33, 3) := by decide +kernel
theorem dX3_advise_5 : decode cX3_advise 5 = .ok (.iload_n 1, 1) := by decide +kernel
theorem dX3_advise_6 : decode cX3_advise 6 = .ok (.iconst 1, 1) := by decide +kernel
theorem dX3_advise_7 : decode cX3_advise 7 = .ok (.bipush 40, 2) := by decide +kernel
theorem dX3_advise_9 : decode cX3_advise 9 = .ok (.invokestatic 39, 3) := by decide +kernel
theorem dX3_advise_12 : decode cX3_advise 12 = .ok (.ifCond .ne 9, 3) := by decide +kernel
theorem dX3_advise_15 : decode cX3_advise 15 = .ok (.aload_n 0, 1) := by decide +kernel
theorem dX3_advise_16 : decode cX3_advise 16 = .ok (.iconst 1, 1) := by decide +kernel
theorem dX3_advise_17 : decode cX3_advise 17 = .ok (.invokevirtual 134, 3) := by decide +kernel
theorem dX3_advise_20 : decode cX3_advise 20 = .ok (.ireturn, 1) := by decide +kernel
theorem dX3_advise_21 : decode cX3_advise 21 = .ok (.iconst 0, 1) := by decide +kernel
theorem dX3_advise_22 : decode cX3_advise 22 = .ok (.istore_n 2, 1) := by decide +kernel
theorem dX3_advise_23 : decode cX3_advise 23 = .ok (.iconst (-1), 1) := by decide +kernel
theorem dX3_advise_24 : decode cX3_advise 24 = .ok (.istore_n 3, 1) := by decide +kernel
theorem dX3_advise_25 : decode cX3_advise 25 = .ok (.iconst 0, 1) := by decide +kernel
theorem dX3_advise_26 : decode cX3_advise 26 = .ok (.istore 4, 2) := by decide +kernel
theorem dX3_advise_28 : decode cX3_advise 28 = .ok (.iload 4, 2) := by decide +kernel
theorem dX3_advise_30 : decode cX3_advise 30 = .ok (.bipush 100, 2) := by decide +kernel
theorem dX3_advise_32 : decode cX3_advise 32 = .ok (.if_icmp .gt 60, 3) := by decide +kernel
theorem dX3_advise_35 : decode cX3_advise 35 = .ok (.aload_n 0, 1) := by decide +kernel
theorem dX3_advise_36 : decode cX3_advise 36 = .ok (.getfield 30, 3) := by decide +kernel
theorem dX3_advise_39 : decode cX3_advise 39 = .ok (.aload_n 0, 1) := by decide +kernel
theorem dX3_advise_40 : decode cX3_advise 40 = .ok (.getfield 26, 3) := by decide +kernel
theorem dX3_advise_43 : decode cX3_advise 43 = .ok (.invokevirtual 181, 3) := by decide +kernel
theorem dX3_advise_46 : decode cX3_advise 46 = .ok (.iload 4, 2) := by decide +kernel
theorem dX3_advise_48 : decode cX3_advise 48 = .ok (.putfield 103, 3) := by decide +kernel
theorem dX3_advise_51 : decode cX3_advise 51 = .ok (.aload_n 0, 1) := by decide +kernel
theorem dX3_advise_52 : decode cX3_advise 52 = .ok (.aload_n 0, 1) := by decide +kernel
theorem dX3_advise_53 : decode cX3_advise 53 = .ok (.getfield 30, 3) := by decide +kernel
theorem dX3_advise_56 : decode cX3_advise 56 = .ok (.iload_n 1, 1) := by decide +kernel
theorem dX3_advise_57 : decode cX3_advise 57 = .ok (.invokevirtual 178, 3) := by decide +kernel
theorem dX3_advise_60 : decode cX3_advise 60 = .ok (.pop, 1) := by decide +kernel
theorem dX3_advise_61 : decode cX3_advise 61 = .ok (.aload_n 0, 1) := by decide +kernel
theorem dX3_advise_62 : decode cX3_advise 62 = .ok (.getfield 30, 3) := by decide +kernel
theorem dX3_advise_65 : decode cX3_advise 65 = .ok (.getfield 91, 3) := by decide +kernel
theorem dX3_advise_68 : decode cX3_advise 68 = .ok (.iload_n 3, 1) := by decide +kernel
theorem dX3_advise_69 : decode cX3_advise 69 = .ok (.if_icmp .ge 6, 3) := by decide +kernel
theorem dX3_advise_72 : decode cX3_advise 72 = .ok (.goto 14, 3) := by decide +kernel
theorem dX3_advise_75 : decode cX3_advise 75 = .ok (.aload_n 0, 1) := by decide +kernel
theorem dX3_advise_76 : decode cX3_advise 76 = .ok (.getfield 30, 3) := by decide +kernel
theorem dX3_advise_79 : decode cX3_advise 79 = .ok (.getfield 91, 3) := by decide +kernel
theorem dX3_advise_82 : decode cX3_advise 82 = .ok (.istore_n 3, 1) := by decide +kernel
theorem dX3_advise_83 : decode cX3_advise 83 = .ok (.iload 4, 2) := by decide +kernel
theorem dX3_advise_85 : decode cX3_advise 85 = .ok (.istore_n 2, 1) := by decide +kernel
theorem dX3_advise_86 : decode cX3_advise 86 = .ok (.iinc 4 10, 3) := by decide +kernel
theorem dX3_advise_89 : decode cX3_advise 89 = .ok (.goto (-61), 3) := by decide +kernel
theorem dX3_advise_92 : decode cX3_advise 92 = .ok (.iload_n 2, 1) := by decide +kernel
theorem dX3_advise_93 : decode cX3_advise 93 = .ok (.ireturn, 1) := by decide +kernel
set_option maxRecDepth 20000 in
theorem ggX3_stops_X2_become : GoodIn wsX3_stops wsX2_become := goodIn_r _ [8, 9, 10, 11, 12, 13, 14, 15, 16, 17, 18, 19, 20, 21, 22, 23, 24, 7, 25, 26, 27, 28, 29, 106, 107, 108, 109, 110, 111, 112, 113, 114, 115, 116, 117, 118, 119] (by decide +kernel) (by decide +kernel)
set_option maxRecDepth 20000 in
theorem gX3_stops_X2_become : GoodIn wsX3_stops (wsV RX3 181 RX2 yX2_become wsX2_become) := goodIn_app (goodIn_of _ (by decide +kernel)) ggX3_stops_X2_become
set_option maxRecDepth 20000 in
theorem ggX3_stops_X3_pass : GoodIn wsX3_stops wsX3_pass := goodIn_r _ [34, 35, 36, 37, 38, 7, 39, 13, 40, 41, 42, 43, 14, 12, 44, 45, 46, 33, 47, 48, 49, 50, 51, 52, 53, 54, 55, 56, 57, 58, 59, 60, 61, 62, 63, 64, 65, 66, 67, 68, 69, 70, 71, 72, 73, 74, 75, 76, 77, 78, 79, 80, 81, 82, 83, 84, 85, 86, 87, 88, 89, 90, 91, 18, 16, 92, 93, 94, 95, 96, 97, 98, 99, 100, 101, 102, 103, 104, 105, 106, 107, 108, 109, 110, 111, 112, 113, 114, 115, 116, 117, 118, 119] (by decide +kernel) (by decide +kernel)
set_option maxRecDepth 20000 in
theorem gX3_stops_X3_pass : GoodIn wsX3_stops (wsV RX3 130 RX3 yX3_pass wsX3_pass) := goodIn_app (goodIn_of _ (by decide +kernel)) ggX3_stops_X3_pass
theorem dX3_stops_0 : decode cX3_stops 0 = .ok (.aload_n 0, 1) := by decide +kernel
theorem dX3_stops_1 : decode cX3_stops 1 = .ok (.iconst 0, 1) := by decide +kernel
theorem dX3_stops_2 : decode cX3_stops 2 = .ok (.putfield 33, 3) := by decide +kernel
theorem dX3_stops_5 : decode cX3_stops 5 = .ok (.aload_n 0, 1) := by decide +kernel
theorem dX3_stops_6 : decode cX3_stops 6 = .ok (.getfield 30, 3) := by decide +kernel
theorem dX3_stops_9 : decode cX3_stops 9 = .ok (.aload_n 0, 1) := by decide +kernel
theorem dX3_stops_10 : decode cX3_stops 10 = .ok (.getfield 26, 3) := by decide +kernel
theorem dX3_stops_13 : decode cX3_stops 13 = .ok (.invokevirtual 181, 3) := by decide +kernel
theorem dX3_stops_16 : decode cX3_stops 16 = .ok (.pop, 1) := by decide +kernel
theorem dX3_stops_17 : decode cX3_stops 17 = .ok (.iconst 0, 1) := by decide +kernel
theorem dX3_stops_18 : decode cX3_stops 18 = .ok (.istore_n 1, 1) := by decide +kernel
theorem dX3_stops_19 : decode cX3_stops 19 = .ok (.iload_n 1, 1) := by decide +kernel
theorem dX3_stops_20 : decode cX3_stops 20 = .ok (.bipush 60, 2) := by decide +kernel
theorem dX3_stops_22 : decode cX3_stops 22 = .ok (.if_icmp .ge 22, 3) := by decide +kernel
theorem dX3_stops_25 : decode cX3_stops 25 = .ok (.aload_n 0, 1) := by decide +kernel
theorem dX3_stops_26 : decode cX3_stops 26 = .ok (.aload_n 0, 1) := by decide +kernel
theorem dX3_stops_27 : decode cX3_stops 27 = .ok (.getfield 30, 3) := by decide +kernel
theorem dX3_stops_30 : decode cX3_stops 30 = .ok (.invokevirtual 130, 3) := by decide +kernel
theorem dX3_stops_33 : decode cX3_stops 33 = .ok (.ifCond .ne 5, 3) := by decide +kernel
theorem dX3_stops_36 : decode cX3_stops 36 = .ok (.iload_n 1, 1) := by decide +kernel
theorem dX3_stops_37 : decode cX3_stops 37 = .ok (.ireturn, 1) := by decide +kernel
theorem dX3_stops_38 : decode cX3_stops 38 = .ok (.iinc 1 1, 3) := by decide +kernel
theorem dX3_stops_41 : decode cX3_stops 41 = .ok (.goto (-22), 3) := by decide +kernel
theorem dX3_stops_44 : decode cX3_stops 44 = .ok (.iconst (-1), 1) := by decide +kernel
theorem dX3_stops_45 : decode cX3_stops 45 = .ok (.ireturn, 1) := by decide +kernel
set_option maxRecDepth 20000 in
theorem ggX3_mean_X2_allWater : GoodIn wsX3_mean wsX2_allWater := goodIn_r _ [8, 9, 19, 20, 21, 22, 23, 24, 25, 26, 27, 28, 29, 30, 31, 32] (by decide +kernel) (by decide +kernel)
set_option maxRecDepth 20000 in
theorem gX3_mean_X2_allWater : GoodIn wsX3_mean (wsV RX3 165 RX2 yX2_allWater wsX2_allWater) := goodIn_app (goodIn_of _ (by decide +kernel)) ggX3_mean_X2_allWater
theorem dX3_mean_0 : decode cX3_mean 0 = .ok (.aload_n 0, 1) := by decide +kernel
theorem dX3_mean_1 : decode cX3_mean 1 = .ok (.iconst 0, 1) := by decide +kernel
theorem dX3_mean_2 : decode cX3_mean 2 = .ok (.putfield 33, 3) := by decide +kernel
theorem dX3_mean_5 : decode cX3_mean 5 = .ok (.aload_n 0, 1) := by decide +kernel
theorem dX3_mean_6 : decode cX3_mean 6 = .ok (.getfield 26, 3) := by decide +kernel
theorem dX3_mean_9 : decode cX3_mean 9 = .ok (.invokevirtual 165, 3) := by decide +kernel
theorem dX3_mean_12 : decode cX3_mean 12 = .ok (.i2d, 1) := by decide +kernel
theorem dX3_mean_13 : decode cX3_mean 13 = .ok (.ldc2_w 185, 3) := by decide +kernel
theorem dX3_mean_16 : decode cX3_mean 16 = .ok (.ddiv, 1) := by decide +kernel
theorem dX3_mean_17 : decode cX3_mean 17 = .ok (.dreturn, 1) := by decide +kernel
set_option maxRecDepth 20000 in
theorem ggX3_digest_X3_counted : GoodIn wsX3_digest wsX3_counted := goodIn_r _ [12, 7, 13, 14, 15, 16, 17, 11, 18, 19, 20, 21, 22, 23, 24, 25, 26, 27, 28, 29, 30, 88, 89, 90, 91, 92, 93, 94, 95, 96, 97, 98, 99, 100, 101, 79, 80, 81, 82, 83, 84, 85, 86, 87] (by decide +kernel) (by decide +kernel)
set_option maxRecDepth 20000 in
theorem gX3_digest_X3_counted : GoodIn wsX3_digest (wsV RX3 175 RX3 yX3_counted wsX3_counted) := goodIn_app (goodIn_of _ (by decide +kernel)) ggX3_digest_X3_counted
set_option maxRecDepth 20000 in
theorem ggX3_digest_X3_poundTold : GoodIn wsX3_digest wsX3_poundTold := goodIn_r _ [34, 4, 35, 36, 37, 11, 38, 7, 79, 80, 81, 82, 83, 84, 85, 86, 87, 88, 89, 90, 91, 92, 93, 94, 95, 96, 97, 98, 99, 100, 101] (by decide +kernel) (by decide +kernel)
set_option maxRecDepth 20000 in
theorem gX3_digest_X3_poundTold : GoodIn wsX3_digest (wsV RX3 150 RX3 yX3_poundTold wsX3_poundTold) := goodIn_app (goodIn_of _ (by decide +kernel)) ggX3_digest_X3_poundTold
set_option maxRecDepth 20000 in
theorem ggX3_digest_X3_lockTold : GoodIn wsX3_digest wsX3_lockTold := goodIn_r _ [42, 4, 43, 44, 45, 11, 46, 7, 47, 48, 49, 50, 19, 51, 52, 53, 54, 55, 56, 57, 58, 59, 60, 61, 62, 13, 5, 63, 64, 65, 66, 67, 68, 69, 70, 71, 72, 73, 23, 74, 25, 79, 80, 81, 82, 83, 84, 85, 86, 87, 88, 89, 90, 91, 92, 93, 94, 95, 96, 97, 98, 99, 100, 101] (by decide +kernel) (by decide +kernel)
set_option maxRecDepth 20000 in
theorem gX3_digest_X3_lockTold : GoodIn wsX3_digest (wsV RX3 159 RX3 yX3_lockTold wsX3_lockTold) := goodIn_app (goodIn_of _ (by decide +kernel)) ggX3_digest_X3_lockTold
set_option maxRecDepth 20000 in
theorem ggX3_digest_X3_bargeTold : GoodIn wsX3_digest wsX3_bargeTold := goodIn_r _ [78, 4, 19, 47, 48, 49, 11, 50, 79, 80, 81, 82, 83, 84, 85, 86, 87, 88, 89, 90, 91, 92, 93, 94, 95, 96, 97, 98, 99, 100, 101] (by decide +kernel) (by decide +kernel)
set_option maxRecDepth 20000 in
theorem gX3_digest_X3_bargeTold : GoodIn wsX3_digest (wsV RX3 141 RX3 yX3_bargeTold wsX3_bargeTold) := goodIn_app (goodIn_of _ (by decide +kernel)) ggX3_digest_X3_bargeTold
theorem dX3_digest_0 : decode cX3_digest 0 = .ok (.aload_n 0, 1) := by decide +kernel
theorem dX3_digest_1 : decode cX3_digest 1 = .ok (.iconst 0, 1) := by decide +kernel
theorem dX3_digest_2 : decode cX3_digest 2 = .ok (.putfield 33, 3) := by decide +kernel
theorem dX3_digest_5 : decode cX3_digest 5 = .ok (.ldc2_w 187, 3) := by decide +kernel
theorem dX3_digest_8 : decode cX3_digest 8 = .ok (.lstore_n 1, 1) := by decide +kernel
theorem dX3_digest_9 : decode cX3_digest 9 = .ok (.iconst 0, 1) := by decide +kernel
theorem dX3_digest_10 : decode cX3_digest 10 = .ok (.istore_n 3, 1) := by decide +kernel
theorem dX3_digest_11 : decode cX3_digest 11 = .ok (.iload_n 3, 1) := by decide +kernel
theorem dX3_digest_12 : decode cX3_digest 12 = .ok (.bipush 9, 2) := by decide +kernel
theorem dX3_digest_14 : decode cX3_digest 14 = .ok (.if_icmp .gt 26, 3) := by decide +kernel
theorem dX3_digest_17 : decode cX3_digest 17 = .ok (.lload_n 1, 1) := by decide +kernel
theorem dX3_digest_18 : decode cX3_digest 18 = .ok (.ldc2_w 189, 3) := by decide +kernel
theorem dX3_digest_21 : decode cX3_digest 21 = .ok (.lmul, 1) := by decide +kernel
theorem dX3_digest_22 : decode cX3_digest 22 = .ok (.aload_n 0, 1) := by decide +kernel
theorem dX3_digest_23 : decode cX3_digest 23 = .ok (.aload_n 0, 1) := by decide +kernel
theorem dX3_digest_24 : decode cX3_digest 24 = .ok (.getfield 26, 3) := by decide +kernel
theorem dX3_digest_27 : decode cX3_digest 27 = .ok (.iload_n 3, 1) := by decide +kernel
theorem dX3_digest_28 : decode cX3_digest 28 = .ok (.invokevirtual 175, 3) := by decide +kernel
theorem dX3_digest_31 : decode cX3_digest 31 = .ok (.i2l, 1) := by decide +kernel
theorem dX3_digest_32 : decode cX3_digest 32 = .ok (.ladd, 1) := by decide +kernel
theorem dX3_digest_33 : decode cX3_digest 33 = .ok (.lstore_n 1, 1) := by decide +kernel
theorem dX3_digest_34 : decode cX3_digest 34 = .ok (.iinc 3 1, 3) := by decide +kernel
theorem dX3_digest_37 : decode cX3_digest 37 = .ok (.goto (-26), 3) := by decide +kernel
theorem dX3_digest_40 : decode cX3_digest 40 = .ok (.lload_n 1, 1) := by decide +kernel
theorem dX3_digest_41 : decode cX3_digest 41 = .ok (.ldc2_w 189, 3) := by decide +kernel
theorem dX3_digest_44 : decode cX3_digest 44 = .ok (.lmul, 1) := by decide +kernel
theorem dX3_digest_45 : decode cX3_digest 45 = .ok (.aload_n 0, 1) := by decide +kernel
theorem dX3_digest_46 : decode cX3_digest 46 = .ok (.getfield 66, 3) := by decide +kernel
theorem dX3_digest_49 : decode cX3_digest 49 = .ok (.ifCond .eq 7, 3) := by decide +kernel
theorem dX3_digest_52 : decode cX3_digest 52 = .ok (.iconst 1, 1) := by decide +kernel
theorem dX3_digest_53 : decode cX3_digest 53 = .ok (.goto 4, 3) := by decide +kernel
theorem dX3_digest_56 : decode cX3_digest 56 = .ok (.iconst 0, 1) := by decide +kernel
theorem dX3_digest_57 : decode cX3_digest 57 = .ok (.i2l, 1) := by decide +kernel
theorem dX3_digest_58 : decode cX3_digest 58 = .ok (.ladd, 1) := by decide +kernel
theorem dX3_digest_59 : decode cX3_digest 59 = .ok (.lstore_n 1, 1) := by decide +kernel
theorem dX3_digest_60 : decode cX3_digest 60 = .ok (.aload_n 0, 1) := by decide +kernel
theorem dX3_digest_61 : decode cX3_digest 61 = .ok (.getfield 13, 3) := by decide +kernel
theorem dX3_digest_64 : decode cX3_digest 64 = .ok (.astore_n 3, 1) := by decide +kernel
theorem dX3_digest_65 : decode cX3_digest 65 = .ok (.aload_n 3, 1) := by decide +kernel
theorem dX3_digest_66 : decode cX3_digest 66 = .ok (.arraylength, 1) := by decide +kernel
theorem dX3_digest_67 : decode cX3_digest 67 = .ok (.istore 4, 2) := by decide +kernel
theorem dX3_digest_69 : decode cX3_digest 69 = .ok (.iconst 0, 1) := by decide +kernel
theorem dX3_digest_70 : decode cX3_digest 70 = .ok (.istore 5, 2) := by decide +kernel
theorem dX3_digest_72 : decode cX3_digest 72 = .ok (.iload 5, 2) := by decide +kernel
theorem dX3_digest_74 : decode cX3_digest 74 = .ok (.iload 4, 2) := by decide +kernel
theorem dX3_digest_76 : decode cX3_digest 76 = .ok (.if_icmp .ge 25, 3) := by decide +kernel
theorem dX3_digest_79 : decode cX3_digest 79 = .ok (.aload_n 3, 1) := by decide +kernel
theorem dX3_digest_80 : decode cX3_digest 80 = .ok (.iload 5, 2) := by decide +kernel
theorem dX3_digest_82 : decode cX3_digest 82 = .ok (.iaload, 1) := by decide +kernel
theorem dX3_digest_83 : decode cX3_digest 83 = .ok (.istore 6, 2) := by decide +kernel
theorem dX3_digest_85 : decode cX3_digest 85 = .ok (.lload_n 1, 1) := by decide +kernel
theorem dX3_digest_86 : decode cX3_digest 86 = .ok (.ldc2_w 189, 3) := by decide +kernel
theorem dX3_digest_89 : decode cX3_digest 89 = .ok (.lmul, 1) := by decide +kernel
theorem dX3_digest_90 : decode cX3_digest 90 = .ok (.iload 6, 2) := by decide +kernel
theorem dX3_digest_92 : decode cX3_digest 92 = .ok (.i2l, 1) := by decide +kernel
theorem dX3_digest_93 : decode cX3_digest 93 = .ok (.ladd, 1) := by decide +kernel
theorem dX3_digest_94 : decode cX3_digest 94 = .ok (.lstore_n 1, 1) := by decide +kernel
theorem dX3_digest_95 : decode cX3_digest 95 = .ok (.iinc 5 1, 3) := by decide +kernel
theorem dX3_digest_98 : decode cX3_digest 98 = .ok (.goto (-26), 3) := by decide +kernel
theorem dX3_digest_101 : decode cX3_digest 101 = .ok (.iconst 0, 1) := by decide +kernel
theorem dX3_digest_102 : decode cX3_digest 102 = .ok (.istore_n 3, 1) := by decide +kernel
theorem dX3_digest_103 : decode cX3_digest 103 = .ok (.iload_n 3, 1) := by decide +kernel
theorem dX3_digest_104 : decode cX3_digest 104 = .ok (.bipush 6, 2) := by decide +kernel
theorem dX3_digest_106 : decode cX3_digest 106 = .ok (.if_icmp .ge 39, 3) := by decide +kernel
theorem dX3_digest_109 : decode cX3_digest 109 = .ok (.iconst 0, 1) := by decide +kernel
theorem dX3_digest_110 : decode cX3_digest 110 = .ok (.istore 4, 2) := by decide +kernel
theorem dX3_digest_112 : decode cX3_digest 112 = .ok (.iload 4, 2) := by decide +kernel
theorem dX3_digest_114 : decode cX3_digest 114 = .ok (.iconst 3, 1) := by decide +kernel
theorem dX3_digest_115 : decode cX3_digest 115 = .ok (.if_icmp .gt 24, 3) := by decide +kernel
theorem dX3_digest_118 : decode cX3_digest 118 = .ok (.lload_n 1, 1) := by decide +kernel
theorem dX3_digest_119 : decode cX3_digest 119 = .ok (.ldc2_w 189, 3) := by decide +kernel
theorem dX3_digest_122 : decode cX3_digest 122 = .ok (.lmul, 1) := by decide +kernel
theorem dX3_digest_123 : decode cX3_digest 123 = .ok (.aload_n 0, 1) := by decide +kernel
theorem dX3_digest_124 : decode cX3_digest 124 = .ok (.iload_n 3, 1) := by decide +kernel
theorem dX3_digest_125 : decode cX3_digest 125 = .ok (.iload 4, 2) := by decide +kernel
theorem dX3_digest_127 : decode cX3_digest 127 = .ok (.invokevirtual 150, 3) := by decide +kernel
theorem dX3_digest_130 : decode cX3_digest 130 = .ok (.i2l, 1) := by decide +kernel
theorem dX3_digest_131 : decode cX3_digest 131 = .ok (.ladd, 1) := by decide +kernel
theorem dX3_digest_132 : decode cX3_digest 132 = .ok (.lstore_n 1, 1) := by decide +kernel
theorem dX3_digest_133 : decode cX3_digest 133 = .ok (.iinc 4 1, 3) := by decide +kernel
theorem dX3_digest_136 : decode cX3_digest 136 = .ok (.goto (-24), 3) := by decide +kernel
theorem dX3_digest_139 : decode cX3_digest 139 = .ok (.iinc 3 1, 3) := by decide +kernel
theorem dX3_digest_142 : decode cX3_digest 142 = .ok (.goto (-39), 3) := by decide +kernel
theorem dX3_digest_145 : decode cX3_digest 145 = .ok (.iconst 0, 1) := by decide +kernel
theorem dX3_digest_146 : decode cX3_digest 146 = .ok (.istore_n 3, 1) := by decide +kernel
theorem dX3_digest_147 : decode cX3_digest 147 = .ok (.iload_n 3, 1) := by decide +kernel
theorem dX3_digest_148 : decode cX3_digest 148 = .ok (.iconst 5, 1) := by decide +kernel
theorem dX3_digest_149 : decode cX3_digest 149 = .ok (.if_icmp .ge 39, 3) := by decide +kernel
theorem dX3_digest_152 : decode cX3_digest 152 = .ok (.iconst 0, 1) := by decide +kernel
theorem dX3_digest_153 : decode cX3_digest 153 = .ok (.istore 4, 2) := by decide +kernel
theorem dX3_digest_155 : decode cX3_digest 155 = .ok (.iload 4, 2) := by decide +kernel
theorem dX3_digest_157 : decode cX3_digest 157 = .ok (.iconst 4, 1) := by decide +kernel
theorem dX3_digest_158 : decode cX3_digest 158 = .ok (.if_icmp .gt 24, 3) := by decide +kernel
theorem dX3_digest_161 : decode cX3_digest 161 = .ok (.lload_n 1, 1) := by decide +kernel
theorem dX3_digest_162 : decode cX3_digest 162 = .ok (.ldc2_w 189, 3) := by decide +kernel
theorem dX3_digest_165 : decode cX3_digest 165 = .ok (.lmul, 1) := by decide +kernel
theorem dX3_digest_166 : decode cX3_digest 166 = .ok (.aload_n 0, 1) := by decide +kernel
theorem dX3_digest_167 : decode cX3_digest 167 = .ok (.iload_n 3, 1) := by decide +kernel
theorem dX3_digest_168 : decode cX3_digest 168 = .ok (.iload 4, 2) := by decide +kernel
theorem dX3_digest_170 : decode cX3_digest 170 = .ok (.invokevirtual 159, 3) := by decide +kernel
theorem dX3_digest_173 : decode cX3_digest 173 = .ok (.i2l, 1) := by decide +kernel
theorem dX3_digest_174 : decode cX3_digest 174 = .ok (.ladd, 1) := by decide +kernel
theorem dX3_digest_175 : decode cX3_digest 175 = .ok (.lstore_n 1, 1) := by decide +kernel
theorem dX3_digest_176 : decode cX3_digest 176 = .ok (.iinc 4 1, 3) := by decide +kernel
theorem dX3_digest_179 : decode cX3_digest 179 = .ok (.goto (-24), 3) := by decide +kernel
theorem dX3_digest_182 : decode cX3_digest 182 = .ok (.iinc 3 1, 3) := by decide +kernel
theorem dX3_digest_185 : decode cX3_digest 185 = .ok (.goto (-38), 3) := by decide +kernel
theorem dX3_digest_188 : decode cX3_digest 188 = .ok (.iconst 0, 1) := by decide +kernel
theorem dX3_digest_189 : decode cX3_digest 189 = .ok (.istore_n 3, 1) := by decide +kernel
theorem dX3_digest_190 : decode cX3_digest 190 = .ok (.iload_n 3, 1) := by decide +kernel
theorem dX3_digest_191 : decode cX3_digest 191 = .ok (.aload_n 0, 1) := by decide +kernel
theorem dX3_digest_192 : decode cX3_digest 192 = .ok (.getfield 36, 3) := by decide +kernel
theorem dX3_digest_195 : decode cX3_digest 195 = .ok (.if_icmp .ge 39, 3) := by decide +kernel
theorem dX3_digest_198 : decode cX3_digest 198 = .ok (.iconst 0, 1) := by decide +kernel
theorem dX3_digest_199 : decode cX3_digest 199 = .ok (.istore 4, 2) := by decide +kernel
theorem dX3_digest_201 : decode cX3_digest 201 = .ok (.iload 4, 2) := by decide +kernel
theorem dX3_digest_203 : decode cX3_digest 203 = .ok (.iconst 4, 1) := by decide +kernel
theorem dX3_digest_204 : decode cX3_digest 204 = .ok (.if_icmp .gt 24, 3) := by decide +kernel
theorem dX3_digest_207 : decode cX3_digest 207 = .ok (.lload_n 1, 1) := by decide +kernel
theorem dX3_digest_208 : decode cX3_digest 208 = .ok (.ldc2_w 189, 3) := by decide +kernel
theorem dX3_digest_211 : decode cX3_digest 211 = .ok (.lmul, 1) := by decide +kernel
theorem dX3_digest_212 : decode cX3_digest 212 = .ok (.aload_n 0, 1) := by decide +kernel
theorem dX3_digest_213 : decode cX3_digest 213 = .ok (.iload_n 3, 1) := by decide +kernel
theorem dX3_digest_214 : decode cX3_digest 214 = .ok (.iload 4, 2) := by decide +kernel
theorem dX3_digest_216 : decode cX3_digest 216 = .ok (.invokevirtual 141, 3) := by decide +kernel
theorem dX3_digest_219 : decode cX3_digest 219 = .ok (.i2l, 1) := by decide +kernel
theorem dX3_digest_220 : decode cX3_digest 220 = .ok (.ladd, 1) := by decide +kernel
theorem dX3_digest_221 : decode cX3_digest 221 = .ok (.lstore_n 1, 1) := by decide +kernel
theorem dX3_digest_222 : decode cX3_digest 222 = .ok (.iinc 4 1, 3) := by decide +kernel
theorem dX3_digest_225 : decode cX3_digest 225 = .ok (.goto (-24), 3) := by decide +kernel
theorem dX3_digest_228 : decode cX3_digest 228 = .ok (.iinc 3 1, 3) := by decide +kernel
theorem dX3_digest_231 : decode cX3_digest 231 = .ok (.goto (-41), 3) := by decide +kernel
theorem dX3_digest_234 : decode cX3_digest 234 = .ok (.lload_n 1, 1) := by decide +kernel
theorem dX3_digest_235 : decode cX3_digest 235 = .ok (.lreturn, 1) := by decide +kernel
end
section
theorem dJ9_floorMod_7cf53_0 : decode cJ9_floorMod_7cf53 0 = .ok (.iload_n 0, 1) := by decide +kernel
theorem dJ9_floorMod_7cf53_1 : decode cJ9_floorMod_7cf53 1 = .ok (.iload_n 1, 1) := by decide +kernel
theorem dJ9_floorMod_7cf53_2 : decode cJ9_floorMod_7cf53 2 = .ok (.irem, 1) := by decide +kernel
theorem dJ9_floorMod_7cf53_3 : decode cJ9_floorMod_7cf53 3 = .ok (.istore_n 2, 1) := by decide +kernel
theorem dJ9_floorMod_7cf53_4 : decode cJ9_floorMod_7cf53 4 = .ok (.iload_n 0, 1) := by decide +kernel
theorem dJ9_floorMod_7cf53_5 : decode cJ9_floorMod_7cf53 5 = .ok (.iload_n 1, 1) := by decide +kernel
theorem dJ9_floorMod_7cf53_6 : decode cJ9_floorMod_7cf53 6 = .ok (.ixor, 1) := by decide +kernel
theorem dJ9_floorMod_7cf53_7 : decode cJ9_floorMod_7cf53 7 = .ok (.ifCond .ge 11, 3) := by decide +kernel
theorem dJ9_floorMod_7cf53_10 : decode cJ9_floorMod_7cf53 10 = .ok (.iload_n 2, 1) := by decide +kernel
theorem dJ9_floorMod_7cf53_11 : decode cJ9_floorMod_7cf53 11 = .ok (.ifCond .eq 7, 3) := by decide +kernel
theorem dJ9_floorMod_7cf53_14 : decode cJ9_floorMod_7cf53 14 = .ok (.iload_n 2, 1) := by decide +kernel
theorem dJ9_floorMod_7cf53_15 : decode cJ9_floorMod_7cf53 15 = .ok (.iload_n 1, 1) := by decide +kernel
theorem dJ9_floorMod_7cf53_16 : decode cJ9_floorMod_7cf53 16 = .ok (.iadd, 1) := by decide +kernel
theorem dJ9_floorMod_7cf53_17 : decode cJ9_floorMod_7cf53 17 = .ok (.ireturn, 1) := by decide +kernel
theorem dJ9_floorMod_7cf53_18 : decode cJ9_floorMod_7cf53 18 = .ok (.iload_n 2, 1) := by decide +kernel
theorem dJ9_floorMod_7cf53_19 : decode cJ9_floorMod_7cf53 19 = .ok (.ireturn, 1) := by decide +kernel
theorem dJ9_max_7cf53_0 : decode cJ9_max_7cf53 0 = .ok (.iload_n 0, 1) := by decide +kernel
theorem dJ9_max_7cf53_1 : decode cJ9_max_7cf53 1 = .ok (.iload_n 1, 1) := by decide +kernel
theorem dJ9_max_7cf53_2 : decode cJ9_max_7cf53 2 = .ok (.if_icmp .lt 7, 3) := by decide +kernel
theorem dJ9_max_7cf53_5 : decode cJ9_max_7cf53 5 = .ok (.iload_n 0, 1) := by decide +kernel
theorem dJ9_max_7cf53_6 : decode cJ9_max_7cf53 6 = .ok (.goto 4, 3) := by decide +kernel
theorem dJ9_max_7cf53_9 : decode cJ9_max_7cf53 9 = .ok (.iload_n 1, 1) := by decide +kernel
theorem dJ9_max_7cf53_10 : decode cJ9_max_7cf53 10 = .ok (.ireturn, 1) := by decide +kernel
theorem dJ9_min_7cf53_0 : decode cJ9_min_7cf53 0 = .ok (.iload_n 0, 1) := by decide +kernel
theorem dJ9_min_7cf53_1 : decode cJ9_min_7cf53 1 = .ok (.iload_n 1, 1) := by decide +kernel
theorem dJ9_min_7cf53_2 : decode cJ9_min_7cf53 2 = .ok (.if_icmp .gt 7, 3) := by decide +kernel
theorem dJ9_min_7cf53_5 : decode cJ9_min_7cf53 5 = .ok (.iload_n 0, 1) := by decide +kernel
theorem dJ9_min_7cf53_6 : decode cJ9_min_7cf53 6 = .ok (.goto 4, 3) := by decide +kernel
theorem dJ9_min_7cf53_9 : decode cJ9_min_7cf53 9 = .ok (.iload_n 1, 1) := by decide +kernel
theorem dJ9_min_7cf53_10 : decode cJ9_min_7cf53 10 = .ok (.ireturn, 1) := by decide +kernel
set_option maxRecDepth 20000 in
theorem ggL_setSpring_X1_setSpring : GoodIn wsL_setSpring wsX1_setSpring := goodIn_ca (goodIn_ca (goodIn_r _ [7, 8, 9, 10, 11, 6, 12, 13, 14, 15, 16, 17, 18, 19, 20, 21, 22, 23, 24, 25, 26, 27, 28, 29, 30, 31, 32, 33, 34, 35, 36, 37, 38, 39] (by decide +kernel) (by decide +kernel)) (goodIn_sub (fun _ h => List.mem_cons_of_mem _ (List.mem_append_left _ (List.mem_append_right _ h))) (by decide +kernel))) (goodIn_sub (fun _ h => List.mem_cons_of_mem _ (List.mem_append_right _ h)) (by decide +kernel))
set_option maxRecDepth 20000 in
theorem gL_setSpring_X1_setSpring : GoodIn wsL_setSpring (wsV RL 7 RX1 yX1_setSpring wsX1_setSpring) := goodIn_app (goodIn_of _ (by decide +kernel)) ggL_setSpring_X1_setSpring
theorem dL_setSpring_0 : decode cL_setSpring 0 = .ok (.aload_n 3, 1) := by decide +kernel
theorem dL_setSpring_1 : decode cL_setSpring 1 = .ok (.iconst 0, 1) := by decide +kernel
theorem dL_setSpring_2 : decode cL_setSpring 2 = .ok (.aload_n 0, 1) := by decide +kernel
theorem dL_setSpring_3 : decode cL_setSpring 3 = .ok (.iload_n 1, 1) := by decide +kernel
theorem dL_setSpring_4 : decode cL_setSpring 4 = .ok (.iload_n 2, 1) := by decide +kernel
theorem dL_setSpring_5 : decode cL_setSpring 5 = .ok (.invokevirtual 7, 3) := by decide +kernel
theorem dL_setSpring_8 : decode cL_setSpring 8 = .ok (.i2l, 1) := by decide +kernel
theorem dL_setSpring_9 : decode cL_setSpring 9 = .ok (.lastore, 1) := by decide +kernel
theorem dL_setSpring_10 : decode cL_setSpring 10 = .ok (.goto 11, 3) := by decide +kernel
theorem dL_setSpring_13 : decode cL_setSpring 13 = .ok (.astore 4, 2) := by decide +kernel
theorem dL_setSpring_15 : decode cL_setSpring 15 = .ok (.iconst 1, 1) := by decide +kernel
theorem dL_setSpring_16 : decode cL_setSpring 16 = .ok (.ireturn, 1) := by decide +kernel
theorem dL_setSpring_17 : decode cL_setSpring 17 = .ok (.astore 4, 2) := by decide +kernel
theorem dL_setSpring_19 : decode cL_setSpring 19 = .ok (.iconst 2, 1) := by decide +kernel
theorem dL_setSpring_20 : decode cL_setSpring 20 = .ok (.ireturn, 1) := by decide +kernel
theorem dL_setSpring_21 : decode cL_setSpring 21 = .ok (.iconst 0, 1) := by decide +kernel
theorem dL_setSpring_22 : decode cL_setSpring 22 = .ok (.ireturn, 1) := by decide +kernel
set_option maxRecDepth 20000 in
theorem ggL_setMill_X1_setMill : GoodIn wsL_setMill wsX1_setMill := goodIn_ca (goodIn_ca (goodIn_r _ [7, 8, 9, 10, 11, 12, 6, 13, 14, 15, 16, 17, 18, 19, 20, 21, 22, 23, 24, 25, 26, 27, 28, 29, 30, 31, 32, 33, 34, 35, 36, 37, 38, 39, 40] (by decide +kernel) (by decide +kernel)) (goodIn_sub (fun _ h => List.mem_cons_of_mem _ (List.mem_append_left _ (List.mem_append_right _ h))) (by decide +kernel))) (goodIn_sub (fun _ h => List.mem_cons_of_mem _ (List.mem_append_right _ h)) (by decide +kernel))
set_option maxRecDepth 20000 in
theorem gL_setMill_X1_setMill : GoodIn wsL_setMill (wsV RL 17 RX1 yX1_setMill wsX1_setMill) := goodIn_app (goodIn_of _ (by decide +kernel)) ggL_setMill_X1_setMill
theorem dL_setMill_0 : decode cL_setMill 0 = .ok (.aload_n 3, 1) := by decide +kernel
theorem dL_setMill_1 : decode cL_setMill 1 = .ok (.iconst 0, 1) := by decide +kernel
theorem dL_setMill_2 : decode cL_setMill 2 = .ok (.aload_n 0, 1) := by decide +kernel
theorem dL_setMill_3 : decode cL_setMill 3 = .ok (.iload_n 1, 1) := by decide +kernel
theorem dL_setMill_4 : decode cL_setMill 4 = .ok (.iload_n 2, 1) := by decide +kernel
theorem dL_setMill_5 : decode cL_setMill 5 = .ok (.invokevirtual 17, 3) := by decide +kernel
theorem dL_setMill_8 : decode cL_setMill 8 = .ok (.i2l, 1) := by decide +kernel
theorem dL_setMill_9 : decode cL_setMill 9 = .ok (.lastore, 1) := by decide +kernel
theorem dL_setMill_10 : decode cL_setMill 10 = .ok (.goto 11, 3) := by decide +kernel
theorem dL_setMill_13 : decode cL_setMill 13 = .ok (.astore 4, 2) := by decide +kernel
theorem dL_setMill_15 : decode cL_setMill 15 = .ok (.iconst 1, 1) := by decide +kernel
theorem dL_setMill_16 : decode cL_setMill 16 = .ok (.ireturn, 1) := by decide +kernel
theorem dL_setMill_17 : decode cL_setMill 17 = .ok (.astore 4, 2) := by decide +kernel
theorem dL_setMill_19 : decode cL_setMill 19 = .ok (.iconst 2, 1) := by decide +kernel
theorem dL_setMill_20 : decode cL_setMill 20 = .ok (.ireturn, 1) := by decide +kernel
theorem dL_setMill_21 : decode cL_setMill 21 = .ok (.iconst 0, 1) := by decide +kernel
theorem dL_setMill_22 : decode cL_setMill 22 = .ok (.ireturn, 1) := by decide +kernel
set_option maxRecDepth 20000 in
theorem ggL_setFee_X1_setFee : GoodIn wsL_setFee wsX1_setFee := goodIn_ca (goodIn_r _ [6, 7, 8, 9, 10, 5, 11, 12, 13, 14, 15, 16, 17, 18, 19, 20, 21, 22, 23, 24, 25, 26, 27, 28, 29, 30, 31, 32, 33] (by decide +kernel) (by decide +kernel)) (goodIn_sub (fun _ h => List.mem_cons_of_mem _ (List.mem_append_right _ h)) (by decide +kernel))
set_option maxRecDepth 20000 in
theorem gL_setFee_X1_setFee : GoodIn wsL_setFee (wsV RL 20 RX1 yX1_setFee wsX1_setFee) := goodIn_app (goodIn_of _ (by decide +kernel)) ggL_setFee_X1_setFee
theorem dL_setFee_0 : decode cL_setFee 0 = .ok (.aload_n 2, 1) := by decide +kernel
theorem dL_setFee_1 : decode cL_setFee 1 = .ok (.iconst 0, 1) := by decide +kernel
theorem dL_setFee_2 : decode cL_setFee 2 = .ok (.aload_n 0, 1) := by decide +kernel
theorem dL_setFee_3 : decode cL_setFee 3 = .ok (.iload_n 1, 1) := by decide +kernel
theorem dL_setFee_4 : decode cL_setFee 4 = .ok (.invokevirtual 20, 3) := by decide +kernel
theorem dL_setFee_7 : decode cL_setFee 7 = .ok (.i2l, 1) := by decide +kernel
theorem dL_setFee_8 : decode cL_setFee 8 = .ok (.lastore, 1) := by decide +kernel
theorem dL_setFee_9 : decode cL_setFee 9 = .ok (.goto 6, 3) := by decide +kernel
theorem dL_setFee_12 : decode cL_setFee 12 = .ok (.astore_n 3, 1) := by decide +kernel
theorem dL_setFee_13 : decode cL_setFee 13 = .ok (.iconst 1, 1) := by decide +kernel
theorem dL_setFee_14 : decode cL_setFee 14 = .ok (.ireturn, 1) := by decide +kernel
theorem dL_setFee_15 : decode cL_setFee 15 = .ok (.iconst 0, 1) := by decide +kernel
theorem dL_setFee_16 : decode cL_setFee 16 = .ok (.ireturn, 1) := by decide +kernel
set_option maxRecDepth 20000 in
theorem ggL_water_X1_water : GoodIn wsL_water wsX1_water := goodIn_ca (goodIn_ca (goodIn_ca (goodIn_r _ [8, 9, 10, 11, 12, 13, 14, 7, 15, 16, 17, 18, 19, 20, 21, 22, 23, 24, 25, 26, 27, 28, 29, 30, 31, 32, 33, 34, 35, 36, 37, 38, 39, 40, 41, 42, 43, 44, 45, 46, 47, 48, 49, 50, 51, 52, 53] (by decide +kernel) (by decide +kernel)) (goodIn_sub (fun _ h => List.mem_cons_of_mem _ (List.mem_append_left _ (List.mem_append_left _ (List.mem_append_right _ h)))) (by decide +kernel))) (goodIn_sub (fun _ h => List.mem_cons_of_mem _ (List.mem_append_left _ (List.mem_append_right _ h))) (by decide +kernel))) (goodIn_sub (fun _ h => List.mem_cons_of_mem _ (List.mem_append_right _ h)) (by decide +kernel))
set_option maxRecDepth 20000 in
theorem gL_water_X1_water : GoodIn wsL_water (wsV RL 24 RX1 yX1_water wsX1_water) := goodIn_app (goodIn_of _ (by decide +kernel)) ggL_water_X1_water
theorem dL_water_0 : decode cL_water 0 = .ok (.aload_n 3, 1) := by decide +kernel
theorem dL_water_1 : decode cL_water 1 = .ok (.iconst 0, 1) := by decide +kernel
theorem dL_water_2 : decode cL_water 2 = .ok (.aload_n 0, 1) := by decide +kernel
theorem dL_water_3 : decode cL_water 3 = .ok (.iload_n 1, 1) := by decide +kernel
theorem dL_water_4 : decode cL_water 4 = .ok (.iload_n 2, 1) := by decide +kernel
theorem dL_water_5 : decode cL_water 5 = .ok (.invokevirtual 24, 3) := by decide +kernel
theorem dL_water_8 : decode cL_water 8 = .ok (.i2l, 1) := by decide +kernel
theorem dL_water_9 : decode cL_water 9 = .ok (.lastore, 1) := by decide +kernel
theorem dL_water_10 : decode cL_water 10 = .ok (.goto 15, 3) := by decide +kernel
theorem dL_water_13 : decode cL_water 13 = .ok (.astore 4, 2) := by decide +kernel
theorem dL_water_15 : decode cL_water 15 = .ok (.iconst 1, 1) := by decide +kernel
theorem dL_water_16 : decode cL_water 16 = .ok (.ireturn, 1) := by decide +kernel
theorem dL_water_17 : decode cL_water 17 = .ok (.astore 4, 2) := by decide +kernel
theorem dL_water_19 : decode cL_water 19 = .ok (.iconst 2, 1) := by decide +kernel
theorem dL_water_20 : decode cL_water 20 = .ok (.ireturn, 1) := by decide +kernel
theorem dL_water_21 : decode cL_water 21 = .ok (.astore 4, 2) := by decide +kernel
theorem dL_water_23 : decode cL_water 23 = .ok (.iconst 3, 1) := by decide +kernel
theorem dL_water_24 : decode cL_water 24 = .ok (.ireturn, 1) := by decide +kernel
theorem dL_water_25 : decode cL_water 25 = .ok (.iconst 0, 1) := by decide +kernel
theorem dL_water_26 : decode cL_water 26 = .ok (.ireturn, 1) := by decide +kernel
set_option maxRecDepth 20000 in
theorem ggL_work_X1_work : GoodIn wsL_work wsX1_work := goodIn_ca (goodIn_ca (goodIn_r _ [7, 8, 9, 10, 11, 12, 13, 6, 14, 15, 16, 17, 18, 19, 20, 21, 22, 23, 24, 25, 26, 27, 28, 29, 30, 31, 32, 33, 34, 35, 36, 37, 38, 39, 40, 41, 42, 43, 44, 45, 46, 47, 48, 49, 50, 51, 52, 53, 54, 55, 56, 57] (by decide +kernel) (by decide +kernel)) (goodIn_sub (fun _ h => List.mem_cons_of_mem _ (List.mem_append_left _ (List.mem_append_right _ h))) (by decide +kernel))) (goodIn_sub (fun _ h => List.mem_cons_of_mem _ (List.mem_append_right _ h)) (by decide +kernel))
set_option maxRecDepth 20000 in
theorem gL_work_X1_work : GoodIn wsL_work (wsV RL 29 RX1 yX1_work wsX1_work) := goodIn_app (goodIn_of _ (by decide +kernel)) ggL_work_X1_work
theorem dL_work_0 : decode cL_work 0 = .ok (.aload_n 2, 1) := by decide +kernel
theorem dL_work_1 : decode cL_work 1 = .ok (.iconst 0, 1) := by decide +kernel
theorem dL_work_2 : decode cL_work 2 = .ok (.aload_n 0, 1) := by decide +kernel
theorem dL_work_3 : decode cL_work 3 = .ok (.iload_n 1, 1) := by decide +kernel
theorem dL_work_4 : decode cL_work 4 = .ok (.invokevirtual 29, 3) := by decide +kernel
theorem dL_work_7 : decode cL_work 7 = .ok (.ifCond .eq 7, 3) := by decide +kernel
theorem dL_work_10 : decode cL_work 10 = .ok (.lconst 1, 1) := by decide +kernel
theorem dL_work_11 : decode cL_work 11 = .ok (.goto 4, 3) := by decide +kernel
theorem dL_work_14 : decode cL_work 14 = .ok (.lconst 0, 1) := by decide +kernel
theorem dL_work_15 : decode cL_work 15 = .ok (.lastore, 1) := by decide +kernel
theorem dL_work_16 : decode cL_work 16 = .ok (.goto 9, 3) := by decide +kernel
theorem dL_work_19 : decode cL_work 19 = .ok (.astore_n 3, 1) := by decide +kernel
theorem dL_work_20 : decode cL_work 20 = .ok (.iconst 1, 1) := by decide +kernel
theorem dL_work_21 : decode cL_work 21 = .ok (.ireturn, 1) := by decide +kernel
theorem dL_work_22 : decode cL_work 22 = .ok (.astore_n 3, 1) := by decide +kernel
theorem dL_work_23 : decode cL_work 23 = .ok (.iconst 2, 1) := by decide +kernel
theorem dL_work_24 : decode cL_work 24 = .ok (.ireturn, 1) := by decide +kernel
theorem dL_work_25 : decode cL_work 25 = .ok (.iconst 0, 1) := by decide +kernel
theorem dL_work_26 : decode cL_work 26 = .ok (.ireturn, 1) := by decide +kernel
set_option maxRecDepth 20000 in
theorem ggL_barge_X1_barge : GoodIn wsL_barge wsX1_barge := goodIn_ca (goodIn_ca (goodIn_ca (goodIn_r _ [8, 9, 10, 11, 12, 13, 14, 15, 16, 17, 7, 18, 19, 20, 21, 22, 23, 24, 25, 26, 27, 28, 29, 30, 31, 32, 33, 34, 35, 36, 37, 38, 39, 40, 41, 42, 43, 44, 45] (by decide +kernel) (by decide +kernel)) (goodIn_sub (fun _ h => List.mem_cons_of_mem _ (List.mem_append_left _ (List.mem_append_left _ (List.mem_append_right _ h)))) (by decide +kernel))) (goodIn_sub (fun _ h => List.mem_cons_of_mem _ (List.mem_append_left _ (List.mem_append_right _ h))) (by decide +kernel))) (goodIn_sub (fun _ h => List.mem_cons_of_mem _ (List.mem_append_right _ h)) (by decide +kernel))
set_option maxRecDepth 20000 in
theorem gL_barge_X1_barge : GoodIn wsL_barge (wsV RL 33 RX1 yX1_barge wsX1_barge) := goodIn_app (goodIn_of _ (by decide +kernel)) ggL_barge_X1_barge
theorem dL_barge_0 : decode cL_barge 0 = .ok (.aload 4, 2) := by decide +kernel
theorem dL_barge_2 : decode cL_barge 2 = .ok (.iconst 0, 1) := by decide +kernel
theorem dL_barge_3 : decode cL_barge 3 = .ok (.aload_n 0, 1) := by decide +kernel
theorem dL_barge_4 : decode cL_barge 4 = .ok (.iload_n 1, 1) := by decide +kernel
theorem dL_barge_5 : decode cL_barge 5 = .ok (.iload_n 2, 1) := by decide +kernel
theorem dL_barge_6 : decode cL_barge 6 = .ok (.iload_n 3, 1) := by decide +kernel
theorem dL_barge_7 : decode cL_barge 7 = .ok (.invokevirtual 33, 3) := by decide +kernel
theorem dL_barge_10 : decode cL_barge 10 = .ok (.i2l, 1) := by decide +kernel
theorem dL_barge_11 : decode cL_barge 11 = .ok (.lastore, 1) := by decide +kernel
theorem dL_barge_12 : decode cL_barge 12 = .ok (.goto 15, 3) := by decide +kernel
theorem dL_barge_15 : decode cL_barge 15 = .ok (.astore 5, 2) := by decide +kernel
theorem dL_barge_17 : decode cL_barge 17 = .ok (.iconst 1, 1) := by decide +kernel
theorem dL_barge_18 : decode cL_barge 18 = .ok (.ireturn, 1) := by decide +kernel
theorem dL_barge_19 : decode cL_barge 19 = .ok (.astore 5, 2) := by decide +kernel
theorem dL_barge_21 : decode cL_barge 21 = .ok (.iconst 2, 1) := by decide +kernel
theorem dL_barge_22 : decode cL_barge 22 = .ok (.ireturn, 1) := by decide +kernel
theorem dL_barge_23 : decode cL_barge 23 = .ok (.astore 5, 2) := by decide +kernel
theorem dL_barge_25 : decode cL_barge 25 = .ok (.iconst 3, 1) := by decide +kernel
theorem dL_barge_26 : decode cL_barge 26 = .ok (.ireturn, 1) := by decide +kernel
theorem dL_barge_27 : decode cL_barge 27 = .ok (.iconst 0, 1) := by decide +kernel
theorem dL_barge_28 : decode cL_barge 28 = .ok (.ireturn, 1) := by decide +kernel
set_option maxRecDepth 20000 in
theorem ggL_send_X1_send : GoodIn wsL_send wsX1_send := goodIn_ca (goodIn_r _ [6, 7, 8, 9, 10, 11, 5, 12, 13, 14, 15, 16, 17, 18, 19, 20, 21, 22, 23, 24, 25, 26, 27, 28, 29, 30, 31, 32, 33, 34] (by decide +kernel) (by decide +kernel)) (goodIn_sub (fun _ h => List.mem_cons_of_mem _ (List.mem_append_right _ h)) (by decide +kernel))
set_option maxRecDepth 20000 in
theorem gL_send_X1_send : GoodIn wsL_send (wsV RL 37 RX1 yX1_send wsX1_send) := goodIn_app (goodIn_of _ (by decide +kernel)) ggL_send_X1_send
theorem dL_send_0 : decode cL_send 0 = .ok (.aload_n 3, 1) := by decide +kernel
theorem dL_send_1 : decode cL_send 1 = .ok (.iconst 0, 1) := by decide +kernel
theorem dL_send_2 : decode cL_send 2 = .ok (.aload_n 0, 1) := by decide +kernel
theorem dL_send_3 : decode cL_send 3 = .ok (.iload_n 1, 1) := by decide +kernel
theorem dL_send_4 : decode cL_send 4 = .ok (.iload_n 2, 1) := by decide +kernel
theorem dL_send_5 : decode cL_send 5 = .ok (.invokevirtual 37, 3) := by decide +kernel
theorem dL_send_8 : decode cL_send 8 = .ok (.i2l, 1) := by decide +kernel
theorem dL_send_9 : decode cL_send 9 = .ok (.lastore, 1) := by decide +kernel
theorem dL_send_10 : decode cL_send 10 = .ok (.goto 7, 3) := by decide +kernel
theorem dL_send_13 : decode cL_send 13 = .ok (.astore 4, 2) := by decide +kernel
theorem dL_send_15 : decode cL_send 15 = .ok (.iconst 1, 1) := by decide +kernel
theorem dL_send_16 : decode cL_send 16 = .ok (.ireturn, 1) := by decide +kernel
theorem dL_send_17 : decode cL_send 17 = .ok (.iconst 0, 1) := by decide +kernel
theorem dL_send_18 : decode cL_send 18 = .ok (.ireturn, 1) := by decide +kernel
set_option maxRecDepth 20000 in
theorem ggL_told_X1_told : GoodIn wsL_told wsX1_told := goodIn_ca (goodIn_r _ [6, 7, 8, 9, 10, 5, 11, 12, 13, 14, 15, 16, 17, 18, 19, 20, 21, 22, 23, 24, 25, 26, 27, 28, 29, 30, 31, 32, 33, 34, 35, 36, 37, 38, 39, 40, 41, 42, 43, 44, 45, 46, 47, 48, 49, 50, 51, 52, 53, 54] (by decide +kernel) (by decide +kernel)) (goodIn_sub (fun _ h => List.mem_cons_of_mem _ (List.mem_append_right _ h)) (by decide +kernel))
set_option maxRecDepth 20000 in
theorem gL_told_X1_told : GoodIn wsL_told (wsV RL 40 RX1 yX1_told wsX1_told) := goodIn_app (goodIn_of _ (by decide +kernel)) ggL_told_X1_told
theorem dL_told_0 : decode cL_told 0 = .ok (.aload_n 3, 1) := by decide +kernel
theorem dL_told_1 : decode cL_told 1 = .ok (.iconst 0, 1) := by decide +kernel
theorem dL_told_2 : decode cL_told 2 = .ok (.aload_n 0, 1) := by decide +kernel
theorem dL_told_3 : decode cL_told 3 = .ok (.iload_n 1, 1) := by decide +kernel
theorem dL_told_4 : decode cL_told 4 = .ok (.iload_n 2, 1) := by decide +kernel
theorem dL_told_5 : decode cL_told 5 = .ok (.invokevirtual 40, 3) := by decide +kernel
theorem dL_told_8 : decode cL_told 8 = .ok (.i2l, 1) := by decide +kernel
theorem dL_told_9 : decode cL_told 9 = .ok (.lastore, 1) := by decide +kernel
theorem dL_told_10 : decode cL_told 10 = .ok (.goto 7, 3) := by decide +kernel
theorem dL_told_13 : decode cL_told 13 = .ok (.astore 4, 2) := by decide +kernel
theorem dL_told_15 : decode cL_told 15 = .ok (.iconst 1, 1) := by decide +kernel
theorem dL_told_16 : decode cL_told 16 = .ok (.ireturn, 1) := by decide +kernel
theorem dL_told_17 : decode cL_told 17 = .ok (.iconst 0, 1) := by decide +kernel
theorem dL_told_18 : decode cL_told 18 = .ok (.ireturn, 1) := by decide +kernel
set_option maxRecDepth 20000 in
theorem ggL_pound_X1_pound : GoodIn wsL_pound wsX1_pound := goodIn_ca (goodIn_r _ [6, 7, 8, 9, 5, 10, 11, 12, 13, 14, 15, 16, 17, 18, 19, 20, 21, 22, 23, 24, 25, 26, 27, 28, 29, 30, 31, 32, 33, 34, 35, 36, 37, 38, 39, 40, 41, 42, 43, 44, 45, 46] (by decide +kernel) (by decide +kernel)) (goodIn_sub (fun _ h => List.mem_cons_of_mem _ (List.mem_append_right _ h)) (by decide +kernel))
set_option maxRecDepth 20000 in
theorem gL_pound_X1_pound : GoodIn wsL_pound (wsV RL 43 RX1 yX1_pound wsX1_pound) := goodIn_app (goodIn_of _ (by decide +kernel)) ggL_pound_X1_pound
theorem dL_pound_0 : decode cL_pound 0 = .ok (.aload_n 3, 1) := by decide +kernel
theorem dL_pound_1 : decode cL_pound 1 = .ok (.iconst 0, 1) := by decide +kernel
theorem dL_pound_2 : decode cL_pound 2 = .ok (.aload_n 0, 1) := by decide +kernel
theorem dL_pound_3 : decode cL_pound 3 = .ok (.iload_n 1, 1) := by decide +kernel
theorem dL_pound_4 : decode cL_pound 4 = .ok (.iload_n 2, 1) := by decide +kernel
theorem dL_pound_5 : decode cL_pound 5 = .ok (.invokevirtual 43, 3) := by decide +kernel
theorem dL_pound_8 : decode cL_pound 8 = .ok (.i2l, 1) := by decide +kernel
theorem dL_pound_9 : decode cL_pound 9 = .ok (.lastore, 1) := by decide +kernel
theorem dL_pound_10 : decode cL_pound 10 = .ok (.goto 7, 3) := by decide +kernel
theorem dL_pound_13 : decode cL_pound 13 = .ok (.astore 4, 2) := by decide +kernel
theorem dL_pound_15 : decode cL_pound 15 = .ok (.iconst 1, 1) := by decide +kernel
theorem dL_pound_16 : decode cL_pound 16 = .ok (.ireturn, 1) := by decide +kernel
theorem dL_pound_17 : decode cL_pound 17 = .ok (.iconst 0, 1) := by decide +kernel
theorem dL_pound_18 : decode cL_pound 18 = .ok (.ireturn, 1) := by decide +kernel
set_option maxRecDepth 20000 in
theorem ggL_lock_X1_lock : GoodIn wsL_lock wsX1_lock := goodIn_ca (goodIn_r _ [6, 7, 8, 9, 5, 10, 11, 12, 13, 14, 15, 16, 17, 18, 19, 20, 21, 22, 23, 24, 25, 26, 27, 28, 29, 30, 31, 32, 33, 34, 35, 36, 37, 38, 39, 40, 41, 42, 43, 44, 45, 46, 47, 48, 49, 50, 51, 52, 53, 54, 55, 56, 57, 58, 59, 60, 61, 62, 63, 64, 65, 66, 67, 68, 69, 70, 71, 72, 73, 74, 75, 76, 77, 78, 79] (by decide +kernel) (by decide +kernel)) (goodIn_sub (fun _ h => List.mem_cons_of_mem _ (List.mem_append_right _ h)) (by decide +kernel))
set_option maxRecDepth 20000 in
theorem gL_lock_X1_lock : GoodIn wsL_lock (wsV RL 46 RX1 yX1_lock wsX1_lock) := goodIn_app (goodIn_of _ (by decide +kernel)) ggL_lock_X1_lock
theorem dL_lock_0 : decode cL_lock 0 = .ok (.aload_n 3, 1) := by decide +kernel
theorem dL_lock_1 : decode cL_lock 1 = .ok (.iconst 0, 1) := by decide +kernel
theorem dL_lock_2 : decode cL_lock 2 = .ok (.aload_n 0, 1) := by decide +kernel
theorem dL_lock_3 : decode cL_lock 3 = .ok (.iload_n 1, 1) := by decide +kernel
theorem dL_lock_4 : decode cL_lock 4 = .ok (.iload_n 2, 1) := by decide +kernel
theorem dL_lock_5 : decode cL_lock 5 = .ok (.invokevirtual 46, 3) := by decide +kernel
theorem dL_lock_8 : decode cL_lock 8 = .ok (.i2l, 1) := by decide +kernel
theorem dL_lock_9 : decode cL_lock 9 = .ok (.lastore, 1) := by decide +kernel
theorem dL_lock_10 : decode cL_lock 10 = .ok (.goto 7, 3) := by decide +kernel
theorem dL_lock_13 : decode cL_lock 13 = .ok (.astore 4, 2) := by decide +kernel
theorem dL_lock_15 : decode cL_lock 15 = .ok (.iconst 1, 1) := by decide +kernel
theorem dL_lock_16 : decode cL_lock 16 = .ok (.ireturn, 1) := by decide +kernel
theorem dL_lock_17 : decode cL_lock 17 = .ok (.iconst 0, 1) := by decide +kernel
theorem dL_lock_18 : decode cL_lock 18 = .ok (.ireturn, 1) := by decide +kernel
set_option maxRecDepth 20000 in
theorem ggL_count_X1_count : GoodIn wsL_count wsX1_count := goodIn_ca (goodIn_r _ [6, 7, 8, 9, 5, 10, 11, 12, 13, 14, 15, 16, 17, 18, 19, 20, 21, 22, 23, 24, 25, 26, 27, 28, 29, 30, 31, 32, 33, 34, 35, 36, 37, 38, 39, 40, 41, 42, 43, 44, 45, 46, 47, 48, 49, 50, 51, 52, 53, 54, 55, 56, 57, 58, 59, 60, 61, 62, 63, 64, 65] (by decide +kernel) (by decide +kernel)) (goodIn_sub (fun _ h => List.mem_cons_of_mem _ (List.mem_append_right _ h)) (by decide +kernel))
set_option maxRecDepth 20000 in
theorem gL_count_X1_count : GoodIn wsL_count (wsV RL 49 RX1 yX1_count wsX1_count) := goodIn_app (goodIn_of _ (by decide +kernel)) ggL_count_X1_count
theorem dL_count_0 : decode cL_count 0 = .ok (.aload_n 2, 1) := by decide +kernel
theorem dL_count_1 : decode cL_count 1 = .ok (.iconst 0, 1) := by decide +kernel
theorem dL_count_2 : decode cL_count 2 = .ok (.aload_n 0, 1) := by decide +kernel
theorem dL_count_3 : decode cL_count 3 = .ok (.iload_n 1, 1) := by decide +kernel
theorem dL_count_4 : decode cL_count 4 = .ok (.invokevirtual 49, 3) := by decide +kernel
theorem dL_count_7 : decode cL_count 7 = .ok (.i2l, 1) := by decide +kernel
theorem dL_count_8 : decode cL_count 8 = .ok (.lastore, 1) := by decide +kernel
theorem dL_count_9 : decode cL_count 9 = .ok (.goto 6, 3) := by decide +kernel
theorem dL_count_12 : decode cL_count 12 = .ok (.astore_n 3, 1) := by decide +kernel
theorem dL_count_13 : decode cL_count 13 = .ok (.iconst 1, 1) := by decide +kernel
theorem dL_count_14 : decode cL_count 14 = .ok (.ireturn, 1) := by decide +kernel
theorem dL_count_15 : decode cL_count 15 = .ok (.iconst 0, 1) := by decide +kernel
theorem dL_count_16 : decode cL_count 16 = .ok (.ireturn, 1) := by decide +kernel
set_option maxRecDepth 20000 in
theorem ggL_pass_X1_pass : GoodIn wsL_pass wsX1_pass := goodIn_ca (goodIn_r _ [6, 7, 8, 9, 5, 10, 11, 12, 13, 14, 15, 16, 17, 18, 19, 20, 21, 22, 23, 24, 25, 26, 27, 28, 29, 30, 31, 32, 33, 34, 35, 36, 37, 38, 39, 40, 41, 42, 43, 44, 45, 46, 47, 48, 49, 50, 51, 52, 53, 54, 55, 56, 57, 58, 59, 60, 61, 62, 63, 64, 65, 66, 67, 68, 69, 70, 71, 72, 73, 74, 75, 76, 77, 78, 79, 80, 81, 82, 83, 84, 85, 86, 87, 88, 89, 90, 91, 92, 93, 94, 95, 96, 97, 98, 99, 100, 101, 102, 103, 104, 105, 106, 107, 108, 109, 110, 111] (by decide +kernel) (by decide +kernel)) (goodIn_sub (fun _ h => List.mem_cons_of_mem _ (List.mem_append_right _ h)) (by decide +kernel))
set_option maxRecDepth 20000 in
theorem gL_pass_X1_pass : GoodIn wsL_pass (wsV RL 52 RX1 yX1_pass wsX1_pass) := goodIn_app (goodIn_of _ (by decide +kernel)) ggL_pass_X1_pass
theorem dL_pass_0 : decode cL_pass 0 = .ok (.aload_n 2, 1) := by decide +kernel
theorem dL_pass_1 : decode cL_pass 1 = .ok (.iconst 0, 1) := by decide +kernel
theorem dL_pass_2 : decode cL_pass 2 = .ok (.aload_n 0, 1) := by decide +kernel
theorem dL_pass_3 : decode cL_pass 3 = .ok (.iload_n 1, 1) := by decide +kernel
theorem dL_pass_4 : decode cL_pass 4 = .ok (.invokevirtual 52, 3) := by decide +kernel
theorem dL_pass_7 : decode cL_pass 7 = .ok (.i2l, 1) := by decide +kernel
theorem dL_pass_8 : decode cL_pass 8 = .ok (.lastore, 1) := by decide +kernel
theorem dL_pass_9 : decode cL_pass 9 = .ok (.goto 6, 3) := by decide +kernel
theorem dL_pass_12 : decode cL_pass 12 = .ok (.astore_n 3, 1) := by decide +kernel
theorem dL_pass_13 : decode cL_pass 13 = .ok (.iconst 1, 1) := by decide +kernel
theorem dL_pass_14 : decode cL_pass 14 = .ok (.ireturn, 1) := by decide +kernel
theorem dL_pass_15 : decode cL_pass 15 = .ok (.iconst 0, 1) := by decide +kernel
theorem dL_pass_16 : decode cL_pass 16 = .ok (.ireturn, 1) := by decide +kernel
set_option maxRecDepth 20000 in
theorem ggL_arrives_X1_arrives : GoodIn wsL_arrives wsX1_arrives := goodIn_ca (goodIn_r _ [6, 7, 8, 9, 10, 11, 5, 12, 13, 14, 15, 16, 17, 18, 19, 20, 21, 22, 23, 24, 25, 26, 27, 28, 29, 30, 31, 32, 33, 34, 35, 36, 37, 38, 39, 40, 41, 42, 43, 44, 45, 46, 47, 48, 49, 50, 51, 52, 53, 54, 55, 56, 57, 58, 59, 60, 61, 62, 63, 64, 65, 66, 67, 68, 69, 70, 71, 72, 73, 74, 75, 76, 77, 78, 79, 80, 81, 82, 83, 84, 85, 86, 87, 88, 89, 90, 91, 92, 93, 94, 95, 96, 97, 98, 99, 100, 101, 102, 103, 104, 105, 106, 107, 108, 109, 110, 111, 112, 113, 114, 115, 116, 117, 118] (by decide +kernel) (by decide +kernel)) (goodIn_sub (fun _ h => List.mem_cons_of_mem _ (List.mem_append_right _ h)) (by decide +kernel))
set_option maxRecDepth 20000 in
theorem gL_arrives_X1_arrives : GoodIn wsL_arrives (wsV RL 55 RX1 yX1_arrives wsX1_arrives) := goodIn_app (goodIn_of _ (by decide +kernel)) ggL_arrives_X1_arrives
theorem dL_arrives_0 : decode cL_arrives 0 = .ok (.aload_n 2, 1) := by decide +kernel
theorem dL_arrives_1 : decode cL_arrives 1 = .ok (.iconst 0, 1) := by decide +kernel
theorem dL_arrives_2 : decode cL_arrives 2 = .ok (.aload_n 0, 1) := by decide +kernel
theorem dL_arrives_3 : decode cL_arrives 3 = .ok (.iload_n 1, 1) := by decide +kernel
theorem dL_arrives_4 : decode cL_arrives 4 = .ok (.invokevirtual 55, 3) := by decide +kernel
theorem dL_arrives_7 : decode cL_arrives 7 = .ok (.i2l, 1) := by decide +kernel
theorem dL_arrives_8 : decode cL_arrives 8 = .ok (.lastore, 1) := by decide +kernel
theorem dL_arrives_9 : decode cL_arrives 9 = .ok (.goto 6, 3) := by decide +kernel
theorem dL_arrives_12 : decode cL_arrives 12 = .ok (.astore_n 3, 1) := by decide +kernel
theorem dL_arrives_13 : decode cL_arrives 13 = .ok (.iconst 1, 1) := by decide +kernel
theorem dL_arrives_14 : decode cL_arrives 14 = .ok (.ireturn, 1) := by decide +kernel
theorem dL_arrives_15 : decode cL_arrives 15 = .ok (.iconst 0, 1) := by decide +kernel
theorem dL_arrives_16 : decode cL_arrives 16 = .ok (.ireturn, 1) := by decide +kernel
set_option maxRecDepth 20000 in
theorem ggL_foresee_X1_foresee : GoodIn wsL_foresee wsX1_foresee := goodIn_ca (goodIn_ca (goodIn_r _ [7, 8, 9, 10, 11, 6, 12, 13, 14, 15, 16, 17, 18, 19, 20, 21, 22, 23, 24, 25, 26, 27, 28, 29, 30, 31, 32, 33, 34, 35, 36, 37, 38, 39, 40, 41, 42, 43, 44, 45, 46, 47, 48, 49, 50, 51, 52, 53, 54, 55, 56, 57, 58, 59, 60, 61, 62, 63, 64, 65, 66, 67, 68, 69, 70, 71, 72, 73, 74, 75, 76, 77, 78, 79, 80, 81, 82, 83, 84, 85, 86, 87, 88, 89, 90, 91, 92, 93, 94, 95, 96, 97, 98, 99, 100, 101, 102, 103, 104, 105, 106, 107, 108, 109, 110, 111, 112, 113, 114, 115, 116, 117, 118, 119, 120, 121, 122, 123, 124, 125, 126, 127, 128, 129, 130, 131, 132, 133, 134, 135, 136, 137, 138, 139, 140, 141, 142] (by decide +kernel) (by decide +kernel)) (goodIn_sub (fun _ h => List.mem_cons_of_mem _ (List.mem_append_left _ (List.mem_append_right _ h))) (by decide +kernel))) (goodIn_sub (fun _ h => List.mem_cons_of_mem _ (List.mem_append_right _ h)) (by decide +kernel))
set_option maxRecDepth 20000 in
theorem gL_foresee_X1_foresee : GoodIn wsL_foresee (wsV RL 58 RX1 yX1_foresee wsX1_foresee) := goodIn_app (goodIn_of _ (by decide +kernel)) ggL_foresee_X1_foresee
theorem dL_foresee_0 : decode cL_foresee 0 = .ok (.aload_n 3, 1) := by decide +kernel
theorem dL_foresee_1 : decode cL_foresee 1 = .ok (.iconst 0, 1) := by decide +kernel
theorem dL_foresee_2 : decode cL_foresee 2 = .ok (.aload_n 0, 1) := by decide +kernel
theorem dL_foresee_3 : decode cL_foresee 3 = .ok (.iload_n 1, 1) := by decide +kernel
theorem dL_foresee_4 : decode cL_foresee 4 = .ok (.iload_n 2, 1) := by decide +kernel
theorem dL_foresee_5 : decode cL_foresee 5 = .ok (.invokevirtual 58, 3) := by decide +kernel
theorem dL_foresee_8 : decode cL_foresee 8 = .ok (.i2l, 1) := by decide +kernel
theorem dL_foresee_9 : decode cL_foresee 9 = .ok (.lastore, 1) := by decide +kernel
theorem dL_foresee_10 : decode cL_foresee 10 = .ok (.goto 11, 3) := by decide +kernel
theorem dL_foresee_13 : decode cL_foresee 13 = .ok (.astore 4, 2) := by decide +kernel
theorem dL_foresee_15 : decode cL_foresee 15 = .ok (.iconst 1, 1) := by decide +kernel
theorem dL_foresee_16 : decode cL_foresee 16 = .ok (.ireturn, 1) := by decide +kernel
theorem dL_foresee_17 : decode cL_foresee 17 = .ok (.astore 4, 2) := by decide +kernel
theorem dL_foresee_19 : decode cL_foresee 19 = .ok (.iconst 2, 1) := by decide +kernel
theorem dL_foresee_20 : decode cL_foresee 20 = .ok (.ireturn, 1) := by decide +kernel
theorem dL_foresee_21 : decode cL_foresee 21 = .ok (.iconst 0, 1) := by decide +kernel
theorem dL_foresee_22 : decode cL_foresee 22 = .ok (.ireturn, 1) := by decide +kernel
set_option maxRecDepth 20000 in
theorem ggL_advise_X1_advise : GoodIn wsL_advise wsX1_advise := goodIn_ca (goodIn_r _ [6, 7, 8, 9, 10, 11, 12, 5, 13, 14, 15, 16, 17, 18, 19, 20, 21, 22, 23, 24, 25, 26, 27, 28, 29, 30, 31, 32, 33, 34, 35, 36, 37, 38, 39, 40, 41, 42, 43, 44, 45, 46, 47, 48, 49, 50, 51, 52, 53, 54, 55, 56, 57, 58, 59, 60, 61, 62, 63, 64, 65, 66, 67, 68, 69, 70, 71, 72, 73, 74, 75, 76, 77, 78, 79, 80, 81, 82, 83, 84, 85, 86, 87, 88, 89, 90, 91, 92, 93, 94, 95, 96, 97, 98, 99, 100, 101, 102, 103, 104, 105, 106, 107, 108, 109, 110, 111, 112, 113, 114, 115, 116, 117, 118, 119, 120, 121, 122] (by decide +kernel) (by decide +kernel)) (goodIn_sub (fun _ h => List.mem_cons_of_mem _ (List.mem_append_right _ h)) (by decide +kernel))
set_option maxRecDepth 20000 in
theorem gL_advise_X1_advise : GoodIn wsL_advise (wsV RL 61 RX1 yX1_advise wsX1_advise) := goodIn_app (goodIn_of _ (by decide +kernel)) ggL_advise_X1_advise
theorem dL_advise_0 : decode cL_advise 0 = .ok (.aload_n 2, 1) := by decide +kernel
theorem dL_advise_1 : decode cL_advise 1 = .ok (.iconst 0, 1) := by decide +kernel
theorem dL_advise_2 : decode cL_advise 2 = .ok (.aload_n 0, 1) := by decide +kernel
theorem dL_advise_3 : decode cL_advise 3 = .ok (.iload_n 1, 1) := by decide +kernel
theorem dL_advise_4 : decode cL_advise 4 = .ok (.invokevirtual 61, 3) := by decide +kernel
theorem dL_advise_7 : decode cL_advise 7 = .ok (.i2l, 1) := by decide +kernel
theorem dL_advise_8 : decode cL_advise 8 = .ok (.lastore, 1) := by decide +kernel
theorem dL_advise_9 : decode cL_advise 9 = .ok (.goto 6, 3) := by decide +kernel
theorem dL_advise_12 : decode cL_advise 12 = .ok (.astore_n 3, 1) := by decide +kernel
theorem dL_advise_13 : decode cL_advise 13 = .ok (.iconst 1, 1) := by decide +kernel
theorem dL_advise_14 : decode cL_advise 14 = .ok (.ireturn, 1) := by decide +kernel
theorem dL_advise_15 : decode cL_advise 15 = .ok (.iconst 0, 1) := by decide +kernel
theorem dL_advise_16 : decode cL_advise 16 = .ok (.ireturn, 1) := by decide +kernel
set_option maxRecDepth 20000 in
theorem ggL_law_X1_init : GoodIn wsL_law wsX1_init := goodIn_r _ [9, 10, 11, 12, 13, 14, 15, 16, 17, 18, 19, 20, 21, 22, 23, 24, 25, 26, 27, 28, 29, 30, 31, 32, 33, 34, 35, 36, 37, 549, 550, 551, 552, 553, 554, 555, 556, 557, 558, 559, 560, 561, 562, 563, 564, 565, 566, 538, 539] (by decide +kernel) (by decide +kernel)
set_option maxRecDepth 20000 in
theorem gL_law_X1_init : GoodIn wsL_law (wsX1_init) := ggL_law_X1_init
set_option maxRecDepth 20000 in
theorem ggL_law_X3_init : GoodIn wsL_law wsX3_init := goodIn_r _ [40, 41, 11, 12, 25, 42, 43, 44, 45, 46, 47, 48, 49, 50, 51, 52, 53, 54, 55, 56, 57, 58, 59, 60, 61, 62, 63, 64, 540, 541, 542, 543, 544, 545, 546, 547, 548, 567, 568, 569, 570, 571, 572, 573, 574, 575, 576, 577, 578, 579, 580] (by decide +kernel) (by decide +kernel)
set_option maxRecDepth 20000 in
theorem gL_law_X3_init : GoodIn wsL_law (wsX3_init) := ggL_law_X3_init
set_option maxRecDepth 20000 in
theorem ggL_law_L_setSpring : GoodIn wsL_law wsL_setSpring := goodIn_ca (goodIn_ca (goodIn_r _ [68, 69, 70, 71, 72, 73, 2, 74, 16, 75, 76, 77, 78, 79, 80, 81, 82, 83, 84, 85, 538, 539, 549, 550, 551, 552, 553, 554, 555, 556, 557, 558, 559, 560, 561, 562, 563, 564, 565, 566] (by decide +kernel) (by decide +kernel)) (goodIn_sub (fun _ h => List.mem_append_left _ (List.mem_append_left _ (List.mem_append_right _ h))) (by decide +kernel))) (goodIn_sub (fun _ h => List.mem_append_left _ (List.mem_append_right _ h)) (by decide +kernel))
set_option maxRecDepth 20000 in
theorem gL_law_L_setSpring : GoodIn wsL_law (va_wsS RL 68 yL_setSpring wsL_setSpring) := goodIn_app (goodIn_of _ (by decide +kernel)) ggL_law_L_setSpring
set_option maxRecDepth 20000 in
theorem ggL_law_X3_setSpring : GoodIn wsL_law wsX3_setSpring := goodIn_r _ [89, 90, 43, 91, 92, 5, 93, 94, 95, 96, 97, 540, 541, 542, 543, 544, 545, 546, 547, 548] (by decide +kernel) (by decide +kernel)
set_option maxRecDepth 20000 in
theorem gL_law_X3_setSpring : GoodIn wsL_law (wsV RL 73 RX3 yX3_setSpring wsX3_setSpring) := goodIn_app (goodIn_of _ (by decide +kernel)) ggL_law_X3_setSpring
set_option maxRecDepth 20000 in
theorem ggL_law_X3_thrown : GoodIn wsL_law wsX3_thrown := goodIn_r _ [101, 90, 540, 541, 542, 543, 544, 545, 546, 547, 548] (by decide +kernel) (by decide +kernel)
set_option maxRecDepth 20000 in
theorem gL_law_X3_thrown : GoodIn wsL_law (wsV RL 74 RX3 yX3_thrown wsX3_thrown) := goodIn_app (goodIn_of _ (by decide +kernel)) ggL_law_X3_thrown
set_option maxRecDepth 20000 in
theorem ggL_law_L_setMill : GoodIn wsL_law wsL_setMill := goodIn_ca (goodIn_ca (goodIn_r _ [104, 69, 70, 105, 106, 107, 2, 108, 16, 109, 110, 76, 77, 78, 79, 80, 81, 82, 83, 84, 85, 538, 539, 549, 550, 551, 552, 553, 554, 555, 556, 557, 558, 559, 560, 561, 562, 563, 564, 565, 566] (by decide +kernel) (by decide +kernel)) (goodIn_sub (fun _ h => List.mem_append_left _ (List.mem_append_left _ (List.mem_append_right _ h))) (by decide +kernel))) (goodIn_sub (fun _ h => List.mem_append_left _ (List.mem_append_right _ h)) (by decide +kernel))
set_option maxRecDepth 20000 in
theorem gL_law_L_setMill : GoodIn wsL_law (va_wsS RL 78 yL_setMill wsL_setMill) := goodIn_app (goodIn_of _ (by decide +kernel)) ggL_law_L_setMill
set_option maxRecDepth 20000 in
theorem ggL_law_X3_setMill : GoodIn wsL_law wsX3_setMill := goodIn_r _ [114, 90, 49, 44, 91, 92, 5, 93, 94, 95, 96, 97, 540, 541, 542, 543, 544, 545, 546, 547, 548, 567, 568, 569, 570, 571, 572, 573, 574, 575, 576, 577, 578, 579, 580] (by decide +kernel) (by decide +kernel)
set_option maxRecDepth 20000 in
theorem gL_law_X3_setMill : GoodIn wsL_law (wsV RL 80 RX3 yX3_setMill wsX3_setMill) := goodIn_app (goodIn_of _ (by decide +kernel)) ggL_law_X3_setMill
set_option maxRecDepth 20000 in
theorem ggL_law_X1_setDrought : GoodIn wsL_law wsX1_setDrought := goodIn_r _ [118, 16, 119, 538, 539, 549, 550, 551, 552, 553, 554, 555, 556, 557, 558, 559, 560, 561, 562, 563, 564, 565, 566] (by decide +kernel) (by decide +kernel)
set_option maxRecDepth 20000 in
theorem gL_law_X1_setDrought : GoodIn wsL_law (wsV RL 81 RX1 yX1_setDrought wsX1_setDrought) := goodIn_app (goodIn_of _ (by decide +kernel)) ggL_law_X1_setDrought
set_option maxRecDepth 20000 in
theorem ggL_law_X3_setDrought : GoodIn wsL_law wsX3_setDrought := goodIn_r _ [123, 90, 124, 540, 541, 542, 543, 544, 545, 546, 547, 548] (by decide +kernel) (by decide +kernel)
set_option maxRecDepth 20000 in
theorem gL_law_X3_setDrought : GoodIn wsL_law (wsV RL 85 RX3 yX3_setDrought wsX3_setDrought) := goodIn_app (goodIn_of _ (by decide +kernel)) ggL_law_X3_setDrought
set_option maxRecDepth 20000 in
theorem ggL_law_L_setFee : GoodIn wsL_law wsL_setFee := goodIn_ca (goodIn_r _ [127, 70, 128, 129, 130, 2, 131, 16, 132, 81, 82, 83, 84, 85, 538, 539, 549, 550, 551, 552, 553, 554, 555, 556, 557, 558, 559, 560, 561, 562, 563, 564, 565, 566] (by decide +kernel) (by decide +kernel)) (goodIn_sub (fun _ h => List.mem_append_left _ (List.mem_append_right _ h)) (by decide +kernel))
set_option maxRecDepth 20000 in
theorem gL_law_L_setFee : GoodIn wsL_law (va_wsS RL 86 yL_setFee wsL_setFee) := goodIn_app (goodIn_of _ (by decide +kernel)) ggL_law_L_setFee
set_option maxRecDepth 20000 in
theorem ggL_law_X3_setFee : GoodIn wsL_law wsX3_setFee := goodIn_r _ [136, 90, 45, 91, 92, 5, 93, 94, 95, 96, 97, 540, 541, 542, 543, 544, 545, 546, 547, 548] (by decide +kernel) (by decide +kernel)
set_option maxRecDepth 20000 in
theorem gL_law_X3_setFee : GoodIn wsL_law (wsV RL 89 RX3 yX3_setFee wsX3_setFee) := goodIn_app (goodIn_of _ (by decide +kernel)) ggL_law_X3_setFee
set_option maxRecDepth 20000 in
theorem ggL_law_L_water : GoodIn wsL_law wsL_water := goodIn_ca (goodIn_ca (goodIn_ca (goodIn_r _ [139, 69, 70, 140, 141, 142, 143, 2, 144, 145, 146, 16, 147, 76, 77, 78, 79, 80, 81, 82, 83, 84, 85, 148, 149, 150, 15, 151, 27, 152, 153, 154, 155, 28, 538, 539, 549, 550, 551, 552, 553, 554, 555, 556, 557, 558, 559, 560, 561, 562, 563, 564, 565, 566] (by decide +kernel) (by decide +kernel)) (goodIn_sub (fun _ h => List.mem_append_right _ h) (by decide +kernel))) (goodIn_sub (fun _ h => List.mem_append_left _ (List.mem_append_left _ (List.mem_append_right _ h))) (by decide +kernel))) (goodIn_sub (fun _ h => List.mem_append_left _ (List.mem_append_right _ h)) (by decide +kernel))
set_option maxRecDepth 20000 in
theorem gL_law_L_water : GoodIn wsL_law (va_wsS RL 90 yL_water wsL_water) := goodIn_app (goodIn_of _ (by decide +kernel)) ggL_law_L_water
set_option maxRecDepth 20000 in
theorem ggL_law_X3_water : GoodIn wsL_law wsX3_water := goodIn_r _ [159, 90, 49, 91, 92, 5, 93, 94, 95, 96, 97, 160, 161, 162, 48, 163, 55, 164, 165, 154, 166, 56, 167, 540, 541, 542, 543, 544, 545, 546, 547, 548, 567, 568, 569, 570, 571, 572, 573, 574, 575, 576, 577, 578, 579, 580] (by decide +kernel) (by decide +kernel)
set_option maxRecDepth 20000 in
theorem gL_law_X3_water : GoodIn wsL_law (wsV RL 92 RX3 yX3_water wsX3_water) := goodIn_app (goodIn_of _ (by decide +kernel)) ggL_law_X3_water
set_option maxRecDepth 20000 in
theorem ggL_law_L_work : GoodIn wsL_law wsL_work := goodIn_ca (goodIn_ca (goodIn_r _ [170, 69, 140, 171, 172, 173, 2, 174, 145, 146, 16, 175, 76, 77, 78, 79, 80, 176, 177, 178, 15, 179, 27, 180, 181, 182, 183, 31, 33, 184, 149, 150, 151, 152, 153, 154, 155, 28, 538, 539, 549, 550, 551, 552, 553, 554, 555, 556, 557, 558, 559, 560, 561, 562, 563, 564, 565, 566] (by decide +kernel) (by decide +kernel)) (goodIn_sub (fun _ h => List.mem_append_right _ h) (by decide +kernel))) (goodIn_sub (fun _ h => List.mem_append_left _ (List.mem_append_left _ (List.mem_append_right _ h))) (by decide +kernel))
set_option maxRecDepth 20000 in
theorem gL_law_L_work : GoodIn wsL_law (va_wsS RL 93 yL_work wsL_work) := goodIn_app (goodIn_of _ (by decide +kernel)) ggL_law_L_work
set_option maxRecDepth 20000 in
theorem ggL_law_X3_work : GoodIn wsL_law wsX3_work := goodIn_r _ [188, 49, 90, 91, 92, 5, 93, 189, 190, 191, 48, 192, 55, 193, 194, 195, 196, 58, 197, 161, 162, 163, 164, 165, 154, 166, 56, 167, 198, 199, 200, 201, 60, 540, 541, 542, 543, 544, 545, 546, 547, 548, 567, 568, 569, 570, 571, 572, 573, 574, 575, 576, 577, 578, 579, 580] (by decide +kernel) (by decide +kernel)
set_option maxRecDepth 20000 in
theorem gL_law_X3_work : GoodIn wsL_law (wsV RL 95 RX3 yX3_work wsX3_work) := goodIn_app (goodIn_of _ (by decide +kernel)) ggL_law_X3_work
set_option maxRecDepth 20000 in
theorem ggL_law_L_barge : GoodIn wsL_law wsL_barge := goodIn_ca (goodIn_ca (goodIn_ca (goodIn_r _ [204, 69, 70, 140, 205, 206, 207, 2, 208, 145, 146, 16, 209, 210, 211, 212, 76, 77, 78, 79, 80, 81, 82, 83, 84, 85, 538, 539, 549, 550, 551, 552, 553, 554, 555, 556, 557, 558, 559, 560, 561, 562, 563, 564, 565, 566] (by decide +kernel) (by decide +kernel)) (goodIn_sub (fun _ h => List.mem_append_right _ h) (by decide +kernel))) (goodIn_sub (fun _ h => List.mem_append_left _ (List.mem_append_left _ (List.mem_append_right _ h))) (by decide +kernel))) (goodIn_sub (fun _ h => List.mem_append_left _ (List.mem_append_right _ h)) (by decide +kernel))
set_option maxRecDepth 20000 in
theorem gL_law_L_barge : GoodIn wsL_law (va_wsS RL 96 yL_barge wsL_barge) := goodIn_app (goodIn_of _ (by decide +kernel)) ggL_law_L_barge
set_option maxRecDepth 20000 in
theorem ggL_law_X3_barge : GoodIn wsL_law wsX3_barge := goodIn_r _ [216, 90, 217, 49, 42, 91, 92, 5, 93, 94, 95, 96, 97, 540, 541, 542, 543, 544, 545, 546, 547, 548, 567, 568, 569, 570, 571, 572, 573, 574, 575, 576, 577, 578, 579, 580] (by decide +kernel) (by decide +kernel)
set_option maxRecDepth 20000 in
theorem gL_law_X3_barge : GoodIn wsL_law (wsV RL 99 RX3 yX3_barge wsX3_barge) := goodIn_app (goodIn_of _ (by decide +kernel)) ggL_law_X3_barge
set_option maxRecDepth 20000 in
theorem ggL_law_L_send : GoodIn wsL_law wsL_send := goodIn_ca (goodIn_r _ [220, 69, 221, 222, 223, 2, 224, 16, 209, 211, 76, 77, 78, 79, 80, 538, 539, 549, 550, 551, 552, 553, 554, 555, 556, 557, 558, 559, 560, 561, 562, 563, 564, 565, 566] (by decide +kernel) (by decide +kernel)) (goodIn_sub (fun _ h => List.mem_append_left _ (List.mem_append_left _ (List.mem_append_right _ h))) (by decide +kernel))
set_option maxRecDepth 20000 in
theorem gL_law_L_send : GoodIn wsL_law (va_wsS RL 100 yL_send wsL_send) := goodIn_app (goodIn_of _ (by decide +kernel)) ggL_law_L_send
set_option maxRecDepth 20000 in
theorem ggL_law_X3_send : GoodIn wsL_law wsX3_send := goodIn_r _ [228, 90, 42, 229, 230, 231, 5, 232, 217, 91, 92, 93, 94, 95, 96, 97, 540, 541, 542, 543, 544, 545, 546, 547, 548] (by decide +kernel) (by decide +kernel)
set_option maxRecDepth 20000 in
theorem gL_law_X3_send : GoodIn wsL_law (wsV RL 102 RX3 yX3_send wsX3_send) := goodIn_app (goodIn_of _ (by decide +kernel)) ggL_law_X3_send
set_option maxRecDepth 20000 in
theorem ggL_law_L_told : GoodIn wsL_law wsL_told := goodIn_ca (goodIn_r _ [235, 69, 236, 237, 238, 2, 239, 16, 209, 76, 77, 78, 79, 80, 240, 241, 242, 15, 243, 34, 35, 36, 37, 244, 245, 246, 247, 248, 249, 250, 251, 252, 253, 254, 255, 538, 539, 549, 550, 551, 552, 553, 554, 555, 556, 557, 558, 559, 560, 561, 562, 563, 564, 565, 566] (by decide +kernel) (by decide +kernel)) (goodIn_sub (fun _ h => List.mem_append_left _ (List.mem_append_left _ (List.mem_append_right _ h))) (by decide +kernel))
set_option maxRecDepth 20000 in
theorem gL_law_L_told : GoodIn wsL_law (va_wsS RL 103 yL_told wsL_told) := goodIn_app (goodIn_of _ (by decide +kernel)) ggL_law_L_told
set_option maxRecDepth 20000 in
theorem ggL_law_X3_told : GoodIn wsL_law wsX3_told := goodIn_r _ [259, 90, 229, 230, 231, 5, 232, 217, 91, 92, 93, 260, 261, 262, 263, 49, 42, 264, 265, 266, 267, 94, 95, 96, 97, 540, 541, 542, 543, 544, 545, 546, 547, 548, 567, 568, 569, 570, 571, 572, 573, 574, 575, 576, 577, 578, 579, 580] (by decide +kernel) (by decide +kernel)
set_option maxRecDepth 20000 in
theorem gL_law_X3_told : GoodIn wsL_law (wsV RL 105 RX3 yX3_told wsX3_told) := goodIn_app (goodIn_of _ (by decide +kernel)) ggL_law_X3_told
set_option maxRecDepth 20000 in
theorem ggL_law_L_pound : GoodIn wsL_law wsL_pound := goodIn_ca (goodIn_r _ [270, 69, 271, 272, 273, 2, 274, 16, 76, 77, 78, 79, 80, 275, 276, 277, 15, 278, 27, 28, 29, 279, 280, 281, 282, 283, 34, 538, 539, 549, 550, 551, 552, 553, 554, 555, 556, 557, 558, 559, 560, 561, 562, 563, 564, 565, 566] (by decide +kernel) (by decide +kernel)) (goodIn_sub (fun _ h => List.mem_append_left _ (List.mem_append_left _ (List.mem_append_right _ h))) (by decide +kernel))
set_option maxRecDepth 20000 in
theorem gL_law_L_pound : GoodIn wsL_law (va_wsS RL 106 yL_pound wsL_pound) := goodIn_app (goodIn_of _ (by decide +kernel)) ggL_law_L_pound
set_option maxRecDepth 20000 in
theorem ggL_law_X3_pound : GoodIn wsL_law wsX3_pound := goodIn_r _ [287, 90, 91, 92, 5, 93, 288, 289, 290, 291, 49, 292, 293, 294, 295, 217, 94, 95, 96, 97, 540, 541, 542, 543, 544, 545, 546, 547, 548, 567, 568, 569, 570, 571, 572, 573, 574, 575, 576, 577, 578, 579, 580] (by decide +kernel) (by decide +kernel)
set_option maxRecDepth 20000 in
theorem gL_law_X3_pound : GoodIn wsL_law (wsV RL 108 RX3 yX3_pound wsX3_pound) := goodIn_app (goodIn_of _ (by decide +kernel)) ggL_law_X3_pound
set_option maxRecDepth 20000 in
theorem ggL_law_L_lock : GoodIn wsL_law wsL_lock := goodIn_ca (goodIn_r _ [298, 69, 299, 300, 301, 2, 302, 16, 76, 77, 78, 79, 80, 303, 304, 305, 15, 306, 31, 32, 33, 307, 308, 309, 310, 283, 244, 245, 246, 247, 34, 248, 249, 250, 251, 35, 252, 253, 254, 255, 311, 312, 313, 314, 315, 316, 317, 318, 36, 22, 319, 320, 321, 322, 323, 324, 177, 178, 179, 27, 538, 539, 549, 550, 551, 552, 553, 554, 555, 556, 557, 558, 559, 560, 561, 562, 563, 564, 565, 566] (by decide +kernel) (by decide +kernel)) (goodIn_sub (fun _ h => List.mem_append_left _ (List.mem_append_left _ (List.mem_append_right _ h))) (by decide +kernel))
set_option maxRecDepth 20000 in
theorem gL_law_L_lock : GoodIn wsL_law (va_wsS RL 109 yL_lock wsL_lock) := goodIn_app (goodIn_of _ (by decide +kernel)) ggL_law_L_lock
set_option maxRecDepth 20000 in
theorem ggL_law_X3_lock : GoodIn wsL_law wsX3_lock := goodIn_r _ [328, 90, 91, 92, 5, 93, 329, 330, 331, 332, 49, 333, 334, 335, 336, 217, 264, 265, 266, 267, 42, 337, 338, 339, 340, 341, 342, 343, 344, 345, 346, 347, 348, 45, 124, 349, 350, 351, 352, 353, 354, 355, 356, 189, 190, 191, 48, 192, 55, 94, 95, 96, 97, 540, 541, 542, 543, 544, 545, 546, 547, 548, 567, 568, 569, 570, 571, 572, 573, 574, 575, 576, 577, 578, 579, 580] (by decide +kernel) (by decide +kernel)
set_option maxRecDepth 20000 in
theorem gL_law_X3_lock : GoodIn wsL_law (wsV RL 111 RX3 yX3_lock wsX3_lock) := goodIn_app (goodIn_of _ (by decide +kernel)) ggL_law_X3_lock
set_option maxRecDepth 20000 in
theorem ggL_law_L_count : GoodIn wsL_law wsL_count := goodIn_ca (goodIn_r _ [359, 69, 360, 361, 362, 2, 363, 16, 76, 77, 78, 79, 80, 364, 365, 366, 15, 367, 368, 283, 369, 28, 29, 22, 24, 23, 370, 371, 372, 373, 248, 249, 250, 251, 34, 35, 374, 375, 376, 377, 27, 378, 379, 380, 381, 31, 538, 539, 549, 550, 551, 552, 553, 554, 555, 556, 557, 558, 559, 560, 561, 562, 563, 564, 565, 566] (by decide +kernel) (by decide +kernel)) (goodIn_sub (fun _ h => List.mem_append_left _ (List.mem_append_left _ (List.mem_append_right _ h))) (by decide +kernel))
set_option maxRecDepth 20000 in
theorem gL_law_L_count : GoodIn wsL_law (va_wsS RL 112 yL_count wsL_count) := goodIn_app (goodIn_of _ (by decide +kernel)) ggL_law_L_count
set_option maxRecDepth 20000 in
theorem ggL_law_X3_count : GoodIn wsL_law wsX3_count := goodIn_r _ [385, 90, 49, 91, 92, 5, 93, 386, 387, 388, 389, 217, 45, 44, 390, 391, 392, 393, 42, 394, 395, 396, 48, 397, 55, 398, 399, 400, 401, 58, 94, 95, 96, 97, 540, 541, 542, 543, 544, 545, 546, 547, 548, 567, 568, 569, 570, 571, 572, 573, 574, 575, 576, 577, 578, 579, 580] (by decide +kernel) (by decide +kernel)
set_option maxRecDepth 20000 in
theorem gL_law_X3_count : GoodIn wsL_law (wsV RL 114 RX3 yX3_count wsX3_count) := goodIn_app (goodIn_of _ (by decide +kernel)) ggL_law_X3_count
set_option maxRecDepth 20000 in
theorem ggL_law_L_pass : GoodIn wsL_law wsL_pass := goodIn_ca (goodIn_r _ [404, 70, 405, 406, 407, 2, 408, 16, 81, 82, 83, 84, 85, 409, 410, 411, 15, 412, 413, 414, 415, 416, 26, 368, 417, 418, 419, 420, 184, 149, 150, 151, 27, 152, 153, 154, 155, 28, 421, 422, 423, 424, 23, 24, 29, 369, 311, 312, 313, 314, 283, 244, 245, 246, 247, 34, 248, 249, 250, 251, 35, 252, 253, 254, 255, 315, 316, 317, 318, 36, 22, 319, 31, 320, 321, 322, 323, 324, 177, 178, 179, 425, 426, 427, 428, 37, 32, 429, 181, 182, 183, 33, 538, 539, 549, 550, 551, 552, 553, 554, 555, 556, 557, 558, 559, 560, 561, 562, 563, 564, 565, 566] (by decide +kernel) (by decide +kernel)) (goodIn_sub (fun _ h => List.mem_append_left _ (List.mem_append_right _ h)) (by decide +kernel))
set_option maxRecDepth 20000 in
theorem gL_law_L_pass : GoodIn wsL_law (va_wsS RL 115 yL_pass wsL_pass) := goodIn_app (goodIn_of _ (by decide +kernel)) ggL_law_L_pass
set_option maxRecDepth 20000 in
theorem ggL_law_X3_pass_ : GoodIn wsL_law wsX3_pass_ := goodIn_r _ [433, 90, 49, 91, 92, 5, 93, 434, 435, 436, 437, 438, 439, 440, 441, 43, 160, 161, 162, 48, 163, 55, 164, 165, 154, 166, 56, 167, 442, 443, 444, 445, 44, 446, 153, 155, 337, 338, 339, 340, 217, 341, 342, 343, 344, 264, 265, 266, 267, 42, 345, 346, 347, 348, 45, 124, 349, 350, 351, 352, 353, 354, 355, 356, 189, 190, 191, 192, 447, 448, 449, 450, 198, 199, 200, 201, 60, 58, 193, 194, 195, 196, 197, 94, 95, 96, 97, 540, 541, 542, 543, 544, 545, 546, 547, 548, 567, 568, 569, 570, 571, 572, 573, 574, 575, 576, 577, 578, 579, 580] (by decide +kernel) (by decide +kernel)
set_option maxRecDepth 20000 in
theorem gL_law_X3_pass_ : GoodIn wsL_law (wsV RL 117 RX3 yX3_pass_ wsX3_pass_) := goodIn_app (goodIn_of _ (by decide +kernel)) ggL_law_X3_pass_
set_option maxRecDepth 20000 in
theorem ggL_law_L_arrives : GoodIn wsL_law wsL_arrives := goodIn_ca (goodIn_r _ [453, 69, 454, 455, 456, 2, 457, 16, 209, 17, 76, 77, 78, 79, 80, 458, 459, 460, 15, 461, 368, 369, 22, 319, 23, 24, 26, 462, 463, 464, 465, 27, 28, 29, 31, 32, 33, 283, 34, 35, 36, 37, 466, 249, 250, 251, 467, 414, 415, 416, 417, 418, 419, 420, 184, 149, 150, 151, 152, 153, 154, 155, 421, 422, 423, 424, 311, 312, 313, 314, 244, 245, 246, 247, 248, 252, 253, 254, 255, 315, 316, 317, 318, 320, 321, 322, 323, 324, 177, 178, 179, 425, 426, 427, 428, 429, 181, 182, 183, 538, 539, 549, 550, 551, 552, 553, 554, 555, 556, 557, 558, 559, 560, 561, 562, 563, 564, 565, 566] (by decide +kernel) (by decide +kernel)) (goodIn_sub (fun _ h => List.mem_append_left _ (List.mem_append_left _ (List.mem_append_right _ h))) (by decide +kernel))
set_option maxRecDepth 20000 in
theorem gL_law_L_arrives : GoodIn wsL_law (va_wsS RL 118 yL_arrives wsL_arrives) := goodIn_app (goodIn_of _ (by decide +kernel)) ggL_law_L_arrives
set_option maxRecDepth 20000 in
theorem ggL_law_X3_arrives : GoodIn wsL_law wsX3_arrives := goodIn_r _ [471, 90, 50, 49, 42, 229, 230, 231, 5, 232, 217, 91, 92, 93, 94, 95, 96, 97, 472, 473, 474, 48, 475, 476, 54, 477, 167, 55, 56, 57, 58, 59, 60, 61, 62, 63, 64, 478, 479, 480, 481, 463, 464, 465, 438, 439, 440, 441, 43, 160, 161, 162, 163, 164, 165, 154, 166, 442, 443, 444, 445, 44, 446, 153, 155, 337, 338, 339, 340, 341, 342, 343, 344, 264, 265, 266, 267, 345, 346, 347, 348, 45, 124, 349, 350, 351, 352, 353, 354, 355, 356, 189, 190, 191, 192, 447, 448, 449, 450, 198, 199, 200, 201, 193, 194, 195, 196, 197, 540, 541, 542, 543, 544, 545, 546, 547, 548, 567, 568, 569, 570, 571, 572, 573, 574, 575, 576, 577, 578, 579, 580] (by decide +kernel) (by decide +kernel)
set_option maxRecDepth 20000 in
theorem gL_law_X3_arrives : GoodIn wsL_law (wsV RL 120 RX3 yX3_arrives wsX3_arrives) := goodIn_app (goodIn_of _ (by decide +kernel)) ggL_law_X3_arrives
set_option maxRecDepth 20000 in
theorem ggL_law_L_foresee : GoodIn wsL_law wsL_foresee := goodIn_ca (goodIn_ca (goodIn_r _ [484, 70, 69, 485, 486, 487, 2, 488, 17, 16, 81, 82, 83, 84, 85, 76, 77, 78, 79, 80, 458, 459, 460, 15, 461, 368, 369, 22, 319, 23, 24, 26, 462, 463, 464, 465, 27, 28, 29, 31, 32, 33, 283, 34, 35, 36, 37, 409, 410, 411, 412, 413, 414, 415, 416, 417, 418, 419, 420, 184, 149, 150, 151, 152, 153, 154, 155, 421, 422, 423, 424, 311, 312, 313, 314, 244, 245, 246, 247, 248, 249, 250, 251, 252, 253, 254, 255, 315, 316, 317, 318, 320, 321, 322, 323, 324, 177, 178, 179, 425, 426, 427, 428, 429, 181, 182, 183, 364, 365, 366, 367, 370, 371, 372, 373, 374, 375, 376, 377, 378, 379, 380, 381, 538, 539, 549, 550, 551, 552, 553, 554, 555, 556, 557, 558, 559, 560, 561, 562, 563, 564, 565, 566] (by decide +kernel) (by decide +kernel)) (goodIn_sub (fun _ h => List.mem_append_left _ (List.mem_append_right _ h)) (by decide +kernel))) (goodIn_sub (fun _ h => List.mem_append_left _ (List.mem_append_left _ (List.mem_append_right _ h))) (by decide +kernel))
set_option maxRecDepth 20000 in
theorem gL_law_L_foresee : GoodIn wsL_law (va_wsS RL 121 yL_foresee wsL_foresee) := goodIn_app (goodIn_of _ (by decide +kernel)) ggL_law_L_foresee
set_option maxRecDepth 20000 in
theorem ggL_law_X3_foresee : GoodIn wsL_law wsX3_foresee := goodIn_r _ [492, 90, 50, 49, 91, 92, 5, 93, 94, 95, 96, 97, 472, 473, 474, 48, 475, 476, 54, 477, 167, 55, 56, 57, 58, 59, 60, 61, 62, 63, 64, 478, 479, 480, 481, 463, 464, 465, 434, 435, 436, 437, 438, 439, 440, 441, 43, 160, 161, 162, 163, 164, 165, 154, 166, 442, 443, 444, 445, 44, 446, 153, 155, 337, 338, 339, 340, 217, 341, 342, 343, 344, 264, 265, 266, 267, 42, 345, 346, 347, 348, 45, 124, 349, 350, 351, 352, 353, 354, 355, 356, 189, 190, 191, 192, 447, 448, 449, 450, 198, 199, 200, 201, 193, 194, 195, 196, 197, 386, 387, 388, 389, 390, 391, 392, 393, 394, 395, 396, 397, 398, 399, 400, 401, 540, 541, 542, 543, 544, 545, 546, 547, 548, 567, 568, 569, 570, 571, 572, 573, 574, 575, 576, 577, 578, 579, 580] (by decide +kernel) (by decide +kernel)
set_option maxRecDepth 20000 in
theorem gL_law_X3_foresee : GoodIn wsL_law (wsV RL 123 RX3 yX3_foresee wsX3_foresee) := goodIn_app (goodIn_of _ (by decide +kernel)) ggL_law_X3_foresee
set_option maxRecDepth 20000 in
theorem ggL_law_L_advise : GoodIn wsL_law wsL_advise := goodIn_ca (goodIn_r _ [495, 70, 496, 497, 498, 2, 499, 17, 16, 109, 147, 81, 82, 83, 84, 85, 458, 459, 460, 15, 461, 368, 369, 22, 319, 23, 24, 26, 462, 463, 464, 465, 27, 28, 29, 31, 32, 33, 283, 34, 35, 36, 37, 409, 410, 411, 412, 413, 414, 415, 416, 417, 418, 419, 420, 184, 149, 150, 151, 152, 153, 154, 155, 421, 422, 423, 424, 311, 312, 313, 314, 244, 245, 246, 247, 248, 249, 250, 251, 252, 253, 254, 255, 315, 316, 317, 318, 320, 321, 322, 323, 324, 177, 178, 179, 425, 426, 427, 428, 429, 181, 182, 183, 538, 539, 549, 550, 551, 552, 553, 554, 555, 556, 557, 558, 559, 560, 561, 562, 563, 564, 565, 566] (by decide +kernel) (by decide +kernel)) (goodIn_sub (fun _ h => List.mem_append_left _ (List.mem_append_right _ h)) (by decide +kernel))
set_option maxRecDepth 20000 in
theorem gL_law_L_advise : GoodIn wsL_law (va_wsS RL 124 yL_advise wsL_advise) := goodIn_app (goodIn_of _ (by decide +kernel)) ggL_law_L_advise
set_option maxRecDepth 20000 in
theorem ggL_law_X3_advise : GoodIn wsL_law wsX3_advise := goodIn_r _ [503, 90, 50, 49, 91, 92, 5, 93, 94, 95, 96, 97, 472, 473, 474, 48, 475, 476, 54, 477, 167, 55, 56, 57, 58, 59, 60, 61, 62, 63, 64, 478, 479, 480, 481, 463, 464, 465, 434, 435, 436, 437, 438, 439, 440, 441, 43, 160, 161, 162, 163, 164, 165, 154, 166, 442, 443, 444, 445, 44, 446, 153, 155, 337, 338, 339, 340, 217, 341, 342, 343, 344, 264, 265, 266, 267, 42, 345, 346, 347, 348, 45, 124, 349, 350, 351, 352, 353, 354, 355, 356, 189, 190, 191, 192, 447, 448, 449, 450, 198, 199, 200, 201, 193, 194, 195, 196, 197, 540, 541, 542, 543, 544, 545, 546, 547, 548, 567, 568, 569, 570, 571, 572, 573, 574, 575, 576, 577, 578, 579, 580] (by decide +kernel) (by decide +kernel)
set_option maxRecDepth 20000 in
theorem gL_law_X3_advise : GoodIn wsL_law (wsV RL 126 RX3 yX3_advise wsX3_advise) := goodIn_app (goodIn_of _ (by decide +kernel)) ggL_law_X3_advise
set_option maxRecDepth 20000 in
theorem ggL_law_X1_stops : GoodIn wsL_law wsX1_stops := goodIn_r _ [507, 17, 16, 458, 459, 460, 15, 461, 368, 369, 22, 319, 23, 24, 26, 462, 463, 464, 465, 27, 28, 29, 31, 32, 33, 283, 34, 35, 36, 37, 467, 414, 415, 416, 417, 418, 419, 420, 184, 149, 150, 151, 152, 153, 154, 155, 421, 422, 423, 424, 311, 312, 313, 314, 244, 245, 246, 247, 248, 249, 250, 251, 252, 253, 254, 255, 315, 316, 317, 318, 320, 321, 322, 323, 324, 177, 178, 179, 425, 426, 427, 428, 429, 181, 182, 183, 538, 539, 549, 550, 551, 552, 553, 554, 555, 556, 557, 558, 559, 560, 561, 562, 563, 564, 565, 566] (by decide +kernel) (by decide +kernel)
set_option maxRecDepth 20000 in
theorem gL_law_X1_stops : GoodIn wsL_law (wsV RL 127 RX1 yX1_stops wsX1_stops) := goodIn_app (goodIn_of _ (by decide +kernel)) ggL_law_X1_stops
set_option maxRecDepth 20000 in
theorem ggL_law_X3_stops : GoodIn wsL_law wsX3_stops := goodIn_r _ [511, 90, 50, 49, 472, 473, 474, 48, 475, 476, 54, 477, 167, 55, 56, 57, 58, 59, 60, 61, 62, 63, 64, 478, 479, 480, 481, 463, 464, 465, 438, 439, 440, 5, 441, 43, 160, 161, 162, 163, 164, 165, 154, 166, 442, 443, 444, 445, 44, 446, 153, 155, 337, 338, 339, 340, 217, 341, 342, 343, 344, 264, 265, 266, 267, 42, 345, 346, 347, 348, 45, 124, 349, 350, 351, 352, 353, 354, 355, 356, 189, 190, 191, 192, 447, 448, 449, 450, 198, 199, 200, 201, 193, 194, 195, 196, 197, 540, 541, 542, 543, 544, 545, 546, 547, 548, 567, 568, 569, 570, 571, 572, 573, 574, 575, 576, 577, 578, 579, 580] (by decide +kernel) (by decide +kernel)
set_option maxRecDepth 20000 in
theorem gL_law_X3_stops : GoodIn wsL_law (wsV RL 130 RX3 yX3_stops wsX3_stops) := goodIn_app (goodIn_of _ (by decide +kernel)) ggL_law_X3_stops
set_option maxRecDepth 20000 in
theorem ggL_law_X1_mean : GoodIn wsL_law wsX1_mean := goodIn_r _ [515, 16, 516, 517, 375, 376, 15, 377, 27, 538, 539, 549, 550, 551, 552, 553, 554, 555, 556, 557, 558, 559, 560, 561, 562, 563, 564, 565, 566] (by decide +kernel) (by decide +kernel)
set_option maxRecDepth 20000 in
theorem gL_law_X1_mean : GoodIn wsL_law (wsV RL 131 RX1 yX1_mean wsX1_mean) := goodIn_app (goodIn_of _ (by decide +kernel)) ggL_law_X1_mean
set_option maxRecDepth 20000 in
theorem ggL_law_X3_mean : GoodIn wsL_law wsX3_mean := goodIn_r _ [521, 90, 49, 522, 394, 395, 396, 48, 397, 55, 540, 541, 542, 543, 544, 545, 546, 547, 548, 567, 568, 569, 570, 571, 572, 573, 574, 575, 576, 577, 578, 579, 580] (by decide +kernel) (by decide +kernel)
set_option maxRecDepth 20000 in
theorem gL_law_X3_mean : GoodIn wsL_law (wsV RL 135 RX3 yX3_mean wsX3_mean) := goodIn_app (goodIn_of _ (by decide +kernel)) ggL_law_X3_mean
set_option maxRecDepth 20000 in
theorem ggL_law_X1_digest : GoodIn wsL_law wsX1_digest := goodIn_r _ [526, 527, 16, 119, 75, 209, 364, 365, 366, 15, 367, 368, 283, 369, 28, 29, 22, 24, 23, 370, 371, 372, 373, 248, 249, 250, 251, 34, 35, 374, 375, 376, 377, 27, 378, 379, 380, 381, 31, 528, 529, 2, 530, 531, 275, 276, 277, 278, 279, 280, 281, 282, 303, 304, 305, 306, 32, 33, 307, 308, 309, 310, 244, 245, 246, 247, 252, 253, 254, 255, 311, 312, 313, 314, 315, 316, 317, 318, 36, 319, 320, 321, 322, 323, 324, 177, 178, 179, 240, 241, 242, 243, 37, 538, 539, 549, 550, 551, 552, 553, 554, 555, 556, 557, 558, 559, 560, 561, 562, 563, 564, 565, 566] (by decide +kernel) (by decide +kernel)
set_option maxRecDepth 20000 in
theorem gL_law_X1_digest : GoodIn wsL_law (wsV RL 136 RX1 yX1_digest wsX1_digest) := goodIn_app (goodIn_of _ (by decide +kernel)) ggL_law_X1_digest
set_option maxRecDepth 20000 in
theorem ggL_law_X3_digest : GoodIn wsL_law wsX3_digest := goodIn_r _ [535, 90, 536, 537, 49, 124, 43, 217, 386, 387, 388, 5, 389, 45, 44, 390, 391, 392, 393, 42, 394, 395, 396, 48, 397, 55, 398, 399, 400, 401, 58, 288, 289, 290, 291, 292, 293, 294, 295, 329, 330, 331, 332, 333, 334, 335, 336, 264, 265, 266, 267, 337, 338, 339, 340, 341, 342, 343, 344, 345, 346, 347, 348, 349, 350, 351, 352, 353, 354, 355, 356, 189, 190, 191, 192, 260, 261, 262, 263, 540, 541, 542, 543, 544, 545, 546, 547, 548, 567, 568, 569, 570, 571, 572, 573, 574, 575, 576, 577, 578, 579, 580] (by decide +kernel) (by decide +kernel)
set_option maxRecDepth 20000 in
theorem gL_law_X3_digest : GoodIn wsL_law (wsV RL 140 RX3 yX3_digest wsX3_digest) := goodIn_app (goodIn_of _ (by decide +kernel)) ggL_law_X3_digest
theorem dL_law_0 : decode cL_law 0 = .ok (.new 8, 3) := by decide +kernel
theorem dL_law_3 : decode cL_law 3 = .ok (.dup, 1) := by decide +kernel
theorem dL_law_4 : decode cL_law 4 = .ok (.invokespecial 64, 3) := by decide +kernel
theorem dL_law_7 : decode cL_law 7 = .ok (.astore_n 1, 1) := by decide +kernel
theorem dL_law_8 : decode cL_law 8 = .ok (.new 65, 3) := by decide +kernel
theorem dL_law_11 : decode cL_law 11 = .ok (.dup, 1) := by decide +kernel
theorem dL_law_12 : decode cL_law 12 = .ok (.invokespecial 67, 3) := by decide +kernel
theorem dL_law_15 : decode cL_law 15 = .ok (.astore_n 2, 1) := by decide +kernel
theorem dL_law_16 : decode cL_law 16 = .ok (.iconst 1, 1) := by decide +kernel
theorem dL_law_17 : decode cL_law 17 = .ok (.newarray .long, 2) := by decide +kernel
theorem dL_law_19 : decode cL_law 19 = .ok (.astore_n 3, 1) := by decide +kernel
theorem dL_law_20 : decode cL_law 20 = .ok (.iconst 0, 1) := by decide +kernel
theorem dL_law_21 : decode cL_law 21 = .ok (.istore 4, 2) := by decide +kernel
theorem dL_law_23 : decode cL_law 23 = .ok (.iload 4, 2) := by decide +kernel
theorem dL_law_25 : decode cL_law 25 = .ok (.aload_n 0, 1) := by decide +kernel
theorem dL_law_26 : decode cL_law 26 = .ok (.arraylength, 1) := by decide +kernel
theorem dL_law_27 : decode cL_law 27 = .ok (.iconst 4, 1) := by decide +kernel
theorem dL_law_28 : decode cL_law 28 = .ok (.isub, 1) := by decide +kernel
theorem dL_law_29 : decode cL_law 29 = .ok (.if_icmp .gt 1181, 3) := by decide +kernel
theorem dL_law_32 : decode cL_law 32 = .ok (.aload_n 0, 1) := by decide +kernel
theorem dL_law_33 : decode cL_law 33 = .ok (.iload 4, 2) := by decide +kernel
theorem dL_law_35 : decode cL_law 35 = .ok (.iaload, 1) := by decide +kernel
theorem dL_law_36 : decode cL_law 36 = .ok (.bipush 31, 2) := by decide +kernel
theorem dL_law_38 : decode cL_law 38 = .ok (.iand, 1) := by decide +kernel
theorem dL_law_39 : decode cL_law 39 = .ok (.tableswitch 1165 0 18 #[89, 157, 225, 266, 322, 390, 453, 533, 601, 669, 737, 805, 861, 917, 973, 1041, 1097, 1110, 1151], 89) := by decide +kernel
theorem dL_law_128 : decode cL_law 128 = .ok (.aload_n 1, 1) := by decide +kernel
theorem dL_law_129 : decode cL_law 129 = .ok (.aload_n 0, 1) := by decide +kernel
theorem dL_law_130 : decode cL_law 130 = .ok (.iload 4, 2) := by decide +kernel
theorem dL_law_132 : decode cL_law 132 = .ok (.iconst 1, 1) := by decide +kernel
theorem dL_law_133 : decode cL_law 133 = .ok (.iadd, 1) := by decide +kernel
theorem dL_law_134 : decode cL_law 134 = .ok (.iaload, 1) := by decide +kernel
theorem dL_law_135 : decode cL_law 135 = .ok (.aload_n 0, 1) := by decide +kernel
theorem dL_law_136 : decode cL_law 136 = .ok (.iload 4, 2) := by decide +kernel
theorem dL_law_138 : decode cL_law 138 = .ok (.iconst 2, 1) := by decide +kernel
theorem dL_law_139 : decode cL_law 139 = .ok (.iadd, 1) := by decide +kernel
theorem dL_law_140 : decode cL_law 140 = .ok (.iaload, 1) := by decide +kernel
theorem dL_law_141 : decode cL_law 141 = .ok (.aload_n 3, 1) := by decide +kernel
theorem dL_law_142 : decode cL_law 142 = .ok (.invokestatic 68, 3) := by decide +kernel
theorem dL_law_145 : decode cL_law 145 = .ok (.istore 5, 2) := by decide +kernel
theorem dL_law_147 : decode cL_law 147 = .ok (.aload_n 2, 1) := by decide +kernel
theorem dL_law_148 : decode cL_law 148 = .ok (.aload_n 0, 1) := by decide +kernel
theorem dL_law_149 : decode cL_law 149 = .ok (.iload 4, 2) := by decide +kernel
theorem dL_law_151 : decode cL_law 151 = .ok (.iconst 1, 1) := by decide +kernel
theorem dL_law_152 : decode cL_law 152 = .ok (.iadd, 1) := by decide +kernel
theorem dL_law_153 : decode cL_law 153 = .ok (.iaload, 1) := by decide +kernel
theorem dL_law_154 : decode cL_law 154 = .ok (.aload_n 0, 1) := by decide +kernel
theorem dL_law_155 : decode cL_law 155 = .ok (.iload 4, 2) := by decide +kernel
theorem dL_law_157 : decode cL_law 157 = .ok (.iconst 2, 1) := by decide +kernel
theorem dL_law_158 : decode cL_law 158 = .ok (.iadd, 1) := by decide +kernel
theorem dL_law_159 : decode cL_law 159 = .ok (.iaload, 1) := by decide +kernel
theorem dL_law_160 : decode cL_law 160 = .ok (.invokevirtual 73, 3) := by decide +kernel
theorem dL_law_163 : decode cL_law 163 = .ok (.istore 6, 2) := by decide +kernel
theorem dL_law_165 : decode cL_law 165 = .ok (.aload_n 2, 1) := by decide +kernel
theorem dL_law_166 : decode cL_law 166 = .ok (.invokevirtual 74, 3) := by decide +kernel
theorem dL_law_169 : decode cL_law 169 = .ok (.iload 5, 2) := by decide +kernel
theorem dL_law_171 : decode cL_law 171 = .ok (.if_icmp .eq 5, 3) := by decide +kernel
theorem dL_law_174 : decode cL_law 174 = .ok (.iconst 0, 1) := by decide +kernel
theorem dL_law_175 : decode cL_law 175 = .ok (.ireturn, 1) := by decide +kernel
theorem dL_law_176 : decode cL_law 176 = .ok (.iload 5, 2) := by decide +kernel
theorem dL_law_178 : decode cL_law 178 = .ok (.ifCond .ne 15, 3) := by decide +kernel
theorem dL_law_181 : decode cL_law 181 = .ok (.aload_n 3, 1) := by decide +kernel
theorem dL_law_182 : decode cL_law 182 = .ok (.iconst 0, 1) := by decide +kernel
theorem dL_law_183 : decode cL_law 183 = .ok (.laload, 1) := by decide +kernel
theorem dL_law_184 : decode cL_law 184 = .ok (.iload 6, 2) := by decide +kernel
theorem dL_law_186 : decode cL_law 186 = .ok (.i2l, 1) := by decide +kernel
theorem dL_law_187 : decode cL_law 187 = .ok (.lcmp, 1) := by decide +kernel
theorem dL_law_188 : decode cL_law 188 = .ok (.ifCond .eq 5, 3) := by decide +kernel
theorem dL_law_191 : decode cL_law 191 = .ok (.iconst 0, 1) := by decide +kernel
theorem dL_law_192 : decode cL_law 192 = .ok (.ireturn, 1) := by decide +kernel
theorem dL_law_193 : decode cL_law 193 = .ok (.goto 1011, 3) := by decide +kernel
theorem dL_law_196 : decode cL_law 196 = .ok (.aload_n 1, 1) := by decide +kernel
theorem dL_law_197 : decode cL_law 197 = .ok (.aload_n 0, 1) := by decide +kernel
theorem dL_law_198 : decode cL_law 198 = .ok (.iload 4, 2) := by decide +kernel
theorem dL_law_200 : decode cL_law 200 = .ok (.iconst 1, 1) := by decide +kernel
theorem dL_law_201 : decode cL_law 201 = .ok (.iadd, 1) := by decide +kernel
theorem dL_law_202 : decode cL_law 202 = .ok (.iaload, 1) := by decide +kernel
theorem dL_law_203 : decode cL_law 203 = .ok (.aload_n 0, 1) := by decide +kernel
theorem dL_law_204 : decode cL_law 204 = .ok (.iload 4, 2) := by decide +kernel
theorem dL_law_206 : decode cL_law 206 = .ok (.iconst 2, 1) := by decide +kernel
theorem dL_law_207 : decode cL_law 207 = .ok (.iadd, 1) := by decide +kernel
theorem dL_law_208 : decode cL_law 208 = .ok (.iaload, 1) := by decide +kernel
theorem dL_law_209 : decode cL_law 209 = .ok (.aload_n 3, 1) := by decide +kernel
theorem dL_law_210 : decode cL_law 210 = .ok (.invokestatic 78, 3) := by decide +kernel
theorem dL_law_213 : decode cL_law 213 = .ok (.istore 5, 2) := by decide +kernel
theorem dL_law_215 : decode cL_law 215 = .ok (.aload_n 2, 1) := by decide +kernel
theorem dL_law_216 : decode cL_law 216 = .ok (.aload_n 0, 1) := by decide +kernel
theorem dL_law_217 : decode cL_law 217 = .ok (.iload 4, 2) := by decide +kernel
theorem dL_law_219 : decode cL_law 219 = .ok (.iconst 1, 1) := by decide +kernel
theorem dL_law_220 : decode cL_law 220 = .ok (.iadd, 1) := by decide +kernel
theorem dL_law_221 : decode cL_law 221 = .ok (.iaload, 1) := by decide +kernel
theorem dL_law_222 : decode cL_law 222 = .ok (.aload_n 0, 1) := by decide +kernel
theorem dL_law_223 : decode cL_law 223 = .ok (.iload 4, 2) := by decide +kernel
theorem dL_law_225 : decode cL_law 225 = .ok (.iconst 2, 1) := by decide +kernel
theorem dL_law_226 : decode cL_law 226 = .ok (.iadd, 1) := by decide +kernel
theorem dL_law_227 : decode cL_law 227 = .ok (.iaload, 1) := by decide +kernel
theorem dL_law_228 : decode cL_law 228 = .ok (.invokevirtual 80, 3) := by decide +kernel
theorem dL_law_231 : decode cL_law 231 = .ok (.istore 6, 2) := by decide +kernel
theorem dL_law_233 : decode cL_law 233 = .ok (.aload_n 2, 1) := by decide +kernel
theorem dL_law_234 : decode cL_law 234 = .ok (.invokevirtual 74, 3) := by decide +kernel
theorem dL_law_237 : decode cL_law 237 = .ok (.iload 5, 2) := by decide +kernel
theorem dL_law_239 : decode cL_law 239 = .ok (.if_icmp .eq 5, 3) := by decide +kernel
theorem dL_law_242 : decode cL_law 242 = .ok (.iconst 0, 1) := by decide +kernel
theorem dL_law_243 : decode cL_law 243 = .ok (.ireturn, 1) := by decide +kernel
theorem dL_law_244 : decode cL_law 244 = .ok (.iload 5, 2) := by decide +kernel
theorem dL_law_246 : decode cL_law 246 = .ok (.ifCond .ne 15, 3) := by decide +kernel
theorem dL_law_249 : decode cL_law 249 = .ok (.aload_n 3, 1) := by decide +kernel
theorem dL_law_250 : decode cL_law 250 = .ok (.iconst 0, 1) := by decide +kernel
theorem dL_law_251 : decode cL_law 251 = .ok (.laload, 1) := by decide +kernel
theorem dL_law_252 : decode cL_law 252 = .ok (.iload 6, 2) := by decide +kernel
theorem dL_law_254 : decode cL_law 254 = .ok (.i2l, 1) := by decide +kernel
theorem dL_law_255 : decode cL_law 255 = .ok (.lcmp, 1) := by decide +kernel
theorem dL_law_256 : decode cL_law 256 = .ok (.ifCond .eq 5, 3) := by decide +kernel
theorem dL_law_259 : decode cL_law 259 = .ok (.iconst 0, 1) := by decide +kernel
theorem dL_law_260 : decode cL_law 260 = .ok (.ireturn, 1) := by decide +kernel
theorem dL_law_261 : decode cL_law 261 = .ok (.goto 943, 3) := by decide +kernel
theorem dL_law_264 : decode cL_law 264 = .ok (.aload_n 1, 1) := by decide +kernel
theorem dL_law_265 : decode cL_law 265 = .ok (.aload_n 0, 1) := by decide +kernel
theorem dL_law_266 : decode cL_law 266 = .ok (.iload 4, 2) := by decide +kernel
theorem dL_law_268 : decode cL_law 268 = .ok (.iconst 1, 1) := by decide +kernel
theorem dL_law_269 : decode cL_law 269 = .ok (.iadd, 1) := by decide +kernel
theorem dL_law_270 : decode cL_law 270 = .ok (.iaload, 1) := by decide +kernel
theorem dL_law_271 : decode cL_law 271 = .ok (.ifCond .eq 7, 3) := by decide +kernel
theorem dL_law_274 : decode cL_law 274 = .ok (.iconst 1, 1) := by decide +kernel
theorem dL_law_275 : decode cL_law 275 = .ok (.goto 4, 3) := by decide +kernel
theorem dL_law_278 : decode cL_law 278 = .ok (.iconst 0, 1) := by decide +kernel
theorem dL_law_279 : decode cL_law 279 = .ok (.invokevirtual 81, 3) := by decide +kernel
theorem dL_law_282 : decode cL_law 282 = .ok (.aload_n 2, 1) := by decide +kernel
theorem dL_law_283 : decode cL_law 283 = .ok (.aload_n 0, 1) := by decide +kernel
theorem dL_law_284 : decode cL_law 284 = .ok (.iload 4, 2) := by decide +kernel
theorem dL_law_286 : decode cL_law 286 = .ok (.iconst 1, 1) := by decide +kernel
theorem dL_law_287 : decode cL_law 287 = .ok (.iadd, 1) := by decide +kernel
theorem dL_law_288 : decode cL_law 288 = .ok (.iaload, 1) := by decide +kernel
theorem dL_law_289 : decode cL_law 289 = .ok (.ifCond .eq 7, 3) := by decide +kernel
theorem dL_law_292 : decode cL_law 292 = .ok (.iconst 1, 1) := by decide +kernel
theorem dL_law_293 : decode cL_law 293 = .ok (.goto 4, 3) := by decide +kernel
theorem dL_law_296 : decode cL_law 296 = .ok (.iconst 0, 1) := by decide +kernel
theorem dL_law_297 : decode cL_law 297 = .ok (.invokevirtual 85, 3) := by decide +kernel
theorem dL_law_300 : decode cL_law 300 = .ok (.if_icmp .eq 904, 3) := by decide +kernel
theorem dL_law_303 : decode cL_law 303 = .ok (.iconst 0, 1) := by decide +kernel
theorem dL_law_304 : decode cL_law 304 = .ok (.ireturn, 1) := by decide +kernel
theorem dL_law_305 : decode cL_law 305 = .ok (.aload_n 1, 1) := by decide +kernel
theorem dL_law_306 : decode cL_law 306 = .ok (.aload_n 0, 1) := by decide +kernel
theorem dL_law_307 : decode cL_law 307 = .ok (.iload 4, 2) := by decide +kernel
theorem dL_law_309 : decode cL_law 309 = .ok (.iconst 1, 1) := by decide +kernel
theorem dL_law_310 : decode cL_law 310 = .ok (.iadd, 1) := by decide +kernel
theorem dL_law_311 : decode cL_law 311 = .ok (.iaload, 1) := by decide +kernel
theorem dL_law_312 : decode cL_law 312 = .ok (.aload_n 3, 1) := by decide +kernel
theorem dL_law_313 : decode cL_law 313 = .ok (.invokestatic 86, 3) := by decide +kernel
theorem dL_law_316 : decode cL_law 316 = .ok (.istore 5, 2) := by decide +kernel
theorem dL_law_318 : decode cL_law 318 = .ok (.aload_n 2, 1) := by decide +kernel
theorem dL_law_319 : decode cL_law 319 = .ok (.aload_n 0, 1) := by decide +kernel
theorem dL_law_320 : decode cL_law 320 = .ok (.iload 4, 2) := by decide +kernel
theorem dL_law_322 : decode cL_law 322 = .ok (.iconst 1, 1) := by decide +kernel
theorem dL_law_323 : decode cL_law 323 = .ok (.iadd, 1) := by decide +kernel
theorem dL_law_324 : decode cL_law 324 = .ok (.iaload, 1) := by decide +kernel
theorem dL_law_325 : decode cL_law 325 = .ok (.invokevirtual 89, 3) := by decide +kernel
theorem dL_law_328 : decode cL_law 328 = .ok (.istore 6, 2) := by decide +kernel
theorem dL_law_330 : decode cL_law 330 = .ok (.aload_n 2, 1) := by decide +kernel
theorem dL_law_331 : decode cL_law 331 = .ok (.invokevirtual 74, 3) := by decide +kernel
theorem dL_law_334 : decode cL_law 334 = .ok (.iload 5, 2) := by decide +kernel
theorem dL_law_336 : decode cL_law 336 = .ok (.if_icmp .eq 5, 3) := by decide +kernel
theorem dL_law_339 : decode cL_law 339 = .ok (.iconst 0, 1) := by decide +kernel
theorem dL_law_340 : decode cL_law 340 = .ok (.ireturn, 1) := by decide +kernel
theorem dL_law_341 : decode cL_law 341 = .ok (.iload 5, 2) := by decide +kernel
theorem dL_law_343 : decode cL_law 343 = .ok (.ifCond .ne 15, 3) := by decide +kernel
theorem dL_law_346 : decode cL_law 346 = .ok (.aload_n 3, 1) := by decide +kernel
theorem dL_law_347 : decode cL_law 347 = .ok (.iconst 0, 1) := by decide +kernel
theorem dL_law_348 : decode cL_law 348 = .ok (.laload, 1) := by decide +kernel
theorem dL_law_349 : decode cL_law 349 = .ok (.iload 6, 2) := by decide +kernel
theorem dL_law_351 : decode cL_law 351 = .ok (.i2l, 1) := by decide +kernel
theorem dL_law_352 : decode cL_law 352 = .ok (.lcmp, 1) := by decide +kernel
theorem dL_law_353 : decode cL_law 353 = .ok (.ifCond .eq 5, 3) := by decide +kernel
theorem dL_law_356 : decode cL_law 356 = .ok (.iconst 0, 1) := by decide +kernel
theorem dL_law_357 : decode cL_law 357 = .ok (.ireturn, 1) := by decide +kernel
theorem dL_law_358 : decode cL_law 358 = .ok (.goto 846, 3) := by decide +kernel
theorem dL_law_361 : decode cL_law 361 = .ok (.aload_n 1, 1) := by decide +kernel
theorem dL_law_362 : decode cL_law 362 = .ok (.aload_n 0, 1) := by decide +kernel
theorem dL_law_363 : decode cL_law 363 = .ok (.iload 4, 2) := by decide +kernel
theorem dL_law_365 : decode cL_law 365 = .ok (.iconst 1, 1) := by decide +kernel
theorem dL_law_366 : decode cL_law 366 = .ok (.iadd, 1) := by decide +kernel
theorem dL_law_367 : decode cL_law 367 = .ok (.iaload, 1) := by decide +kernel
theorem dL_law_368 : decode cL_law 368 = .ok (.aload_n 0, 1) := by decide +kernel
theorem dL_law_369 : decode cL_law 369 = .ok (.iload 4, 2) := by decide +kernel
theorem dL_law_371 : decode cL_law 371 = .ok (.iconst 2, 1) := by decide +kernel
theorem dL_law_372 : decode cL_law 372 = .ok (.iadd, 1) := by decide +kernel
theorem dL_law_373 : decode cL_law 373 = .ok (.iaload, 1) := by decide +kernel
theorem dL_law_374 : decode cL_law 374 = .ok (.aload_n 3, 1) := by decide +kernel
theorem dL_law_375 : decode cL_law 375 = .ok (.invokestatic 90, 3) := by decide +kernel
theorem dL_law_378 : decode cL_law 378 = .ok (.istore 5, 2) := by decide +kernel
theorem dL_law_380 : decode cL_law 380 = .ok (.aload_n 2, 1) := by decide +kernel
theorem dL_law_381 : decode cL_law 381 = .ok (.aload_n 0, 1) := by decide +kernel
theorem dL_law_382 : decode cL_law 382 = .ok (.iload 4, 2) := by decide +kernel
theorem dL_law_384 : decode cL_law 384 = .ok (.iconst 1, 1) := by decide +kernel
theorem dL_law_385 : decode cL_law 385 = .ok (.iadd, 1) := by decide +kernel
theorem dL_law_386 : decode cL_law 386 = .ok (.iaload, 1) := by decide +kernel
theorem dL_law_387 : decode cL_law 387 = .ok (.aload_n 0, 1) := by decide +kernel
theorem dL_law_388 : decode cL_law 388 = .ok (.iload 4, 2) := by decide +kernel
theorem dL_law_390 : decode cL_law 390 = .ok (.iconst 2, 1) := by decide +kernel
theorem dL_law_391 : decode cL_law 391 = .ok (.iadd, 1) := by decide +kernel
theorem dL_law_392 : decode cL_law 392 = .ok (.iaload, 1) := by decide +kernel
theorem dL_law_393 : decode cL_law 393 = .ok (.invokevirtual 92, 3) := by decide +kernel
theorem dL_law_396 : decode cL_law 396 = .ok (.istore 6, 2) := by decide +kernel
theorem dL_law_398 : decode cL_law 398 = .ok (.aload_n 2, 1) := by decide +kernel
theorem dL_law_399 : decode cL_law 399 = .ok (.invokevirtual 74, 3) := by decide +kernel
theorem dL_law_402 : decode cL_law 402 = .ok (.iload 5, 2) := by decide +kernel
theorem dL_law_404 : decode cL_law 404 = .ok (.if_icmp .eq 5, 3) := by decide +kernel
theorem dL_law_407 : decode cL_law 407 = .ok (.iconst 0, 1) := by decide +kernel
theorem dL_law_408 : decode cL_law 408 = .ok (.ireturn, 1) := by decide +kernel
theorem dL_law_409 : decode cL_law 409 = .ok (.iload 5, 2) := by decide +kernel
theorem dL_law_411 : decode cL_law 411 = .ok (.ifCond .ne 15, 3) := by decide +kernel
theorem dL_law_414 : decode cL_law 414 = .ok (.aload_n 3, 1) := by decide +kernel
theorem dL_law_415 : decode cL_law 415 = .ok (.iconst 0, 1) := by decide +kernel
theorem dL_law_416 : decode cL_law 416 = .ok (.laload, 1) := by decide +kernel
theorem dL_law_417 : decode cL_law 417 = .ok (.iload 6, 2) := by decide +kernel
theorem dL_law_419 : decode cL_law 419 = .ok (.i2l, 1) := by decide +kernel
theorem dL_law_420 : decode cL_law 420 = .ok (.lcmp, 1) := by decide +kernel
theorem dL_law_421 : decode cL_law 421 = .ok (.ifCond .eq 5, 3) := by decide +kernel
theorem dL_law_424 : decode cL_law 424 = .ok (.iconst 0, 1) := by decide +kernel
theorem dL_law_425 : decode cL_law 425 = .ok (.ireturn, 1) := by decide +kernel
theorem dL_law_426 : decode cL_law 426 = .ok (.goto 778, 3) := by decide +kernel
theorem dL_law_429 : decode cL_law 429 = .ok (.aload_n 1, 1) := by decide +kernel
theorem dL_law_430 : decode cL_law 430 = .ok (.aload_n 0, 1) := by decide +kernel
theorem dL_law_431 : decode cL_law 431 = .ok (.iload 4, 2) := by decide +kernel
theorem dL_law_433 : decode cL_law 433 = .ok (.iconst 1, 1) := by decide +kernel
theorem dL_law_434 : decode cL_law 434 = .ok (.iadd, 1) := by decide +kernel
theorem dL_law_435 : decode cL_law 435 = .ok (.iaload, 1) := by decide +kernel
theorem dL_law_436 : decode cL_law 436 = .ok (.aload_n 3, 1) := by decide +kernel
theorem dL_law_437 : decode cL_law 437 = .ok (.invokestatic 93, 3) := by decide +kernel
theorem dL_law_440 : decode cL_law 440 = .ok (.istore 5, 2) := by decide +kernel
theorem dL_law_442 : decode cL_law 442 = .ok (.aload_n 2, 1) := by decide +kernel
theorem dL_law_443 : decode cL_law 443 = .ok (.aload_n 0, 1) := by decide +kernel
theorem dL_law_444 : decode cL_law 444 = .ok (.iload 4, 2) := by decide +kernel
theorem dL_law_446 : decode cL_law 446 = .ok (.iconst 1, 1) := by decide +kernel
theorem dL_law_447 : decode cL_law 447 = .ok (.iadd, 1) := by decide +kernel
theorem dL_law_448 : decode cL_law 448 = .ok (.iaload, 1) := by decide +kernel
theorem dL_law_449 : decode cL_law 449 = .ok (.invokevirtual 95, 3) := by decide +kernel
theorem dL_law_452 : decode cL_law 452 = .ok (.istore 6, 2) := by decide +kernel
theorem dL_law_454 : decode cL_law 454 = .ok (.aload_n 2, 1) := by decide +kernel
theorem dL_law_455 : decode cL_law 455 = .ok (.invokevirtual 74, 3) := by decide +kernel
theorem dL_law_458 : decode cL_law 458 = .ok (.iload 5, 2) := by decide +kernel
theorem dL_law_460 : decode cL_law 460 = .ok (.if_icmp .eq 5, 3) := by decide +kernel
theorem dL_law_463 : decode cL_law 463 = .ok (.iconst 0, 1) := by decide +kernel
theorem dL_law_464 : decode cL_law 464 = .ok (.ireturn, 1) := by decide +kernel
theorem dL_law_465 : decode cL_law 465 = .ok (.iload 5, 2) := by decide +kernel
theorem dL_law_467 : decode cL_law 467 = .ok (.ifCond .ne 22, 3) := by decide +kernel
theorem dL_law_470 : decode cL_law 470 = .ok (.aload_n 3, 1) := by decide +kernel
theorem dL_law_471 : decode cL_law 471 = .ok (.iconst 0, 1) := by decide +kernel
theorem dL_law_472 : decode cL_law 472 = .ok (.laload, 1) := by decide +kernel
theorem dL_law_473 : decode cL_law 473 = .ok (.iload 6, 2) := by decide +kernel
theorem dL_law_475 : decode cL_law 475 = .ok (.ifCond .eq 7, 3) := by decide +kernel
theorem dL_law_478 : decode cL_law 478 = .ok (.lconst 1, 1) := by decide +kernel
theorem dL_law_479 : decode cL_law 479 = .ok (.goto 4, 3) := by decide +kernel
theorem dL_law_482 : decode cL_law 482 = .ok (.lconst 0, 1) := by decide +kernel
theorem dL_law_483 : decode cL_law 483 = .ok (.lcmp, 1) := by decide +kernel
theorem dL_law_484 : decode cL_law 484 = .ok (.ifCond .eq 5, 3) := by decide +kernel
theorem dL_law_487 : decode cL_law 487 = .ok (.iconst 0, 1) := by decide +kernel
theorem dL_law_488 : decode cL_law 488 = .ok (.ireturn, 1) := by decide +kernel
theorem dL_law_489 : decode cL_law 489 = .ok (.goto 715, 3) := by decide +kernel
theorem dL_law_492 : decode cL_law 492 = .ok (.aload_n 1, 1) := by decide +kernel
theorem dL_law_493 : decode cL_law 493 = .ok (.aload_n 0, 1) := by decide +kernel
theorem dL_law_494 : decode cL_law 494 = .ok (.iload 4, 2) := by decide +kernel
theorem dL_law_496 : decode cL_law 496 = .ok (.iconst 1, 1) := by decide +kernel
theorem dL_law_497 : decode cL_law 497 = .ok (.iadd, 1) := by decide +kernel
theorem dL_law_498 : decode cL_law 498 = .ok (.iaload, 1) := by decide +kernel
theorem dL_law_499 : decode cL_law 499 = .ok (.aload_n 0, 1) := by decide +kernel
theorem dL_law_500 : decode cL_law 500 = .ok (.iload 4, 2) := by decide +kernel
theorem dL_law_502 : decode cL_law 502 = .ok (.iconst 2, 1) := by decide +kernel
theorem dL_law_503 : decode cL_law 503 = .ok (.iadd, 1) := by decide +kernel
theorem dL_law_504 : decode cL_law 504 = .ok (.iaload, 1) := by decide +kernel
theorem dL_law_505 : decode cL_law 505 = .ok (.aload_n 0, 1) := by decide +kernel
theorem dL_law_506 : decode cL_law 506 = .ok (.iload 4, 2) := by decide +kernel
theorem dL_law_508 : decode cL_law 508 = .ok (.iconst 3, 1) := by decide +kernel
theorem dL_law_509 : decode cL_law 509 = .ok (.iadd, 1) := by decide +kernel
theorem dL_law_510 : decode cL_law 510 = .ok (.iaload, 1) := by decide +kernel
theorem dL_law_511 : decode cL_law 511 = .ok (.aload_n 3, 1) := by decide +kernel
theorem dL_law_512 : decode cL_law 512 = .ok (.invokestatic 96, 3) := by decide +kernel
theorem dL_law_515 : decode cL_law 515 = .ok (.istore 5, 2) := by decide +kernel
theorem dL_law_517 : decode cL_law 517 = .ok (.aload_n 2, 1) := by decide +kernel
theorem dL_law_518 : decode cL_law 518 = .ok (.aload_n 0, 1) := by decide +kernel
theorem dL_law_519 : decode cL_law 519 = .ok (.iload 4, 2) := by decide +kernel
theorem dL_law_521 : decode cL_law 521 = .ok (.iconst 1, 1) := by decide +kernel
theorem dL_law_522 : decode cL_law 522 = .ok (.iadd, 1) := by decide +kernel
theorem dL_law_523 : decode cL_law 523 = .ok (.iaload, 1) := by decide +kernel
theorem dL_law_524 : decode cL_law 524 = .ok (.aload_n 0, 1) := by decide +kernel
theorem dL_law_525 : decode cL_law 525 = .ok (.iload 4, 2) := by decide +kernel
theorem dL_law_527 : decode cL_law 527 = .ok (.iconst 2, 1) := by decide +kernel
theorem dL_law_528 : decode cL_law 528 = .ok (.iadd, 1) := by decide +kernel
theorem dL_law_529 : decode cL_law 529 = .ok (.iaload, 1) := by decide +kernel
theorem dL_law_530 : decode cL_law 530 = .ok (.aload_n 0, 1) := by decide +kernel
theorem dL_law_531 : decode cL_law 531 = .ok (.iload 4, 2) := by decide +kernel
theorem dL_law_533 : decode cL_law 533 = .ok (.iconst 3, 1) := by decide +kernel
theorem dL_law_534 : decode cL_law 534 = .ok (.iadd, 1) := by decide +kernel
theorem dL_law_535 : decode cL_law 535 = .ok (.iaload, 1) := by decide +kernel
theorem dL_law_536 : decode cL_law 536 = .ok (.invokevirtual 99, 3) := by decide +kernel
theorem dL_law_539 : decode cL_law 539 = .ok (.istore 6, 2) := by decide +kernel
theorem dL_law_541 : decode cL_law 541 = .ok (.aload_n 2, 1) := by decide +kernel
theorem dL_law_542 : decode cL_law 542 = .ok (.invokevirtual 74, 3) := by decide +kernel
theorem dL_law_545 : decode cL_law 545 = .ok (.iload 5, 2) := by decide +kernel
theorem dL_law_547 : decode cL_law 547 = .ok (.if_icmp .eq 5, 3) := by decide +kernel
theorem dL_law_550 : decode cL_law 550 = .ok (.iconst 0, 1) := by decide +kernel
theorem dL_law_551 : decode cL_law 551 = .ok (.ireturn, 1) := by decide +kernel
theorem dL_law_552 : decode cL_law 552 = .ok (.iload 5, 2) := by decide +kernel
theorem dL_law_554 : decode cL_law 554 = .ok (.ifCond .ne 15, 3) := by decide +kernel
theorem dL_law_557 : decode cL_law 557 = .ok (.aload_n 3, 1) := by decide +kernel
theorem dL_law_558 : decode cL_law 558 = .ok (.iconst 0, 1) := by decide +kernel
theorem dL_law_559 : decode cL_law 559 = .ok (.laload, 1) := by decide +kernel
theorem dL_law_560 : decode cL_law 560 = .ok (.iload 6, 2) := by decide +kernel
theorem dL_law_562 : decode cL_law 562 = .ok (.i2l, 1) := by decide +kernel
theorem dL_law_563 : decode cL_law 563 = .ok (.lcmp, 1) := by decide +kernel
theorem dL_law_564 : decode cL_law 564 = .ok (.ifCond .eq 5, 3) := by decide +kernel
theorem dL_law_567 : decode cL_law 567 = .ok (.iconst 0, 1) := by decide +kernel
theorem dL_law_568 : decode cL_law 568 = .ok (.ireturn, 1) := by decide +kernel
theorem dL_law_569 : decode cL_law 569 = .ok (.goto 635, 3) := by decide +kernel
theorem dL_law_572 : decode cL_law 572 = .ok (.aload_n 1, 1) := by decide +kernel
theorem dL_law_573 : decode cL_law 573 = .ok (.aload_n 0, 1) := by decide +kernel
theorem dL_law_574 : decode cL_law 574 = .ok (.iload 4, 2) := by decide +kernel
theorem dL_law_576 : decode cL_law 576 = .ok (.iconst 1, 1) := by decide +kernel
theorem dL_law_577 : decode cL_law 577 = .ok (.iadd, 1) := by decide +kernel
theorem dL_law_578 : decode cL_law 578 = .ok (.iaload, 1) := by decide +kernel
theorem dL_law_579 : decode cL_law 579 = .ok (.aload_n 0, 1) := by decide +kernel
theorem dL_law_580 : decode cL_law 580 = .ok (.iload 4, 2) := by decide +kernel
theorem dL_law_582 : decode cL_law 582 = .ok (.iconst 2, 1) := by decide +kernel
theorem dL_law_583 : decode cL_law 583 = .ok (.iadd, 1) := by decide +kernel
theorem dL_law_584 : decode cL_law 584 = .ok (.iaload, 1) := by decide +kernel
theorem dL_law_585 : decode cL_law 585 = .ok (.aload_n 3, 1) := by decide +kernel
theorem dL_law_586 : decode cL_law 586 = .ok (.invokestatic 100, 3) := by decide +kernel
theorem dL_law_589 : decode cL_law 589 = .ok (.istore 5, 2) := by decide +kernel
theorem dL_law_591 : decode cL_law 591 = .ok (.aload_n 2, 1) := by decide +kernel
theorem dL_law_592 : decode cL_law 592 = .ok (.aload_n 0, 1) := by decide +kernel
theorem dL_law_593 : decode cL_law 593 = .ok (.iload 4, 2) := by decide +kernel
theorem dL_law_595 : decode cL_law 595 = .ok (.iconst 1, 1) := by decide +kernel
theorem dL_law_596 : decode cL_law 596 = .ok (.iadd, 1) := by decide +kernel
theorem dL_law_597 : decode cL_law 597 = .ok (.iaload, 1) := by decide +kernel
theorem dL_law_598 : decode cL_law 598 = .ok (.aload_n 0, 1) := by decide +kernel
theorem dL_law_599 : decode cL_law 599 = .ok (.iload 4, 2) := by decide +kernel
theorem dL_law_601 : decode cL_law 601 = .ok (.iconst 2, 1) := by decide +kernel
theorem dL_law_602 : decode cL_law 602 = .ok (.iadd, 1) := by decide +kernel
theorem dL_law_603 : decode cL_law 603 = .ok (.iaload, 1) := by decide +kernel
theorem dL_law_604 : decode cL_law 604 = .ok (.invokevirtual 102, 3) := by decide +kernel
theorem dL_law_607 : decode cL_law 607 = .ok (.istore 6, 2) := by decide +kernel
theorem dL_law_609 : decode cL_law 609 = .ok (.aload_n 2, 1) := by decide +kernel
theorem dL_law_610 : decode cL_law 610 = .ok (.invokevirtual 74, 3) := by decide +kernel
theorem dL_law_613 : decode cL_law 613 = .ok (.iload 5, 2) := by decide +kernel
theorem dL_law_615 : decode cL_law 615 = .ok (.if_icmp .eq 5, 3) := by decide +kernel
theorem dL_law_618 : decode cL_law 618 = .ok (.iconst 0, 1) := by decide +kernel
theorem dL_law_619 : decode cL_law 619 = .ok (.ireturn, 1) := by decide +kernel
theorem dL_law_620 : decode cL_law 620 = .ok (.iload 5, 2) := by decide +kernel
theorem dL_law_622 : decode cL_law 622 = .ok (.ifCond .ne 15, 3) := by decide +kernel
theorem dL_law_625 : decode cL_law 625 = .ok (.aload_n 3, 1) := by decide +kernel
theorem dL_law_626 : decode cL_law 626 = .ok (.iconst 0, 1) := by decide +kernel
theorem dL_law_627 : decode cL_law 627 = .ok (.laload, 1) := by decide +kernel
theorem dL_law_628 : decode cL_law 628 = .ok (.iload 6, 2) := by decide +kernel
theorem dL_law_630 : decode cL_law 630 = .ok (.i2l, 1) := by decide +kernel
theorem dL_law_631 : decode cL_law 631 = .ok (.lcmp, 1) := by decide +kernel
theorem dL_law_632 : decode cL_law 632 = .ok (.ifCond .eq 5, 3) := by decide +kernel
theorem dL_law_635 : decode cL_law 635 = .ok (.iconst 0, 1) := by decide +kernel
theorem dL_law_636 : decode cL_law 636 = .ok (.ireturn, 1) := by decide +kernel
theorem dL_law_637 : decode cL_law 637 = .ok (.goto 567, 3) := by decide +kernel
theorem dL_law_640 : decode cL_law 640 = .ok (.aload_n 1, 1) := by decide +kernel
theorem dL_law_641 : decode cL_law 641 = .ok (.aload_n 0, 1) := by decide +kernel
theorem dL_law_642 : decode cL_law 642 = .ok (.iload 4, 2) := by decide +kernel
theorem dL_law_644 : decode cL_law 644 = .ok (.iconst 1, 1) := by decide +kernel
theorem dL_law_645 : decode cL_law 645 = .ok (.iadd, 1) := by decide +kernel
theorem dL_law_646 : decode cL_law 646 = .ok (.iaload, 1) := by decide +kernel
theorem dL_law_647 : decode cL_law 647 = .ok (.aload_n 0, 1) := by decide +kernel
theorem dL_law_648 : decode cL_law 648 = .ok (.iload 4, 2) := by decide +kernel
theorem dL_law_650 : decode cL_law 650 = .ok (.iconst 2, 1) := by decide +kernel
theorem dL_law_651 : decode cL_law 651 = .ok (.iadd, 1) := by decide +kernel
theorem dL_law_652 : decode cL_law 652 = .ok (.iaload, 1) := by decide +kernel
theorem dL_law_653 : decode cL_law 653 = .ok (.aload_n 3, 1) := by decide +kernel
theorem dL_law_654 : decode cL_law 654 = .ok (.invokestatic 103, 3) := by decide +kernel
theorem dL_law_657 : decode cL_law 657 = .ok (.istore 5, 2) := by decide +kernel
theorem dL_law_659 : decode cL_law 659 = .ok (.aload_n 2, 1) := by decide +kernel
theorem dL_law_660 : decode cL_law 660 = .ok (.aload_n 0, 1) := by decide +kernel
theorem dL_law_661 : decode cL_law 661 = .ok (.iload 4, 2) := by decide +kernel
theorem dL_law_663 : decode cL_law 663 = .ok (.iconst 1, 1) := by decide +kernel
theorem dL_law_664 : decode cL_law 664 = .ok (.iadd, 1) := by decide +kernel
theorem dL_law_665 : decode cL_law 665 = .ok (.iaload, 1) := by decide +kernel
theorem dL_law_666 : decode cL_law 666 = .ok (.aload_n 0, 1) := by decide +kernel
theorem dL_law_667 : decode cL_law 667 = .ok (.iload 4, 2) := by decide +kernel
theorem dL_law_669 : decode cL_law 669 = .ok (.iconst 2, 1) := by decide +kernel
theorem dL_law_670 : decode cL_law 670 = .ok (.iadd, 1) := by decide +kernel
theorem dL_law_671 : decode cL_law 671 = .ok (.iaload, 1) := by decide +kernel
theorem dL_law_672 : decode cL_law 672 = .ok (.invokevirtual 105, 3) := by decide +kernel
theorem dL_law_675 : decode cL_law 675 = .ok (.istore 6, 2) := by decide +kernel
theorem dL_law_677 : decode cL_law 677 = .ok (.aload_n 2, 1) := by decide +kernel
theorem dL_law_678 : decode cL_law 678 = .ok (.invokevirtual 74, 3) := by decide +kernel
theorem dL_law_681 : decode cL_law 681 = .ok (.iload 5, 2) := by decide +kernel
theorem dL_law_683 : decode cL_law 683 = .ok (.if_icmp .eq 5, 3) := by decide +kernel
theorem dL_law_686 : decode cL_law 686 = .ok (.iconst 0, 1) := by decide +kernel
theorem dL_law_687 : decode cL_law 687 = .ok (.ireturn, 1) := by decide +kernel
theorem dL_law_688 : decode cL_law 688 = .ok (.iload 5, 2) := by decide +kernel
theorem dL_law_690 : decode cL_law 690 = .ok (.ifCond .ne 15, 3) := by decide +kernel
theorem dL_law_693 : decode cL_law 693 = .ok (.aload_n 3, 1) := by decide +kernel
theorem dL_law_694 : decode cL_law 694 = .ok (.iconst 0, 1) := by decide +kernel
theorem dL_law_695 : decode cL_law 695 = .ok (.laload, 1) := by decide +kernel
theorem dL_law_696 : decode cL_law 696 = .ok (.iload 6, 2) := by decide +kernel
theorem dL_law_698 : decode cL_law 698 = .ok (.i2l, 1) := by decide +kernel
theorem dL_law_699 : decode cL_law 699 = .ok (.lcmp, 1) := by decide +kernel
theorem dL_law_700 : decode cL_law 700 = .ok (.ifCond .eq 5, 3) := by decide +kernel
theorem dL_law_703 : decode cL_law 703 = .ok (.iconst 0, 1) := by decide +kernel
theorem dL_law_704 : decode cL_law 704 = .ok (.ireturn, 1) := by decide +kernel
theorem dL_law_705 : decode cL_law 705 = .ok (.goto 499, 3) := by decide +kernel
theorem dL_law_708 : decode cL_law 708 = .ok (.aload_n 1, 1) := by decide +kernel
theorem dL_law_709 : decode cL_law 709 = .ok (.aload_n 0, 1) := by decide +kernel
theorem dL_law_710 : decode cL_law 710 = .ok (.iload 4, 2) := by decide +kernel
theorem dL_law_712 : decode cL_law 712 = .ok (.iconst 1, 1) := by decide +kernel
theorem dL_law_713 : decode cL_law 713 = .ok (.iadd, 1) := by decide +kernel
theorem dL_law_714 : decode cL_law 714 = .ok (.iaload, 1) := by decide +kernel
theorem dL_law_715 : decode cL_law 715 = .ok (.aload_n 0, 1) := by decide +kernel
theorem dL_law_716 : decode cL_law 716 = .ok (.iload 4, 2) := by decide +kernel
theorem dL_law_718 : decode cL_law 718 = .ok (.iconst 2, 1) := by decide +kernel
theorem dL_law_719 : decode cL_law 719 = .ok (.iadd, 1) := by decide +kernel
theorem dL_law_720 : decode cL_law 720 = .ok (.iaload, 1) := by decide +kernel
theorem dL_law_721 : decode cL_law 721 = .ok (.aload_n 3, 1) := by decide +kernel
theorem dL_law_722 : decode cL_law 722 = .ok (.invokestatic 106, 3) := by decide +kernel
theorem dL_law_725 : decode cL_law 725 = .ok (.istore 5, 2) := by decide +kernel
theorem dL_law_727 : decode cL_law 727 = .ok (.aload_n 2, 1) := by decide +kernel
theorem dL_law_728 : decode cL_law 728 = .ok (.aload_n 0, 1) := by decide +kernel
theorem dL_law_729 : decode cL_law 729 = .ok (.iload 4, 2) := by decide +kernel
theorem dL_law_731 : decode cL_law 731 = .ok (.iconst 1, 1) := by decide +kernel
theorem dL_law_732 : decode cL_law 732 = .ok (.iadd, 1) := by decide +kernel
theorem dL_law_733 : decode cL_law 733 = .ok (.iaload, 1) := by decide +kernel
theorem dL_law_734 : decode cL_law 734 = .ok (.aload_n 0, 1) := by decide +kernel
theorem dL_law_735 : decode cL_law 735 = .ok (.iload 4, 2) := by decide +kernel
theorem dL_law_737 : decode cL_law 737 = .ok (.iconst 2, 1) := by decide +kernel
theorem dL_law_738 : decode cL_law 738 = .ok (.iadd, 1) := by decide +kernel
theorem dL_law_739 : decode cL_law 739 = .ok (.iaload, 1) := by decide +kernel
theorem dL_law_740 : decode cL_law 740 = .ok (.invokevirtual 108, 3) := by decide +kernel
theorem dL_law_743 : decode cL_law 743 = .ok (.istore 6, 2) := by decide +kernel
theorem dL_law_745 : decode cL_law 745 = .ok (.aload_n 2, 1) := by decide +kernel
theorem dL_law_746 : decode cL_law 746 = .ok (.invokevirtual 74, 3) := by decide +kernel
theorem dL_law_749 : decode cL_law 749 = .ok (.iload 5, 2) := by decide +kernel
theorem dL_law_751 : decode cL_law 751 = .ok (.if_icmp .eq 5, 3) := by decide +kernel
theorem dL_law_754 : decode cL_law 754 = .ok (.iconst 0, 1) := by decide +kernel
theorem dL_law_755 : decode cL_law 755 = .ok (.ireturn, 1) := by decide +kernel
theorem dL_law_756 : decode cL_law 756 = .ok (.iload 5, 2) := by decide +kernel
theorem dL_law_758 : decode cL_law 758 = .ok (.ifCond .ne 15, 3) := by decide +kernel
theorem dL_law_761 : decode cL_law 761 = .ok (.aload_n 3, 1) := by decide +kernel
theorem dL_law_762 : decode cL_law 762 = .ok (.iconst 0, 1) := by decide +kernel
theorem dL_law_763 : decode cL_law 763 = .ok (.laload, 1) := by decide +kernel
theorem dL_law_764 : decode cL_law 764 = .ok (.iload 6, 2) := by decide +kernel
theorem dL_law_766 : decode cL_law 766 = .ok (.i2l, 1) := by decide +kernel
theorem dL_law_767 : decode cL_law 767 = .ok (.lcmp, 1) := by decide +kernel
theorem dL_law_768 : decode cL_law 768 = .ok (.ifCond .eq 5, 3) := by decide +kernel
theorem dL_law_771 : decode cL_law 771 = .ok (.iconst 0, 1) := by decide +kernel
theorem dL_law_772 : decode cL_law 772 = .ok (.ireturn, 1) := by decide +kernel
theorem dL_law_773 : decode cL_law 773 = .ok (.goto 431, 3) := by decide +kernel
theorem dL_law_776 : decode cL_law 776 = .ok (.aload_n 1, 1) := by decide +kernel
theorem dL_law_777 : decode cL_law 777 = .ok (.aload_n 0, 1) := by decide +kernel
theorem dL_law_778 : decode cL_law 778 = .ok (.iload 4, 2) := by decide +kernel
theorem dL_law_780 : decode cL_law 780 = .ok (.iconst 1, 1) := by decide +kernel
theorem dL_law_781 : decode cL_law 781 = .ok (.iadd, 1) := by decide +kernel
theorem dL_law_782 : decode cL_law 782 = .ok (.iaload, 1) := by decide +kernel
theorem dL_law_783 : decode cL_law 783 = .ok (.aload_n 0, 1) := by decide +kernel
theorem dL_law_784 : decode cL_law 784 = .ok (.iload 4, 2) := by decide +kernel
theorem dL_law_786 : decode cL_law 786 = .ok (.iconst 2, 1) := by decide +kernel
theorem dL_law_787 : decode cL_law 787 = .ok (.iadd, 1) := by decide +kernel
theorem dL_law_788 : decode cL_law 788 = .ok (.iaload, 1) := by decide +kernel
theorem dL_law_789 : decode cL_law 789 = .ok (.aload_n 3, 1) := by decide +kernel
theorem dL_law_790 : decode cL_law 790 = .ok (.invokestatic 109, 3) := by decide +kernel
theorem dL_law_793 : decode cL_law 793 = .ok (.istore 5, 2) := by decide +kernel
theorem dL_law_795 : decode cL_law 795 = .ok (.aload_n 2, 1) := by decide +kernel
theorem dL_law_796 : decode cL_law 796 = .ok (.aload_n 0, 1) := by decide +kernel
theorem dL_law_797 : decode cL_law 797 = .ok (.iload 4, 2) := by decide +kernel
theorem dL_law_799 : decode cL_law 799 = .ok (.iconst 1, 1) := by decide +kernel
theorem dL_law_800 : decode cL_law 800 = .ok (.iadd, 1) := by decide +kernel
theorem dL_law_801 : decode cL_law 801 = .ok (.iaload, 1) := by decide +kernel
theorem dL_law_802 : decode cL_law 802 = .ok (.aload_n 0, 1) := by decide +kernel
theorem dL_law_803 : decode cL_law 803 = .ok (.iload 4, 2) := by decide +kernel
theorem dL_law_805 : decode cL_law 805 = .ok (.iconst 2, 1) := by decide +kernel
theorem dL_law_806 : decode cL_law 806 = .ok (.iadd, 1) := by decide +kernel
theorem dL_law_807 : decode cL_law 807 = .ok (.iaload, 1) := by decide +kernel
theorem dL_law_808 : decode cL_law 808 = .ok (.invokevirtual 111, 3) := by decide +kernel
theorem dL_law_811 : decode cL_law 811 = .ok (.istore 6, 2) := by decide +kernel
theorem dL_law_813 : decode cL_law 813 = .ok (.aload_n 2, 1) := by decide +kernel
theorem dL_law_814 : decode cL_law 814 = .ok (.invokevirtual 74, 3) := by decide +kernel
theorem dL_law_817 : decode cL_law 817 = .ok (.iload 5, 2) := by decide +kernel
theorem dL_law_819 : decode cL_law 819 = .ok (.if_icmp .eq 5, 3) := by decide +kernel
theorem dL_law_822 : decode cL_law 822 = .ok (.iconst 0, 1) := by decide +kernel
theorem dL_law_823 : decode cL_law 823 = .ok (.ireturn, 1) := by decide +kernel
theorem dL_law_824 : decode cL_law 824 = .ok (.iload 5, 2) := by decide +kernel
theorem dL_law_826 : decode cL_law 826 = .ok (.ifCond .ne 15, 3) := by decide +kernel
theorem dL_law_829 : decode cL_law 829 = .ok (.aload_n 3, 1) := by decide +kernel
theorem dL_law_830 : decode cL_law 830 = .ok (.iconst 0, 1) := by decide +kernel
theorem dL_law_831 : decode cL_law 831 = .ok (.laload, 1) := by decide +kernel
theorem dL_law_832 : decode cL_law 832 = .ok (.iload 6, 2) := by decide +kernel
theorem dL_law_834 : decode cL_law 834 = .ok (.i2l, 1) := by decide +kernel
theorem dL_law_835 : decode cL_law 835 = .ok (.lcmp, 1) := by decide +kernel
theorem dL_law_836 : decode cL_law 836 = .ok (.ifCond .eq 5, 3) := by decide +kernel
theorem dL_law_839 : decode cL_law 839 = .ok (.iconst 0, 1) := by decide +kernel
theorem dL_law_840 : decode cL_law 840 = .ok (.ireturn, 1) := by decide +kernel
theorem dL_law_841 : decode cL_law 841 = .ok (.goto 363, 3) := by decide +kernel
theorem dL_law_844 : decode cL_law 844 = .ok (.aload_n 1, 1) := by decide +kernel
theorem dL_law_845 : decode cL_law 845 = .ok (.aload_n 0, 1) := by decide +kernel
theorem dL_law_846 : decode cL_law 846 = .ok (.iload 4, 2) := by decide +kernel
theorem dL_law_848 : decode cL_law 848 = .ok (.iconst 1, 1) := by decide +kernel
theorem dL_law_849 : decode cL_law 849 = .ok (.iadd, 1) := by decide +kernel
theorem dL_law_850 : decode cL_law 850 = .ok (.iaload, 1) := by decide +kernel
theorem dL_law_851 : decode cL_law 851 = .ok (.aload_n 3, 1) := by decide +kernel
theorem dL_law_852 : decode cL_law 852 = .ok (.invokestatic 112, 3) := by decide +kernel
theorem dL_law_855 : decode cL_law 855 = .ok (.istore 5, 2) := by decide +kernel
theorem dL_law_857 : decode cL_law 857 = .ok (.aload_n 2, 1) := by decide +kernel
theorem dL_law_858 : decode cL_law 858 = .ok (.aload_n 0, 1) := by decide +kernel
theorem dL_law_859 : decode cL_law 859 = .ok (.iload 4, 2) := by decide +kernel
theorem dL_law_861 : decode cL_law 861 = .ok (.iconst 1, 1) := by decide +kernel
theorem dL_law_862 : decode cL_law 862 = .ok (.iadd, 1) := by decide +kernel
theorem dL_law_863 : decode cL_law 863 = .ok (.iaload, 1) := by decide +kernel
theorem dL_law_864 : decode cL_law 864 = .ok (.invokevirtual 114, 3) := by decide +kernel
theorem dL_law_867 : decode cL_law 867 = .ok (.istore 6, 2) := by decide +kernel
theorem dL_law_869 : decode cL_law 869 = .ok (.aload_n 2, 1) := by decide +kernel
theorem dL_law_870 : decode cL_law 870 = .ok (.invokevirtual 74, 3) := by decide +kernel
theorem dL_law_873 : decode cL_law 873 = .ok (.iload 5, 2) := by decide +kernel
theorem dL_law_875 : decode cL_law 875 = .ok (.if_icmp .eq 5, 3) := by decide +kernel
theorem dL_law_878 : decode cL_law 878 = .ok (.iconst 0, 1) := by decide +kernel
theorem dL_law_879 : decode cL_law 879 = .ok (.ireturn, 1) := by decide +kernel
theorem dL_law_880 : decode cL_law 880 = .ok (.iload 5, 2) := by decide +kernel
theorem dL_law_882 : decode cL_law 882 = .ok (.ifCond .ne 15, 3) := by decide +kernel
theorem dL_law_885 : decode cL_law 885 = .ok (.aload_n 3, 1) := by decide +kernel
theorem dL_law_886 : decode cL_law 886 = .ok (.iconst 0, 1) := by decide +kernel
theorem dL_law_887 : decode cL_law 887 = .ok (.laload, 1) := by decide +kernel
theorem dL_law_888 : decode cL_law 888 = .ok (.iload 6, 2) := by decide +kernel
theorem dL_law_890 : decode cL_law 890 = .ok (.i2l, 1) := by decide +kernel
theorem dL_law_891 : decode cL_law 891 = .ok (.lcmp, 1) := by decide +kernel
theorem dL_law_892 : decode cL_law 892 = .ok (.ifCond .eq 5, 3) := by decide +kernel
theorem dL_law_895 : decode cL_law 895 = .ok (.iconst 0, 1) := by decide +kernel
theorem dL_law_896 : decode cL_law 896 = .ok (.ireturn, 1) := by decide +kernel
theorem dL_law_897 : decode cL_law 897 = .ok (.goto 307, 3) := by decide +kernel
theorem dL_law_900 : decode cL_law 900 = .ok (.aload_n 1, 1) := by decide +kernel
theorem dL_law_901 : decode cL_law 901 = .ok (.aload_n 0, 1) := by decide +kernel
theorem dL_law_902 : decode cL_law 902 = .ok (.iload 4, 2) := by decide +kernel
theorem dL_law_904 : decode cL_law 904 = .ok (.iconst 1, 1) := by decide +kernel
theorem dL_law_905 : decode cL_law 905 = .ok (.iadd, 1) := by decide +kernel
theorem dL_law_906 : decode cL_law 906 = .ok (.iaload, 1) := by decide +kernel
theorem dL_law_907 : decode cL_law 907 = .ok (.aload_n 3, 1) := by decide +kernel
theorem dL_law_908 : decode cL_law 908 = .ok (.invokestatic 115, 3) := by decide +kernel
theorem dL_law_911 : decode cL_law 911 = .ok (.istore 5, 2) := by decide +kernel
theorem dL_law_913 : decode cL_law 913 = .ok (.aload_n 2, 1) := by decide +kernel
theorem dL_law_914 : decode cL_law 914 = .ok (.aload_n 0, 1) := by decide +kernel
theorem dL_law_915 : decode cL_law 915 = .ok (.iload 4, 2) := by decide +kernel
theorem dL_law_917 : decode cL_law 917 = .ok (.iconst 1, 1) := by decide +kernel
theorem dL_law_918 : decode cL_law 918 = .ok (.iadd, 1) := by decide +kernel
theorem dL_law_919 : decode cL_law 919 = .ok (.iaload, 1) := by decide +kernel
theorem dL_law_920 : decode cL_law 920 = .ok (.invokevirtual 117, 3) := by decide +kernel
theorem dL_law_923 : decode cL_law 923 = .ok (.istore 6, 2) := by decide +kernel
theorem dL_law_925 : decode cL_law 925 = .ok (.aload_n 2, 1) := by decide +kernel
theorem dL_law_926 : decode cL_law 926 = .ok (.invokevirtual 74, 3) := by decide +kernel
theorem dL_law_929 : decode cL_law 929 = .ok (.iload 5, 2) := by decide +kernel
theorem dL_law_931 : decode cL_law 931 = .ok (.if_icmp .eq 5, 3) := by decide +kernel
theorem dL_law_934 : decode cL_law 934 = .ok (.iconst 0, 1) := by decide +kernel
theorem dL_law_935 : decode cL_law 935 = .ok (.ireturn, 1) := by decide +kernel
theorem dL_law_936 : decode cL_law 936 = .ok (.iload 5, 2) := by decide +kernel
theorem dL_law_938 : decode cL_law 938 = .ok (.ifCond .ne 15, 3) := by decide +kernel
theorem dL_law_941 : decode cL_law 941 = .ok (.aload_n 3, 1) := by decide +kernel
theorem dL_law_942 : decode cL_law 942 = .ok (.iconst 0, 1) := by decide +kernel
theorem dL_law_943 : decode cL_law 943 = .ok (.laload, 1) := by decide +kernel
theorem dL_law_944 : decode cL_law 944 = .ok (.iload 6, 2) := by decide +kernel
theorem dL_law_946 : decode cL_law 946 = .ok (.i2l, 1) := by decide +kernel
theorem dL_law_947 : decode cL_law 947 = .ok (.lcmp, 1) := by decide +kernel
theorem dL_law_948 : decode cL_law 948 = .ok (.ifCond .eq 5, 3) := by decide +kernel
theorem dL_law_951 : decode cL_law 951 = .ok (.iconst 0, 1) := by decide +kernel
theorem dL_law_952 : decode cL_law 952 = .ok (.ireturn, 1) := by decide +kernel
theorem dL_law_953 : decode cL_law 953 = .ok (.goto 251, 3) := by decide +kernel
theorem dL_law_956 : decode cL_law 956 = .ok (.aload_n 1, 1) := by decide +kernel
theorem dL_law_957 : decode cL_law 957 = .ok (.aload_n 0, 1) := by decide +kernel
theorem dL_law_958 : decode cL_law 958 = .ok (.iload 4, 2) := by decide +kernel
theorem dL_law_960 : decode cL_law 960 = .ok (.iconst 1, 1) := by decide +kernel
theorem dL_law_961 : decode cL_law 961 = .ok (.iadd, 1) := by decide +kernel
theorem dL_law_962 : decode cL_law 962 = .ok (.iaload, 1) := by decide +kernel
theorem dL_law_963 : decode cL_law 963 = .ok (.aload_n 3, 1) := by decide +kernel
theorem dL_law_964 : decode cL_law 964 = .ok (.invokestatic 118, 3) := by decide +kernel
theorem dL_law_967 : decode cL_law 967 = .ok (.istore 5, 2) := by decide +kernel
theorem dL_law_969 : decode cL_law 969 = .ok (.aload_n 2, 1) := by decide +kernel
theorem dL_law_970 : decode cL_law 970 = .ok (.aload_n 0, 1) := by decide +kernel
theorem dL_law_971 : decode cL_law 971 = .ok (.iload 4, 2) := by decide +kernel
theorem dL_law_973 : decode cL_law 973 = .ok (.iconst 1, 1) := by decide +kernel
theorem dL_law_974 : decode cL_law 974 = .ok (.iadd, 1) := by decide +kernel
theorem dL_law_975 : decode cL_law 975 = .ok (.iaload, 1) := by decide +kernel
theorem dL_law_976 : decode cL_law 976 = .ok (.invokevirtual 120, 3) := by decide +kernel
theorem dL_law_979 : decode cL_law 979 = .ok (.istore 6, 2) := by decide +kernel
theorem dL_law_981 : decode cL_law 981 = .ok (.aload_n 2, 1) := by decide +kernel
theorem dL_law_982 : decode cL_law 982 = .ok (.invokevirtual 74, 3) := by decide +kernel
theorem dL_law_985 : decode cL_law 985 = .ok (.iload 5, 2) := by decide +kernel
theorem dL_law_987 : decode cL_law 987 = .ok (.if_icmp .eq 5, 3) := by decide +kernel
theorem dL_law_990 : decode cL_law 990 = .ok (.iconst 0, 1) := by decide +kernel
theorem dL_law_991 : decode cL_law 991 = .ok (.ireturn, 1) := by decide +kernel
theorem dL_law_992 : decode cL_law 992 = .ok (.iload 5, 2) := by decide +kernel
theorem dL_law_994 : decode cL_law 994 = .ok (.ifCond .ne 15, 3) := by decide +kernel
theorem dL_law_997 : decode cL_law 997 = .ok (.aload_n 3, 1) := by decide +kernel
theorem dL_law_998 : decode cL_law 998 = .ok (.iconst 0, 1) := by decide +kernel
theorem dL_law_999 : decode cL_law 999 = .ok (.laload, 1) := by decide +kernel
theorem dL_law_1000 : decode cL_law 1000 = .ok (.iload 6, 2) := by decide +kernel
theorem dL_law_1002 : decode cL_law 1002 = .ok (.i2l, 1) := by decide +kernel
theorem dL_law_1003 : decode cL_law 1003 = .ok (.lcmp, 1) := by decide +kernel
theorem dL_law_1004 : decode cL_law 1004 = .ok (.ifCond .eq 5, 3) := by decide +kernel
theorem dL_law_1007 : decode cL_law 1007 = .ok (.iconst 0, 1) := by decide +kernel
theorem dL_law_1008 : decode cL_law 1008 = .ok (.ireturn, 1) := by decide +kernel
theorem dL_law_1009 : decode cL_law 1009 = .ok (.goto 195, 3) := by decide +kernel
theorem dL_law_1012 : decode cL_law 1012 = .ok (.aload_n 1, 1) := by decide +kernel
theorem dL_law_1013 : decode cL_law 1013 = .ok (.aload_n 0, 1) := by decide +kernel
theorem dL_law_1014 : decode cL_law 1014 = .ok (.iload 4, 2) := by decide +kernel
theorem dL_law_1016 : decode cL_law 1016 = .ok (.iconst 1, 1) := by decide +kernel
theorem dL_law_1017 : decode cL_law 1017 = .ok (.iadd, 1) := by decide +kernel
theorem dL_law_1018 : decode cL_law 1018 = .ok (.iaload, 1) := by decide +kernel
theorem dL_law_1019 : decode cL_law 1019 = .ok (.aload_n 0, 1) := by decide +kernel
theorem dL_law_1020 : decode cL_law 1020 = .ok (.iload 4, 2) := by decide +kernel
theorem dL_law_1022 : decode cL_law 1022 = .ok (.iconst 2, 1) := by decide +kernel
theorem dL_law_1023 : decode cL_law 1023 = .ok (.iadd, 1) := by decide +kernel
theorem dL_law_1024 : decode cL_law 1024 = .ok (.iaload, 1) := by decide +kernel
theorem dL_law_1025 : decode cL_law 1025 = .ok (.aload_n 3, 1) := by decide +kernel
theorem dL_law_1026 : decode cL_law 1026 = .ok (.invokestatic 121, 3) := by decide +kernel
theorem dL_law_1029 : decode cL_law 1029 = .ok (.istore 5, 2) := by decide +kernel
theorem dL_law_1031 : decode cL_law 1031 = .ok (.aload_n 2, 1) := by decide +kernel
theorem dL_law_1032 : decode cL_law 1032 = .ok (.aload_n 0, 1) := by decide +kernel
theorem dL_law_1033 : decode cL_law 1033 = .ok (.iload 4, 2) := by decide +kernel
theorem dL_law_1035 : decode cL_law 1035 = .ok (.iconst 1, 1) := by decide +kernel
theorem dL_law_1036 : decode cL_law 1036 = .ok (.iadd, 1) := by decide +kernel
theorem dL_law_1037 : decode cL_law 1037 = .ok (.iaload, 1) := by decide +kernel
theorem dL_law_1038 : decode cL_law 1038 = .ok (.aload_n 0, 1) := by decide +kernel
theorem dL_law_1039 : decode cL_law 1039 = .ok (.iload 4, 2) := by decide +kernel
theorem dL_law_1041 : decode cL_law 1041 = .ok (.iconst 2, 1) := by decide +kernel
theorem dL_law_1042 : decode cL_law 1042 = .ok (.iadd, 1) := by decide +kernel
theorem dL_law_1043 : decode cL_law 1043 = .ok (.iaload, 1) := by decide +kernel
theorem dL_law_1044 : decode cL_law 1044 = .ok (.invokevirtual 123, 3) := by decide +kernel
theorem dL_law_1047 : decode cL_law 1047 = .ok (.istore 6, 2) := by decide +kernel
theorem dL_law_1049 : decode cL_law 1049 = .ok (.aload_n 2, 1) := by decide +kernel
theorem dL_law_1050 : decode cL_law 1050 = .ok (.invokevirtual 74, 3) := by decide +kernel
theorem dL_law_1053 : decode cL_law 1053 = .ok (.iload 5, 2) := by decide +kernel
theorem dL_law_1055 : decode cL_law 1055 = .ok (.if_icmp .eq 5, 3) := by decide +kernel
theorem dL_law_1058 : decode cL_law 1058 = .ok (.iconst 0, 1) := by decide +kernel
theorem dL_law_1059 : decode cL_law 1059 = .ok (.ireturn, 1) := by decide +kernel
theorem dL_law_1060 : decode cL_law 1060 = .ok (.iload 5, 2) := by decide +kernel
theorem dL_law_1062 : decode cL_law 1062 = .ok (.ifCond .ne 15, 3) := by decide +kernel
theorem dL_law_1065 : decode cL_law 1065 = .ok (.aload_n 3, 1) := by decide +kernel
theorem dL_law_1066 : decode cL_law 1066 = .ok (.iconst 0, 1) := by decide +kernel
theorem dL_law_1067 : decode cL_law 1067 = .ok (.laload, 1) := by decide +kernel
theorem dL_law_1068 : decode cL_law 1068 = .ok (.iload 6, 2) := by decide +kernel
theorem dL_law_1070 : decode cL_law 1070 = .ok (.i2l, 1) := by decide +kernel
theorem dL_law_1071 : decode cL_law 1071 = .ok (.lcmp, 1) := by decide +kernel
theorem dL_law_1072 : decode cL_law 1072 = .ok (.ifCond .eq 5, 3) := by decide +kernel
theorem dL_law_1075 : decode cL_law 1075 = .ok (.iconst 0, 1) := by decide +kernel
theorem dL_law_1076 : decode cL_law 1076 = .ok (.ireturn, 1) := by decide +kernel
theorem dL_law_1077 : decode cL_law 1077 = .ok (.goto 127, 3) := by decide +kernel
theorem dL_law_1080 : decode cL_law 1080 = .ok (.aload_n 1, 1) := by decide +kernel
theorem dL_law_1081 : decode cL_law 1081 = .ok (.aload_n 0, 1) := by decide +kernel
theorem dL_law_1082 : decode cL_law 1082 = .ok (.iload 4, 2) := by decide +kernel
theorem dL_law_1084 : decode cL_law 1084 = .ok (.iconst 1, 1) := by decide +kernel
theorem dL_law_1085 : decode cL_law 1085 = .ok (.iadd, 1) := by decide +kernel
theorem dL_law_1086 : decode cL_law 1086 = .ok (.iaload, 1) := by decide +kernel
theorem dL_law_1087 : decode cL_law 1087 = .ok (.aload_n 3, 1) := by decide +kernel
theorem dL_law_1088 : decode cL_law 1088 = .ok (.invokestatic 124, 3) := by decide +kernel
theorem dL_law_1091 : decode cL_law 1091 = .ok (.istore 5, 2) := by decide +kernel
theorem dL_law_1093 : decode cL_law 1093 = .ok (.aload_n 2, 1) := by decide +kernel
theorem dL_law_1094 : decode cL_law 1094 = .ok (.aload_n 0, 1) := by decide +kernel
theorem dL_law_1095 : decode cL_law 1095 = .ok (.iload 4, 2) := by decide +kernel
theorem dL_law_1097 : decode cL_law 1097 = .ok (.iconst 1, 1) := by decide +kernel
theorem dL_law_1098 : decode cL_law 1098 = .ok (.iadd, 1) := by decide +kernel
theorem dL_law_1099 : decode cL_law 1099 = .ok (.iaload, 1) := by decide +kernel
theorem dL_law_1100 : decode cL_law 1100 = .ok (.invokevirtual 126, 3) := by decide +kernel
theorem dL_law_1103 : decode cL_law 1103 = .ok (.istore 6, 2) := by decide +kernel
theorem dL_law_1105 : decode cL_law 1105 = .ok (.aload_n 2, 1) := by decide +kernel
theorem dL_law_1106 : decode cL_law 1106 = .ok (.invokevirtual 74, 3) := by decide +kernel
theorem dL_law_1109 : decode cL_law 1109 = .ok (.iload 5, 2) := by decide +kernel
theorem dL_law_1111 : decode cL_law 1111 = .ok (.if_icmp .eq 5, 3) := by decide +kernel
theorem dL_law_1114 : decode cL_law 1114 = .ok (.iconst 0, 1) := by decide +kernel
theorem dL_law_1115 : decode cL_law 1115 = .ok (.ireturn, 1) := by decide +kernel
theorem dL_law_1116 : decode cL_law 1116 = .ok (.iload 5, 2) := by decide +kernel
theorem dL_law_1118 : decode cL_law 1118 = .ok (.ifCond .ne 15, 3) := by decide +kernel
theorem dL_law_1121 : decode cL_law 1121 = .ok (.aload_n 3, 1) := by decide +kernel
theorem dL_law_1122 : decode cL_law 1122 = .ok (.iconst 0, 1) := by decide +kernel
theorem dL_law_1123 : decode cL_law 1123 = .ok (.laload, 1) := by decide +kernel
theorem dL_law_1124 : decode cL_law 1124 = .ok (.iload 6, 2) := by decide +kernel
theorem dL_law_1126 : decode cL_law 1126 = .ok (.i2l, 1) := by decide +kernel
theorem dL_law_1127 : decode cL_law 1127 = .ok (.lcmp, 1) := by decide +kernel
theorem dL_law_1128 : decode cL_law 1128 = .ok (.ifCond .eq 5, 3) := by decide +kernel
theorem dL_law_1131 : decode cL_law 1131 = .ok (.iconst 0, 1) := by decide +kernel
theorem dL_law_1132 : decode cL_law 1132 = .ok (.ireturn, 1) := by decide +kernel
theorem dL_law_1133 : decode cL_law 1133 = .ok (.goto 71, 3) := by decide +kernel
theorem dL_law_1136 : decode cL_law 1136 = .ok (.aload_n 1, 1) := by decide +kernel
theorem dL_law_1137 : decode cL_law 1137 = .ok (.invokevirtual 127, 3) := by decide +kernel
theorem dL_law_1140 : decode cL_law 1140 = .ok (.aload_n 2, 1) := by decide +kernel
theorem dL_law_1141 : decode cL_law 1141 = .ok (.invokevirtual 130, 3) := by decide +kernel
theorem dL_law_1144 : decode cL_law 1144 = .ok (.if_icmp .eq 60, 3) := by decide +kernel
theorem dL_law_1147 : decode cL_law 1147 = .ok (.iconst 0, 1) := by decide +kernel
theorem dL_law_1148 : decode cL_law 1148 = .ok (.ireturn, 1) := by decide +kernel
theorem dL_law_1149 : decode cL_law 1149 = .ok (.aload_n 1, 1) := by decide +kernel
theorem dL_law_1150 : decode cL_law 1150 = .ok (.invokevirtual 131, 3) := by decide +kernel
theorem dL_law_1153 : decode cL_law 1153 = .ok (.dstore 5, 2) := by decide +kernel
theorem dL_law_1155 : decode cL_law 1155 = .ok (.aload_n 2, 1) := by decide +kernel
theorem dL_law_1156 : decode cL_law 1156 = .ok (.invokevirtual 135, 3) := by decide +kernel
theorem dL_law_1159 : decode cL_law 1159 = .ok (.dstore 7, 2) := by decide +kernel
theorem dL_law_1161 : decode cL_law 1161 = .ok (.dload 5, 2) := by decide +kernel
theorem dL_law_1163 : decode cL_law 1163 = .ok (.dload 7, 2) := by decide +kernel
theorem dL_law_1165 : decode cL_law 1165 = .ok (.dcmp .l, 1) := by decide +kernel
theorem dL_law_1166 : decode cL_law 1166 = .ok (.ifCond .eq 21, 3) := by decide +kernel
theorem dL_law_1169 : decode cL_law 1169 = .ok (.dload 5, 2) := by decide +kernel
theorem dL_law_1171 : decode cL_law 1171 = .ok (.dload 5, 2) := by decide +kernel
theorem dL_law_1173 : decode cL_law 1173 = .ok (.dcmp .l, 1) := by decide +kernel
theorem dL_law_1174 : decode cL_law 1174 = .ok (.ifCond .eq 11, 3) := by decide +kernel
theorem dL_law_1177 : decode cL_law 1177 = .ok (.dload 7, 2) := by decide +kernel
theorem dL_law_1179 : decode cL_law 1179 = .ok (.dload 7, 2) := by decide +kernel
theorem dL_law_1181 : decode cL_law 1181 = .ok (.dcmp .l, 1) := by decide +kernel
theorem dL_law_1182 : decode cL_law 1182 = .ok (.ifCond .ne 5, 3) := by decide +kernel
theorem dL_law_1185 : decode cL_law 1185 = .ok (.iconst 0, 1) := by decide +kernel
theorem dL_law_1186 : decode cL_law 1186 = .ok (.ireturn, 1) := by decide +kernel
theorem dL_law_1187 : decode cL_law 1187 = .ok (.goto 17, 3) := by decide +kernel
theorem dL_law_1190 : decode cL_law 1190 = .ok (.aload_n 1, 1) := by decide +kernel
theorem dL_law_1191 : decode cL_law 1191 = .ok (.invokevirtual 136, 3) := by decide +kernel
theorem dL_law_1194 : decode cL_law 1194 = .ok (.aload_n 2, 1) := by decide +kernel
theorem dL_law_1195 : decode cL_law 1195 = .ok (.invokevirtual 140, 3) := by decide +kernel
theorem dL_law_1198 : decode cL_law 1198 = .ok (.lcmp, 1) := by decide +kernel
theorem dL_law_1199 : decode cL_law 1199 = .ok (.ifCond .eq 5, 3) := by decide +kernel
theorem dL_law_1202 : decode cL_law 1202 = .ok (.iconst 0, 1) := by decide +kernel
theorem dL_law_1203 : decode cL_law 1203 = .ok (.ireturn, 1) := by decide +kernel
theorem dL_law_1204 : decode cL_law 1204 = .ok (.iinc 4 4, 3) := by decide +kernel
theorem dL_law_1207 : decode cL_law 1207 = .ok (.goto (-1184), 3) := by decide +kernel
theorem dL_law_1210 : decode cL_law 1210 = .ok (.iconst 1, 1) := by decide +kernel
theorem dL_law_1211 : decode cL_law 1211 = .ok (.ireturn, 1) := by decide +kernel
end
section
theorem xk_psub {D : va_G} {cl : List vw_C} {ws ws' : va_W} {H : Heap} (h : va_P D cl ws H) (is : List Nat) (hs : is.map (fun i => ws[i]?) = ws'.map some) : va_P D cl ws' H := by
  intro k q hk
  have h1 : (is.map (fun i => ws[i]?))[k]? = some (some q) := by rw [hs, List.getElem?_map, hk]; rfl
  rw [List.getElem?_map] at h1
  cases hi : is[k]? with
  | none => rw [hi] at h1; cases h1
  | some i => rw [hi] at h1; exact h i q (Option.some.inj h1)
/-- the fixed facts of a walk: the machine, the code, the words, the classes, which cells may change -/
def XF (p : Program) (s : State) (m : MethodId) (args : Array Value) (c : Code) (cc : ByteArray) (nL : Nat) (Ts : List Cond) (own : String) (D : va_G) (tys : List (ClassId × FieldType)) (A : Nat → Prop) : Prop :=
  p.tables.exec = Jvm.exec ∧ c.code = cc ∧ c.maxLocals = nL ∧ s.vm.findClass own = some m.cls ∧ (∀ w ∈ Ts, w.before args s = true) ∧ va_K D vwCl tys s ∧ (∀ q : Nat, s.heap.size ≤ q → A q)
/-- the machine, in any heap that holds the world ws, with the locals lv, at pc, with the stack st, comes to Q -/
def AW (p : Program) (l : Launch) (e : Env) (R : Room) (s : State) (m : MethodId) (args : Array Value) (below : List Frame) (meth : Method) (c : Code) (nL : Nat) (D : va_G) (A : Nat → Prop) (cells slots : Nat) (Q : State → Prop) (ws : va_W) (lv : List (Nat × Value)) (pc : Nat) (st : List Value) : Prop :=
  ∀ (H : Heap) (locs : List Loc) (ls : Array Slot), va_P D vwCl ws H → va_D A ws → va_S A s.heap H locs → lv_has ls nL lv → W p l e R s m args below meth c H locs cells slots Q (F0 m pc ls st)

section XKIT
variable {p : Program} {l : Launch} {e : Env} {R : Room} {s : State} {m : MethodId} {args : Array Value} {below : List Frame} {meth : Method} {c : Code} {Q : State → Prop}
variable {cc : ByteArray} {nL : Nat} {Ts : List Cond} {own : String} {D : va_G} {tys : List (ClassId × FieldType)} {A : Nat → Prop} {cells slots : Nat}
variable {ws : va_W} {lv : List (Nat × Value)} {pc : Nat} {st rest : List Value}

theorem XF.fix (F : XF p s m args c cc nL Ts own D tys A) : CallFix p m c cc nL s args Ts own := ⟨F.1, F.2.1, F.2.2.1, F.2.2.2.1, F.2.2.2.2.1⟩
theorem XF.own (F : XF p s m args c cc nL Ts own D tys A) : s.vm.findClass own = some m.cls := F.2.2.2.1
theorem XF.hts (F : XF p s m args c cc nL Ts own D tys A) : ∀ w ∈ Ts, w.before args s = true := F.2.2.2.2.1
theorem XF.hK (F : XF p s m args c cc nL Ts own D tys A) : va_K D vwCl tys s := F.2.2.2.2.2.1
theorem XF.hA (F : XF p s m args c cc nL Ts own D tys A) : ∀ q : Nat, s.heap.size ≤ q → A q := F.2.2.2.2.2.2
theorem xr_iconst (F : XF p s m args c cc nL Ts own D tys A) {n : Int} {v : Int32} (hdg : decode cc pc = .ok (.iconst n, 1)) (hv : Int32.ofInt n = v) (kk : AW p l e R s m args below meth c nL D A cells slots Q (ws) (lv) (pc + 1) (.int v :: rest)) : AW p l e R s m args below meth c nL D A cells slots Q (ws) (lv) (pc) (rest) :=
  fun H locs ls hP hD hS hl => lv_iconst F.1 F.2.1 hdg hv (kk H locs ls hP hD hS hl)
theorem xr_bipush (F : XF p s m args c cc nL Ts own D tys A) {n : Int} {v : Int32} (hdg : decode cc pc = .ok (.bipush n, 2)) (hv : (Int8.ofInt n).toInt32 = v) (kk : AW p l e R s m args below meth c nL D A cells slots Q (ws) (lv) (pc + 2) (.int v :: rest)) : AW p l e R s m args below meth c nL D A cells slots Q (ws) (lv) (pc) (rest) :=
  fun H locs ls hP hD hS hl => lv_bipush F.1 F.2.1 hdg hv (kk H locs ls hP hD hS hl)
theorem xr_sipush (F : XF p s m args c cc nL Ts own D tys A) {n : Int} {v : Int32} (hdg : decode cc pc = .ok (.sipush n, 3)) (hv : (Int16.ofInt n).toInt32 = v) (kk : AW p l e R s m args below meth c nL D A cells slots Q (ws) (lv) (pc + 3) (.int v :: rest)) : AW p l e R s m args below meth c nL D A cells slots Q (ws) (lv) (pc) (rest) :=
  fun H locs ls hP hD hS hl => lv_sipush F.1 F.2.1 hdg hv (kk H locs ls hP hD hS hl)
theorem xr_lconst (F : XF p s m args c cc nL Ts own D tys A) {n : Fin 2} {v : Int64} (hdg : decode cc pc = .ok (.lconst n, 1)) (hv : Int64.ofNat (n : Nat) = v) (kk : AW p l e R s m args below meth c nL D A cells slots Q (ws) (lv) (pc + 1) (.long v :: rest)) : AW p l e R s m args below meth c nL D A cells slots Q (ws) (lv) (pc) (rest) :=
  fun H locs ls hP hD hS hl => lv_lconst F.1 F.2.1 hdg hv (kk H locs ls hP hD hS hl)
theorem xr_ldc2 (F : XF p s m args c cc nL Ts own D tys A) {index : Nat} {v : Int64} (hdg : decode cc pc = .ok (.ldc2_w index, 3)) (hc : Cond.constantLong own index v ∈ Ts) (kk : AW p l e R s m args below meth c nL D A cells slots Q (ws) (lv) (pc + 3) (.long v :: rest)) : AW p l e R s m args below meth c nL D A cells slots Q (ws) (lv) (pc) (rest) :=
  fun H locs ls hP hD hS hl => lv_ldc2 F.1 F.2.1 F.own (F.hts _ hc) hdg (kk H locs ls hP hD hS hl)
theorem xr_ldc2d (F : XF p s m args c cc nL Ts own D tys A) {index : Nat} {v : UInt64} (hdg : decode cc pc = .ok (.ldc2_w index, 3)) (hc : Cond.constantDouble own index v ∈ Ts) (kk : AW p l e R s m args below meth c nL D A cells slots Q (ws) (lv) (pc + 3) (.double v :: rest)) : AW p l e R s m args below meth c nL D A cells slots Q (ws) (lv) (pc) (rest) :=
  fun H locs ls hP hD hS hl => lv_ldc2d F.1 F.2.1 F.own (F.hts _ hc) hdg (kk H locs ls hP hD hS hl)
theorem xr_iload_n (F : XF p s m args c cc nL Ts own D tys A) {k : Fin 4} {i : Nat} {x : Int32} (hdg : decode cc pc = .ok (.iload_n k, 1)) (hi : (k : Nat) = i) (j : Nat) (hj : lv[j]? = some (i, .int x)) (kk : AW p l e R s m args below meth c nL D A cells slots Q (ws) (lv) (pc + 1) (.int x :: rest)) : AW p l e R s m args below meth c nL D A cells slots Q (ws) (lv) (pc) (rest) :=
  fun H locs ls hP hD hS hl => lv_iload_n F.1 F.2.1 hdg hi (lv_at hl j hj) (kk H locs ls hP hD hS hl)
theorem xr_iload (F : XF p s m args c cc nL Ts own D tys A) {i : Nat} {x : Int32} (hdg : decode cc pc = .ok (.iload i, 2)) (j : Nat) (hj : lv[j]? = some (i, .int x)) (kk : AW p l e R s m args below meth c nL D A cells slots Q (ws) (lv) (pc + 2) (.int x :: rest)) : AW p l e R s m args below meth c nL D A cells slots Q (ws) (lv) (pc) (rest) :=
  fun H locs ls hP hD hS hl => lv_iload F.1 F.2.1 hdg (lv_at hl j hj) (kk H locs ls hP hD hS hl)
theorem xr_lload_n (F : XF p s m args c cc nL Ts own D tys A) {k : Fin 4} {i : Nat} {x : Int64} (hdg : decode cc pc = .ok (.lload_n k, 1)) (hi : (k : Nat) = i) (j : Nat) (hj : lv[j]? = some (i, .long x)) (kk : AW p l e R s m args below meth c nL D A cells slots Q (ws) (lv) (pc + 1) (.long x :: rest)) : AW p l e R s m args below meth c nL D A cells slots Q (ws) (lv) (pc) (rest) :=
  fun H locs ls hP hD hS hl => lv_lload_n F.1 F.2.1 hdg hi (lv_at hl j hj) (kk H locs ls hP hD hS hl)
theorem xr_lload (F : XF p s m args c cc nL Ts own D tys A) {i : Nat} {x : Int64} (hdg : decode cc pc = .ok (.lload i, 2)) (j : Nat) (hj : lv[j]? = some (i, .long x)) (kk : AW p l e R s m args below meth c nL D A cells slots Q (ws) (lv) (pc + 2) (.long x :: rest)) : AW p l e R s m args below meth c nL D A cells slots Q (ws) (lv) (pc) (rest) :=
  fun H locs ls hP hD hS hl => lv_lload F.1 F.2.1 hdg (lv_at hl j hj) (kk H locs ls hP hD hS hl)
theorem xr_aload_n (F : XF p s m args c cc nL Ts own D tys A) {k : Fin 4} {i : Nat} {x : Nat} (hdg : decode cc pc = .ok (.aload_n k, 1)) (hi : (k : Nat) = i) (j : Nat) (hj : lv[j]? = some (i, .ref x)) (kk : AW p l e R s m args below meth c nL D A cells slots Q (ws) (lv) (pc + 1) (.ref x :: rest)) : AW p l e R s m args below meth c nL D A cells slots Q (ws) (lv) (pc) (rest) :=
  fun H locs ls hP hD hS hl => lv_aload_n F.1 F.2.1 hdg hi (lv_at hl j hj) (kk H locs ls hP hD hS hl)
theorem xr_aload (F : XF p s m args c cc nL Ts own D tys A) {i : Nat} {x : Nat} (hdg : decode cc pc = .ok (.aload i, 2)) (j : Nat) (hj : lv[j]? = some (i, .ref x)) (kk : AW p l e R s m args below meth c nL D A cells slots Q (ws) (lv) (pc + 2) (.ref x :: rest)) : AW p l e R s m args below meth c nL D A cells slots Q (ws) (lv) (pc) (rest) :=
  fun H locs ls hP hD hS hl => lv_aload F.1 F.2.1 hdg (lv_at hl j hj) (kk H locs ls hP hD hS hl)
theorem xr_dload_n (F : XF p s m args c cc nL Ts own D tys A) {k : Fin 4} {i : Nat} {x : UInt64} (hdg : decode cc pc = .ok (.dload_n k, 1)) (hi : (k : Nat) = i) (j : Nat) (hj : lv[j]? = some (i, .double x)) (kk : AW p l e R s m args below meth c nL D A cells slots Q (ws) (lv) (pc + 1) (.double x :: rest)) : AW p l e R s m args below meth c nL D A cells slots Q (ws) (lv) (pc) (rest) :=
  fun H locs ls hP hD hS hl => lv_dload_n F.1 F.2.1 hdg hi (lv_at hl j hj) (kk H locs ls hP hD hS hl)
theorem xr_dload (F : XF p s m args c cc nL Ts own D tys A) {i : Nat} {x : UInt64} (hdg : decode cc pc = .ok (.dload i, 2)) (j : Nat) (hj : lv[j]? = some (i, .double x)) (kk : AW p l e R s m args below meth c nL D A cells slots Q (ws) (lv) (pc + 2) (.double x :: rest)) : AW p l e R s m args below meth c nL D A cells slots Q (ws) (lv) (pc) (rest) :=
  fun H locs ls hP hD hS hl => lv_dload F.1 F.2.1 hdg (lv_at hl j hj) (kk H locs ls hP hD hS hl)
theorem xr_istore_n (F : XF p s m args c cc nL Ts own D tys A) {k : Fin 4} {i : Nat} {x : Int32} (lv' : List (Nat × Value)) (hdg : decode cc pc = .ok (.istore_n k, 1)) (hi : (k : Nat) = i) (hn : i < nL) (hl : (i, Value.int x) :: lv.filter (fun q => !(q.1 == i) && !(q.1 + 1 == i && q.2.category == 2)) = lv') (kk : AW p l e R s m args below meth c nL D A cells slots Q (ws) (lv') (pc + 1) (rest)) : AW p l e R s m args below meth c nL D A cells slots Q (ws) (lv) (pc) (.int x :: rest) :=
  fun H locs ls hP hD hS h9 => lv_istore_n F.1 F.2.1 hdg hi h9 hn hl (fun ls' hl' => kk H locs ls' hP hD hS hl')
theorem xr_istore (F : XF p s m args c cc nL Ts own D tys A) {i : Nat} {x : Int32} (lv' : List (Nat × Value)) (hdg : decode cc pc = .ok (.istore i, 2)) (hn : i < nL) (hl : (i, Value.int x) :: lv.filter (fun q => !(q.1 == i) && !(q.1 + 1 == i && q.2.category == 2)) = lv') (kk : AW p l e R s m args below meth c nL D A cells slots Q (ws) (lv') (pc + 2) (rest)) : AW p l e R s m args below meth c nL D A cells slots Q (ws) (lv) (pc) (.int x :: rest) :=
  fun H locs ls hP hD hS h9 => lv_istore F.1 F.2.1 hdg h9 hn hl (fun ls' hl' => kk H locs ls' hP hD hS hl')
theorem xr_astore_n (F : XF p s m args c cc nL Ts own D tys A) {k : Fin 4} {i : Nat} {x : Nat} (lv' : List (Nat × Value)) (hdg : decode cc pc = .ok (.astore_n k, 1)) (hi : (k : Nat) = i) (hn : i < nL) (hl : (i, Value.ref x) :: lv.filter (fun q => !(q.1 == i) && !(q.1 + 1 == i && q.2.category == 2)) = lv') (kk : AW p l e R s m args below meth c nL D A cells slots Q (ws) (lv') (pc + 1) (rest)) : AW p l e R s m args below meth c nL D A cells slots Q (ws) (lv) (pc) (.ref x :: rest) :=
  fun H locs ls hP hD hS h9 => lv_astore_n F.1 F.2.1 hdg hi h9 hn hl (fun ls' hl' => kk H locs ls' hP hD hS hl')
theorem xr_astore (F : XF p s m args c cc nL Ts own D tys A) {i : Nat} {x : Nat} (lv' : List (Nat × Value)) (hdg : decode cc pc = .ok (.astore i, 2)) (hn : i < nL) (hl : (i, Value.ref x) :: lv.filter (fun q => !(q.1 == i) && !(q.1 + 1 == i && q.2.category == 2)) = lv') (kk : AW p l e R s m args below meth c nL D A cells slots Q (ws) (lv') (pc + 2) (rest)) : AW p l e R s m args below meth c nL D A cells slots Q (ws) (lv) (pc) (.ref x :: rest) :=
  fun H locs ls hP hD hS h9 => lv_astore F.1 F.2.1 hdg h9 hn hl (fun ls' hl' => kk H locs ls' hP hD hS hl')
theorem xr_lstore_n (F : XF p s m args c cc nL Ts own D tys A) {k : Fin 4} {i : Nat} {x : Int64} (lv' : List (Nat × Value)) (hdg : decode cc pc = .ok (.lstore_n k, 1)) (hi : (k : Nat) = i) (hn : i + 1 < nL) (hl : (i, Value.long x) :: lv.filter (fun q => !(q.1 == i) && (!(q.1 == i + 1) && !(q.1 + 1 == i && q.2.category == 2))) = lv') (kk : AW p l e R s m args below meth c nL D A cells slots Q (ws) (lv') (pc + 1) (rest)) : AW p l e R s m args below meth c nL D A cells slots Q (ws) (lv) (pc) (.long x :: rest) :=
  fun H locs ls hP hD hS h9 => lv_lstore_n F.1 F.2.1 hdg hi h9 hn hl (fun ls' hl' => kk H locs ls' hP hD hS hl')
theorem xr_lstore (F : XF p s m args c cc nL Ts own D tys A) {i : Nat} {x : Int64} (lv' : List (Nat × Value)) (hdg : decode cc pc = .ok (.lstore i, 2)) (hn : i + 1 < nL) (hl : (i, Value.long x) :: lv.filter (fun q => !(q.1 == i) && (!(q.1 == i + 1) && !(q.1 + 1 == i && q.2.category == 2))) = lv') (kk : AW p l e R s m args below meth c nL D A cells slots Q (ws) (lv') (pc + 2) (rest)) : AW p l e R s m args below meth c nL D A cells slots Q (ws) (lv) (pc) (.long x :: rest) :=
  fun H locs ls hP hD hS h9 => lv_lstore F.1 F.2.1 hdg h9 hn hl (fun ls' hl' => kk H locs ls' hP hD hS hl')
theorem xr_dstore_n (F : XF p s m args c cc nL Ts own D tys A) {k : Fin 4} {i : Nat} {x : UInt64} (lv' : List (Nat × Value)) (hdg : decode cc pc = .ok (.dstore_n k, 1)) (hi : (k : Nat) = i) (hn : i + 1 < nL) (hl : (i, Value.double x) :: lv.filter (fun q => !(q.1 == i) && (!(q.1 == i + 1) && !(q.1 + 1 == i && q.2.category == 2))) = lv') (kk : AW p l e R s m args below meth c nL D A cells slots Q (ws) (lv') (pc + 1) (rest)) : AW p l e R s m args below meth c nL D A cells slots Q (ws) (lv) (pc) (.double x :: rest) :=
  fun H locs ls hP hD hS h9 => lv_dstore_n F.1 F.2.1 hdg hi h9 hn hl (fun ls' hl' => kk H locs ls' hP hD hS hl')
theorem xr_dstore (F : XF p s m args c cc nL Ts own D tys A) {i : Nat} {x : UInt64} (lv' : List (Nat × Value)) (hdg : decode cc pc = .ok (.dstore i, 2)) (hn : i + 1 < nL) (hl : (i, Value.double x) :: lv.filter (fun q => !(q.1 == i) && (!(q.1 == i + 1) && !(q.1 + 1 == i && q.2.category == 2))) = lv') (kk : AW p l e R s m args below meth c nL D A cells slots Q (ws) (lv') (pc + 2) (rest)) : AW p l e R s m args below meth c nL D A cells slots Q (ws) (lv) (pc) (.double x :: rest) :=
  fun H locs ls hP hD hS h9 => lv_dstore F.1 F.2.1 hdg h9 hn hl (fun ls' hl' => kk H locs ls' hP hD hS hl')
theorem xr_iinc (F : XF p s m args c cc nL Ts own D tys A) {i : Nat} {n : Int} {x : Int32} (v : Int32) (lv' : List (Nat × Value)) (hdg : decode cc pc = .ok (.iinc i n, 3)) (j : Nat) (hj : lv[j]? = some (i, .int x)) (hv : x + Int32.ofInt n = v) (hn : i < nL) (hl : (i, Value.int v) :: lv.filter (fun q => !(q.1 == i) && !(q.1 + 1 == i && q.2.category == 2)) = lv') (kk : AW p l e R s m args below meth c nL D A cells slots Q (ws) (lv') (pc + 3) (rest)) : AW p l e R s m args below meth c nL D A cells slots Q (ws) (lv) (pc) (rest) :=
  fun H locs ls hP hD hS h9 => lv_iinc F.1 F.2.1 hdg h9 hj hv hn hl (fun ls' hl' => kk H locs ls' hP hD hS hl')
theorem xr_iadd (F : XF p s m args c cc nL Ts own D tys A) {x y : Int32} (v : Int32) (hdg : decode cc pc = .ok (.iadd, 1)) (hv : x + y = v) (kk : AW p l e R s m args below meth c nL D A cells slots Q (ws) (lv) (pc + 1) (.int v :: rest)) : AW p l e R s m args below meth c nL D A cells slots Q (ws) (lv) (pc) (.int y :: .int x :: rest) :=
  fun H locs ls hP hD hS hl => lv_iadd F.1 F.2.1 hdg (by rw [hv]; exact (kk H locs ls hP hD hS hl))
theorem xr_isub (F : XF p s m args c cc nL Ts own D tys A) {x y : Int32} (v : Int32) (hdg : decode cc pc = .ok (.isub, 1)) (hv : x - y = v) (kk : AW p l e R s m args below meth c nL D A cells slots Q (ws) (lv) (pc + 1) (.int v :: rest)) : AW p l e R s m args below meth c nL D A cells slots Q (ws) (lv) (pc) (.int y :: .int x :: rest) :=
  fun H locs ls hP hD hS hl => lv_isub F.1 F.2.1 hdg (by rw [hv]; exact (kk H locs ls hP hD hS hl))
theorem xr_imul (F : XF p s m args c cc nL Ts own D tys A) {x y : Int32} (v : Int32) (hdg : decode cc pc = .ok (.imul, 1)) (hv : x * y = v) (kk : AW p l e R s m args below meth c nL D A cells slots Q (ws) (lv) (pc + 1) (.int v :: rest)) : AW p l e R s m args below meth c nL D A cells slots Q (ws) (lv) (pc) (.int y :: .int x :: rest) :=
  fun H locs ls hP hD hS hl => lv_imul F.1 F.2.1 hdg (by rw [hv]; exact (kk H locs ls hP hD hS hl))
theorem xr_iand (F : XF p s m args c cc nL Ts own D tys A) {x y : Int32} (v : Int32) (hdg : decode cc pc = .ok (.iand, 1)) (hv : x &&& y = v) (kk : AW p l e R s m args below meth c nL D A cells slots Q (ws) (lv) (pc + 1) (.int v :: rest)) : AW p l e R s m args below meth c nL D A cells slots Q (ws) (lv) (pc) (.int y :: .int x :: rest) :=
  fun H locs ls hP hD hS hl => lv_iand F.1 F.2.1 hdg (by rw [hv]; exact (kk H locs ls hP hD hS hl))
theorem xr_ior (F : XF p s m args c cc nL Ts own D tys A) {x y : Int32} (v : Int32) (hdg : decode cc pc = .ok (.ior, 1)) (hv : x ||| y = v) (kk : AW p l e R s m args below meth c nL D A cells slots Q (ws) (lv) (pc + 1) (.int v :: rest)) : AW p l e R s m args below meth c nL D A cells slots Q (ws) (lv) (pc) (.int y :: .int x :: rest) :=
  fun H locs ls hP hD hS hl => lv_ior F.1 F.2.1 hdg (by rw [hv]; exact (kk H locs ls hP hD hS hl))
theorem xr_ixor (F : XF p s m args c cc nL Ts own D tys A) {x y : Int32} (v : Int32) (hdg : decode cc pc = .ok (.ixor, 1)) (hv : x ^^^ y = v) (kk : AW p l e R s m args below meth c nL D A cells slots Q (ws) (lv) (pc + 1) (.int v :: rest)) : AW p l e R s m args below meth c nL D A cells slots Q (ws) (lv) (pc) (.int y :: .int x :: rest) :=
  fun H locs ls hP hD hS hl => lv_ixor F.1 F.2.1 hdg (by rw [hv]; exact (kk H locs ls hP hD hS hl))
theorem xr_ishl (F : XF p s m args c cc nL Ts own D tys A) {x y : Int32} (v : Int32) (hdg : decode cc pc = .ok (.ishl, 1)) (hv : x <<< (y &&& 31) = v) (kk : AW p l e R s m args below meth c nL D A cells slots Q (ws) (lv) (pc + 1) (.int v :: rest)) : AW p l e R s m args below meth c nL D A cells slots Q (ws) (lv) (pc) (.int y :: .int x :: rest) :=
  fun H locs ls hP hD hS hl => lv_ishl F.1 F.2.1 hdg (by rw [hv]; exact (kk H locs ls hP hD hS hl))
theorem xr_ishr (F : XF p s m args c cc nL Ts own D tys A) {x y : Int32} (v : Int32) (hdg : decode cc pc = .ok (.ishr, 1)) (hv : x >>> (y &&& 31) = v) (kk : AW p l e R s m args below meth c nL D A cells slots Q (ws) (lv) (pc + 1) (.int v :: rest)) : AW p l e R s m args below meth c nL D A cells slots Q (ws) (lv) (pc) (.int y :: .int x :: rest) :=
  fun H locs ls hP hD hS hl => lv_ishr F.1 F.2.1 hdg (by rw [hv]; exact (kk H locs ls hP hD hS hl))
theorem xr_idiv (F : XF p s m args c cc nL Ts own D tys A) {x y : Int32} (v : Int32) (hdg : decode cc pc = .ok (.idiv, 1)) (hne : ¬ y = 0) (hv : x / y = v) (kk : AW p l e R s m args below meth c nL D A cells slots Q (ws) (lv) (pc + 1) (.int v :: rest)) : AW p l e R s m args below meth c nL D A cells slots Q (ws) (lv) (pc) (.int y :: .int x :: rest) :=
  fun H locs ls hP hD hS hl => lv_idiv F.1 F.2.1 hdg hne (by rw [hv]; exact (kk H locs ls hP hD hS hl))
theorem xr_irem (F : XF p s m args c cc nL Ts own D tys A) {x y : Int32} (v : Int32) (hdg : decode cc pc = .ok (.irem, 1)) (hne : ¬ y = 0) (hv : x - x / y * y = v) (kk : AW p l e R s m args below meth c nL D A cells slots Q (ws) (lv) (pc + 1) (.int v :: rest)) : AW p l e R s m args below meth c nL D A cells slots Q (ws) (lv) (pc) (.int y :: .int x :: rest) :=
  fun H locs ls hP hD hS hl => lv_irem F.1 F.2.1 hdg hne (by rw [hv]; exact (kk H locs ls hP hD hS hl))
theorem xr_ladd (F : XF p s m args c cc nL Ts own D tys A) {x y : Int64} (hdg : decode cc pc = .ok (.ladd, 1)) (kk : AW p l e R s m args below meth c nL D A cells slots Q (ws) (lv) (pc + 1) (.long (x + y) :: rest)) : AW p l e R s m args below meth c nL D A cells slots Q (ws) (lv) (pc) (.long y :: .long x :: rest) :=
  fun H locs ls hP hD hS hl => lv_ladd F.1 F.2.1 hdg (kk H locs ls hP hD hS hl)
theorem xr_lmul (F : XF p s m args c cc nL Ts own D tys A) {x y : Int64} (hdg : decode cc pc = .ok (.lmul, 1)) (kk : AW p l e R s m args below meth c nL D A cells slots Q (ws) (lv) (pc + 1) (.long (x * y) :: rest)) : AW p l e R s m args below meth c nL D A cells slots Q (ws) (lv) (pc) (.long y :: .long x :: rest) :=
  fun H locs ls hP hD hS hl => lv_lmul F.1 F.2.1 hdg (kk H locs ls hP hD hS hl)
theorem xr_i2l (F : XF p s m args c cc nL Ts own D tys A) {x : Int32} {v : Int64} (hdg : decode cc pc = .ok (.i2l, 1)) (hv : x.toInt64 = v) (kk : AW p l e R s m args below meth c nL D A cells slots Q (ws) (lv) (pc + 1) (.long v :: rest)) : AW p l e R s m args below meth c nL D A cells slots Q (ws) (lv) (pc) (.int x :: rest) :=
  fun H locs ls hP hD hS hl => lv_i2l F.1 F.2.1 hdg hv (kk H locs ls hP hD hS hl)
theorem xr_i2d (F : XF p s m args c cc nL Ts own D tys A) {x : Int32} (hdg : decode cc pc = .ok (.i2d, 1)) (kk : AW p l e R s m args below meth c nL D A cells slots Q (ws) (lv) (pc + 1) (.double (FP.i2d x) :: rest)) : AW p l e R s m args below meth c nL D A cells slots Q (ws) (lv) (pc) (.int x :: rest) :=
  fun H locs ls hP hD hS hl => lv_i2d F.1 F.2.1 hdg (kk H locs ls hP hD hS hl)
theorem xr_ddiv (F : XF p s m args c cc nL Ts own D tys A) {x y : UInt64} (hdg : decode cc pc = .ok (.ddiv, 1)) (hne : vf_n64 (FP.ddiv x y)) (kk : AW p l e R s m args below meth c nL D A cells slots Q (ws) (lv) (pc + 1) (.double (FP.ddiv x y) :: rest)) : AW p l e R s m args below meth c nL D A cells slots Q (ws) (lv) (pc) (.double y :: .double x :: rest) :=
  fun H locs ls hP hD hS hl => lv_ddiv F.1 F.2.1 hdg hne (kk H locs ls hP hD hS hl)
theorem xr_dcmp (F : XF p s m args c cc nL Ts own D tys A) {x y : UInt64} {op : CmpOp} (hdg : decode cc pc = .ok (.dcmp op, 1)) (kk : AW p l e R s m args below meth c nL D A cells slots Q (ws) (lv) (pc + 1) (.int (Op.cmpValue (FP.dcmp x y) op) :: rest)) : AW p l e R s m args below meth c nL D A cells slots Q (ws) (lv) (pc) (.double y :: .double x :: rest) :=
  fun H locs ls hP hD hS hl => lv_dcmp F.1 F.2.1 hdg (kk H locs ls hP hD hS hl)
theorem xr_lcmp (F : XF p s m args c cc nL Ts own D tys A) {x y : Int64} (hdg : decode cc pc = .ok (.lcmp, 1)) (kk : AW p l e R s m args below meth c nL D A cells slots Q (ws) (lv) (pc + 1) (.int (lg_cmp x y) :: rest)) : AW p l e R s m args below meth c nL D A cells slots Q (ws) (lv) (pc) (.long y :: .long x :: rest) :=
  fun H locs ls hP hD hS hl => W.lcmp F.1 F.2.1 hdg (kk H locs ls hP hD hS hl)
theorem xr_dup (F : XF p s m args c cc nL Ts own D tys A) {v : Value} (hdg : decode cc pc = .ok (.dup, 1)) (hv : v.category = 1) (kk : AW p l e R s m args below meth c nL D A cells slots Q (ws) (lv) (pc + 1) (v :: v :: rest)) : AW p l e R s m args below meth c nL D A cells slots Q (ws) (lv) (pc) (v :: rest) :=
  fun H locs ls hP hD hS hl => lv_dup F.1 F.2.1 hdg hv (kk H locs ls hP hD hS hl)
theorem xr_pop (F : XF p s m args c cc nL Ts own D tys A) {v : Value} (hdg : decode cc pc = .ok (.pop, 1)) (hv : v.category = 1) (kk : AW p l e R s m args below meth c nL D A cells slots Q (ws) (lv) (pc + 1) (rest)) : AW p l e R s m args below meth c nL D A cells slots Q (ws) (lv) (pc) (v :: rest) :=
  fun H locs ls hP hD hS hl => lv_pop F.1 F.2.1 hdg hv (kk H locs ls hP hD hS hl)
theorem xr_dup2 (F : XF p s m args c cc nL Ts own D tys A) {v u : Value} (hdg : decode cc pc = .ok (.dup2, 1)) (hv : v.category = 1) (hu : u.category = 1) (kk : AW p l e R s m args below meth c nL D A cells slots Q (ws) (lv) (pc + 1) (v :: u :: v :: u :: rest)) : AW p l e R s m args below meth c nL D A cells slots Q (ws) (lv) (pc) (v :: u :: rest) :=
  fun H locs ls hP hD hS hl => lv_dup2_11 F.1 F.2.1 hdg hv hu (kk H locs ls hP hD hS hl)
theorem xr_dup_x1 (F : XF p s m args c cc nL Ts own D tys A) {v u : Value} (hdg : decode cc pc = .ok (.dup_x1, 1)) (hv : v.category = 1) (hu : u.category = 1) (kk : AW p l e R s m args below meth c nL D A cells slots Q (ws) (lv) (pc + 1) (v :: u :: v :: rest)) : AW p l e R s m args below meth c nL D A cells slots Q (ws) (lv) (pc) (v :: u :: rest) :=
  fun H locs ls hP hD hS hl => lv_dup_x1 F.1 F.2.1 hdg hv hu (kk H locs ls hP hD hS hl)
theorem xr_if_eq (F : XF p s m args c cc nL Ts own D tys A) {x : Int32} {off : Int} (tgt : Nat) (hdg : decode cc pc = .ok (.ifCond .eq off, 3)) (ht : (pc : Int) + off = (tgt : Int)) (kt : x = 0 → AW p l e R s m args below meth c nL D A cells slots Q (ws) (lv) (tgt) (rest)) (kf : ¬ x = 0 → AW p l e R s m args below meth c nL D A cells slots Q (ws) (lv) (pc + 3) (rest)) : AW p l e R s m args below meth c nL D A cells slots Q (ws) (lv) (pc) (.int x :: rest) :=
  fun H locs ls hP hD hS hl => lv_if_eq F.1 F.2.1 hdg ht (fun h => kt h H locs ls hP hD hS hl) (fun h => kf h H locs ls hP hD hS hl)
theorem xr_icmp_eq (F : XF p s m args c cc nL Ts own D tys A) {x y : Int32} {off : Int} (tgt : Nat) (hdg : decode cc pc = .ok (.if_icmp .eq off, 3)) (ht : (pc : Int) + off = (tgt : Int)) (kt : x = y → AW p l e R s m args below meth c nL D A cells slots Q (ws) (lv) (tgt) (rest)) (kf : ¬ x = y → AW p l e R s m args below meth c nL D A cells slots Q (ws) (lv) (pc + 3) (rest)) : AW p l e R s m args below meth c nL D A cells slots Q (ws) (lv) (pc) (.int y :: .int x :: rest) :=
  fun H locs ls hP hD hS hl => lv_icmp_eq F.1 F.2.1 hdg ht (fun h => kt h H locs ls hP hD hS hl) (fun h => kf h H locs ls hP hD hS hl)
theorem xr_if_ne (F : XF p s m args c cc nL Ts own D tys A) {x : Int32} {off : Int} (tgt : Nat) (hdg : decode cc pc = .ok (.ifCond .ne off, 3)) (ht : (pc : Int) + off = (tgt : Int)) (kt : ¬ x = 0 → AW p l e R s m args below meth c nL D A cells slots Q (ws) (lv) (tgt) (rest)) (kf : x = 0 → AW p l e R s m args below meth c nL D A cells slots Q (ws) (lv) (pc + 3) (rest)) : AW p l e R s m args below meth c nL D A cells slots Q (ws) (lv) (pc) (.int x :: rest) :=
  fun H locs ls hP hD hS hl => lv_if_ne F.1 F.2.1 hdg ht (fun h => kt h H locs ls hP hD hS hl) (fun h => kf h H locs ls hP hD hS hl)
theorem xr_icmp_ne (F : XF p s m args c cc nL Ts own D tys A) {x y : Int32} {off : Int} (tgt : Nat) (hdg : decode cc pc = .ok (.if_icmp .ne off, 3)) (ht : (pc : Int) + off = (tgt : Int)) (kt : ¬ x = y → AW p l e R s m args below meth c nL D A cells slots Q (ws) (lv) (tgt) (rest)) (kf : x = y → AW p l e R s m args below meth c nL D A cells slots Q (ws) (lv) (pc + 3) (rest)) : AW p l e R s m args below meth c nL D A cells slots Q (ws) (lv) (pc) (.int y :: .int x :: rest) :=
  fun H locs ls hP hD hS hl => lv_icmp_ne F.1 F.2.1 hdg ht (fun h => kt h H locs ls hP hD hS hl) (fun h => kf h H locs ls hP hD hS hl)
theorem xr_if_lt (F : XF p s m args c cc nL Ts own D tys A) {x : Int32} {off : Int} (tgt : Nat) (hdg : decode cc pc = .ok (.ifCond .lt off, 3)) (ht : (pc : Int) + off = (tgt : Int)) (kt : x < 0 → AW p l e R s m args below meth c nL D A cells slots Q (ws) (lv) (tgt) (rest)) (kf : ¬ x < 0 → AW p l e R s m args below meth c nL D A cells slots Q (ws) (lv) (pc + 3) (rest)) : AW p l e R s m args below meth c nL D A cells slots Q (ws) (lv) (pc) (.int x :: rest) :=
  fun H locs ls hP hD hS hl => lv_if_lt F.1 F.2.1 hdg ht (fun h => kt h H locs ls hP hD hS hl) (fun h => kf h H locs ls hP hD hS hl)
theorem xr_icmp_lt (F : XF p s m args c cc nL Ts own D tys A) {x y : Int32} {off : Int} (tgt : Nat) (hdg : decode cc pc = .ok (.if_icmp .lt off, 3)) (ht : (pc : Int) + off = (tgt : Int)) (kt : x < y → AW p l e R s m args below meth c nL D A cells slots Q (ws) (lv) (tgt) (rest)) (kf : ¬ x < y → AW p l e R s m args below meth c nL D A cells slots Q (ws) (lv) (pc + 3) (rest)) : AW p l e R s m args below meth c nL D A cells slots Q (ws) (lv) (pc) (.int y :: .int x :: rest) :=
  fun H locs ls hP hD hS hl => lv_icmp_lt F.1 F.2.1 hdg ht (fun h => kt h H locs ls hP hD hS hl) (fun h => kf h H locs ls hP hD hS hl)
theorem xr_if_ge (F : XF p s m args c cc nL Ts own D tys A) {x : Int32} {off : Int} (tgt : Nat) (hdg : decode cc pc = .ok (.ifCond .ge off, 3)) (ht : (pc : Int) + off = (tgt : Int)) (kt : 0 ≤ x → AW p l e R s m args below meth c nL D A cells slots Q (ws) (lv) (tgt) (rest)) (kf : ¬ 0 ≤ x → AW p l e R s m args below meth c nL D A cells slots Q (ws) (lv) (pc + 3) (rest)) : AW p l e R s m args below meth c nL D A cells slots Q (ws) (lv) (pc) (.int x :: rest) :=
  fun H locs ls hP hD hS hl => lv_if_ge F.1 F.2.1 hdg ht (fun h => kt h H locs ls hP hD hS hl) (fun h => kf h H locs ls hP hD hS hl)
theorem xr_icmp_ge (F : XF p s m args c cc nL Ts own D tys A) {x y : Int32} {off : Int} (tgt : Nat) (hdg : decode cc pc = .ok (.if_icmp .ge off, 3)) (ht : (pc : Int) + off = (tgt : Int)) (kt : y ≤ x → AW p l e R s m args below meth c nL D A cells slots Q (ws) (lv) (tgt) (rest)) (kf : ¬ y ≤ x → AW p l e R s m args below meth c nL D A cells slots Q (ws) (lv) (pc + 3) (rest)) : AW p l e R s m args below meth c nL D A cells slots Q (ws) (lv) (pc) (.int y :: .int x :: rest) :=
  fun H locs ls hP hD hS hl => lv_icmp_ge F.1 F.2.1 hdg ht (fun h => kt h H locs ls hP hD hS hl) (fun h => kf h H locs ls hP hD hS hl)
theorem xr_if_gt (F : XF p s m args c cc nL Ts own D tys A) {x : Int32} {off : Int} (tgt : Nat) (hdg : decode cc pc = .ok (.ifCond .gt off, 3)) (ht : (pc : Int) + off = (tgt : Int)) (kt : 0 < x → AW p l e R s m args below meth c nL D A cells slots Q (ws) (lv) (tgt) (rest)) (kf : ¬ 0 < x → AW p l e R s m args below meth c nL D A cells slots Q (ws) (lv) (pc + 3) (rest)) : AW p l e R s m args below meth c nL D A cells slots Q (ws) (lv) (pc) (.int x :: rest) :=
  fun H locs ls hP hD hS hl => lv_if_gt F.1 F.2.1 hdg ht (fun h => kt h H locs ls hP hD hS hl) (fun h => kf h H locs ls hP hD hS hl)
theorem xr_icmp_gt (F : XF p s m args c cc nL Ts own D tys A) {x y : Int32} {off : Int} (tgt : Nat) (hdg : decode cc pc = .ok (.if_icmp .gt off, 3)) (ht : (pc : Int) + off = (tgt : Int)) (kt : y < x → AW p l e R s m args below meth c nL D A cells slots Q (ws) (lv) (tgt) (rest)) (kf : ¬ y < x → AW p l e R s m args below meth c nL D A cells slots Q (ws) (lv) (pc + 3) (rest)) : AW p l e R s m args below meth c nL D A cells slots Q (ws) (lv) (pc) (.int y :: .int x :: rest) :=
  fun H locs ls hP hD hS hl => lv_icmp_gt F.1 F.2.1 hdg ht (fun h => kt h H locs ls hP hD hS hl) (fun h => kf h H locs ls hP hD hS hl)
theorem xr_if_le (F : XF p s m args c cc nL Ts own D tys A) {x : Int32} {off : Int} (tgt : Nat) (hdg : decode cc pc = .ok (.ifCond .le off, 3)) (ht : (pc : Int) + off = (tgt : Int)) (kt : x ≤ 0 → AW p l e R s m args below meth c nL D A cells slots Q (ws) (lv) (tgt) (rest)) (kf : ¬ x ≤ 0 → AW p l e R s m args below meth c nL D A cells slots Q (ws) (lv) (pc + 3) (rest)) : AW p l e R s m args below meth c nL D A cells slots Q (ws) (lv) (pc) (.int x :: rest) :=
  fun H locs ls hP hD hS hl => lv_if_le F.1 F.2.1 hdg ht (fun h => kt h H locs ls hP hD hS hl) (fun h => kf h H locs ls hP hD hS hl)
theorem xr_icmp_le (F : XF p s m args c cc nL Ts own D tys A) {x y : Int32} {off : Int} (tgt : Nat) (hdg : decode cc pc = .ok (.if_icmp .le off, 3)) (ht : (pc : Int) + off = (tgt : Int)) (kt : x ≤ y → AW p l e R s m args below meth c nL D A cells slots Q (ws) (lv) (tgt) (rest)) (kf : ¬ x ≤ y → AW p l e R s m args below meth c nL D A cells slots Q (ws) (lv) (pc + 3) (rest)) : AW p l e R s m args below meth c nL D A cells slots Q (ws) (lv) (pc) (.int y :: .int x :: rest) :=
  fun H locs ls hP hD hS hl => lv_icmp_le F.1 F.2.1 hdg ht (fun h => kt h H locs ls hP hD hS hl) (fun h => kf h H locs ls hP hD hS hl)
theorem xr_goto (F : XF p s m args c cc nL Ts own D tys A) {off : Int} (tgt : Nat) (hdg : decode cc pc = .ok (.goto off, 3)) (ht : (pc : Int) + off = (tgt : Int)) (kk : AW p l e R s m args below meth c nL D A cells slots Q (ws) (lv) (tgt) (rest)) : AW p l e R s m args below meth c nL D A cells slots Q (ws) (lv) (pc) (rest) :=
  fun H locs ls hP hD hS hl => lv_goto F.1 F.2.1 hdg ht (kk H locs ls hP hD hS hl)
theorem xr_tableIn (F : XF p s m args c cc nL Ts own D tys A) {dflt lo hi : Int} {offs : Array Int} {len : Nat} {x : Int32} {off : Int} (tgt : Nat) (hdg : decode cc pc = .ok (.tableswitch dflt lo hi offs, len)) (h1 : ¬ x.toInt < lo) (h2 : ¬ hi < x.toInt) (ho : offs[(x.toInt - lo).toNat]? = some off) (ht : (pc : Int) + off = (tgt : Int)) (kk : AW p l e R s m args below meth c nL D A cells slots Q (ws) (lv) (tgt) (rest)) : AW p l e R s m args below meth c nL D A cells slots Q (ws) (lv) (pc) (.int x :: rest) :=
  fun H locs ls hP hD hS hl => lv_tableIn F.1 F.2.1 hdg h1 h2 ho ht (kk H locs ls hP hD hS hl)
theorem xr_tableOut (F : XF p s m args c cc nL Ts own D tys A) {dflt lo hi : Int} {offs : Array Int} {len : Nat} {x : Int32} (tgt : Nat) (hdg : decode cc pc = .ok (.tableswitch dflt lo hi offs, len)) (h : x.toInt < lo ∨ hi < x.toInt) (ht : (pc : Int) + dflt = (tgt : Int)) (kk : AW p l e R s m args below meth c nL D A cells slots Q (ws) (lv) (tgt) (rest)) : AW p l e R s m args below meth c nL D A cells slots Q (ws) (lv) (pc) (.int x :: rest) :=
  fun H locs ls hP hD hS hl => lv_tableOut F.1 F.2.1 hdg h ht (kk H locs ls hP hD hS hl)
theorem xr_top {x y : Int32} (h : x = y) (kk : AW p l e R s m args below meth c nL D A cells slots Q (ws) (lv) (pc) (.int y :: rest)) : AW p l e R s m args below meth c nL D A cells slots Q (ws) (lv) (pc) (.int x :: rest) := h ▸ kk
theorem xr_stk {st' : List Value} (h : st = st') (kk : AW p l e R s m args below meth c nL D A cells slots Q (ws) (lv) (pc) (st')) : AW p l e R s m args below meth c nL D A cells slots Q (ws) (lv) (pc) (st) := h ▸ kk
theorem xr_lv {lv' : List (Nat × Value)} (ks : List Nat) (h : lv_pick lv ks = lv') (kk : AW p l e R s m args below meth c nL D A cells slots Q (ws) (lv') (pc) (st)) : AW p l e R s m args below meth c nL D A cells slots Q (ws) (lv) (pc) (st) := fun H locs ls hP hD hS hl => kk H locs ls hP hD hS (lv_sub hl ks h)
theorem xr_ws {ws' : va_W} (h : ws = ws') (kk : AW p l e R s m args below meth c nL D A cells slots Q (ws') (lv) (pc) (st)) : AW p l e R s m args below meth c nL D A cells slots Q (ws) (lv) (pc) (st) := h ▸ kk
theorem xr_sub {ws' : va_W} (is : List Nat) (hn : va_nd is = true) (h : is.map (fun i => ws[i]?) = ws'.map some) (kk : AW p l e R s m args below meth c nL D A cells slots Q (ws') (lv) (pc) (st)) : AW p l e R s m args below meth c nL D A cells slots Q (ws) (lv) (pc) (st) := fun H locs ls hP hD hS hl => kk H locs ls (xk_psub hP is h) (hD.sub is hn h) hS hl
theorem xr_widen {k n : Nat} (h1 : cells ≤ k) (h2 : slots ≤ n) (kk : AW p l e R s m args below meth c nL D A k n Q (ws) (lv) (pc) (st)) : AW p l e R s m args below meth c nL D A cells slots Q (ws) (lv) (pc) (st) := fun H locs ls hP hD hS hl => W.widen h1 h2 (kk H locs ls hP hD hS hl)
theorem xr_get (F : XF p s m args c cc nL Ts own D tys A) {C : String} {T : u_T} {N ci index : Nat} (hin : ∀ w ∈ u_ws C T N, w ∈ Ts) (q0 : Nat) {fs : List Value} {a : Nat} (he : ws[q0]? = some (a, .inr (ci, fs))) (hc : vwCl[ci]? = some (C, T, N)) (k : Nat) (hk : k < N) (hlink : Cond.fieldLink own index (T k).1 (T k).2.1 (T k).2.2.1 ∈ Ts) {v : Value} (hv : fs[k]? = some v) (hdg : decode cc pc = .ok (.getfield index, 3)) (kk : AW p l e R s m args below meth c nL D A cells slots Q (ws) (lv) (pc + 3) (v :: rest)) : AW p l e R s m args below meth c nL D A cells slots Q (ws) (lv) (pc) (.ref a :: rest) :=
  fun H locs ls hP hD hS hl => va_get F.1 F.2.1 F.hts hin F.own F.hK hP q0 he hc k hk (F.hts _ hlink) (fun _ h => h) hv hdg (kk H locs ls hP hD hS hl)
theorem xr_getN (F : XF p s m args c cc nL Ts own D tys A) {host : String} {C : String} {T : u_T} {N ci index : Nat} (hin : ∀ w ∈ u_ws C T N, w ∈ Ts) (q0 : Nat) {fs : List Value} {a : Nat} (he : ws[q0]? = some (a, .inr (ci, fs))) (hc : vwCl[ci]? = some (C, T, N)) (k : Nat) (hk : k < N) (hlink : (Cond.fieldLinkNest own index (T k).1 (T k).2.1 (T k).2.2.1 host) ∈ Ts) {v : Value} (hv : fs[k]? = some v) (hdg : decode cc pc = .ok (.getfield index, 3)) (kk : AW p l e R s m args below meth c nL D A cells slots Q (ws) (lv) (pc + 3) (v :: rest)) : AW p l e R s m args below meth c nL D A cells slots Q (ws) (lv) (pc) (.ref a :: rest) :=
  fun H locs ls hP hD hS hl => va_getN F.1 F.2.1 F.hts hin F.own F.hK hP q0 he hc k hk (F.hts _ hlink) (fun _ h => h) hv hdg (kk H locs ls hP hD hS hl)
theorem xr_put (F : XF p s m args c cc nL Ts own D tys A) {C : String} {T : u_T} {N ci index : Nat} (hin : ∀ w ∈ u_ws C T N, w ∈ Ts) (q0 : Nat) {fs : List Value} {a : Nat} (he : ws[q0]? = some (a, .inr (ci, fs))) (hc : vwCl[ci]? = some (C, T, N)) (k : Nat) (hk : k < N) (ty0 : Nat → FieldType) (hty : ∀ k, k < N → parseFieldDescriptor (T k).2.2.1 = some (ty0 k)) (hnm : ∀ a, a < N → ∀ b, b < N → a ≠ b → (T a).2.1 ≠ (T b).2.1) (hlink : Cond.fieldLink own index (T k).1 (T k).2.1 (T k).2.2.1 ∈ Ts) (hfin : (T k).2.2.2 = false) {ty : FieldType} {v : Value} (hd : parseFieldDescriptor (T k).2.2.1 = some ty) (hn : narrow ty v = v) (hfit : fits ty v = true) (hl : k < fs.length) (ws' : va_W) (hw : ws.set q0 (a, .inr (ci, fs.set k v)) = ws') (hdg : decode cc pc = .ok (.putfield index, 3)) (kk : AW p l e R s m args below meth c nL D A cells slots Q (ws') (lv) (pc + 3) (rest)) : AW p l e R s m args below meth c nL D A cells slots Q (ws) (lv) (pc) (v :: .ref a :: rest) :=
  fun H locs ls hP hD hS h9 => va_put F.1 F.2.1 F.hts hin ty0 hty hnm F.own F.hK hP hD hS q0 he hc k hk (F.hts _ hlink) (fun _ h => h) hfin hd hn hfit hl hdg (fun H1 locs1 hP1 hD1 hS1 => kk H1 locs1 ls (hw ▸ hP1) (hw ▸ hD1) hS1 h9)
theorem xr_putN (F : XF p s m args c cc nL Ts own D tys A) {host : String} {C : String} {T : u_T} {N ci index : Nat} (hin : ∀ w ∈ u_ws C T N, w ∈ Ts) (q0 : Nat) {fs : List Value} {a : Nat} (he : ws[q0]? = some (a, .inr (ci, fs))) (hc : vwCl[ci]? = some (C, T, N)) (k : Nat) (hk : k < N) (ty0 : Nat → FieldType) (hty : ∀ k, k < N → parseFieldDescriptor (T k).2.2.1 = some (ty0 k)) (hnm : ∀ a, a < N → ∀ b, b < N → a ≠ b → (T a).2.1 ≠ (T b).2.1) (hlink : Cond.fieldLinkNest own index (T k).1 (T k).2.1 (T k).2.2.1 host ∈ Ts) (hfin : (T k).2.2.2 = false) {ty : FieldType} {v : Value} (hd : parseFieldDescriptor (T k).2.2.1 = some ty) (hn : narrow ty v = v) (hfit : fits ty v = true) (hl : k < fs.length) (ws' : va_W) (hw : ws.set q0 (a, .inr (ci, fs.set k v)) = ws') (hdg : decode cc pc = .ok (.putfield index, 3)) (kk : AW p l e R s m args below meth c nL D A cells slots Q (ws') (lv) (pc + 3) (rest)) : AW p l e R s m args below meth c nL D A cells slots Q (ws) (lv) (pc) (v :: .ref a :: rest) :=
  fun H locs ls hP hD hS h9 => va_putN F.1 F.2.1 F.hts hin ty0 hty hnm F.own F.hK hP hD hS q0 he hc k hk (F.hts _ hlink) (fun _ h => h) hfin hd hn hfit hl hdg (fun H1 locs1 hP1 hD1 hS1 => kk H1 locs1 ls (hw ▸ hP1) (hw ▸ hD1) hS1 h9)
theorem xr_putF (F : XF p s m args c cc nL Ts own D tys A) {C : String} {T : u_T} {N ci index : Nat} (hin : ∀ w ∈ u_ws C T N, w ∈ Ts) (q0 : Nat) {fs : List Value} {a : Nat} (he : ws[q0]? = some (a, .inr (ci, fs))) (hc : vwCl[ci]? = some (C, T, N)) (k : Nat) (hk : k < N) (ty0 : Nat → FieldType) (hty : ∀ k, k < N → parseFieldDescriptor (T k).2.2.1 = some (ty0 k)) (hnm : ∀ a, a < N → ∀ b, b < N → a ≠ b → (T a).2.1 ≠ (T b).2.1) (hlink : Cond.fieldLink own index (T k).1 (T k).2.1 (T k).2.2.1 ∈ Ts) (hfin : (T k).2.2.2 = true) (hin2 : meth.name = "<init>") (hdecl : (T k).1 = own) {ty : FieldType} {v : Value} (hd : parseFieldDescriptor (T k).2.2.1 = some ty) (hn : narrow ty v = v) (hfit : fits ty v = true) (hl : k < fs.length) (ws' : va_W) (hw : ws.set q0 (a, .inr (ci, fs.set k v)) = ws') (hdg : decode cc pc = .ok (.putfield index, 3)) (kk : AW p l e R s m args below meth c nL D A cells slots Q (ws') (lv) (pc + 3) (rest)) : AW p l e R s m args below meth c nL D A cells slots Q (ws) (lv) (pc) (v :: .ref a :: rest) :=
  fun H locs ls hP hD hS h9 => va_putF F.1 F.2.1 F.hts hin ty0 hty hnm F.own F.hK hP hD hS q0 he hc k hk (F.hts _ hlink) (fun _ h => h) hfin hin2 hdecl hd hn hfit hl hdg (fun H1 locs1 hP1 hD1 hS1 => kk H1 locs1 ls (hw ▸ hP1) (hw ▸ hD1) hS1 h9)
theorem xr_iald (F : XF p s m args c cc nL Ts own D tys A) (q0 t0 : Nat) {cA : ClassId} {n a : Nat} {f : Nat → Int32} (ha : ws[q0]? = some (a, .inl (cA, n, .inl f))) (ht : tys[t0]? = some (cA, .int)) {i : Int32} (k : Nat) (hi : i = nI k) (hk : k < n) (hn : n < 2147483648) (hdg : decode cc pc = .ok (.iaload, 1)) (kk : AW p l e R s m args below meth c nL D A cells slots Q (ws) (lv) (pc + 1) (.int (f k) :: rest)) : AW p l e R s m args below meth c nL D A cells slots Q (ws) (lv) (pc) (.int i :: .ref a :: rest) :=
  fun H locs ls hP hD hS hl => va_iald F.1 F.2.1 F.hK hP q0 t0 ha ht (by rw [hi]; exact vp_in_nI hk hn) hdg (by rw [hi, nI_clamp (Nat.lt_trans hk hn)]; exact (kk H locs ls hP hD hS hl))
theorem xr_zald (F : XF p s m args c cc nL Ts own D tys A) (q0 t0 : Nat) {cA : ClassId} {n a : Nat} {f : Nat → Int32} (ha : ws[q0]? = some (a, .inl (cA, n, .inl f))) (ht : tys[t0]? = some (cA, .boolean)) {i : Int32} (k : Nat) (hi : i = nI k) (hk : k < n) (hn : n < 2147483648) (hdg : decode cc pc = .ok (.baload, 1)) (kk : AW p l e R s m args below meth c nL D A cells slots Q (ws) (lv) (pc + 1) (.int (f k) :: rest)) : AW p l e R s m args below meth c nL D A cells slots Q (ws) (lv) (pc) (.int i :: .ref a :: rest) :=
  fun H locs ls hP hD hS hl => va_zald F.1 F.2.1 F.hK hP q0 t0 ha ht (by rw [hi]; exact vp_in_nI hk hn) hdg (by rw [hi, nI_clamp (Nat.lt_trans hk hn)]; exact (kk H locs ls hP hD hS hl))
theorem xr_iast (F : XF p s m args c cc nL Ts own D tys A) (q0 t0 : Nat) {cA : ClassId} {n a : Nat} {f : Nat → Int32} (ha : ws[q0]? = some (a, .inl (cA, n, .inl f))) (ht : tys[t0]? = some (cA, .int)) {i x : Int32} (k : Nat) (hi : i = nI k) (hk : k < n) (hn : n < 2147483648) (ws' : va_W) (hw : ws.set q0 (a, .inl (cA, n, .inl (upd f k x))) = ws') (hdg : decode cc pc = .ok (.iastore, 1)) (kk : AW p l e R s m args below meth c nL D A cells slots Q (ws') (lv) (pc + 1) (rest)) : AW p l e R s m args below meth c nL D A cells slots Q (ws) (lv) (pc) (.int x :: .int i :: .ref a :: rest) :=
  by
  subst hi
  subst hw
  intro H locs ls hP hD hS h9
  refine va_iast F.1 F.2.1 F.hK hP hD hS q0 t0 ha ht (vp_in_nI hk hn) hdg (fun H1 locs1 hP1 hD1 hS1 => ?_)
  rw [nI_clamp (Nat.lt_trans hk hn)] at hP1 hD1
  exact kk H1 locs1 ls hP1 hD1 hS1 h9
theorem xr_zast (F : XF p s m args c cc nL Ts own D tys A) (q0 t0 : Nat) {cA : ClassId} {n a : Nat} {f : Nat → Int32} (ha : ws[q0]? = some (a, .inl (cA, n, .inl f))) (ht : tys[t0]? = some (cA, .boolean)) {i x : Int32} (k : Nat) (hi : i = nI k) (hk : k < n) (hn : n < 2147483648) (ws' : va_W) (hw : ws.set q0 (a, .inl (cA, n, .inl (upd f k (vp_nar .boolean x)))) = ws') (hdg : decode cc pc = .ok (.bastore, 1)) (kk : AW p l e R s m args below meth c nL D A cells slots Q (ws') (lv) (pc + 1) (rest)) : AW p l e R s m args below meth c nL D A cells slots Q (ws) (lv) (pc) (.int x :: .int i :: .ref a :: rest) :=
  by
  subst hi
  subst hw
  intro H locs ls hP hD hS h9
  refine va_zast F.1 F.2.1 F.hK hP hD hS q0 t0 ha ht (vp_in_nI hk hn) hdg (fun H1 locs1 hP1 hD1 hS1 => ?_)
  rw [nI_clamp (Nat.lt_trans hk hn)] at hP1 hD1
  exact kk H1 locs1 ls hP1 hD1 hS1 h9
theorem xr_lald (F : XF p s m args c cc nL Ts own D tys A) (q0 t0 : Nat) {cA : ClassId} {n a : Nat} {f : Nat → Int64} (ha : ws[q0]? = some (a, .inl (cA, n, .inr (.inl f)))) (ht : tys[t0]? = some (cA, .long)) {i : Int32} (k : Nat) (hi : i = nI k) (hk : k < n) (hn : n < 2147483648) (hdg : decode cc pc = .ok (.laload, 1)) (kk : AW p l e R s m args below meth c nL D A cells slots Q (ws) (lv) (pc + 1) (.long (f k) :: rest)) : AW p l e R s m args below meth c nL D A cells slots Q (ws) (lv) (pc) (.int i :: .ref a :: rest) :=
  fun H locs ls hP hD hS hl => va_lald F.1 F.2.1 F.hK hP q0 t0 ha ht (by rw [hi]; exact vp_in_nI hk hn) hdg (by rw [hi, nI_clamp (Nat.lt_trans hk hn)]; exact (kk H locs ls hP hD hS hl))
theorem xr_last (F : XF p s m args c cc nL Ts own D tys A) (q0 t0 : Nat) {cA : ClassId} {n a : Nat} {f : Nat → Int64} (ha : ws[q0]? = some (a, .inl (cA, n, .inr (.inl f)))) (ht : tys[t0]? = some (cA, .long)) {i : Int32} {x : Int64} (k : Nat) (hi : i = nI k) (hk : k < n) (hn : n < 2147483648) (ws' : va_W) (hw : ws.set q0 (a, .inl (cA, n, .inr (.inl (vp_updL f k x)))) = ws') (hdg : decode cc pc = .ok (.lastore, 1)) (kk : AW p l e R s m args below meth c nL D A cells slots Q (ws') (lv) (pc + 1) (rest)) : AW p l e R s m args below meth c nL D A cells slots Q (ws) (lv) (pc) (.long x :: .int i :: .ref a :: rest) :=
  by
  subst hi
  subst hw
  intro H locs ls hP hD hS h9
  refine va_last F.1 F.2.1 F.hK hP hD hS q0 t0 ha ht (vp_in_nI hk hn) hdg (fun H1 locs1 hP1 hD1 hS1 => ?_)
  rw [nI_clamp (Nat.lt_trans hk hn)] at hP1 hD1
  exact kk H1 locs1 ls hP1 hD1 hS1 h9
theorem xr_alen (F : XF p s m args c cc nL Ts own D tys A) (q0 t0 : Nat) {cA : ClassId} {a : Nat} {x : vp_A} (ha : ws[q0]? = some (a, .inl (cA, x))) {ty : FieldType} (ht : tys[t0]? = some (cA, ty)) {v : Int32} (hv : Int32.ofNat x.1 = v) (hdg : decode cc pc = .ok (.arraylength, 1)) (kk : AW p l e R s m args below meth c nL D A cells slots Q (ws) (lv) (pc + 1) (.int v :: rest)) : AW p l e R s m args below meth c nL D A cells slots Q (ws) (lv) (pc) (.ref a :: rest) :=
  fun H locs ls hP hD hS hl => va_alen F.1 F.2.1 F.hK hP q0 t0 ha ht hv hdg (kk H locs ls hP hD hS hl)
theorem xr_mmin (F : XF p s m args c cc nL Ts own D tys A) {index : Nat} (hlink : Cond.methodLink own index Lib.Math.min.name ∈ Ts) (hstat : Cond.static Lib.Math.min.name ∈ Ts) (hini : Cond.initialized "java/lang/Math" ∈ Ts) (hcode : Cond.code Lib.Math.min.name Lib.Math.min.code 2 (some .int) ∈ Ts) (hframes : 1 ≤ R.frames) (hlocals : (rest.map fun v => v.category).sum + 13 ≤ R.locals) (hc : cells ≤ R.cells) (hs : slots ≤ R.slots) {x y : Int32} (hdg : decode cc pc = .ok (.invokestatic index, 3)) (kk : AW p l e R s m args below meth c nL D A cells slots Q (ws) (lv) (pc + 3) (.int (if y < x then y else x) :: rest)) : AW p l e R s m args below meth c nL D A cells slots Q (ws) (lv) (pc) (.int y :: .int x :: rest) :=
  fun H locs ls hP hD hS hl => va_mmin F.1 F.2.1 (F.2.2.1.trans hl.1.symm) F.own (F.hts _ hlink) (F.hts _ hstat) (F.hts _ hini) (F.hts _ hcode) hframes hlocals hc hs hdg (kk H locs ls hP hD hS hl)
theorem xr_mmax (F : XF p s m args c cc nL Ts own D tys A) {index : Nat} (hlink : Cond.methodLink own index Lib.Math.max.name ∈ Ts) (hstat : Cond.static Lib.Math.max.name ∈ Ts) (hini : Cond.initialized "java/lang/Math" ∈ Ts) (hcode : Cond.code Lib.Math.max.name Lib.Math.max.code 2 (some .int) ∈ Ts) (hframes : 1 ≤ R.frames) (hlocals : (rest.map fun v => v.category).sum + 13 ≤ R.locals) (hc : cells ≤ R.cells) (hs : slots ≤ R.slots) {x y : Int32} (hdg : decode cc pc = .ok (.invokestatic index, 3)) (kk : AW p l e R s m args below meth c nL D A cells slots Q (ws) (lv) (pc + 3) (.int (if x < y then y else x) :: rest)) : AW p l e R s m args below meth c nL D A cells slots Q (ws) (lv) (pc) (.int y :: .int x :: rest) :=
  fun H locs ls hP hD hS hl => va_mmax F.1 F.2.1 (F.2.2.1.trans hl.1.symm) F.own (F.hts _ hlink) (F.hts _ hstat) (F.hts _ hini) (F.hts _ hcode) hframes hlocals hc hs hdg (kk H locs ls hP hD hS hl)
end XKIT
end
section
/-- a method's start: its arguments, its world, the tables -/
abbrev xPre (D : va_G) (tys : List (ClassId × FieldType)) (W0 : va_W) (sz : Nat) (av : List Value) : Array Value → State → Prop := va_Pc av (fun U => U.heap.size = sz ∧ va_P D vwCl W0 U.heap ∧ va_K D vwCl tys U ∧ va_D (fun _ => True) W0)
/-- the world behind it -/
abbrev xPst (D : va_G) (W0 : va_W) (sz : Nat) : va_W → State → Prop := fun W1 t => va_P D vwCl W1 t.heap ∧ va_D (va_A W0 sz) W1
theorem xk_blind {D : va_G} {tys : List (ClassId × FieldType)} {W0 : va_W} {sz : Nat} {av : List Value} : FrameBlind (xPre D tys W0 sz av) := fun a U g mk q => by
  obtain ⟨q0, q1, qP, qK, qD⟩ := q
  exact ⟨q0, q1, qP, va_K.moved (u := U) (U := U.calling g mk a) (Vm.Alike.refl U.vm) qK, qD⟩

def xMi (l : Launch) (y : MethodName) (wsC : List Cond) (rm : Room) (D : va_G) (tys : List (ClassId × FieldType)) (W0 : va_W) (av : List Value) (mc ms : Nat) (post : Int32 → va_W → Prop) : Prop := ∀ sz : Nat, Met l y wsC rm (xPre D tys W0 sz av) (va_Qi post (xPst D W0 sz) (va_A W0 sz)) mc ms (va_A W0 sz)
def xMl (l : Launch) (y : MethodName) (wsC : List Cond) (rm : Room) (D : va_G) (tys : List (ClassId × FieldType)) (W0 : va_W) (av : List Value) (mc ms : Nat) (post : Int64 → va_W → Prop) : Prop := ∀ sz : Nat, Met l y wsC rm (xPre D tys W0 sz av) (va_Ql post (xPst D W0 sz) (va_A W0 sz)) mc ms (va_A W0 sz)
def xMd (l : Launch) (y : MethodName) (wsC : List Cond) (rm : Room) (D : va_G) (tys : List (ClassId × FieldType)) (W0 : va_W) (av : List Value) (mc ms : Nat) (post : UInt64 → va_W → Prop) : Prop := ∀ sz : Nat, Met l y wsC rm (xPre D tys W0 sz av) (va_Qd post (xPst D W0 sz) (va_A W0 sz)) mc ms (va_A W0 sz)
def xMv (l : Launch) (y : MethodName) (wsC : List Cond) (rm : Room) (D : va_G) (tys : List (ClassId × FieldType)) (W0 : va_W) (av : List Value) (mc ms : Nat) (post : va_W → Prop) : Prop := ∀ sz : Nat, Met l y wsC rm (xPre D tys W0 sz av) (va_Qv post (xPst D W0 sz) (va_A W0 sz)) mc ms (va_A W0 sz)
def xMr (l : Launch) (y : MethodName) (wsC : List Cond) (rm : Room) (D : va_G) (tys : List (ClassId × FieldType)) (W0 : va_W) (av : List Value) (mc ms : Nat) (post : Nat → va_W → Prop) : Prop := ∀ sz : Nat, Met l y wsC rm (xPre D tys W0 sz av) (va_Qr (fun u : Nat × va_W => post u.1 u.2) (fun u a t => a = u.1 ∧ xPst D W0 sz u.2 t) (va_A W0 sz)) mc ms (va_A W0 sz)
section XMET
variable {l : Launch} {y : MethodName} {wsC ws' : List Cond} {rm : Room} {D : va_G} {tys : List (ClassId × FieldType)} {W0 : va_W} {av : List Value} {mc ms nL : Nat} {cc : ByteArray}
theorem xE_i {post : Int32 → va_W → Prop} (hy : plainName y.cls = true) (hw : wsC = Cond.code y cc nL (some .int) :: ws') (hav : (lg_sl av).length ≤ nL)
    (body : ∀ (p : Program) (e : Env) (s : State) (m : MethodId) (args : Array Value) (below : List Frame) (meth : Method) (c : Code) (A : Nat → Prop) (Q : State → Prop), XF p s m args c cc nL wsC y.cls D tys A → meth.name = y.name → (∀ (pc : Nat) (r : Int32) (W1 : va_W) (lv : List (Nat × Value)), decode cc pc = .ok (.ireturn, 1) → post r W1 → AW p l e rm s m args below meth c nL D A mc ms Q W1 lv pc [.int r]) → AW p l e rm s m args below meth c nL D A 0 0 Q W0 (lv_args 0 av) 0 []) : xMi l y wsC rm D tys W0 av mc ms post := by
  intro sz
  refine Met.ofW (cc := cc) (maxL := nL) (ret := some .int) hy hw ?_
  intro p e s m args below meth c s₁ B hml hv
  obtain ⟨rfl, hsz, hP, hK, hD0⟩ := hv
  subst hsz
  have hown : s.vm.findClass y.cls = some m.cls := findClass_of_methodNamed B.named
  rw [lg_entry_eq]
  refine body p e s m _ below meth c (va_A W0 s.heap.size) _ ⟨B.exec, B.bytes, hml, hown, atoms_spec (ws := wsC) B.pre, hK, fun q h => Or.inr h⟩ (name_of_methodNamed B.named B.method).1 ?_ s.heap [] _ hP (hD0.self (sz := s.heap.size)) va_S.rf (lv_entry av (n := nL) hav)
  intro pc r W1 lv hdg hpost H locs ls hP hD hS hl
  exact W.iret B.exec B.bytes B.returns (fun t ht hW => ⟨⟨r, W1, rfl, hpost, by rw [ht]; exact hP, hD⟩, hS.F ht⟩) hS.2.2 hdg B.notSynchronized
theorem xE_z {post : Int32 → va_W → Prop} (hy : plainName y.cls = true) (hw : wsC = Cond.code y cc nL (some .boolean) :: ws') (hav : (lg_sl av).length ≤ nL)
    (body : ∀ (p : Program) (e : Env) (s : State) (m : MethodId) (args : Array Value) (below : List Frame) (meth : Method) (c : Code) (A : Nat → Prop) (Q : State → Prop), XF p s m args c cc nL wsC y.cls D tys A → meth.name = y.name → (∀ (pc : Nat) (r : Int32) (W1 : va_W) (lv : List (Nat × Value)), decode cc pc = .ok (.ireturn, 1) → narrow .boolean (.int r) = .int r → post r W1 → AW p l e rm s m args below meth c nL D A mc ms Q W1 lv pc [.int r]) → AW p l e rm s m args below meth c nL D A 0 0 Q W0 (lv_args 0 av) 0 []) : xMi l y wsC rm D tys W0 av mc ms post := by
  intro sz
  refine Met.ofW (cc := cc) (maxL := nL) (ret := some .boolean) hy hw ?_
  intro p e s m args below meth c s₁ B hml hv
  obtain ⟨rfl, hsz, hP, hK, hD0⟩ := hv
  subst hsz
  have hown : s.vm.findClass y.cls = some m.cls := findClass_of_methodNamed B.named
  rw [lg_entry_eq]
  refine body p e s m _ below meth c (va_A W0 s.heap.size) _ ⟨B.exec, B.bytes, hml, hown, atoms_spec (ws := wsC) B.pre, hK, fun q h => Or.inr h⟩ (name_of_methodNamed B.named B.method).1 ?_ s.heap [] _ hP (hD0.self (sz := s.heap.size)) va_S.rf (lv_entry av (n := nL) hav)
  intro pc r W1 lv hdg hnr hpost H locs ls hP hD hS hl
  exact W.zret B.exec B.bytes B.returns hnr (fun t ht hW => ⟨⟨r, W1, rfl, hpost, by rw [ht]; exact hP, hD⟩, hS.F ht⟩) hS.2.2 hdg B.notSynchronized
theorem xE_l {post : Int64 → va_W → Prop} (hy : plainName y.cls = true) (hw : wsC = Cond.code y cc nL (some .long) :: ws') (hav : (lg_sl av).length ≤ nL)
    (body : ∀ (p : Program) (e : Env) (s : State) (m : MethodId) (args : Array Value) (below : List Frame) (meth : Method) (c : Code) (A : Nat → Prop) (Q : State → Prop), XF p s m args c cc nL wsC y.cls D tys A → meth.name = y.name → (∀ (pc : Nat) (r : Int64) (W1 : va_W) (lv : List (Nat × Value)), decode cc pc = .ok (.lreturn, 1) → post r W1 → AW p l e rm s m args below meth c nL D A mc ms Q W1 lv pc [.long r]) → AW p l e rm s m args below meth c nL D A 0 0 Q W0 (lv_args 0 av) 0 []) : xMl l y wsC rm D tys W0 av mc ms post := by
  intro sz
  refine Met.ofW (cc := cc) (maxL := nL) (ret := some .long) hy hw ?_
  intro p e s m args below meth c s₁ B hml hv
  obtain ⟨rfl, hsz, hP, hK, hD0⟩ := hv
  subst hsz
  have hown : s.vm.findClass y.cls = some m.cls := findClass_of_methodNamed B.named
  rw [lg_entry_eq]
  refine body p e s m _ below meth c (va_A W0 s.heap.size) _ ⟨B.exec, B.bytes, hml, hown, atoms_spec (ws := wsC) B.pre, hK, fun q h => Or.inr h⟩ (name_of_methodNamed B.named B.method).1 ?_ s.heap [] _ hP (hD0.self (sz := s.heap.size)) va_S.rf (lv_entry av (n := nL) hav)
  intro pc r W1 lv hdg hpost H locs ls hP hD hS hl
  exact W.lret B.exec B.bytes B.returns (fun t ht hW => ⟨⟨r, W1, rfl, hpost, by rw [ht]; exact hP, hD⟩, hS.F ht⟩) hS.2.2 hdg B.notSynchronized
theorem xE_d {post : UInt64 → va_W → Prop} (hy : plainName y.cls = true) (hw : wsC = Cond.code y cc nL (some .double) :: ws') (hav : (lg_sl av).length ≤ nL)
    (body : ∀ (p : Program) (e : Env) (s : State) (m : MethodId) (args : Array Value) (below : List Frame) (meth : Method) (c : Code) (A : Nat → Prop) (Q : State → Prop), XF p s m args c cc nL wsC y.cls D tys A → meth.name = y.name → (∀ (pc : Nat) (r : UInt64) (W1 : va_W) (lv : List (Nat × Value)), decode cc pc = .ok (.dreturn, 1) → post r W1 → AW p l e rm s m args below meth c nL D A mc ms Q W1 lv pc [.double r]) → AW p l e rm s m args below meth c nL D A 0 0 Q W0 (lv_args 0 av) 0 []) : xMd l y wsC rm D tys W0 av mc ms post := by
  intro sz
  refine Met.ofW (cc := cc) (maxL := nL) (ret := some .double) hy hw ?_
  intro p e s m args below meth c s₁ B hml hv
  obtain ⟨rfl, hsz, hP, hK, hD0⟩ := hv
  subst hsz
  have hown : s.vm.findClass y.cls = some m.cls := findClass_of_methodNamed B.named
  rw [lg_entry_eq]
  refine body p e s m _ below meth c (va_A W0 s.heap.size) _ ⟨B.exec, B.bytes, hml, hown, atoms_spec (ws := wsC) B.pre, hK, fun q h => Or.inr h⟩ (name_of_methodNamed B.named B.method).1 ?_ s.heap [] _ hP (hD0.self (sz := s.heap.size)) va_S.rf (lv_entry av (n := nL) hav)
  intro pc r W1 lv hdg hpost H locs ls hP hD hS hl
  exact W.dret B.exec B.bytes B.returns (fun t ht hW => ⟨⟨r, W1, rfl, hpost, by rw [ht]; exact hP, hD⟩, hS.F ht⟩) hS.2.2 hdg B.notSynchronized
theorem xE_v {post : va_W → Prop} (hy : plainName y.cls = true) (hw : wsC = Cond.code y cc nL (none) :: ws') (hav : (lg_sl av).length ≤ nL)
    (body : ∀ (p : Program) (e : Env) (s : State) (m : MethodId) (args : Array Value) (below : List Frame) (meth : Method) (c : Code) (A : Nat → Prop) (Q : State → Prop), XF p s m args c cc nL wsC y.cls D tys A → meth.name = y.name → (∀ (pc : Nat) (W1 : va_W) (lv : List (Nat × Value)), decode cc pc = .ok (.return_, 1) → post W1 → AW p l e rm s m args below meth c nL D A mc ms Q W1 lv pc []) → AW p l e rm s m args below meth c nL D A 0 0 Q W0 (lv_args 0 av) 0 []) : xMv l y wsC rm D tys W0 av mc ms post := by
  intro sz
  refine Met.ofW (cc := cc) (maxL := nL) (ret := none) hy hw ?_
  intro p e s m args below meth c s₁ B hml hv
  obtain ⟨rfl, hsz, hP, hK, hD0⟩ := hv
  subst hsz
  have hown : s.vm.findClass y.cls = some m.cls := findClass_of_methodNamed B.named
  rw [lg_entry_eq]
  refine body p e s m _ below meth c (va_A W0 s.heap.size) _ ⟨B.exec, B.bytes, hml, hown, atoms_spec (ws := wsC) B.pre, hK, fun q h => Or.inr h⟩ (name_of_methodNamed B.named B.method).1 ?_ s.heap [] _ hP (hD0.self (sz := s.heap.size)) va_S.rf (lv_entry av (n := nL) hav)
  intro pc W1 lv hdg hpost H locs ls hP hD hS hl
  exact W.vret B.exec B.bytes B.returns (fun t ht hW => ⟨⟨W1, rfl, hpost, by rw [ht]; exact hP, hD⟩, hS.F ht⟩) hS.2.2 hdg B.notSynchronized
theorem xE_r {rt : FieldType} {post : Nat → va_W → Prop} (hy : plainName y.cls = true) (hw : wsC = Cond.code y cc nL (some rt) :: ws') (hav : (lg_sl av).length ≤ nL) (hrt : ∀ a : Nat, narrow rt (.ref a) = .ref a)
    (body : ∀ (p : Program) (e : Env) (s : State) (m : MethodId) (args : Array Value) (below : List Frame) (meth : Method) (c : Code) (A : Nat → Prop) (Q : State → Prop), XF p s m args c cc nL wsC y.cls D tys A → meth.name = y.name → (∀ (pc : Nat) (r : Nat) (W1 : va_W) (lv : List (Nat × Value)), decode cc pc = .ok (.areturn, 1) → post r W1 → AW p l e rm s m args below meth c nL D A mc ms Q W1 lv pc [.ref r]) → AW p l e rm s m args below meth c nL D A 0 0 Q W0 (lv_args 0 av) 0 []) : xMr l y wsC rm D tys W0 av mc ms post := by
  intro sz
  refine Met.ofW (cc := cc) (maxL := nL) (ret := some rt) hy hw ?_
  intro p e s m args below meth c s₁ B hml hv
  obtain ⟨rfl, hsz, hP, hK, hD0⟩ := hv
  subst hsz
  have hown : s.vm.findClass y.cls = some m.cls := findClass_of_methodNamed B.named
  rw [lg_entry_eq]
  refine body p e s m _ below meth c (va_A W0 s.heap.size) _ ⟨B.exec, B.bytes, hml, hown, atoms_spec (ws := wsC) B.pre, hK, fun q h => Or.inr h⟩ (name_of_methodNamed B.named B.method).1 ?_ s.heap [] _ hP (hD0.self (sz := s.heap.size)) va_S.rf (lv_entry av (n := nL) hav)
  intro pc r W1 lv hdg hpost H locs ls hP hD hS hl
  exact W.aret B.exec B.bytes B.returns (hrt r) (fun t ht hW => ⟨⟨(r, W1), r, rfl, hpost, rfl, by rw [ht]; exact hP, hD⟩, hS.F ht⟩) hS.2.2 hdg B.notSynchronized
end XMET
section XCALL
variable {p : Program} {l : Launch} {e : Env} {R : Room} {s : State} {m : MethodId} {args : Array Value} {below : List Frame} {meth : Method} {c : Code} {Q : State → Prop}
variable {cc : ByteArray} {nL : Nat} {Ts : List Cond} {own : String} {D : va_G} {tys : List (ClassId × FieldType)} {A : Nat → Prop} {cells slots : Nat}
variable {ws wr Wc : va_W} {lv : List (Nat × Value)} {pc : Nat} {st rest : List Value}
variable {y : MethodName} {C host : String} {T : u_T} {N ci q0 b index n maxL mc ms : Nat} {fs : List Value} {bytes : ByteArray} {wsC : List Cond} {rm : Room} {As : List Value}

theorem xr_callVi {post : Int32 → va_W → Prop} (F : XF p s m args c cc nL Ts own D tys A) (hM : xMi l y wsC rm D tys Wc (.ref b :: As) mc ms post) (cw : CallW R s args own C index y bytes maxL (some .int) wsC rm mc ms n) (hrc : Wc[q0]? = some (b, .inr (ci, fs))) (hci : vwCl[ci]? = some (C, T, N)) (isC isR : List Nat) (hC : isC.map (fun i => ws[i]?) = Wc.map some) (hR : isR.map (fun i => ws[i]?) = wr.map some) (hnC : va_nd isC = true) (hnR : va_nd isR = true) (hdis : ∀ i ∈ isR, i ∉ isC) (hn : As.length = n) (hst : st = As.reverse ++ .ref b :: rest) (hW : (rest.map fun v => v.category).sum ≤ 8) (hdg : decode cc pc = .ok (.invokevirtual index, 3)) (hf : cells + mc ≤ R.cells ∧ slots + ms ≤ R.slots)
    (kk : ∀ (r : Int32) (W1 : va_W), post r W1 → AW p l e R s m args below meth c nL D A (cells + mc) (slots + ms) Q (wr ++ W1) lv (pc + 3) (.int r :: rest)) : AW p l e R s m args below meth c nL D A (cells) (slots) Q (ws) lv (pc) (st) := by
  intro H locs ls hP hD hS hl
  subst hst
  have hPc := xk_psub hP isC hC
  have hDc := hD.sub isC hnC hC
  have hFc := va_free hD hS F.hA isC hC
  refine va_calli (va_runV (As := As) (rest := rest) F.fix (hM H.size) cw ⟨xk_blind, va_recv F.hK hPc hci hrc, fun U hU hW => ⟨rfl, by rw [hU], by rw [hU]; exact hPc, va_K.moved hW.alike F.hK, hDc.weaken (fun _ _ _ _ => trivial)⟩⟩ rfl hn hl.1 rfl (lv_room hW) hdg hf) hS (fun q _ h => hFc q h) hFc (fun r W1 t H1 locs1 ht hvm hw hB hz1 hk1 hS1 => ?_)
  obtain ⟨hP1, hD1⟩ := hB
  rw [ht] at hP1
  obtain ⟨hP2, hD2⟩ := va_join hP hD isC isR hC hR hnR hdis hk1 hFc hP1 hD1
  exact kk r W1 hw H1 locs1 ls hP2 hD2 hS1 hl
theorem xr_callVl {post : Int64 → va_W → Prop} (F : XF p s m args c cc nL Ts own D tys A) (hM : xMl l y wsC rm D tys Wc (.ref b :: As) mc ms post) (cw : CallW R s args own C index y bytes maxL (some .long) wsC rm mc ms n) (hrc : Wc[q0]? = some (b, .inr (ci, fs))) (hci : vwCl[ci]? = some (C, T, N)) (isC isR : List Nat) (hC : isC.map (fun i => ws[i]?) = Wc.map some) (hR : isR.map (fun i => ws[i]?) = wr.map some) (hnC : va_nd isC = true) (hnR : va_nd isR = true) (hdis : ∀ i ∈ isR, i ∉ isC) (hn : As.length = n) (hst : st = As.reverse ++ .ref b :: rest) (hW : (rest.map fun v => v.category).sum ≤ 8) (hdg : decode cc pc = .ok (.invokevirtual index, 3)) (hf : cells + mc ≤ R.cells ∧ slots + ms ≤ R.slots)
    (kk : ∀ (r : Int64) (W1 : va_W), post r W1 → AW p l e R s m args below meth c nL D A (cells + mc) (slots + ms) Q (wr ++ W1) lv (pc + 3) (.long r :: rest)) : AW p l e R s m args below meth c nL D A (cells) (slots) Q (ws) lv (pc) (st) := by
  intro H locs ls hP hD hS hl
  subst hst
  have hPc := xk_psub hP isC hC
  have hDc := hD.sub isC hnC hC
  have hFc := va_free hD hS F.hA isC hC
  refine va_calll (va_runV (As := As) (rest := rest) F.fix (hM H.size) cw ⟨xk_blind, va_recv F.hK hPc hci hrc, fun U hU hW => ⟨rfl, by rw [hU], by rw [hU]; exact hPc, va_K.moved hW.alike F.hK, hDc.weaken (fun _ _ _ _ => trivial)⟩⟩ rfl hn hl.1 rfl (lv_room hW) hdg hf) hS (fun q _ h => hFc q h) hFc (fun r W1 t H1 locs1 ht hvm hw hB hz1 hk1 hS1 => ?_)
  obtain ⟨hP1, hD1⟩ := hB
  rw [ht] at hP1
  obtain ⟨hP2, hD2⟩ := va_join hP hD isC isR hC hR hnR hdis hk1 hFc hP1 hD1
  exact kk r W1 hw H1 locs1 ls hP2 hD2 hS1 hl
theorem xr_callVd {post : UInt64 → va_W → Prop} (F : XF p s m args c cc nL Ts own D tys A) (hM : xMd l y wsC rm D tys Wc (.ref b :: As) mc ms post) (cw : CallW R s args own C index y bytes maxL (some .double) wsC rm mc ms n) (hrc : Wc[q0]? = some (b, .inr (ci, fs))) (hci : vwCl[ci]? = some (C, T, N)) (isC isR : List Nat) (hC : isC.map (fun i => ws[i]?) = Wc.map some) (hR : isR.map (fun i => ws[i]?) = wr.map some) (hnC : va_nd isC = true) (hnR : va_nd isR = true) (hdis : ∀ i ∈ isR, i ∉ isC) (hn : As.length = n) (hst : st = As.reverse ++ .ref b :: rest) (hW : (rest.map fun v => v.category).sum ≤ 8) (hdg : decode cc pc = .ok (.invokevirtual index, 3)) (hf : cells + mc ≤ R.cells ∧ slots + ms ≤ R.slots)
    (kk : ∀ (r : UInt64) (W1 : va_W), post r W1 → AW p l e R s m args below meth c nL D A (cells + mc) (slots + ms) Q (wr ++ W1) lv (pc + 3) (.double r :: rest)) : AW p l e R s m args below meth c nL D A (cells) (slots) Q (ws) lv (pc) (st) := by
  intro H locs ls hP hD hS hl
  subst hst
  have hPc := xk_psub hP isC hC
  have hDc := hD.sub isC hnC hC
  have hFc := va_free hD hS F.hA isC hC
  refine va_calld (va_runV (As := As) (rest := rest) F.fix (hM H.size) cw ⟨xk_blind, va_recv F.hK hPc hci hrc, fun U hU hW => ⟨rfl, by rw [hU], by rw [hU]; exact hPc, va_K.moved hW.alike F.hK, hDc.weaken (fun _ _ _ _ => trivial)⟩⟩ rfl hn hl.1 rfl (lv_room hW) hdg hf) hS (fun q _ h => hFc q h) hFc (fun r W1 t H1 locs1 ht hvm hw hB hz1 hk1 hS1 => ?_)
  obtain ⟨hP1, hD1⟩ := hB
  rw [ht] at hP1
  obtain ⟨hP2, hD2⟩ := va_join hP hD isC isR hC hR hnR hdis hk1 hFc hP1 hD1
  exact kk r W1 hw H1 locs1 ls hP2 hD2 hS1 hl
theorem xr_callVz {post : Int32 → va_W → Prop} (F : XF p s m args c cc nL Ts own D tys A) (hM : xMi l y wsC rm D tys Wc (.ref b :: As) mc ms post) (cw : CallW R s args own C index y bytes maxL (some .boolean) wsC rm mc ms n) (hrc : Wc[q0]? = some (b, .inr (ci, fs))) (hci : vwCl[ci]? = some (C, T, N)) (isC isR : List Nat) (hC : isC.map (fun i => ws[i]?) = Wc.map some) (hR : isR.map (fun i => ws[i]?) = wr.map some) (hnC : va_nd isC = true) (hnR : va_nd isR = true) (hdis : ∀ i ∈ isR, i ∉ isC) (hn : As.length = n) (hst : st = As.reverse ++ .ref b :: rest) (hW : (rest.map fun v => v.category).sum ≤ 8) (hdg : decode cc pc = .ok (.invokevirtual index, 3)) (hf : cells + mc ≤ R.cells ∧ slots + ms ≤ R.slots)
    (kk : ∀ (r : Int32) (W1 : va_W), post r W1 → AW p l e R s m args below meth c nL D A (cells + mc) (slots + ms) Q (wr ++ W1) lv (pc + 3) (.int r :: rest)) : AW p l e R s m args below meth c nL D A (cells) (slots) Q (ws) lv (pc) (st) := by
  intro H locs ls hP hD hS hl
  subst hst
  have hPc := xk_psub hP isC hC
  have hDc := hD.sub isC hnC hC
  have hFc := va_free hD hS F.hA isC hC
  refine va_calli (va_runV (As := As) (rest := rest) F.fix (hM H.size) cw ⟨xk_blind, va_recv F.hK hPc hci hrc, fun U hU hW => ⟨rfl, by rw [hU], by rw [hU]; exact hPc, va_K.moved hW.alike F.hK, hDc.weaken (fun _ _ _ _ => trivial)⟩⟩ rfl hn hl.1 rfl (lv_room hW) hdg hf) hS (fun q _ h => hFc q h) hFc (fun r W1 t H1 locs1 ht hvm hw hB hz1 hk1 hS1 => ?_)
  obtain ⟨hP1, hD1⟩ := hB
  rw [ht] at hP1
  obtain ⟨hP2, hD2⟩ := va_join hP hD isC isR hC hR hnR hdis hk1 hFc hP1 hD1
  exact kk r W1 hw H1 locs1 ls hP2 hD2 hS1 hl
theorem xr_callVv {post : va_W → Prop} (F : XF p s m args c cc nL Ts own D tys A) (hM : xMv l y wsC rm D tys Wc (.ref b :: As) mc ms post) (cw : CallW R s args own C index y bytes maxL (none) wsC rm mc ms n) (hrc : Wc[q0]? = some (b, .inr (ci, fs))) (hci : vwCl[ci]? = some (C, T, N)) (isC isR : List Nat) (hC : isC.map (fun i => ws[i]?) = Wc.map some) (hR : isR.map (fun i => ws[i]?) = wr.map some) (hnC : va_nd isC = true) (hnR : va_nd isR = true) (hdis : ∀ i ∈ isR, i ∉ isC) (hn : As.length = n) (hst : st = As.reverse ++ .ref b :: rest) (hW : (rest.map fun v => v.category).sum ≤ 8) (hdg : decode cc pc = .ok (.invokevirtual index, 3)) (hf : cells + mc ≤ R.cells ∧ slots + ms ≤ R.slots)
    (kk : ∀ W1 : va_W, post W1 → AW p l e R s m args below meth c nL D A (cells + mc) (slots + ms) Q (wr ++ W1) lv (pc + 3) (rest)) : AW p l e R s m args below meth c nL D A (cells) (slots) Q (ws) lv (pc) (st) := by
  intro H locs ls hP hD hS hl
  subst hst
  have hPc := xk_psub hP isC hC
  have hDc := hD.sub isC hnC hC
  have hFc := va_free hD hS F.hA isC hC
  refine va_callv (va_runV (As := As) (rest := rest) F.fix (hM H.size) cw ⟨xk_blind, va_recv F.hK hPc hci hrc, fun U hU hW => ⟨rfl, by rw [hU], by rw [hU]; exact hPc, va_K.moved hW.alike F.hK, hDc.weaken (fun _ _ _ _ => trivial)⟩⟩ rfl hn hl.1 rfl (lv_room hW) hdg hf) hS (fun q _ h => hFc q h) hFc (fun W1 t H1 locs1 ht hvm hw hB hz1 hk1 hS1 => ?_)
  obtain ⟨hP1, hD1⟩ := hB
  rw [ht] at hP1
  obtain ⟨hP2, hD2⟩ := va_join hP hD isC isR hC hR hnR hdis hk1 hFc hP1 hD1
  exact kk W1 hw H1 locs1 ls hP2 hD2 hS1 hl
theorem xr_callSi {post : Int32 → va_W → Prop} (F : XF p s m args c cc nL Ts own D tys A) (hM : xMi l y wsC rm D tys Wc As mc ms post) (cw : CallB R s args own index y bytes maxL (some .int) wsC rm mc ms n ∧ (Cond.static y).before args s = true) (isC isR : List Nat) (hC : isC.map (fun i => ws[i]?) = Wc.map some) (hR : isR.map (fun i => ws[i]?) = wr.map some) (hnC : va_nd isC = true) (hnR : va_nd isR = true) (hdis : ∀ i ∈ isR, i ∉ isC) (hn : As.length = n) (hst : st = As.reverse ++ rest) (hW : (rest.map fun v => v.category).sum ≤ 8) (hdg : decode cc pc = .ok (.invokestatic index, 3)) (hf : cells + mc ≤ R.cells ∧ slots + ms ≤ R.slots)
    (kk : ∀ (r : Int32) (W1 : va_W), post r W1 → AW p l e R s m args below meth c nL D A (cells + mc) (slots + ms) Q (wr ++ W1) lv (pc + 3) (.int r :: rest)) : AW p l e R s m args below meth c nL D A (cells) (slots) Q (ws) lv (pc) (st) := by
  intro H locs ls hP hD hS hl
  subst hst
  have hPc := xk_psub hP isC hC
  have hDc := hD.sub isC hnC hC
  have hFc := va_free hD hS F.hA isC hC
  refine va_calli (va_runS (As := As) (rest := rest) F.fix (hM H.size) cw ⟨xk_blind, fun U hU hW => ⟨rfl, by rw [hU], by rw [hU]; exact hPc, va_K.moved hW.alike F.hK, hDc.weaken (fun _ _ _ _ => trivial)⟩⟩ rfl hn hl.1 rfl (lv_room hW) hdg hf) hS (fun q _ h => hFc q h) hFc (fun r W1 t H1 locs1 ht hvm hw hB hz1 hk1 hS1 => ?_)
  obtain ⟨hP1, hD1⟩ := hB
  rw [ht] at hP1
  obtain ⟨hP2, hD2⟩ := va_join hP hD isC isR hC hR hnR hdis hk1 hFc hP1 hD1
  exact kk r W1 hw H1 locs1 ls hP2 hD2 hS1 hl
theorem xr_callSl {post : Int64 → va_W → Prop} (F : XF p s m args c cc nL Ts own D tys A) (hM : xMl l y wsC rm D tys Wc As mc ms post) (cw : CallB R s args own index y bytes maxL (some .long) wsC rm mc ms n ∧ (Cond.static y).before args s = true) (isC isR : List Nat) (hC : isC.map (fun i => ws[i]?) = Wc.map some) (hR : isR.map (fun i => ws[i]?) = wr.map some) (hnC : va_nd isC = true) (hnR : va_nd isR = true) (hdis : ∀ i ∈ isR, i ∉ isC) (hn : As.length = n) (hst : st = As.reverse ++ rest) (hW : (rest.map fun v => v.category).sum ≤ 8) (hdg : decode cc pc = .ok (.invokestatic index, 3)) (hf : cells + mc ≤ R.cells ∧ slots + ms ≤ R.slots)
    (kk : ∀ (r : Int64) (W1 : va_W), post r W1 → AW p l e R s m args below meth c nL D A (cells + mc) (slots + ms) Q (wr ++ W1) lv (pc + 3) (.long r :: rest)) : AW p l e R s m args below meth c nL D A (cells) (slots) Q (ws) lv (pc) (st) := by
  intro H locs ls hP hD hS hl
  subst hst
  have hPc := xk_psub hP isC hC
  have hDc := hD.sub isC hnC hC
  have hFc := va_free hD hS F.hA isC hC
  refine va_calll (va_runS (As := As) (rest := rest) F.fix (hM H.size) cw ⟨xk_blind, fun U hU hW => ⟨rfl, by rw [hU], by rw [hU]; exact hPc, va_K.moved hW.alike F.hK, hDc.weaken (fun _ _ _ _ => trivial)⟩⟩ rfl hn hl.1 rfl (lv_room hW) hdg hf) hS (fun q _ h => hFc q h) hFc (fun r W1 t H1 locs1 ht hvm hw hB hz1 hk1 hS1 => ?_)
  obtain ⟨hP1, hD1⟩ := hB
  rw [ht] at hP1
  obtain ⟨hP2, hD2⟩ := va_join hP hD isC isR hC hR hnR hdis hk1 hFc hP1 hD1
  exact kk r W1 hw H1 locs1 ls hP2 hD2 hS1 hl
theorem xr_callSd {post : UInt64 → va_W → Prop} (F : XF p s m args c cc nL Ts own D tys A) (hM : xMd l y wsC rm D tys Wc As mc ms post) (cw : CallB R s args own index y bytes maxL (some .double) wsC rm mc ms n ∧ (Cond.static y).before args s = true) (isC isR : List Nat) (hC : isC.map (fun i => ws[i]?) = Wc.map some) (hR : isR.map (fun i => ws[i]?) = wr.map some) (hnC : va_nd isC = true) (hnR : va_nd isR = true) (hdis : ∀ i ∈ isR, i ∉ isC) (hn : As.length = n) (hst : st = As.reverse ++ rest) (hW : (rest.map fun v => v.category).sum ≤ 8) (hdg : decode cc pc = .ok (.invokestatic index, 3)) (hf : cells + mc ≤ R.cells ∧ slots + ms ≤ R.slots)
    (kk : ∀ (r : UInt64) (W1 : va_W), post r W1 → AW p l e R s m args below meth c nL D A (cells + mc) (slots + ms) Q (wr ++ W1) lv (pc + 3) (.double r :: rest)) : AW p l e R s m args below meth c nL D A (cells) (slots) Q (ws) lv (pc) (st) := by
  intro H locs ls hP hD hS hl
  subst hst
  have hPc := xk_psub hP isC hC
  have hDc := hD.sub isC hnC hC
  have hFc := va_free hD hS F.hA isC hC
  refine va_calld (va_runS (As := As) (rest := rest) F.fix (hM H.size) cw ⟨xk_blind, fun U hU hW => ⟨rfl, by rw [hU], by rw [hU]; exact hPc, va_K.moved hW.alike F.hK, hDc.weaken (fun _ _ _ _ => trivial)⟩⟩ rfl hn hl.1 rfl (lv_room hW) hdg hf) hS (fun q _ h => hFc q h) hFc (fun r W1 t H1 locs1 ht hvm hw hB hz1 hk1 hS1 => ?_)
  obtain ⟨hP1, hD1⟩ := hB
  rw [ht] at hP1
  obtain ⟨hP2, hD2⟩ := va_join hP hD isC isR hC hR hnR hdis hk1 hFc hP1 hD1
  exact kk r W1 hw H1 locs1 ls hP2 hD2 hS1 hl
theorem xr_callSz {post : Int32 → va_W → Prop} (F : XF p s m args c cc nL Ts own D tys A) (hM : xMi l y wsC rm D tys Wc As mc ms post) (cw : CallB R s args own index y bytes maxL (some .boolean) wsC rm mc ms n ∧ (Cond.static y).before args s = true) (isC isR : List Nat) (hC : isC.map (fun i => ws[i]?) = Wc.map some) (hR : isR.map (fun i => ws[i]?) = wr.map some) (hnC : va_nd isC = true) (hnR : va_nd isR = true) (hdis : ∀ i ∈ isR, i ∉ isC) (hn : As.length = n) (hst : st = As.reverse ++ rest) (hW : (rest.map fun v => v.category).sum ≤ 8) (hdg : decode cc pc = .ok (.invokestatic index, 3)) (hf : cells + mc ≤ R.cells ∧ slots + ms ≤ R.slots)
    (kk : ∀ (r : Int32) (W1 : va_W), post r W1 → AW p l e R s m args below meth c nL D A (cells + mc) (slots + ms) Q (wr ++ W1) lv (pc + 3) (.int r :: rest)) : AW p l e R s m args below meth c nL D A (cells) (slots) Q (ws) lv (pc) (st) := by
  intro H locs ls hP hD hS hl
  subst hst
  have hPc := xk_psub hP isC hC
  have hDc := hD.sub isC hnC hC
  have hFc := va_free hD hS F.hA isC hC
  refine va_calli (va_runS (As := As) (rest := rest) F.fix (hM H.size) cw ⟨xk_blind, fun U hU hW => ⟨rfl, by rw [hU], by rw [hU]; exact hPc, va_K.moved hW.alike F.hK, hDc.weaken (fun _ _ _ _ => trivial)⟩⟩ rfl hn hl.1 rfl (lv_room hW) hdg hf) hS (fun q _ h => hFc q h) hFc (fun r W1 t H1 locs1 ht hvm hw hB hz1 hk1 hS1 => ?_)
  obtain ⟨hP1, hD1⟩ := hB
  rw [ht] at hP1
  obtain ⟨hP2, hD2⟩ := va_join hP hD isC isR hC hR hnR hdis hk1 hFc hP1 hD1
  exact kk r W1 hw H1 locs1 ls hP2 hD2 hS1 hl
theorem xr_callSv {post : va_W → Prop} (F : XF p s m args c cc nL Ts own D tys A) (hM : xMv l y wsC rm D tys Wc As mc ms post) (cw : CallB R s args own index y bytes maxL (none) wsC rm mc ms n ∧ (Cond.static y).before args s = true) (isC isR : List Nat) (hC : isC.map (fun i => ws[i]?) = Wc.map some) (hR : isR.map (fun i => ws[i]?) = wr.map some) (hnC : va_nd isC = true) (hnR : va_nd isR = true) (hdis : ∀ i ∈ isR, i ∉ isC) (hn : As.length = n) (hst : st = As.reverse ++ rest) (hW : (rest.map fun v => v.category).sum ≤ 8) (hdg : decode cc pc = .ok (.invokestatic index, 3)) (hf : cells + mc ≤ R.cells ∧ slots + ms ≤ R.slots)
    (kk : ∀ W1 : va_W, post W1 → AW p l e R s m args below meth c nL D A (cells + mc) (slots + ms) Q (wr ++ W1) lv (pc + 3) (rest)) : AW p l e R s m args below meth c nL D A (cells) (slots) Q (ws) lv (pc) (st) := by
  intro H locs ls hP hD hS hl
  subst hst
  have hPc := xk_psub hP isC hC
  have hDc := hD.sub isC hnC hC
  have hFc := va_free hD hS F.hA isC hC
  refine va_callv (va_runS (As := As) (rest := rest) F.fix (hM H.size) cw ⟨xk_blind, fun U hU hW => ⟨rfl, by rw [hU], by rw [hU]; exact hPc, va_K.moved hW.alike F.hK, hDc.weaken (fun _ _ _ _ => trivial)⟩⟩ rfl hn hl.1 rfl (lv_room hW) hdg hf) hS (fun q _ h => hFc q h) hFc (fun W1 t H1 locs1 ht hvm hw hB hz1 hk1 hS1 => ?_)
  obtain ⟨hP1, hD1⟩ := hB
  rw [ht] at hP1
  obtain ⟨hP2, hD2⟩ := va_join hP hD isC isR hC hR hnR hdis hk1 hFc hP1 hD1
  exact kk W1 hw H1 locs1 ls hP2 hD2 hS1 hl
theorem xr_callIv {post : va_W → Prop} (F : XF p s m args c cc nL Ts own D tys A) (hM : xMv l y wsC rm D tys Wc (.ref b :: As) mc ms post) (cw : CallB R s args own index y bytes maxL none wsC rm mc ms n ∧ y.name = "<init>" ∧ (Cond.instanceMethod y).before args s = true) (isC isR : List Nat) (hC : isC.map (fun i => ws[i]?) = Wc.map some) (hR : isR.map (fun i => ws[i]?) = wr.map some) (hnC : va_nd isC = true) (hnR : va_nd isR = true) (hdis : ∀ i ∈ isR, i ∉ isC) (hn : As.length = n) (hst : st = As.reverse ++ .ref b :: rest) (hW : (rest.map fun v => v.category).sum ≤ 8) (hdg : decode cc pc = .ok (.invokespecial index, 3)) (hf : cells + mc ≤ R.cells ∧ slots + ms ≤ R.slots)
    (kk : ∀ W1 : va_W, post W1 → AW p l e R s m args below meth c nL D A (cells + mc) (slots + ms) Q (wr ++ W1) lv (pc + 3) (rest)) : AW p l e R s m args below meth c nL D A (cells) (slots) Q (ws) lv (pc) (st) := by
  intro H locs ls hP hD hS hl
  subst hst
  have hPc := xk_psub hP isC hC
  have hDc := hD.sub isC hnC hC
  have hFc := va_free hD hS F.hA isC hC
  refine va_callv (va_runI (As := As) (rest := rest) F.fix (hM H.size) cw ⟨xk_blind, fun U hU hW => ⟨rfl, by rw [hU], by rw [hU]; exact hPc, va_K.moved hW.alike F.hK, hDc.weaken (fun _ _ _ _ => trivial)⟩⟩ rfl hn hl.1 rfl (lv_room hW) hdg hf) hS (fun q _ h => hFc q h) hFc (fun W1 t H1 locs1 ht hvm hw hB hz1 hk1 hS1 => ?_)
  obtain ⟨hP1, hD1⟩ := hB
  rw [ht] at hP1
  obtain ⟨hP2, hD2⟩ := va_join hP hD isC isR hC hR hnR hdis hk1 hFc hP1 hD1
  exact kk W1 hw H1 locs1 ls hP2 hD2 hS1 hl
theorem xr_callVNi {post : Int32 → va_W → Prop} (F : XF p s m args c cc nL Ts own D tys A) (hM : xMi l y wsC rm D tys Wc (.ref b :: As) mc ms post) (cw : va_CN R s args own index y host bytes maxL (some .int) wsC rm mc ms n ∧ (Cond.instanceMethod y).before args s = true ∧ (Cond.selects C y y).before args s = true) (hrc : Wc[q0]? = some (b, .inr (ci, fs))) (hci : vwCl[ci]? = some (C, T, N)) (isC isR : List Nat) (hC : isC.map (fun i => ws[i]?) = Wc.map some) (hR : isR.map (fun i => ws[i]?) = wr.map some) (hnC : va_nd isC = true) (hnR : va_nd isR = true) (hdis : ∀ i ∈ isR, i ∉ isC) (hn : As.length = n) (hst : st = As.reverse ++ .ref b :: rest) (hW : (rest.map fun v => v.category).sum ≤ 8) (hdg : decode cc pc = .ok (.invokevirtual index, 3)) (hf : cells + mc ≤ R.cells ∧ slots + ms ≤ R.slots)
    (kk : ∀ (r : Int32) (W1 : va_W), post r W1 → AW p l e R s m args below meth c nL D A (cells + mc) (slots + ms) Q (wr ++ W1) lv (pc + 3) (.int r :: rest)) : AW p l e R s m args below meth c nL D A (cells) (slots) Q (ws) lv (pc) (st) := by
  intro H locs ls hP hD hS hl
  subst hst
  have hPc := xk_psub hP isC hC
  have hDc := hD.sub isC hnC hC
  have hFc := va_free hD hS F.hA isC hC
  refine va_calli (va_runVN (As := As) (rest := rest) F.fix (hM H.size) cw ⟨xk_blind, va_recv F.hK hPc hci hrc, fun U hU hW => ⟨rfl, by rw [hU], by rw [hU]; exact hPc, va_K.moved hW.alike F.hK, hDc.weaken (fun _ _ _ _ => trivial)⟩⟩ rfl hn hl.1 rfl (lv_room hW) hdg hf) hS (fun q _ h => hFc q h) hFc (fun r W1 t H1 locs1 ht hvm hw hB hz1 hk1 hS1 => ?_)
  obtain ⟨hP1, hD1⟩ := hB
  rw [ht] at hP1
  obtain ⟨hP2, hD2⟩ := va_join hP hD isC isR hC hR hnR hdis hk1 hFc hP1 hD1
  exact kk r W1 hw H1 locs1 ls hP2 hD2 hS1 hl
theorem xr_callVNz {post : Int32 → va_W → Prop} (F : XF p s m args c cc nL Ts own D tys A) (hM : xMi l y wsC rm D tys Wc (.ref b :: As) mc ms post) (cw : va_CN R s args own index y host bytes maxL (some .boolean) wsC rm mc ms n ∧ (Cond.instanceMethod y).before args s = true ∧ (Cond.selects C y y).before args s = true) (hrc : Wc[q0]? = some (b, .inr (ci, fs))) (hci : vwCl[ci]? = some (C, T, N)) (isC isR : List Nat) (hC : isC.map (fun i => ws[i]?) = Wc.map some) (hR : isR.map (fun i => ws[i]?) = wr.map some) (hnC : va_nd isC = true) (hnR : va_nd isR = true) (hdis : ∀ i ∈ isR, i ∉ isC) (hn : As.length = n) (hst : st = As.reverse ++ .ref b :: rest) (hW : (rest.map fun v => v.category).sum ≤ 8) (hdg : decode cc pc = .ok (.invokevirtual index, 3)) (hf : cells + mc ≤ R.cells ∧ slots + ms ≤ R.slots)
    (kk : ∀ (r : Int32) (W1 : va_W), post r W1 → AW p l e R s m args below meth c nL D A (cells + mc) (slots + ms) Q (wr ++ W1) lv (pc + 3) (.int r :: rest)) : AW p l e R s m args below meth c nL D A (cells) (slots) Q (ws) lv (pc) (st) := by
  intro H locs ls hP hD hS hl
  subst hst
  have hPc := xk_psub hP isC hC
  have hDc := hD.sub isC hnC hC
  have hFc := va_free hD hS F.hA isC hC
  refine va_calli (va_runVN (As := As) (rest := rest) F.fix (hM H.size) cw ⟨xk_blind, va_recv F.hK hPc hci hrc, fun U hU hW => ⟨rfl, by rw [hU], by rw [hU]; exact hPc, va_K.moved hW.alike F.hK, hDc.weaken (fun _ _ _ _ => trivial)⟩⟩ rfl hn hl.1 rfl (lv_room hW) hdg hf) hS (fun q _ h => hFc q h) hFc (fun r W1 t H1 locs1 ht hvm hw hB hz1 hk1 hS1 => ?_)
  obtain ⟨hP1, hD1⟩ := hB
  rw [ht] at hP1
  obtain ⟨hP2, hD2⟩ := va_join hP hD isC isR hC hR hnR hdis hk1 hFc hP1 hD1
  exact kk r W1 hw H1 locs1 ls hP2 hD2 hS1 hl
theorem xr_callVNv {post : va_W → Prop} (F : XF p s m args c cc nL Ts own D tys A) (hM : xMv l y wsC rm D tys Wc (.ref b :: As) mc ms post) (cw : va_CN R s args own index y host bytes maxL (none) wsC rm mc ms n ∧ (Cond.instanceMethod y).before args s = true ∧ (Cond.selects C y y).before args s = true) (hrc : Wc[q0]? = some (b, .inr (ci, fs))) (hci : vwCl[ci]? = some (C, T, N)) (isC isR : List Nat) (hC : isC.map (fun i => ws[i]?) = Wc.map some) (hR : isR.map (fun i => ws[i]?) = wr.map some) (hnC : va_nd isC = true) (hnR : va_nd isR = true) (hdis : ∀ i ∈ isR, i ∉ isC) (hn : As.length = n) (hst : st = As.reverse ++ .ref b :: rest) (hW : (rest.map fun v => v.category).sum ≤ 8) (hdg : decode cc pc = .ok (.invokevirtual index, 3)) (hf : cells + mc ≤ R.cells ∧ slots + ms ≤ R.slots)
    (kk : ∀ W1 : va_W, post W1 → AW p l e R s m args below meth c nL D A (cells + mc) (slots + ms) Q (wr ++ W1) lv (pc + 3) (rest)) : AW p l e R s m args below meth c nL D A (cells) (slots) Q (ws) lv (pc) (st) := by
  intro H locs ls hP hD hS hl
  subst hst
  have hPc := xk_psub hP isC hC
  have hDc := hD.sub isC hnC hC
  have hFc := va_free hD hS F.hA isC hC
  refine va_callv (va_runVN (As := As) (rest := rest) F.fix (hM H.size) cw ⟨xk_blind, va_recv F.hK hPc hci hrc, fun U hU hW => ⟨rfl, by rw [hU], by rw [hU]; exact hPc, va_K.moved hW.alike F.hK, hDc.weaken (fun _ _ _ _ => trivial)⟩⟩ rfl hn hl.1 rfl (lv_room hW) hdg hf) hS (fun q _ h => hFc q h) hFc (fun W1 t H1 locs1 ht hvm hw hB hz1 hk1 hS1 => ?_)
  obtain ⟨hP1, hD1⟩ := hB
  rw [ht] at hP1
  obtain ⟨hP2, hD2⟩ := va_join hP hD isC isR hC hR hnR hdis hk1 hFc hP1 hD1
  exact kk W1 hw H1 locs1 ls hP2 hD2 hS1 hl
theorem xr_callSNi {post : Int32 → va_W → Prop} (F : XF p s m args c cc nL Ts own D tys A) (hM : xMi l y wsC rm D tys Wc As mc ms post) (cw : va_CN R s args own index y host bytes maxL (some .int) wsC rm mc ms n ∧ (Cond.static y).before args s = true ∧ True) (isC isR : List Nat) (hC : isC.map (fun i => ws[i]?) = Wc.map some) (hR : isR.map (fun i => ws[i]?) = wr.map some) (hnC : va_nd isC = true) (hnR : va_nd isR = true) (hdis : ∀ i ∈ isR, i ∉ isC) (hn : As.length = n) (hst : st = As.reverse ++ rest) (hW : (rest.map fun v => v.category).sum ≤ 8) (hdg : decode cc pc = .ok (.invokestatic index, 3)) (hf : cells + mc ≤ R.cells ∧ slots + ms ≤ R.slots)
    (kk : ∀ (r : Int32) (W1 : va_W), post r W1 → AW p l e R s m args below meth c nL D A (cells + mc) (slots + ms) Q (wr ++ W1) lv (pc + 3) (.int r :: rest)) : AW p l e R s m args below meth c nL D A (cells) (slots) Q (ws) lv (pc) (st) := by
  intro H locs ls hP hD hS hl
  subst hst
  have hPc := xk_psub hP isC hC
  have hDc := hD.sub isC hnC hC
  have hFc := va_free hD hS F.hA isC hC
  refine va_calli (va_runSN (As := As) (rest := rest) F.fix (hM H.size) cw ⟨xk_blind, fun U hU hW => ⟨rfl, by rw [hU], by rw [hU]; exact hPc, va_K.moved hW.alike F.hK, hDc.weaken (fun _ _ _ _ => trivial)⟩⟩ rfl hn hl.1 rfl (lv_room hW) hdg hf) hS (fun q _ h => hFc q h) hFc (fun r W1 t H1 locs1 ht hvm hw hB hz1 hk1 hS1 => ?_)
  obtain ⟨hP1, hD1⟩ := hB
  rw [ht] at hP1
  obtain ⟨hP2, hD2⟩ := va_join hP hD isC isR hC hR hnR hdis hk1 hFc hP1 hD1
  exact kk r W1 hw H1 locs1 ls hP2 hD2 hS1 hl
theorem xr_callSNz {post : Int32 → va_W → Prop} (F : XF p s m args c cc nL Ts own D tys A) (hM : xMi l y wsC rm D tys Wc As mc ms post) (cw : va_CN R s args own index y host bytes maxL (some .boolean) wsC rm mc ms n ∧ (Cond.static y).before args s = true ∧ True) (isC isR : List Nat) (hC : isC.map (fun i => ws[i]?) = Wc.map some) (hR : isR.map (fun i => ws[i]?) = wr.map some) (hnC : va_nd isC = true) (hnR : va_nd isR = true) (hdis : ∀ i ∈ isR, i ∉ isC) (hn : As.length = n) (hst : st = As.reverse ++ rest) (hW : (rest.map fun v => v.category).sum ≤ 8) (hdg : decode cc pc = .ok (.invokestatic index, 3)) (hf : cells + mc ≤ R.cells ∧ slots + ms ≤ R.slots)
    (kk : ∀ (r : Int32) (W1 : va_W), post r W1 → AW p l e R s m args below meth c nL D A (cells + mc) (slots + ms) Q (wr ++ W1) lv (pc + 3) (.int r :: rest)) : AW p l e R s m args below meth c nL D A (cells) (slots) Q (ws) lv (pc) (st) := by
  intro H locs ls hP hD hS hl
  subst hst
  have hPc := xk_psub hP isC hC
  have hDc := hD.sub isC hnC hC
  have hFc := va_free hD hS F.hA isC hC
  refine va_calli (va_runSN (As := As) (rest := rest) F.fix (hM H.size) cw ⟨xk_blind, fun U hU hW => ⟨rfl, by rw [hU], by rw [hU]; exact hPc, va_K.moved hW.alike F.hK, hDc.weaken (fun _ _ _ _ => trivial)⟩⟩ rfl hn hl.1 rfl (lv_room hW) hdg hf) hS (fun q _ h => hFc q h) hFc (fun r W1 t H1 locs1 ht hvm hw hB hz1 hk1 hS1 => ?_)
  obtain ⟨hP1, hD1⟩ := hB
  rw [ht] at hP1
  obtain ⟨hP2, hD2⟩ := va_join hP hD isC isR hC hR hnR hdis hk1 hFc hP1 hD1
  exact kk r W1 hw H1 locs1 ls hP2 hD2 hS1 hl
theorem xr_callSNv {post : va_W → Prop} (F : XF p s m args c cc nL Ts own D tys A) (hM : xMv l y wsC rm D tys Wc As mc ms post) (cw : va_CN R s args own index y host bytes maxL (none) wsC rm mc ms n ∧ (Cond.static y).before args s = true ∧ True) (isC isR : List Nat) (hC : isC.map (fun i => ws[i]?) = Wc.map some) (hR : isR.map (fun i => ws[i]?) = wr.map some) (hnC : va_nd isC = true) (hnR : va_nd isR = true) (hdis : ∀ i ∈ isR, i ∉ isC) (hn : As.length = n) (hst : st = As.reverse ++ rest) (hW : (rest.map fun v => v.category).sum ≤ 8) (hdg : decode cc pc = .ok (.invokestatic index, 3)) (hf : cells + mc ≤ R.cells ∧ slots + ms ≤ R.slots)
    (kk : ∀ W1 : va_W, post W1 → AW p l e R s m args below meth c nL D A (cells + mc) (slots + ms) Q (wr ++ W1) lv (pc + 3) (rest)) : AW p l e R s m args below meth c nL D A (cells) (slots) Q (ws) lv (pc) (st) := by
  intro H locs ls hP hD hS hl
  subst hst
  have hPc := xk_psub hP isC hC
  have hDc := hD.sub isC hnC hC
  have hFc := va_free hD hS F.hA isC hC
  refine va_callv (va_runSN (As := As) (rest := rest) F.fix (hM H.size) cw ⟨xk_blind, fun U hU hW => ⟨rfl, by rw [hU], by rw [hU]; exact hPc, va_K.moved hW.alike F.hK, hDc.weaken (fun _ _ _ _ => trivial)⟩⟩ rfl hn hl.1 rfl (lv_room hW) hdg hf) hS (fun q _ h => hFc q h) hFc (fun W1 t H1 locs1 ht hvm hw hB hz1 hk1 hS1 => ?_)
  obtain ⟨hP1, hD1⟩ := hB
  rw [ht] at hP1
  obtain ⟨hP2, hD2⟩ := va_join hP hD isC isR hC hR hnR hdis hk1 hFc hP1 hD1
  exact kk W1 hw H1 locs1 ls hP2 hD2 hS1 hl
theorem xr_callINv {post : va_W → Prop} (F : XF p s m args c cc nL Ts own D tys A) (hM : xMv l y wsC rm D tys Wc (.ref b :: As) mc ms post) (cw : va_CN R s args own index y host bytes maxL none wsC rm mc ms n ∧ y.name = "<init>" ∧ (Cond.instanceMethod y).before args s = true) (isC isR : List Nat) (hC : isC.map (fun i => ws[i]?) = Wc.map some) (hR : isR.map (fun i => ws[i]?) = wr.map some) (hnC : va_nd isC = true) (hnR : va_nd isR = true) (hdis : ∀ i ∈ isR, i ∉ isC) (hn : As.length = n) (hst : st = As.reverse ++ .ref b :: rest) (hW : (rest.map fun v => v.category).sum ≤ 8) (hdg : decode cc pc = .ok (.invokespecial index, 3)) (hf : cells + mc ≤ R.cells ∧ slots + ms ≤ R.slots)
    (kk : ∀ W1 : va_W, post W1 → AW p l e R s m args below meth c nL D A (cells + mc) (slots + ms) Q (wr ++ W1) lv (pc + 3) (rest)) : AW p l e R s m args below meth c nL D A (cells) (slots) Q (ws) lv (pc) (st) := by
  intro H locs ls hP hD hS hl
  subst hst
  have hPc := xk_psub hP isC hC
  have hDc := hD.sub isC hnC hC
  have hFc := va_free hD hS F.hA isC hC
  refine va_callv (va_runIN (As := As) (rest := rest) F.fix (hM H.size) cw ⟨xk_blind, fun U hU hW => ⟨rfl, by rw [hU], by rw [hU]; exact hPc, va_K.moved hW.alike F.hK, hDc.weaken (fun _ _ _ _ => trivial)⟩⟩ rfl hn hl.1 rfl (lv_room hW) hdg hf) hS (fun q _ h => hFc q h) hFc (fun W1 t H1 locs1 ht hvm hw hB hz1 hk1 hS1 => ?_)
  obtain ⟨hP1, hD1⟩ := hB
  rw [ht] at hP1
  obtain ⟨hP2, hD2⟩ := va_join hP hD isC isR hC hR hnR hdis hk1 hFc hP1 hD1
  exact kk W1 hw H1 locs1 ls hP2 hD2 hS1 hl
end XCALL
end
