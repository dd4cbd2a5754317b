section
-- ===== PART A: goes FIRST, ahead of the names: the tables' words, and 'selects' of the private methods out of them =====
/-- a private method of a class that the tables say can be made, by its rows of tables_1 -/
def lw_okq (q : MethodName × Nat) : Prop := (q.1.cls ≠ "java/lang/invoke/MethodHandle" ∧ q.1.cls ≠ "java/lang/invoke/VarHandle") ∧ Cond.instantiable q.1.cls q.2 ∈ tables_1 ∧ Cond.privateMethod q.1 ∈ tables_1 ∧ Cond.instanceMethod q.1 ∈ tables_1
theorem lw_p0 : lw_okq (⟨"java/lang/Throwable", "fillInStackTrace", "(I)Ljava/lang/Throwable;"⟩, 6) := ⟨⟨by decide +kernel, by decide +kernel⟩, List.mem_of_getElem? (i := 147) (by decide +kernel), List.mem_of_getElem? (i := 145) (by decide +kernel), List.mem_of_getElem? (i := 146) (by decide +kernel)⟩
def lw_privs_1 : List (MethodName × Nat) := [(⟨"java/lang/Throwable", "fillInStackTrace", "(I)Ljava/lang/Throwable;"⟩, 6)]
theorem lw_r1 : ∀ q ∈ lw_privs_1, lw_okq q := List.forall_mem_cons.mpr ⟨lw_p0, fun _ h => absurd h List.not_mem_nil⟩
def lw_privs : List (MethodName × Nat) := lw_privs_1
def lw_tbl : List Cond := k2_sels lw_privs ++ tables_1
theorem lw_privs_ok : ∀ q ∈ lw_privs, lw_okq q := lw_r1
/-- the streams that the claim lets the run draw from -/
abbrev lw_cs : List Choice := [Jvm.Choice.named "NaN.bits"]
theorem lw_bits : nanBits ∈ lw_cs := by first | decide | exact List.mem_cons_self | simp [lw_cs, nanBits]
-- ===== end of PART A; then your names; then what follows =====
end
section
/-! ===== BEGIN words of one list among another's, by their places ===== -/
theorem goodIn_r {big : List Cond} (ws : List Cond) (ps : List Nat) (hp : ws = ps.filterMap (fun i => big[i]?)) (h : ws.all goodWord = true) : GoodIn big ws := by
  intro w hw
  have h1 := List.all_eq_true.mp h w hw
  rw [hp] at hw
  obtain ⟨i, -, hi⟩ := List.mem_filterMap.mp hw
  have hm : w ∈ big := by first | exact List.mem_of_getElem? hi | exact List.getElem?_mem hi
  exact ⟨hm, good_of_word h1⟩
theorem goodIn_app {big a b : List Cond} (ha : GoodIn big a) (hb : GoodIn big b) : GoodIn big (a ++ b) := fun w h => (List.mem_append.mp h).elim (ha w) (hb w)
theorem goodIn_ca {big a b : List Cond} {c : Cond} (ha : GoodIn big (c :: a)) (hb : GoodIn big b) : GoodIn big (c :: (a ++ b)) := fun w h => (List.mem_cons.mp h).elim (fun e => ha w (List.mem_cons.mpr (Or.inl e))) (fun h => (List.mem_append.mp h).elim (fun h => ha w (List.mem_cons.mpr (Or.inr h))) (hb w))
theorem goodIn_sub {big ws : List Cond} (hm : ∀ w ∈ ws, w ∈ big) (h : ws.all goodWord = true) : GoodIn big ws := fun w hw => ⟨hm w hw, good_of_word (List.all_eq_true.mp h w hw)⟩
/-! ===== END ===== -/

/-- the printed rows below name it, and nothing printed says it: an array class over arrays of t is there -/
def va_AOA (t : FieldType) (U : State) : Prop := (Cond.arrayOver (.array t)).before #[] U = true
theorem va_AOA.use {t : FieldType} {A : Array Value} {U : State} (h : va_AOA t U) : (Cond.arrayOver (.array t)).before A U = true := h
/-! ===== BEGIN new T[n][m]: the outer array a place, the inner ones among the pooled ===== -/
/-- f, but v at every address of l -/
def vr_up {α : Type} (f : Nat → α) (l : List Nat) (v : α) : Nat → α := fun a => if a ∈ l then v else f a
theorem vr_up_in {α : Type} {f : Nat → α} {l : List Nat} {v : α} {a : Nat} (h : a ∈ l) : vr_up f l v a = v := if_pos h
theorem vr_up_ne {α : Type} {f : Nat → α} {l : List Nat} {v : α} {a : Nat} (h : a ∉ l) : vr_up f l v a = f a := if_neg h
theorem vr_rows {L l : List Nat} {f : Nat → va_E} {e : va_E} (h : ∀ a, a ∈ l → a ∉ L) : va_pl L f ++ l.map (fun a => (a, e)) = va_pl (L ++ l) (vr_up f l e) := by
  unfold va_pl
  rw [List.map_append]
  congr 1
  · apply List.map_congr_left
    intro a ha
    rw [vr_up_ne (fun q => h a q ha)]
  · apply List.map_congr_left
    intro a ha
    rw [vr_up_in ha]
theorem vr_lay {X rows : va_W} {x : Nat × va_E} {pl : va_W} {D : va_G} {cl : List vw_C} {H : Heap} (hP : va_P D cl (((X ++ pl) ++ [x]) ++ rows) H) : va_P D cl ((X ++ [x]) ++ (pl ++ rows)) H := by
  rw [List.append_assoc (X ++ pl)] at hP
  have h := va_P.swap hP
  rw [← List.append_assoc X] at h
  have h2 := va_P.swap h
  rw [List.append_assoc (X ++ [x])] at h2
  exact h2
theorem vr_layD {X rows : va_W} {x : Nat × va_E} {pl : va_W} {A : Nat → Prop} (hD : va_D A (((X ++ pl) ++ [x]) ++ rows)) : va_D A ((X ++ [x]) ++ (pl ++ rows)) := by
  rw [List.append_assoc (X ++ pl)] at hD
  have h := va_D.swap hD
  rw [← List.append_assoc X] at h
  have h2 := va_D.swap h
  rw [List.append_assoc (X ++ [x])] at h2
  exact h2
theorem vr_outer (c : ClassId) (N h0 : Nat) : ∀ i : Nat, Jvm.Free.Multi.outerC c N h0 i = arrV c N (fun j => va_rf (if j < i then some (h0 + 1 + j) else none))
  | 0 => by
    show ({ cls := c, slots := Array.replicate N .null, vm := .none } : Cell) = _
    rw [arrV_new]
    refine congrArg (arrV c N) (funext fun j => ?_)
    simp [va_rf]
  | i + 1 => by
    show (Jvm.Free.Multi.outerC c N h0 i).setSlot i (.ref (h0 + 1 + i)) = _
    rw [vr_outer c N h0 i, arrV_store]
    refine congrArg (arrV c N) (funext fun j => ?_)
    by_cases e : j = i
    · subst e
      simp [updV, va_rf]
    · by_cases h : j < i
      · simp [updV, e, h, Nat.lt_succ_of_lt h]
      · simp [updV, e, h, show ¬ j < i + 1 by omega]
section VGM
variable {p : Program} {l : Launch} {e : Env} {R : Room} {s : State} {m : MethodId} {args : Array Value} {below : List Frame} {meth : Method} {c : Code} {H : Heap} {locs : List Loc} {cells slots : Nat} {Q : State → Prop}
variable {cc : ByteArray} {pc : Nat} {ls : Array Slot} {rest : List Value} {D : va_G} {cl : List vw_C} {A : Nat → Prop} {a : Nat} {tys : List (ClassId × FieldType)} {ws : va_W} {H0 : Heap}
theorem va_mna {X : va_W} {L : List Nat} {f : Nat → va_E} {cc : ByteArray} (hexec : p.tables.exec = Jvm.exec) (hb : c.code = cc) {own : String} {index : Nat} {ty : FieldType} {cy : ClassId} (hown : s.vm.findClass own = some m.cls) (hclink : (Cond.classLink own index ("[" ++ (FieldType.array ty).toString)).before args s = true) (hover : va_AOA ty s) (harr : (Cond.arrayClass ty).before args s = true) (hcy : s.vm.findClass (FieldType.array ty).toString = some cy)
    (hK : va_K D cl tys s) (hP : va_P D cl (X ++ va_pl L f) H) (hD : va_D A (X ++ va_pl L f)) (hS : va_S A H0 H locs) (hA : ∀ q, H0.size ≤ q → A q) {n k : Int32} {N' K' : Nat} {z : vp_A} (hn : ¬ n < 0) (hk : ¬ k < 0) (hN : n.toNatClampNeg = N') (hM : k.toNatClampNeg = K')
    (hb1 : N' * 4 ≤ 536870912) (hb2 : K' * componentBytes ty ≤ 536870912) (hb3 : K' ≤ 536870912) (hdf : fits ty (defaultValue ty) = true) (hdd : (defaultValue ty).isDefault = true) (hcells : cells + (1 + N') ≤ R.cells) (hslots : slots + (N' + N' * K') ≤ R.slots) (hz : ∀ c : ClassId, Jvm.Free.Multi.innerC c K' (defaultValue ty) = vp_cell c z) (hdg : decode cc pc = .ok (.multianewarray index 2, 4))
    (kk : ∀ (q : Nat) (r : Nat → Nat) (cA : ClassId) (H1 : Heap), (∀ i j : Nat, i < N' → j < N' → r i = r j → i = j) → (∀ i : Nat, i < N' → r i ∉ L) → va_K D cl (tys ++ [(cA, .array ty)]) s →
      va_P D cl ((X ++ [(q, .inl (cA, N', .inr (.inr (.inr (.inr (fun i => if i < N' then some (r i) else none))))))]) ++ va_pl (L ++ (List.range N').map r) (vr_up f ((List.range N').map r) (.inl (cy, z)))) H1 → va_D A ((X ++ [(q, .inl (cA, N', .inr (.inr (.inr (.inr (fun i => if i < N' then some (r i) else none))))))]) ++ va_pl (L ++ (List.range N').map r) (vr_up f ((List.range N').map r) (.inl (cy, z)))) → va_S A H0 H1 locs →
      W p l e R s m args below meth c H1 locs (cells + 1 + N') (slots + N' + N' * K') Q (F0 m (pc + 4) ls (.ref q :: rest))) : W p l e R s m args below meth c H locs cells slots Q (F0 m pc ls (.int k :: .int n :: rest)) := by
  subst hN
  subst hM
  intro T hT Xs
  obtain ⟨vm₁, cA, comp, -, fA, fC, hO, -, X', step⟩ := Xs.multianewarray2F hexec hown hclink (va_AOA.use hover) harr (g := F0 m pc ls (.int k :: .int n :: rest)) rfl (by rw [hb]; exact hdg) rfl hn hk hb1 hb2 hb3 hdf hdd hcells hslots
  have ec : some cy = some comp := hcy.symm.trans fC
  cases ec
  generalize hF : Jvm.Free.Multi.fill (T.setVm vm₁) cA cy n.toNatClampNeg k.toNatClampNeg (defaultValue ty) n.toNatClampNeg = F at X' step
  have hTh : (T.setVm vm₁).heap = H := hT
  obtain ⟨f1, f2, -, -⟩ := Jvm.Free.Multi.fill_facts (T.setVm vm₁) cA cy n.toNatClampNeg k.toNatClampNeg (defaultValue ty) n.toNatClampNeg
  rw [hF, hTh] at f1 f2
  have hold : ∀ x : Nat, x < H.size → F.heap[x]? = H[x]? := fun x hx => by
    have := Jvm.Free.Multi.fill_old (T.setVm vm₁) cA cy n.toNatClampNeg k.toNatClampNeg (defaultValue ty) (a := x) (by rw [hTh]; exact hx) n.toNatClampNeg
    rw [hF, hTh] at this
    exact this
  have hrow : ∀ j : Nat, j < n.toNatClampNeg → F.heap[H.size + 1 + j]? = some (vp_cell cy z) := fun j hj => by
    have := Jvm.Free.Multi.fill_inner (T.setVm vm₁) cA cy n.toNatClampNeg k.toNatClampNeg (defaultValue ty) n.toNatClampNeg j hj
    rw [hF, hTh, hz] at this
    exact this
  have hout : Jvm.Free.Multi.outerC cA n.toNatClampNeg H.size n.toNatClampNeg = vp_cell cA (n.toNatClampNeg, .inr (.inr (.inr (.inr (fun i => if i < n.toNatClampNeg then some (H.size + 1 + i) else none))))) := by
    rw [vp_cell_q]
    exact vr_outer cA n.toNatClampNeg H.size n.toNatClampNeg
  rw [hout] at f2
  have hlt : ∀ a, a ∈ L → a < H.size := fun a ha => by
    obtain ⟨k9, hk9⟩ := va_pl_get (X := X) (f := f) ha
    exact (hP k9 _ hk9).lt
  have hnl : ∀ i : Nat, i < n.toNatClampNeg → H.size + 1 + i ∉ L := fun i _ h => by
    have := hlt _ h
    omega
  have hnm : ∀ a, a ∈ (List.range n.toNatClampNeg).map (fun i => H.size + 1 + i) → a ∉ L := fun a ha h => by
    obtain ⟨i, -, rfl⟩ := List.mem_map.mp ha
    have := hlt _ h
    omega
  have hP0 : va_P D cl (X ++ va_pl L f) F.heap := hP.kept (fun k9 x hx => hold x.1 ((hP k9 x hx).lt))
  have hP1 : va_P D cl ((X ++ va_pl L f) ++ [(H.size, .inl (cA, n.toNatClampNeg, .inr (.inr (.inr (.inr (fun i => if i < n.toNatClampNeg then some (H.size + 1 + i) else none))))))]) F.heap := hP0.app (fun k9 x hx => by
    have h0 : k9 < 1 := (List.getElem?_eq_some_iff.mp hx).1
    rw [show k9 = 0 by omega] at hx
    cases hx
    exact f2)
  have hP2 : va_P D cl (((X ++ va_pl L f) ++ [(H.size, .inl (cA, n.toNatClampNeg, .inr (.inr (.inr (.inr (fun i => if i < n.toNatClampNeg then some (H.size + 1 + i) else none))))))]) ++ ((List.range n.toNatClampNeg).map (fun i => H.size + 1 + i)).map (fun a => (a, .inl (cy, z)))) F.heap := hP1.app (fun k9 x hx => by
    obtain ⟨a, ha, rfl⟩ := List.mem_map.mp (List.mem_of_getElem? hx)
    obtain ⟨i, hi, rfl⟩ := List.mem_map.mp ha
    exact hrow i (List.mem_range.mp hi))
  have hD2 : va_D A (((X ++ va_pl L f) ++ [(H.size, .inl (cA, n.toNatClampNeg, .inr (.inr (.inr (.inr (fun i => if i < n.toNatClampNeg then some (H.size + 1 + i) else none))))))]) ++ ((List.range n.toNatClampNeg).map (fun i => H.size + 1 + i)).map (fun a => (a, .inl (cy, z)))) := by
    have hD1 := hD.push (e := .inl (cA, n.toNatClampNeg, .inr (.inr (.inr (.inr (fun i => if i < n.toNatClampNeg then some (H.size + 1 + i) else none)))))) hP rfl (hA _ hS.1)
    generalize hW1 : (X ++ va_pl L f) ++ [(H.size, .inl (cA, n.toNatClampNeg, .inr (.inr (.inr (.inr (fun i => if i < n.toNatClampNeg then some (H.size + 1 + i) else none))))))] = W1 at hD1 hP1 ⊢
    have hle : ∀ (k9 : Nat) (x : Nat × va_E), W1[k9]? = some x → x.1 ≤ H.size := fun k9 x hx => by
      rw [← hW1] at hx
      by_cases hl : k9 < (X ++ va_pl L f).length
      · rw [List.getElem?_append_left hl] at hx
        exact Nat.le_of_lt ((hP k9 x hx).lt)
      · rw [List.getElem?_append_right (by omega)] at hx
        have h0 : k9 - (X ++ va_pl L f).length < 1 := (List.getElem?_eq_some_iff.mp hx).1
        rw [show k9 - (X ++ va_pl L f).length = 0 by omega] at hx
        cases hx
        exact Nat.le_refl _
    have hr : ∀ (k9 : Nat) (x : Nat × va_E), (((List.range n.toNatClampNeg).map (fun i => H.size + 1 + i)).map (fun a => ((a, .inl (cy, z)) : Nat × va_E)))[k9]? = some x → x.1 = H.size + 1 + k9 := fun k9 x hx => by
      rw [List.getElem?_map, List.getElem?_map] at hx
      by_cases h9 : k9 < n.toNatClampNeg
      · rw [List.getElem?_range h9] at hx
        cases hx
        rfl
      · have hn0 : (List.range n.toNatClampNeg)[k9]? = none := List.getElem?_eq_none (by rw [List.length_range]; omega)
        rw [hn0] at hx
        cases hx
    refine ⟨fun i j x y hi hj hxy => ?_, fun k9 x hx => ?_⟩
    · by_cases h1 : i < W1.length <;> by_cases h2 : j < W1.length
      · rw [List.getElem?_append_left h1] at hi
        rw [List.getElem?_append_left h2] at hj
        exact hD1.1 i j x y hi hj hxy
      · rw [List.getElem?_append_left h1] at hi
        rw [List.getElem?_append_right (by omega)] at hj
        have := hle _ _ hi
        have := hr _ _ hj
        omega
      · rw [List.getElem?_append_right (by omega)] at hi
        rw [List.getElem?_append_left h2] at hj
        have := hle _ _ hj
        have := hr _ _ hi
        omega
      · rw [List.getElem?_append_right (by omega)] at hi hj
        have := hr _ _ hi
        have := hr _ _ hj
        omega
    · by_cases h1 : k9 < W1.length
      · rw [List.getElem?_append_left h1] at hx
        exact hD1.2 k9 x hx
      · rw [List.getElem?_append_right (by omega)] at hx
        have := hr _ _ hx
        exact hA _ (by have := hS.1; omega)
  have hAr : ArrOfT s cA (.array ty) := fun N9 z9 => by
    obtain ⟨-, k9, hk9, cm9, hkk9⟩ := (hO 0 0 0).1
    exact ⟨(fun q hq => by cases hq), k9, hk9, cm9, hkk9⟩
  have hK2 : va_K D cl (tys ++ [(cA, .array ty)]) s := ⟨hK.1, fun k9 x hx => by
    by_cases hl : k9 < tys.length
    · rw [List.getElem?_append_left hl] at hx
      exact hK.2 k9 x hx
    · rw [List.getElem?_append_right (by omega)] at hx
      have h0 : k9 - tys.length < 1 := (List.getElem?_eq_some_iff.mp hx).1
      rw [show k9 - tys.length = 0 by omega] at hx
      cases hx
      exact ⟨hAr, fA⟩⟩
  obtain ⟨t, a1, b1⟩ := kk H.size (fun i => H.size + 1 + i) cA F.heap (fun i j _ _ h => by have h9 : H.size + 1 + i = H.size + 1 + j := h; omega) hnl hK2 (by rw [← vr_rows hnm]; exact vr_lay hP2) (by rw [← vr_rows hnm]; exact vr_layD hD2) ⟨by rw [f1]; have := hS.1; omega, fun x h1 h2 => (hold x (Nat.lt_of_lt_of_le h1 hS.1)).trans (hS.2.1 x h1 h2), hS.2.2⟩ F rfl X'
  refine ⟨t, step t ?_, b1⟩
  have e : T.heap.size = H.size := by rw [hT]
  rw [e]
  exact a1
end VGM
/-! ===== END ===== -/

/-! ===== BEGIN exceptions that leave a method, and their catching by the caller (launches without stack traces) ===== -/
section VXA
/-! The laws vx_back, vx_callV, vx_callS, vx_callSW, vx_throw0, vx_throwS follow proofs of the library, with one case more: JvmDerived/Free/Laws.lean (Back.of_free), Shelf42/LK1.lean (callV, callS), Shelf/KitTraced.lean (throwNew0V, throwNewS). -/
/-- where a method has thrown q: the class by its name, the cell, what was written, the world -/
def vx_T (XC : String → State → State → Prop) (st : State) (q : Addr) (t : State) (mc ms : Nat) (free : Addr → Prop) : Prop :=
  ∃ (E : String) (ce : Cell) (L : List Loc), XC E st t ∧ t.heap[q]? = some ce ∧ ce.vm = .none ∧ st.vm.findClass E = some ce.cls ∧ st.WarmedH t.vm ∧ st.sameButNew ({ t with vm := st.vm } : State) L mc ms ∧ ∀ z ∈ L, free z.base
def vx_Q (Qc : Array Value → State → Outcome → State → Prop) (XC : String → State → State → Prop) (mc ms : Nat) (free : Addr → Prop) : Array Value → State → Outcome → State → Prop := fun a st o t =>
  (Qc a st o t ∧ ∃ L, FrameEnd st o t L mc ms ∧ ∀ q ∈ L, free q.base) ∨ ∃ q, o = .threw q ∧ vx_T XC st q t mc ms free
/-- a callee that returns or throws -/
def vx_Met (l : Launch) (y : MethodName) (ws : List Cond) (rm : Room) (Pc : Array Value → State → Prop) (Qc : Array Value → State → Outcome → State → Prop) (XC : String → State → State → Prop) (mc ms : Nat) (free : Addr → Prop) : Prop :=
  MetFree l y (headSpec ws rm) Pc (fun _ _ _ _ _ => True) (vx_Q Qc XC mc ms free)
def vx_Post (XC : String → State → State → Prop) (mc ms : Nat) (free : Addr → Prop) : Pt → Array Value → Addr → Pt → Prop := fun A a q B =>
  ∃ (g : JFrame) (mk : MethodId) (t : State) (L : List Loc) (E : String) (ce : Cell), B.U.heap = t.heap ∧ B.U.vm = t.vm ∧ XC E (A.U.calling g mk a) t ∧ t.heap[q]? = some ce ∧ ce.vm = .none ∧ A.U.vm.findClass E = some ce.cls ∧ B.locs = A.locs ++ L ∧ (∀ z ∈ L, free z.base) ∧ B.cells = A.cells + mc ∧ B.slots = A.slots + ms
def vx_Back (l : Launch) (R : Room) (p : Program) (e : Env) (below : List Frame) (s : State) (sargs : Array Value) (y : MethodName) (len W9 : Nat)
    (Pre : Pt → Array Value → Prop) (Post : Pt → Array Value → Option Value → Pt → Prop) (PostX : Pt → Array Value → Addr → Pt → Prop) : Prop :=
  ∀ (m : MethodId) (meth : Method) (c : Code) (A : Pt) (g : JFrame) (ig : Instr) (mk : MethodId) (a : Array Value),
    Stand p l e R s m sargs below meth c A.U A.locs A.cells A.slots → g.method = m → g.locals.size = c.maxLocals → decode c.code g.pc = .ok (ig, len) →
    2 * g.monitorRoom + (g.stack.map fun v => v.category).sum ≤ W9 → A.U.methodNamed? y = some mk → Pre A a →
    (∃ (v : Option Value) (B : Pt), Stand p l e R s m sargs below meth c B.U B.locs B.cells B.slots ∧ Post A a v B ∧
      Steps p.tables e below (doInvoke e (A.U.setTop g) [] mk a).1 (B.U.setTop { g with pc := g.pc + len, stack := v.toList ++ g.stack })) ∨
    (∃ (q : Addr) (B : Pt), Stand p l e R s m sargs below meth c B.U B.locs B.cells B.slots ∧ PostX A a q B ∧
      Steps p.tables e below (doInvoke e (A.U.setTop g) [] mk a).1 ((B.U.setTop g).pushFrame (.throwing q)))
section Payer
variable {l : Launch} {R : Room} {p : Program} {e : Env} {below : List Frame} {s : State} {sargs : Array Value} {y : MethodName} {len W9 : Nat}
theorem vx_back {ws : List Cond} {rm : Room} {Pc : Array Value → State → Prop} {Qc : Array Value → State → Outcome → State → Prop} {XC : String → State → State → Prop} {mc ms : Nat} {free : Addr → Prop} {bytes : ByteArray} {maxL : Nat} {ret : Option FieldType}
    (hM : vx_Met l y ws rm Pc Qc XC mc ms free) (hblind : FrameBlind Pc) (hrc : rm.cells = mc) (hrs : rm.slots = ms)
    (hframes : rm.frames + 1 ≤ R.frames) (hlocals : W9 + (maxL + 11) + rm.locals ≤ R.locals)
    (hws : ∀ w ∈ ws, ∀ a' U, s.WarmedH U.vm → w.before a' U = true) (hcode : Cond.code y bytes maxL ret ∈ ws) (hinit : ∀ a' U, s.WarmedH U.vm → (Cond.initialized y.cls).before a' U = true) :
    vx_Back l R p e below s sargs y len W9 (PreOf R mc ms Pc) (PostOf Qc mc ms free) (vx_Post XC mc ms free) := by
  intro m meth c A g ig mk a X hg hsize hdg hW hn hp
  have h1 : (headSpec ws rm).pre.before a A.U = true := atoms_intro fun w hw => hws w hw _ _ X.warmed
  have h2 : (Cond.code y bytes maxL ret).before a A.U = true := hws _ hcode _ _ X.warmed
  have h3 : (Cond.initialized y.cls).before a A.U = true := hinit _ _ X.warmed
  have h4 : A.cells + (headSpec ws rm).room.cells ≤ R.cells := by rw [show (headSpec ws rm).room.cells = mc from hrc]; exact hp.1
  have h5 : A.slots + (headSpec ws rm).room.slots ≤ R.slots := by rw [show (headSpec ws rm).room.slots = ms from hrs]; exact hp.2.1
  have hPc : Pc a (A.U.calling g mk a) := hblind _ _ _ _ hp.2.2
  obtain ⟨U, Ls, c0, s0⟩ := A
  dsimp only [Pt.U, Pt.locs, Pt.cells, Pt.slots] at h1 h2 h3 h4 h5 X hn hPc ⊢
  obtain ⟨methY, cY, hmY, hcY, -, hlY, -, -, -, -⟩ := Cond.code_spec hn h2
  obtain ⟨kY, hkY, -⟩ := className_of_methodNamed hn
  have hinitY : kY.init = .initialized := Cond.initialized_spec (findClass_of_methodNamed hn) hkY h3
  have h : At U g.method c below := by rw [hg]; exact X.here
  have hlocals9 : W9 + (maxL + 11) + (headSpec ws rm).room.locals ≤ R.locals := hlocals
  have happ : (headSpec ws rm).appliesLoose y e.platform (U.calling g mk a) = true :=
    Spec.appliesLoose_calling (g := g) h hdg hn hkY hinitY
      (X.room_calling (g := g) (R' := (headSpec ws rm).room) hsize hmY hcY hframes (by rw [hlY]; omega) h4 h5) h1
  obtain ⟨mid, hmid⟩ := h.above
  have hfr : (U.setTop g).frames = (.java g :: mid) ++ below := by rw [State.frames_setTop' g h.top, hmid]; rfl
  obtain ⟨o, s₂, hsteps, -, hend, hq⟩ := Steps.callFree hM p X.admits X.cas X.clock (acts := []) hfr happ hPc trivial
  have hq' : vx_Q Qc XC mc ms free a (U.calling g mk a) o s₂ := hq
  rw [State.frames_setTop' g h.top] at hend
  obtain ⟨g₀, hg0⟩ := Option.isSome_iff_exists.mp h.top
  obtain ⟨r, hr⟩ := State.topJava?_eq_some.mp hg0
  have hr' : (({ U with heap := s₂.heap, slotsUsed := s₂.slotsUsed } : State).setVm s₂.vm).frames = .java g₀ :: r := hr
  rcases hq' with ⟨hqc, L, hfe, hL⟩ | ⟨q, rfl, E, ce, L, hx, hce, hcv, hcl, hW₂, hsm, hL⟩
  · obtain ⟨⟨v, rfl⟩, hW₂, e2, q2, q3, q4, q5, q6⟩ := id hfe
    have e3 : s₂ = ({ (U.calling g mk a).setFrames s₂.frames with heap := s₂.heap, slotsUsed := s₂.slotsUsed } : State).setVm s₂.vm := by
      have : s₂ = ({ s₂ with vm := (U.calling g mk a).vm } : State).setVm s₂.vm := rfl
      rw [e2] at this
      exact this
    obtain ⟨c₂, i₂, len₂, hc₂, hd₂, hf₂⟩ := hend
    have hW' : U.WarmedH s₂.vm := hW₂
    have hcc : c₂ = c := by
      have h1 : s₂.code? g.method = U.code? g.method := by
        rw [State.code?_eq, State.code?_eq, hW'.alike.method?]
      exact Option.some.inj (hc₂.symm.trans (h1.trans h.code))
    subst hcc
    have hlen : len₂ = len := by rw [hdg] at hd₂; cases hd₂; rfl
    subst hlen
    have hs₂ : s₂ = (({ U with heap := s₂.heap, slotsUsed := s₂.slotsUsed } : State).setVm s₂.vm).setTop { g with pc := g.pc + len₂, stack := v.toList ++ g.stack } := by
      refine e3.trans ?_
      rw [hf₂, State.calling_eq h.top, State.setFrames_setFrames, State.setTop_of_frames _ hr', hr]
      rfl
    have hsame : U.sameButNew ({ U with heap := s₂.heap, slotsUsed := s₂.slotsUsed } : State) L mc ms := by
      refine ⟨?_, q2, q3, q4, q5, q6⟩
      obtain ⟨t, ht, -⟩ := State.frames_cons hr
      show ({ U with heap := s₂.heap, slotsUsed := s₂.slotsUsed } : State) = { U.setFrames U.frames with heap := s₂.heap, slotsUsed := s₂.slotsUsed }
      rw [State.setFrames_self ht]
    subst hg
    refine Or.inl ⟨v, ⟨(({ U with heap := s₂.heap, slotsUsed := s₂.slotsUsed } : State).setVm s₂.vm), Ls ++ L, c0 + mc, s0 + ms⟩,
      ⟨X.admits, X.cas, X.clock, X.frames, X.room, X.hears, X.method, X.code, (X.here.setHeapUsed s₂.heap s₂.slotsUsed).setVm hW'.alike, X.tail, State.WarmedH.trans X.warmed hW', X.limits, X.bytes, X.same.trans (hsame.setVm s.vm)⟩,
      ⟨g, mk, s₂, L, rfl, rfl, hqc, rfl, hL, rfl, rfl⟩, ?_⟩
    show Steps p.tables e below _ ((({ U with heap := s₂.heap, slotsUsed := s₂.slotsUsed } : State).setVm s₂.vm).setTop { g with pc := g.pc + len₂, stack := v.toList ++ g.stack })
    rw [← hs₂]
    exact hsteps
  · obtain ⟨e2, q2, q3, q4, q5, q6⟩ := id hsm
    have e3 : s₂ = ({ (U.calling g mk a).setFrames s₂.frames with heap := s₂.heap, slotsUsed := s₂.slotsUsed } : State).setVm s₂.vm := by
      have : s₂ = ({ s₂ with vm := (U.calling g mk a).vm } : State).setVm s₂.vm := rfl
      rw [e2] at this
      exact this
    have hf₂ : s₂.frames = .throwing q :: .java g :: U.frames.tail := hend
    have hW' : U.WarmedH s₂.vm := hW₂
    have hs₂ : s₂ = ((({ U with heap := s₂.heap, slotsUsed := s₂.slotsUsed } : State).setVm s₂.vm).setTop g).pushFrame (.throwing q) := by
      refine e3.trans ?_
      rw [hf₂, State.calling_eq h.top, State.setFrames_setFrames, State.pushFrame, State.frames_setTop _ hr', State.setTop_of_frames _ hr', State.setFrames_setFrames, hr]
      rfl
    have hsame : U.sameButNew ({ U with heap := s₂.heap, slotsUsed := s₂.slotsUsed } : State) L mc ms := by
      refine ⟨?_, q2, q3, q4, q5, q6⟩
      obtain ⟨t, ht, -⟩ := State.frames_cons hr
      show ({ U with heap := s₂.heap, slotsUsed := s₂.slotsUsed } : State) = { U.setFrames U.frames with heap := s₂.heap, slotsUsed := s₂.slotsUsed }
      rw [State.setFrames_self ht]
    subst hg
    refine Or.inr ⟨q, ⟨(({ U with heap := s₂.heap, slotsUsed := s₂.slotsUsed } : State).setVm s₂.vm), Ls ++ L, c0 + mc, s0 + ms⟩,
      ⟨X.admits, X.cas, X.clock, X.frames, X.room, X.hears, X.method, X.code, (X.here.setHeapUsed s₂.heap s₂.slotsUsed).setVm hW'.alike, X.tail, State.WarmedH.trans X.warmed hW', X.limits, X.bytes, X.same.trans (hsame.setVm s.vm)⟩,
      ⟨g, mk, s₂, L, E, ce, rfl, rfl, hx, hce, hcv, hcl, rfl, hL, rfl, rfl⟩, ?_⟩
    show Steps p.tables e below _ (((({ U with heap := s₂.heap, slotsUsed := s₂.slotsUsed } : State).setVm s₂.vm).setTop g).pushFrame (.throwing q))
    rw [← hs₂]
    exact hsteps
end Payer
section Calls
variable {p : Program} {l : Launch} {e : Env} {R : Room} {s : State} {m : MethodId} {args : Array Value} {below : List Frame} {meth : Method} {c : Code} {T : State} {locs : List Loc} {cells slots : Nat}
theorem vx_callV (X : Stand p l e R s m args below meth c T locs cells slots) (hexec : p.tables.exec = Jvm.exec) {own C : String} {index : Nat} {y : MethodName} {bytes : ByteArray} {maxL : Nat} {ret : Option FieldType}
    (hown : s.vm.findClass own = some m.cls) (hlink : (Cond.methodLink own index y).before args s = true) (hinst : (Cond.instanceMethod y).before args s = true) (hsel : (Cond.selects C y y).before args s = true)
    (hcode : (Cond.code y bytes maxL ret).before args s = true) (hy : y.cls ≠ "java/lang/invoke/MethodHandle" ∧ y.cls ≠ "java/lang/invoke/VarHandle")
    {W9 : Nat} {Pre : Pt → Array Value → Prop} {Post : Pt → Array Value → Option Value → Pt → Prop} {PostX : Pt → Array Value → Addr → Pt → Prop} (hK : vx_Back l R p e below s args y 3 W9 Pre Post PostX)
    {b : Addr} {cellB : Cell} (hcell : T.heap[b]? = some cellB) (hobj : cellB.vm.isStatics = false) (hcls : s.vm.findClass C = some cellB.cls)
    {g : JFrame} (hg : g.method = m) (hsize : g.locals.size = c.maxLocals) {argsL rest : List Value} (hlen : ∀ sig, parseMethodDescriptor y.desc = some sig → argsL.length = sig.parameters.length)
    (hstack : g.stack = argsL.reverse ++ .ref b :: rest) (hW : 2 * g.monitorRoom + (rest.map fun v => v.category).sum ≤ W9) (hdg : decode c.code g.pc = .ok (.invokevirtual index, 3))
    (hpre : ∀ vm₁, s.WarmedH vm₁ → Pre ⟨T.setVm vm₁, locs, cells, slots⟩ (Value.ref b :: argsL).toArray) :
    (∃ (v : Option Value) (vm₁ : Vm) (B : Pt), s.WarmedH vm₁ ∧ Stand p l e R s m args below meth c B.U B.locs B.cells B.slots ∧ Post ⟨T.setVm vm₁, locs, cells, slots⟩ (Value.ref b :: argsL).toArray v B ∧
      ∀ target, Steps p.tables e below (B.U.setTop { g with pc := g.pc + 3, stack := v.toList ++ rest }) target → Steps p.tables e below (T.setTop g) target) ∨
    (∃ (q : Addr) (vm₁ : Vm) (B : Pt), s.WarmedH vm₁ ∧ Stand p l e R s m args below meth c B.U B.locs B.cells B.slots ∧ PostX ⟨T.setVm vm₁, locs, cells, slots⟩ (Value.ref b :: argsL).toArray q B ∧
      Steps p.tables e below (T.setTop g) ((B.U.setTop { g with stack := rest }).pushFrame (.throwing q))) := by
  obtain ⟨mk, methM, hnamed, hmethM, hstM, habM⟩ := Cond.instanceMethod_spec hinst
  obtain ⟨methM', cM, hmethM', -, -, -, -, -, -, hsigM⟩ := Cond.code_spec hnamed hcode
  cases hmethM.symm.trans hmethM'
  obtain ⟨c2, r2, m2, q1, q2, q3, q4, kP, hkP, hkPi⟩ := Cond.selects_spec hsel
  cases hcls.symm.trans q1
  cases (State.methodFound?_of_named hnamed hy).symm.trans q2
  cases hnamed.symm.trans q3
  have hselP : selectMethod e.platform s.vm cellB.cls mk = .method mk := by rw [Launch.admits_selectMethod X.admits]; exact q4
  obtain ⟨vm₁, X₁, hstep₁⟩ := X.invokevirtual hexec hown hlink hnamed hmethM hstM hkP hkPi hy (a := b) (cell := cellB) hcell
    (fun z h => by rw [h] at hobj; cases hobj) hselP hmethM habM hkP hkPi (g := g) hg (argsL := argsL) (rest := rest) (hlen _ hsigM) hstack hdg
  rcases hK m meth c ⟨T.setVm vm₁, locs, cells, slots⟩ { g with stack := rest } (.invokevirtual index) mk (Value.ref b :: argsL).toArray X₁ hg hsize hdg hW (X₁.named hnamed) (hpre vm₁ X₁.warmed) with ⟨v, B, X', hpost, hsteps⟩ | ⟨q, B, X', hpost, hsteps⟩
  · exact Or.inl ⟨v, vm₁, B, X₁.warmed, X', hpost, fun target h => hstep₁ _ fun acts => by rw [doInvoke_state]; exact hsteps.trans h⟩
  · exact Or.inr ⟨q, vm₁, B, X₁.warmed, X', hpost, hstep₁ _ fun acts => by rw [doInvoke_state]; exact hsteps⟩
theorem vx_callS (X : Stand p l e R s m args below meth c T locs cells slots) (hexec : p.tables.exec = Jvm.exec) {own : String} {index : Nat} {y : MethodName} {bytes : ByteArray} {maxL : Nat} {ret : Option FieldType}
    (hown : s.vm.findClass own = some m.cls) (hlink : (Cond.methodLink own index y).before args s = true) (hstat : (Cond.static y).before args s = true) (hinit : (Cond.initialized y.cls).before args s = true)
    (hcode : (Cond.code y bytes maxL ret).before args s = true) (hy : y.cls ≠ "java/lang/invoke/MethodHandle" ∧ y.cls ≠ "java/lang/invoke/VarHandle")
    {W9 : Nat} {Pre : Pt → Array Value → Prop} {Post : Pt → Array Value → Option Value → Pt → Prop} {PostX : Pt → Array Value → Addr → Pt → Prop} (hK : vx_Back l R p e below s args y 3 W9 Pre Post PostX)
    {g : JFrame} (hg : g.method = m) (hsize : g.locals.size = c.maxLocals) {argsL rest : List Value} (hlen : ∀ sig, parseMethodDescriptor y.desc = some sig → argsL.length = sig.parameters.length)
    (hstack : g.stack = argsL.reverse ++ rest) (hW : 2 * g.monitorRoom + (rest.map fun v => v.category).sum ≤ W9) (hdg : decode c.code g.pc = .ok (.invokestatic index, 3))
    (hpre : ∀ vm₁, s.WarmedH vm₁ → Pre ⟨T.setVm vm₁, locs, cells, slots⟩ argsL.toArray) :
    (∃ (v : Option Value) (vm₁ : Vm) (B : Pt), s.WarmedH vm₁ ∧ Stand p l e R s m args below meth c B.U B.locs B.cells B.slots ∧ Post ⟨T.setVm vm₁, locs, cells, slots⟩ argsL.toArray v B ∧
      ∀ target, Steps p.tables e below (B.U.setTop { g with pc := g.pc + 3, stack := v.toList ++ rest }) target → Steps p.tables e below (T.setTop g) target) ∨
    (∃ (q : Addr) (vm₁ : Vm) (B : Pt), s.WarmedH vm₁ ∧ Stand p l e R s m args below meth c B.U B.locs B.cells B.slots ∧ PostX ⟨T.setVm vm₁, locs, cells, slots⟩ argsL.toArray q B ∧
      Steps p.tables e below (T.setTop g) ((B.U.setTop { g with stack := rest }).pushFrame (.throwing q))) := by
  obtain ⟨mk, hnamed⟩ := Cond.code_named hcode
  obtain ⟨methM, cM, hmethM, -, -, -, -, -, -, hsigM⟩ := Cond.code_spec hnamed hcode
  have hstatic : methM.isStatic = true := Cond.static_spec hnamed hmethM hstat
  obtain ⟨kP, hkP, -⟩ := className_of_methodNamed hnamed
  have hinitP : kP.init = .initialized := Cond.initialized_spec (findClass_of_methodNamed hnamed) hkP hinit
  obtain ⟨vm₁, X₁, hstep₁⟩ := X.invokestatic hexec hown hlink hnamed hmethM hstatic hkP hinitP hy (g := g) hg (argsL := argsL) (rest := rest) (hlen _ hsigM) hstack hdg
  rcases hK m meth c ⟨T.setVm vm₁, locs, cells, slots⟩ { g with stack := rest } (.invokestatic index) mk argsL.toArray X₁ hg hsize hdg hW (X₁.named hnamed) (hpre vm₁ X₁.warmed) with ⟨v, B, X', hpost, hsteps⟩ | ⟨q, B, X', hpost, hsteps⟩
  · exact Or.inl ⟨v, vm₁, B, X₁.warmed, X', hpost, fun target h => hstep₁ _ fun acts => by rw [doInvoke_state]; exact hsteps.trans h⟩
  · exact Or.inr ⟨q, vm₁, B, X₁.warmed, X', hpost, hstep₁ _ fun acts => by rw [doInvoke_state]; exact hsteps⟩
end Calls
theorem vx_cls {s : State} {T : State} {vm₁ : Vm} {E : String} {k : ClassId} (hW : s.WarmedH vm₁) (h : (T.setVm vm₁).vm.findClass E = some k) : s.vm.findClass E = some k := by
  have h1 : vm₁.findClass E = some k := h
  rw [hW.alike.findClass] at h1
  exact h1
/-- the method's frame g, with q thrown over it -/
def vx_W (p : Program) (l : Launch) (e : Env) (R : Room) (s : State) (m : MethodId) (args : Array Value) (below : List Frame) (meth : Method) (c : Code) (H : Heap) (locs : List Loc) (cells slots : Nat) (Q : State → Prop) (g : JFrame) (q : Addr) : Prop :=
  ∀ T : State, T.heap = H → Stand p l e R s m args below meth c T locs cells slots → ∃ t, Steps p.tables e below ((T.setTop g).pushFrame (.throwing q)) t ∧ Q t
def vx_Run (p : Program) (l : Launch) (e : Env) (R : Room) (s : State) (m : MethodId) (args : Array Value) (below : List Frame) (meth : Method) (c : Code) (H : Heap) (locs : List Loc) (cells slots mc ms : Nat) (g : JFrame) (rest : List Value) (Qa : State → Outcome → State → Prop) (XC : String → State → State → Prop) (free : Addr → Prop) : Prop :=
  ∀ T : State, T.heap = H → Stand p l e R s m args below meth c T locs cells slots →
    (∃ (v : Option Value) (st₀ t T' : State) (L : List Loc), st₀.heap = H ∧ Stand p l e R s m args below meth c T' (locs ++ L) (cells + mc) (slots + ms) ∧ (∀ q ∈ L, free q.base) ∧ T'.heap = t.heap ∧ T'.vm = t.vm ∧ Qa st₀ (.returned v) t ∧
      Goes p e below T g T' { g with pc := g.pc + 3, stack := v.toList ++ rest }) ∨
    (∃ (q : Addr) (st₀ t T' : State) (L : List Loc) (E : String) (ce : Cell), st₀.heap = H ∧ Stand p l e R s m args below meth c T' (locs ++ L) (cells + mc) (slots + ms) ∧ (∀ z ∈ L, free z.base) ∧ T'.heap = t.heap ∧ T'.vm = t.vm ∧ XC E st₀ t ∧ t.heap[q]? = some ce ∧ ce.vm = .none ∧ s.vm.findClass E = some ce.cls ∧
      Steps p.tables e below (T.setTop g) ((T'.setTop { g with stack := rest }).pushFrame (.throwing q)))
def vx_X {S : Type} (px : S → Prop) (B : String → S → State → Prop) (A : Nat → Prop) : String → State → State → Prop := fun E st t => ∃ u : S, px u ∧ B E u t ∧ va_F A st t
section Runs
variable {p : Program} {l : Launch} {e : Env} {R : Room} {s : State} {m : MethodId} {args : Array Value} {below : List Frame} {meth : Method} {c : Code} {H : Heap} {locs : List Loc} {cells slots : Nat}
variable {y : MethodName} {bytes cc : ByteArray} {maxL nL mc ms n index : Nat} {ret : Option FieldType} {ws : List Cond} {rm : Room} {Pc : Array Value → State → Prop} {Qc : Array Value → State → Outcome → State → Prop} {XC : String → State → State → Prop} {free : Addr → Prop} {Ts : List Cond} {own C : String} {b : Addr} {As rest : List Value} {g : JFrame}
theorem vx_callBack (cb : CallB R s args own index y bytes maxL ret ws rm mc ms n) (hM : vx_Met l y ws rm Pc Qc XC mc ms free) (hbl : FrameBlind Pc) : vx_Back l R p e below s args y 3 8 (PreOf R mc ms Pc) (PostOf Qc mc ms free) (vx_Post XC mc ms free) := by
  obtain ⟨hrc, hrs, hfr, hlo, hws, hcw, -, hini, -⟩ := cb
  exact vx_back (bytes := bytes) (maxL := maxL) (ret := ret) hM hbl hrc hrs hfr hlo hws hcw (fun a' U hW => word_at hW (Or.inl (by first | rfl | simp [Cond.onTables, Cond.keeps, Cond.steady])) hini)
theorem vx_runV (S : CallFix p m c cc nL s args Ts own) (hM : vx_Met l y ws rm Pc Qc XC mc ms free) (cw : CallW R s args own C index y bytes maxL ret ws rm mc ms n) (hp : PreV s H C b Pc As)
    (hg : g.method = m) (hn : As.length = n) (hsize : g.locals.size = nL) (hstack : g.stack = As.reverse ++ .ref b :: rest) (hW : 2 * g.monitorRoom + (rest.map fun v => v.category).sum ≤ 8) (hdg : decode cc g.pc = .ok (.invokevirtual index, 3)) (hf : cells + mc ≤ R.cells ∧ slots + ms ≤ R.slots) :
    vx_Run p l e R s m args below meth c H locs cells slots mc ms g rest (Qc (Value.ref b :: As).toArray) XC free := by
  have hK : vx_Back l R p e below s args y 3 8 (PreOf R mc ms Pc) (PostOf Qc mc ms free) (vx_Post XC mc ms free) := vx_callBack cw.1 hM hp.1
  obtain ⟨⟨-, -, -, -, -, -, hcode, -, hy, hlen, hl⟩, hin, hse⟩ := cw
  obtain ⟨hx, hb, hml, ho, -⟩ := S
  obtain ⟨-, ⟨cellB, hcB, hoB, hclB⟩, hPc⟩ := hp
  intro T hT X
  rcases vx_callV X hx (C := C) (bytes := bytes) (maxL := maxL) (ret := ret) ho hl hin hse hcode hy hK (by rw [hT]; exact hcB) hoB hclB hg (hsize.trans hml.symm) (argsL := As) (rest := rest) (fun sig h => hn.trans (hlen sig h)) hstack hW (by rw [hb]; exact hdg)
    (fun vm₁ hW₁ => ⟨hf.1, hf.2, hPc (T.setVm vm₁) hT hW₁⟩) with ⟨v, vm₁, ⟨U', l2, c2, s2⟩, hW₁, X', ⟨g', mk, t, L, e1, e2, hq, h1, hL, h2, h3⟩, st⟩ | ⟨q, vm₁, ⟨U', l2, c2, s2⟩, hW₁, X', ⟨g', mk, t, L, E, ce, e1, e2, hq, hce, hcv, hcl, h1, hL, h2, h3⟩, st⟩
  · dsimp only [Pt.U, Pt.locs, Pt.cells, Pt.slots] at X' e1 e2 h1 h2 h3 st
    subst h1; subst h2; subst h3
    exact Or.inl ⟨v, (T.setVm vm₁).calling g' mk (Value.ref b :: As).toArray, t, U', L, hT, X', hL, e1, e2, hq, st⟩
  · dsimp only [Pt.U, Pt.locs, Pt.cells, Pt.slots] at X' e1 e2 h1 h2 h3 st hcl
    subst h1; subst h2; subst h3
    exact Or.inr ⟨q, (T.setVm vm₁).calling g' mk (Value.ref b :: As).toArray, t, U', L, E, ce, hT, X', hL, e1, e2, hq, hce, hcv, vx_cls hW₁ hcl, st⟩
theorem vx_runS (S : CallFix p m c cc nL s args Ts own) (hM : vx_Met l y ws rm Pc Qc XC mc ms free) (cw : CallB R s args own index y bytes maxL ret ws rm mc ms n ∧ (Cond.static y).before args s = true) (hp : PreS s H Pc As)
    (hg : g.method = m) (hn : As.length = n) (hsize : g.locals.size = nL) (hstack : g.stack = As.reverse ++ rest) (hW : 2 * g.monitorRoom + (rest.map fun v => v.category).sum ≤ 8) (hdg : decode cc g.pc = .ok (.invokestatic index, 3)) (hf : cells + mc ≤ R.cells ∧ slots + ms ≤ R.slots) :
    vx_Run p l e R s m args below meth c H locs cells slots mc ms g rest (Qc As.toArray) XC free := by
  have hK : vx_Back l R p e below s args y 3 8 (PreOf R mc ms Pc) (PostOf Qc mc ms free) (vx_Post XC mc ms free) := vx_callBack cw.1 hM hp.1
  obtain ⟨⟨-, -, -, -, -, -, hcode, hini, hy, hlen, hl⟩, hstt⟩ := cw
  obtain ⟨hx, hb, hml, ho, -⟩ := S
  intro T hT X
  rcases vx_callS X hx (bytes := bytes) (maxL := maxL) (ret := ret) ho hl hstt hini hcode hy hK hg (hsize.trans hml.symm) (argsL := As) (rest := rest) (fun sig h => hn.trans (hlen sig h)) hstack hW (by rw [hb]; exact hdg)
    (fun vm₁ hW₁ => ⟨hf.1, hf.2, hp.2 (T.setVm vm₁) hT hW₁⟩) with ⟨v, vm₁, ⟨U', l2, c2, s2⟩, hW₁, X', ⟨g', mk, t, L, e1, e2, hq, h1, hL, h2, h3⟩, st⟩ | ⟨q, vm₁, ⟨U', l2, c2, s2⟩, hW₁, X', ⟨g', mk, t, L, E, ce, e1, e2, hq, hce, hcv, hcl, h1, hL, h2, h3⟩, st⟩
  · dsimp only [Pt.U, Pt.locs, Pt.cells, Pt.slots] at X' e1 e2 h1 h2 h3 st
    subst h1; subst h2; subst h3
    exact Or.inl ⟨v, (T.setVm vm₁).calling g' mk As.toArray, t, U', L, hT, X', hL, e1, e2, hq, st⟩
  · dsimp only [Pt.U, Pt.locs, Pt.cells, Pt.slots] at X' e1 e2 h1 h2 h3 st hcl
    subst h1; subst h2; subst h3
    exact Or.inr ⟨q, (T.setVm vm₁).calling g' mk As.toArray, t, U', L, E, ce, hT, X', hL, e1, e2, hq, hce, hcv, vx_cls hW₁ hcl, st⟩
end Runs
section Rows
variable {p : Program} {l : Launch} {e : Env} {R : Room} {s : State} {m : MethodId} {args : Array Value} {below : List Frame} {meth : Method} {c : Code} {H : Heap} {locs : List Loc} {cells slots : Nat} {Q : State → Prop}
variable {mc ms : Nat} {free : Addr → Prop} {A0 A1 : Nat → Prop} {H0 : Heap} {a : Array Value} {pc : Nat} {ls : Array Slot} {st0 rest : List Value}
theorem vx_keep {st₀ t T' : State} {L : List Loc} (h0 : st₀.heap = H) (e1 : T'.heap = t.heap) (hS : va_S A0 H0 H locs) (hA : ∀ q, q < H.size → A1 q → A0 q) (hf : ∀ q, free q → A0 q) (hL : ∀ q ∈ L, free q.base) (hF : va_F A1 st₀ t) :
    H.size ≤ T'.heap.size ∧ (∀ q : Nat, q < H.size → ¬ A1 q → T'.heap[q]? = H[q]?) ∧ va_S A0 H0 T'.heap (locs ++ L) := by
  obtain ⟨hz, hk⟩ := hF
  rw [h0] at hz hk
  exact ⟨by rw [e1]; exact hz, fun q h1 h2 => by rw [e1]; exact hk q h1 h2,
    ⟨Nat.le_trans hS.1 (by rw [e1]; exact hz), fun q h1 h2 => by rw [e1, hk q (Nat.lt_of_lt_of_le h1 hS.1) (fun z => h2 (hA q (Nat.lt_of_lt_of_le h1 hS.1) z))]; exact hS.2.1 q h1 h2, fun q hq => by
      rcases List.mem_append.mp hq with h | h
      · exact hS.2.2 q h
      · exact hf _ (hL q h)⟩⟩
theorem vx_calli {S SX : Type} {post : Int32 → S → Prop} {px : SX → Prop} {B : S → State → Prop} {BX : String → SX → State → Prop} {AX : Nat → Prop} (hr : vx_Run p l e R s m args below meth c H locs cells slots mc ms (F0 m pc ls st0) rest (va_Qi post B A1 a) (vx_X px BX AX) free) (hS : va_S A0 H0 H locs) (hA : ∀ q, q < H.size → A1 q → A0 q) (hf : ∀ q, free q → A0 q) (hAX : ∀ q, q < H.size → AX q → A0 q)
    (kx : ∀ (E : String) (ce : Cell) (q9 : Addr) (u : SX) (t : State) (H1 : Heap) (locs1 : List Loc), t.heap = H1 → s.vm.Alike t.vm → px u → BX E u t → H.size ≤ H1.size → (∀ q : Nat, q < H.size → ¬ AX q → H1[q]? = H[q]?) → va_S A0 H0 H1 locs1 → H1[q9]? = some ce → ce.vm = .none → s.vm.findClass E = some ce.cls → vx_W p l e R s m args below meth c H1 locs1 (cells + mc) (slots + ms) Q (F0 m pc ls rest) q9)
    (kk : ∀ (r : Int32) (u : S) (t : State) (H1 : Heap) (locs1 : List Loc), t.heap = H1 → s.vm.Alike t.vm → post r u → B u t → H.size ≤ H1.size → (∀ q : Nat, q < H.size → ¬ A1 q → H1[q]? = H[q]?) → va_S A0 H0 H1 locs1 → W p l e R s m args below meth c H1 locs1 (cells + mc) (slots + ms) Q (F0 m (pc + 3) ls (.int r :: rest))) : W p l e R s m args below meth c H locs cells slots Q (F0 m pc ls st0) := by
  intro T hT X
  rcases hr T hT X with ⟨v, st₀, t, T', L, h0, X', hL, e1, e2, ⟨⟨r, u, hv, hp, hb⟩, hF⟩, st⟩ | ⟨q, st₀, t, T', L, E, ce, h0, X', hL, e1, e2, ⟨u, hp, hb, hF⟩, hce, hcv, hcl, st⟩
  · cases hv
    obtain ⟨k1, k2, k3⟩ := vx_keep h0 e1 hS hA hf hL hF
    obtain ⟨t2, a1, b1⟩ := kk r u t T'.heap (locs ++ L) e1.symm (by rw [← e2]; exact X'.warmed.alike) hp hb k1 k2 k3 T' rfl X'
    exact ⟨t2, st t2 a1, b1⟩
  · obtain ⟨k1, k2, k3⟩ := vx_keep h0 e1 hS hAX hf hL hF
    obtain ⟨t2, a1, b1⟩ := kx E ce q u t T'.heap (locs ++ L) e1.symm (by rw [← e2]; exact X'.warmed.alike) hp hb k1 k2 k3 (by rw [e1]; exact hce) hcv hcl T' rfl X'
    exact ⟨t2, st.trans a1, b1⟩
theorem vx_calll {S SX : Type} {post : Int64 → S → Prop} {px : SX → Prop} {B : S → State → Prop} {BX : String → SX → State → Prop} {AX : Nat → Prop} (hr : vx_Run p l e R s m args below meth c H locs cells slots mc ms (F0 m pc ls st0) rest (va_Ql post B A1 a) (vx_X px BX AX) free) (hS : va_S A0 H0 H locs) (hA : ∀ q, q < H.size → A1 q → A0 q) (hf : ∀ q, free q → A0 q) (hAX : ∀ q, q < H.size → AX q → A0 q)
    (kx : ∀ (E : String) (ce : Cell) (q9 : Addr) (u : SX) (t : State) (H1 : Heap) (locs1 : List Loc), t.heap = H1 → s.vm.Alike t.vm → px u → BX E u t → H.size ≤ H1.size → (∀ q : Nat, q < H.size → ¬ AX q → H1[q]? = H[q]?) → va_S A0 H0 H1 locs1 → H1[q9]? = some ce → ce.vm = .none → s.vm.findClass E = some ce.cls → vx_W p l e R s m args below meth c H1 locs1 (cells + mc) (slots + ms) Q (F0 m pc ls rest) q9)
    (kk : ∀ (r : Int64) (u : S) (t : State) (H1 : Heap) (locs1 : List Loc), t.heap = H1 → s.vm.Alike t.vm → post r u → B u t → H.size ≤ H1.size → (∀ q : Nat, q < H.size → ¬ A1 q → H1[q]? = H[q]?) → va_S A0 H0 H1 locs1 → W p l e R s m args below meth c H1 locs1 (cells + mc) (slots + ms) Q (F0 m (pc + 3) ls (.long r :: rest))) : W p l e R s m args below meth c H locs cells slots Q (F0 m pc ls st0) := by
  intro T hT X
  rcases hr T hT X with ⟨v, st₀, t, T', L, h0, X', hL, e1, e2, ⟨⟨r, u, hv, hp, hb⟩, hF⟩, st⟩ | ⟨q, st₀, t, T', L, E, ce, h0, X', hL, e1, e2, ⟨u, hp, hb, hF⟩, hce, hcv, hcl, st⟩
  · cases hv
    obtain ⟨k1, k2, k3⟩ := vx_keep h0 e1 hS hA hf hL hF
    obtain ⟨t2, a1, b1⟩ := kk r u t T'.heap (locs ++ L) e1.symm (by rw [← e2]; exact X'.warmed.alike) hp hb k1 k2 k3 T' rfl X'
    exact ⟨t2, st t2 a1, b1⟩
  · obtain ⟨k1, k2, k3⟩ := vx_keep h0 e1 hS hAX hf hL hF
    obtain ⟨t2, a1, b1⟩ := kx E ce q u t T'.heap (locs ++ L) e1.symm (by rw [← e2]; exact X'.warmed.alike) hp hb k1 k2 k3 (by rw [e1]; exact hce) hcv hcl T' rfl X'
    exact ⟨t2, st.trans a1, b1⟩
theorem vx_callf {S SX : Type} {post : UInt32 → S → Prop} {px : SX → Prop} {B : S → State → Prop} {BX : String → SX → State → Prop} {AX : Nat → Prop} (hr : vx_Run p l e R s m args below meth c H locs cells slots mc ms (F0 m pc ls st0) rest (va_Qf post B A1 a) (vx_X px BX AX) free) (hS : va_S A0 H0 H locs) (hA : ∀ q, q < H.size → A1 q → A0 q) (hf : ∀ q, free q → A0 q) (hAX : ∀ q, q < H.size → AX q → A0 q)
    (kx : ∀ (E : String) (ce : Cell) (q9 : Addr) (u : SX) (t : State) (H1 : Heap) (locs1 : List Loc), t.heap = H1 → s.vm.Alike t.vm → px u → BX E u t → H.size ≤ H1.size → (∀ q : Nat, q < H.size → ¬ AX q → H1[q]? = H[q]?) → va_S A0 H0 H1 locs1 → H1[q9]? = some ce → ce.vm = .none → s.vm.findClass E = some ce.cls → vx_W p l e R s m args below meth c H1 locs1 (cells + mc) (slots + ms) Q (F0 m pc ls rest) q9)
    (kk : ∀ (r : UInt32) (u : S) (t : State) (H1 : Heap) (locs1 : List Loc), t.heap = H1 → s.vm.Alike t.vm → post r u → B u t → H.size ≤ H1.size → (∀ q : Nat, q < H.size → ¬ A1 q → H1[q]? = H[q]?) → va_S A0 H0 H1 locs1 → W p l e R s m args below meth c H1 locs1 (cells + mc) (slots + ms) Q (F0 m (pc + 3) ls (.float r :: rest))) : W p l e R s m args below meth c H locs cells slots Q (F0 m pc ls st0) := by
  intro T hT X
  rcases hr T hT X with ⟨v, st₀, t, T', L, h0, X', hL, e1, e2, ⟨⟨r, u, hv, hp, hb⟩, hF⟩, st⟩ | ⟨q, st₀, t, T', L, E, ce, h0, X', hL, e1, e2, ⟨u, hp, hb, hF⟩, hce, hcv, hcl, st⟩
  · cases hv
    obtain ⟨k1, k2, k3⟩ := vx_keep h0 e1 hS hA hf hL hF
    obtain ⟨t2, a1, b1⟩ := kk r u t T'.heap (locs ++ L) e1.symm (by rw [← e2]; exact X'.warmed.alike) hp hb k1 k2 k3 T' rfl X'
    exact ⟨t2, st t2 a1, b1⟩
  · obtain ⟨k1, k2, k3⟩ := vx_keep h0 e1 hS hAX hf hL hF
    obtain ⟨t2, a1, b1⟩ := kx E ce q u t T'.heap (locs ++ L) e1.symm (by rw [← e2]; exact X'.warmed.alike) hp hb k1 k2 k3 (by rw [e1]; exact hce) hcv hcl T' rfl X'
    exact ⟨t2, st.trans a1, b1⟩
theorem vx_calld {S SX : Type} {post : UInt64 → S → Prop} {px : SX → Prop} {B : S → State → Prop} {BX : String → SX → State → Prop} {AX : Nat → Prop} (hr : vx_Run p l e R s m args below meth c H locs cells slots mc ms (F0 m pc ls st0) rest (va_Qd post B A1 a) (vx_X px BX AX) free) (hS : va_S A0 H0 H locs) (hA : ∀ q, q < H.size → A1 q → A0 q) (hf : ∀ q, free q → A0 q) (hAX : ∀ q, q < H.size → AX q → A0 q)
    (kx : ∀ (E : String) (ce : Cell) (q9 : Addr) (u : SX) (t : State) (H1 : Heap) (locs1 : List Loc), t.heap = H1 → s.vm.Alike t.vm → px u → BX E u t → H.size ≤ H1.size → (∀ q : Nat, q < H.size → ¬ AX q → H1[q]? = H[q]?) → va_S A0 H0 H1 locs1 → H1[q9]? = some ce → ce.vm = .none → s.vm.findClass E = some ce.cls → vx_W p l e R s m args below meth c H1 locs1 (cells + mc) (slots + ms) Q (F0 m pc ls rest) q9)
    (kk : ∀ (r : UInt64) (u : S) (t : State) (H1 : Heap) (locs1 : List Loc), t.heap = H1 → s.vm.Alike t.vm → post r u → B u t → H.size ≤ H1.size → (∀ q : Nat, q < H.size → ¬ A1 q → H1[q]? = H[q]?) → va_S A0 H0 H1 locs1 → W p l e R s m args below meth c H1 locs1 (cells + mc) (slots + ms) Q (F0 m (pc + 3) ls (.double r :: rest))) : W p l e R s m args below meth c H locs cells slots Q (F0 m pc ls st0) := by
  intro T hT X
  rcases hr T hT X with ⟨v, st₀, t, T', L, h0, X', hL, e1, e2, ⟨⟨r, u, hv, hp, hb⟩, hF⟩, st⟩ | ⟨q, st₀, t, T', L, E, ce, h0, X', hL, e1, e2, ⟨u, hp, hb, hF⟩, hce, hcv, hcl, st⟩
  · cases hv
    obtain ⟨k1, k2, k3⟩ := vx_keep h0 e1 hS hA hf hL hF
    obtain ⟨t2, a1, b1⟩ := kk r u t T'.heap (locs ++ L) e1.symm (by rw [← e2]; exact X'.warmed.alike) hp hb k1 k2 k3 T' rfl X'
    exact ⟨t2, st t2 a1, b1⟩
  · obtain ⟨k1, k2, k3⟩ := vx_keep h0 e1 hS hAX hf hL hF
    obtain ⟨t2, a1, b1⟩ := kx E ce q u t T'.heap (locs ++ L) e1.symm (by rw [← e2]; exact X'.warmed.alike) hp hb k1 k2 k3 (by rw [e1]; exact hce) hcv hcl T' rfl X'
    exact ⟨t2, st.trans a1, b1⟩
theorem vx_callv {S SX : Type} {post : S → Prop} {px : SX → Prop} {B : S → State → Prop} {BX : String → SX → State → Prop} {AX : Nat → Prop} (hr : vx_Run p l e R s m args below meth c H locs cells slots mc ms (F0 m pc ls st0) rest (va_Qv post B A1 a) (vx_X px BX AX) free) (hS : va_S A0 H0 H locs) (hA : ∀ q, q < H.size → A1 q → A0 q) (hf : ∀ q, free q → A0 q) (hAX : ∀ q, q < H.size → AX q → A0 q)
    (kx : ∀ (E : String) (ce : Cell) (q9 : Addr) (u : SX) (t : State) (H1 : Heap) (locs1 : List Loc), t.heap = H1 → s.vm.Alike t.vm → px u → BX E u t → H.size ≤ H1.size → (∀ q : Nat, q < H.size → ¬ AX q → H1[q]? = H[q]?) → va_S A0 H0 H1 locs1 → H1[q9]? = some ce → ce.vm = .none → s.vm.findClass E = some ce.cls → vx_W p l e R s m args below meth c H1 locs1 (cells + mc) (slots + ms) Q (F0 m pc ls rest) q9)
    (kk : ∀ (u : S) (t : State) (H1 : Heap) (locs1 : List Loc), t.heap = H1 → s.vm.Alike t.vm → post u → B u t → H.size ≤ H1.size → (∀ q : Nat, q < H.size → ¬ A1 q → H1[q]? = H[q]?) → va_S A0 H0 H1 locs1 → W p l e R s m args below meth c H1 locs1 (cells + mc) (slots + ms) Q (F0 m (pc + 3) ls (rest))) : W p l e R s m args below meth c H locs cells slots Q (F0 m pc ls st0) := by
  intro T hT X
  rcases hr T hT X with ⟨v, st₀, t, T', L, h0, X', hL, e1, e2, ⟨⟨u, hv, hp, hb⟩, hF⟩, st⟩ | ⟨q, st₀, t, T', L, E, ce, h0, X', hL, e1, e2, ⟨u, hp, hb, hF⟩, hce, hcv, hcl, st⟩
  · cases hv
    obtain ⟨k1, k2, k3⟩ := vx_keep h0 e1 hS hA hf hL hF
    obtain ⟨t2, a1, b1⟩ := kk u t T'.heap (locs ++ L) e1.symm (by rw [← e2]; exact X'.warmed.alike) hp hb k1 k2 k3 T' rfl X'
    exact ⟨t2, st t2 a1, b1⟩
  · obtain ⟨k1, k2, k3⟩ := vx_keep h0 e1 hS hAX hf hL hF
    obtain ⟨t2, a1, b1⟩ := kx E ce q u t T'.heap (locs ++ L) e1.symm (by rw [← e2]; exact X'.warmed.alike) hp hb k1 k2 k3 (by rw [e1]; exact hce) hcv hcl T' rfl X'
    exact ⟨t2, st.trans a1, b1⟩
/-- caught by the row x of this method's table; the rows ahead don't take it -/
theorem vx_catch {own name : String} {E : String} {ce : Cell} {q : Addr} (hown : s.vm.findClass own = some m.cls) (pre : List ExceptionTableEntry) (x : ExceptionTableEntry) (suf : List ExceptionTableEntry) (hsplit : c.exceptionTable.toList = pre ++ x :: suf)
    (hpass : ∀ z ∈ pre, covers z pc = false ∨ (z.catchType ≠ 0 ∧ ∃ nm : String, (Cond.classLink own z.catchType nm).before args s = true ∧ va_Nc E nm s)) (hx : covers x pc = true) (h0 : x.catchType ≠ 0)
    (hlink : (Cond.classLink own x.catchType name).before args s = true) (hcast : (Cond.castable E name).before args s = true) (hcell : H[q]? = some ce) (hv : ce.vm = .none) (hcl : s.vm.findClass E = some ce.cls)
    (kk : W p l e R s m args below meth c H locs cells slots Q (F0 m x.handlerPc ls [.ref q])) : vx_W p l e R s m args below meth c H locs cells slots Q (F0 m pc ls rest) q := by
  intro T hT X
  have hpl : e.platform.magicAccessors = ({} : Platform).magicAccessors := by rw [X.admits.platform]
  obtain ⟨c3, c4, hc3, hc4, hasg⟩ := Cond.castable_spec hcast
  cases Option.some.inj (hc3.symm.trans hcl)
  obtain ⟨c5, hc5, hcl5⟩ := Cond.classLink_spec hown hlink e.platform hpl
  cases Option.some.inj (hc4.symm.trans hc5)
  obtain ⟨vm', X', st⟩ := X.thenCaughtThrough q (g := F0 m pc ls rest) rfl (Steps.refl _) (by rw [hT]; exact hcell) (by rw [hv]; rfl) (by obtain ⟨k9, h9, -⟩ := Vm.findClass_spec hcl; exact ⟨k9, h9⟩) pre x suf hsplit
    (fun z hz => by
      rcases hpass z hz with h | ⟨hz0, nm, hl1, hn1⟩
      · exact Or.inl h
      · obtain ⟨c6, hc6, hcl6⟩ := Cond.classLink_spec hown hl1 e.platform hpl
        obtain ⟨a8, b8, h1, h2, h3⟩ := hn1
        cases Option.some.inj (h1.symm.trans hcl)
        cases Option.some.inj (h2.symm.trans hc6)
        exact Or.inr ⟨hz0, _, hcl6, h3⟩) hx (Or.inr ⟨h0, c4, hcl5, hasg⟩)
  obtain ⟨t, a1, b1⟩ := kk (T.setVm vm') hT X'
  exact ⟨t, st.trans a1, b1⟩
end Rows
section Ends
variable {p : Program} {l : Launch} {e : Env} {R : Room} {s : State} {m : MethodId} {args : Array Value} {below : List Frame} {meth : Method} {c : Code} {H : Heap} {locs : List Loc} {cells slots : Nat} {Q : State → Prop}
variable {mc ms : Nat} {free : Addr → Prop} {A0 A1 : Nat → Prop} {H0 : Heap} {a : Array Value} {ls : Array Slot} {st0 rest : List Value}
variable {Qc : Array Value → State → Outcome → State → Prop} {XC : String → State → State → Prop}
/-- what a body that may throw owes at its end -/
def vx_MQ (below : List Frame) (Qc : Array Value → State → Outcome → State → Prop) (XC : String → State → State → Prop) (a : Array Value) (s : State) (mc ms : Nat) (free : Addr → Prop) : State → Prop := fun t =>
  ∃ o, t.status = .running ∧ Ended t below o ∧ vx_Q Qc XC mc ms free a s o t
theorem vx_ret {g : JFrame} {mc ms : Nat} (k : W p l e R s m args below meth c H locs cells slots (MQ below Qc args s mc ms free) g) : W p l e R s m args below meth c H locs cells slots (vx_MQ below Qc XC args s mc ms free) g := by
  intro T hT X
  obtain ⟨t, a1, o, b1, b2, b3, b4⟩ := k T hT X
  exact ⟨t, a1, o, b1, b2, Or.inl ⟨b3, b4⟩⟩
/-- not caught here: it goes on to the caller -/
theorem vx_widen {g : JFrame} {q : Addr} {k n : Nat} (h1 : cells ≤ k) (h2 : slots ≤ n) (kk : vx_W p l e R s m args below meth c H locs k n Q g q) : vx_W p l e R s m args below meth c H locs cells slots Q g q := fun T hT X => kk T hT (stand_widen X h1 h2)
theorem vx_out {pc : Nat} {E : String} {ce : Cell} {q : Addr} {mc ms : Nat} (hout : ∀ x ∈ c.exceptionTable.toList, covers x pc = false) (hlocks : meth.locks = false) (hcell : H[q]? = some ce) (hv : ce.vm = .none) (hcl : s.vm.findClass E = some ce.cls)
    (hx : ∀ t : State, t.heap = H → s.vm.Alike t.vm → XC E s t) (hf : ∀ z ∈ locs, free z.base) (hc : cells ≤ mc) (hs : slots ≤ ms) :
    vx_W p l e R s m args below meth c H locs cells slots (vx_MQ below Qc XC args s mc ms free) (F0 m pc ls rest) q := by
  intro T hT X
  obtain ⟨st1, hrun, hend, hW, hsm⟩ := X.leaveThrown q (g := F0 m pc ls rest) rfl rfl rfl hout hlocks
  have hcell9 : (T.setFrames (.throwing q :: below)).heap[q]? = some ce := by
    show T.heap[q]? = some ce
    rw [hT]; exact hcell
  exact ⟨_, st1, .threw q, hrun, hend, Or.inr ⟨q, rfl, E, ce, locs, hx _ hT hW.alike, hcell9, hv, hcl, hW, hsm.mono hc hs, hf⟩⟩
theorem vx_frame {U : State} {k n : Nat} (h : s.sameButNew ({ U with vm := s.vm } : State) locs k n) : s.heap.size ≤ U.heap.size ∧ ∀ q : Nat, q < s.heap.size → (∀ z ∈ locs, z.base ≠ q) → U.heap[q]? = s.heap[q]? := by
  obtain ⟨-, h2, -, -, -, h6⟩ := h
  refine ⟨h2, fun q hq hz => ?_⟩
  obtain ⟨c9, e1, e2, e3, e4⟩ := h6 q _ (Array.getElem?_eq_getElem hq)
  have hs : c9.slots = (s.heap[q]).slots := Array.ext_getElem? fun i => e4 i fun hm => hz _ hm rfl
  have h9 : c9 = s.heap[q] := by
    rw [hs] at e2
    exact e2
  have e5 : U.heap[q]? = some c9 := e1
  rw [e5, h9, Array.getElem?_eq_getElem hq]
/-- the words of a throw but the four that speak of the heap -/
def vx_no (w : Cond) : Bool := decide (w ≠ .isRef (.static Bundle.tN "UNASSIGNED_STACK" Bundle.steD)) && decide (w ≠ .isRef (.static Bundle.tN "SUPPRESSED_SENTINEL" Bundle.listD)) && decide (w ≠ .laysStatic Bundle.tN "UNASSIGNED_STACK" Bundle.steD) && decide (w ≠ .laysStatic Bundle.tN "SUPPRESSED_SENTINEL" Bundle.listD)
def vx_at0 (own : String) (ic : Nat) (X : String) (names : List String) : List Cond := (Bundle.ownAtoms0 own ic X names).filter vx_no
def vx_atS (own : String) (ic : Nat) (X : String) (names : List String) : List Cond := (Bundle.ownAtoms own ic X names).filter vx_no
/-- a word that the tables alone decide, or a good one -/
def vx_ot (w : Cond) : Bool := w.onTables || goodWord w
theorem vx_ot_at {args a' : Array Value} {s U : State} {w : Cond} (hW : s.WarmedH U.vm) (hvm : s.vm = U.vm) (hg : vx_ot w = true) (h : w.before args s = true) : w.before a' U = true := by
  simp only [vx_ot, Bool.or_eq_true] at hg
  rcases hg with hg | hg
  · exact va_tabs hg hvm h
  · exact word_at hW (good_of_word hg) h
/-- a list's words: the good ones out of the method's own list, the others by premises of their own -/
theorem vx_hat {args : Array Value} {s : State} {L B : List Cond} (h1 : ∀ w ∈ L.filter goodWord, w.before args s = true) (h2 : ∀ w ∈ L.filter (fun w => !goodWord w), w ∈ B) (h3 : ∀ w ∈ B, w.before args s = true) : ∀ w ∈ L, w.before args s = true := by
  intro w hw
  by_cases g : goodWord w = true
  · exact h1 w (List.mem_filter.mpr ⟨hw, g⟩)
  · refine h3 w (h2 w (List.mem_filter.mpr ⟨hw, ?_⟩))
    show (!goodWord w) = true
    cases hgw : goodWord w
    · rfl
    · exact absurd hgw g
theorem vx_c {args : Array Value} {s : State} {w : Cond} {B : List Cond} (h : w.before args s = true) (t : ∀ w ∈ B, w.before args s = true) : ∀ w' ∈ w :: B, w'.before args s = true := fun w' h' => (List.mem_cons.mp h').elim (fun e => by rw [e]; exact h) (t w')
theorem vx_n {args : Array Value} {s : State} : ∀ w ∈ ([] : List Cond), w.before args s = true := fun _ h => nomatch h
theorem vx_own {args : Array Value} {s : State} {L : List Cond} (h1 : ∀ w ∈ L.filter vx_no, w.before args s = true)
    (hU : (Cond.isRef (.static Bundle.tN "UNASSIGNED_STACK" Bundle.steD)).before args s = true) (hN : (Cond.isRef (.static Bundle.tN "SUPPRESSED_SENTINEL" Bundle.listD)).before args s = true)
    (lU : (Cond.laysStatic Bundle.tN "UNASSIGNED_STACK" Bundle.steD).before args s = true) (lN : (Cond.laysStatic Bundle.tN "SUPPRESSED_SENTINEL" Bundle.listD).before args s = true) : ∀ w ∈ L, w.before args s = true := by
  intro w hw
  by_cases e1 : w = .isRef (.static Bundle.tN "UNASSIGNED_STACK" Bundle.steD)
  · rw [e1]; exact hU
  · by_cases e2 : w = .isRef (.static Bundle.tN "SUPPRESSED_SENTINEL" Bundle.listD)
    · rw [e2]; exact hN
    · by_cases e3 : w = .laysStatic Bundle.tN "UNASSIGNED_STACK" Bundle.steD
      · rw [e3]; exact lU
      · by_cases e4 : w = .laysStatic Bundle.tN "SUPPRESSED_SENTINEL" Bundle.listD
        · rw [e4]; exact lN
        · exact h1 w (List.mem_filter.mpr ⟨hw, by unfold vx_no; rw [decide_eq_true e1, decide_eq_true e2, decide_eq_true e3, decide_eq_true e4]; rfl⟩)
/-- where a static field lies, its class's statics cell in H -/
def vx_L (C n d : String) (A : Nat → Prop) (U : State) (H : Heap) : Prop := ∃ (c : ClassId) (k : Class) (i : Nat) (f : Field) (a : Nat) (cell : Cell), U.vm.findClass C = some c ∧ U.fieldFound? C n d = some (c, k, i, f) ∧ f.isStatic = true ∧ k.statics = some a ∧ H[a]? = some cell ∧ cell.vm.isStatics = true ∧ cell.cls = c ∧ f.slot < cell.slots.size ∧ k.staticTypes[f.slot]? = some f.type ∧ ¬ A a
theorem vx_L.moved {C n d : String} {A : Nat → Prop} {u U : State} {H : Heap} (hvm : u.vm.Alike U.vm) (h : vx_L C n d A u H) : vx_L C n d A U H := by
  obtain ⟨c, k, i, f, a, cell, h1, h2, h3, h4, h5, h6, h7, h8, h9, h10⟩ := h
  obtain ⟨k', hi', he⟩ := State.fieldFound?_setVm hvm h2
  exact ⟨c, k', i, f, a, cell, by rw [hvm.findClass]; exact h1, hi', h3, by rw [he]; exact h4, h5, h6, h7, h8, by rw [he]; exact h9, h10⟩
theorem vx_L.kept {C n d : String} {A : Nat → Prop} {U : State} {H H1 : Heap} (h : vx_L C n d A U H) (hq : ∀ a : Nat, a < H.size → ¬ A a → H1[a]? = H[a]?) : vx_L C n d A U H1 := by
  obtain ⟨c, k, i, f, a, cell, h1, h2, h3, h4, h5, h6, h7, h8, h9, h10⟩ := h
  exact ⟨c, k, i, f, a, cell, h1, h2, h3, h4, by rw [hq a (Array.getElem?_eq_some_iff.mp h5).1 h10]; exact h5, h6, h7, h8, h9, h10⟩
theorem vx_L.narrow {C n d : String} {A B : Nat → Prop} {U : State} {H : Heap} (h : vx_L C n d A U H) (hAB : ∀ q, B q → A q) : vx_L C n d B U H := by
  obtain ⟨c, k, i, f, a, cell, h1, h2, h3, h4, h5, h6, h7, h8, h9, h10⟩ := h
  exact ⟨c, k, i, f, a, cell, h1, h2, h3, h4, h5, h6, h7, h8, h9, fun z => h10 (hAB _ z)⟩
theorem vx_L.word {C n d : String} {A : Nat → Prop} {s : State} {args : Array Value} (h : vx_L C n d A s s.heap) : (Cond.laysStatic C n d).before args s = true := by
  obtain ⟨c, k, i, f, a, cell, h1, h2, h3, h4, h5, h6, h7, h8, h9, -⟩ := h
  show (Cond.laysStatic C n d).holds args s none s [] = true
  exact Cond.laysStatic_of h1 h2 h3 h4 h5 h6 h7 h8 h9
/-- .. and what it holds: null or some reference -/
def vx_Zq (C n d : String) (A : Nat → Prop) (U : State) (H : Heap) : Prop := va_Zq C n d A U H ∧ vx_L C n d A U H
theorem vx_Zq.moved {C n d : String} {A : Nat → Prop} {u U : State} {H : Heap} (hvm : u.vm.Alike U.vm) (h : vx_Zq C n d A u H) : vx_Zq C n d A U H := ⟨va_Zq.moved hvm h.1, vx_L.moved hvm h.2⟩
theorem vx_Zq.kept {C n d : String} {A : Nat → Prop} {U : State} {H H1 : Heap} (h : vx_Zq C n d A U H) (hq : ∀ a : Nat, a < H.size → ¬ A a → H1[a]? = H[a]?) : vx_Zq C n d A U H1 := ⟨va_Zq.kept h.1 hq, vx_L.kept h.2 hq⟩
theorem vx_Zq.narrow {C n d : String} {A B : Nat → Prop} {U : State} {H : Heap} (h : vx_Zq C n d A U H) (hAB : ∀ q, B q → A q) : vx_Zq C n d B U H := ⟨va_Zq.narrow h.1 hAB, vx_L.narrow h.2 hAB⟩
theorem vx_Zqof {args : Array Value} {s : State} {C n d : String} {A : Nat → Prop} (hl : (Cond.laysStatic C n d).before args s = true) (hini : (Cond.initialized C).before args s = true) (h : (Cond.isRef (.static C n d)).before args s = true) (hA : ∀ a : Nat, a < s.heap.size → ¬ A a) : vx_Zq C n d A s s.heap := by
  refine ⟨va_Zqof hl hini h hA, ?_⟩
  obtain ⟨c, k, i, f, a, cell, h1, h2, h3, h4, h5, h6, h7, h8, h9⟩ := Cond.laysStatic_spec hl
  exact ⟨c, k, i, f, a, cell, h1, h2, h3, h4, h5, h6, h7, h8, h9, hA a (Array.getElem?_eq_some_iff.mp h5).1⟩
theorem vx_isRef {C n d : String} {v : Value} {A : Nat → Prop} {s : State} {args : Array Value} (h : va_Z C n d v A s s.heap) (hv : v.isRef = true) : (Cond.isRef (.static C n d)).before args s = true := by
  obtain ⟨cf, kf, fi, f, a, cell, h1, h2, h3, h4, h5, h6, h7, -⟩ := h
  have he : (Term.static C n d).eval args s none [] s = some v := by
    simp [Term.eval, State.fieldNamed?, h1, h2, h4, h5, h6, h7]
  simp only [Cond.before, Cond.holds, Cond.value, he]
  cases v <;> simp_all [Value.isRef]
theorem vx_isRefq {C n d : String} {A : Nat → Prop} {s : State} {args : Array Value} (h : va_Zq C n d A s s.heap) : (Cond.isRef (.static C n d)).before args s = true := by
  rcases h with h | ⟨t, h⟩
  · exact vx_isRef h rfl
  · exact vx_isRef h rfl
/-- the same frame, seen from here: as if the method were called anew in this heap -/
theorem vx_rebase {T : State} (X : Stand p l e R s m args below meth c T locs cells slots) {R' : Room} (hf : R'.frames ≤ R.frames) (hl : R'.locals ≤ R.locals) (hc : cells + R'.cells ≤ R.cells) (hs : slots + R'.slots ≤ R.slots) :
    Stand p l e R' ((T.setVm s.vm).setFrames (.invoking m args :: below)) m args below meth c T [] 0 0 := by
  have htop : (T.setVm s.vm).topJava?.isSome := X.here.top
  have hF : ((T.setVm s.vm).setFrames (.invoking m args :: below)).frames = .invoking m args :: below := State.frames_setFrames _ (State.cur_lt_of_top htop)
  obtain ⟨g₀, hg0⟩ := Option.isSome_iff_exists.mp htop
  obtain ⟨r, hr⟩ := State.topJava?_eq_some.mp hg0
  have hl9 : e.platform.stackLimits (T.setVm s.vm).me = e.platform.stackLimits s.me := X.limits
  have hb9 : (T.setVm s.vm).me.stackBytes = s.me.stackBytes := X.bytes
  refine ⟨X.admits, X.cas, X.clock, hF, ?_, X.hears, X.method, X.code, X.here, X.tail, X.warmed, ?_, ?_, ?_⟩
  · have h := X.room
    have hU : ((T.setVm s.vm).setFrames (.invoking m args :: below)).localsInUse = s.localsInUse := by
      rw [State.localsInUse_invoking hF (meth := meth) (c := c) X.method X.code, State.localsInUse_invoking X.frames X.method X.code]
    simp only [State.hasRoom, Bool.and_eq_true, decide_eq_true_eq] at h ⊢
    obtain ⟨⟨⟨⟨h1, h2, h3, h4, h5, h6⟩, h7⟩, h8⟩, h9⟩ := h
    rw [X.frames, List.length_cons] at h2 h3
    have q1 := X.heapSize
    have q2 := X.used
    simp only [hF, hU, List.length_cons, State.stackLimits_setFrames, State.stackBytes_setFrames, hl9, hb9]
    refine ⟨⟨⟨⟨by omega, by omega, by omega, by omega, by omega, h6⟩, ?_⟩, ?_⟩, X.book⟩
    · show T.heap.size + R'.cells ≤ e.platform.maxCells
      omega
    · show T.slotsUsed + R'.slots ≤ e.platform.maxSlots
      omega
  · rw [State.stackLimits_setFrames]; rfl
  · rw [State.stackBytes_setFrames]; rfl
  · refine ⟨?_, Nat.le_refl _, Nat.le_refl _, ?_, ?_, fun a c9 h9 => ⟨c9, h9, rfl, rfl, fun _ _ => rfl⟩⟩
    · obtain ⟨t, ht, -⟩ := State.frames_cons hr
      show T.setVm s.vm = { ((T.setVm s.vm).setFrames (.invoking m args :: below)).setFrames (T.setVm s.vm).frames with heap := T.heap, slotsUsed := T.slotsUsed }
      rw [State.setFrames_setFrames, State.setFrames_self ht]
      rfl
    · show T.slotsUsed = T.slotsUsed + ((T.heap.toList.drop T.heap.size).map (·.slots.size)).sum
      rw [List.drop_eq_nil_of_le (Nat.le_of_eq Array.length_toList)]
      rfl
    · show ((T.heap.toList.drop T.heap.size).map (·.slots.size)).sum ≤ 0
      rw [List.drop_eq_nil_of_le (Nat.le_of_eq Array.length_toList)]
      exact Nat.le_refl _
/-- 'throw new E()': new; dup; invokespecial; athrow -/
theorem vx_throw0 {cc : ByteArray} {pc : Nat} (hexec : p.tables.exec = Jvm.exec) (hb : c.code = cc) (hl : l.stackTraces = false) {own cls : String} {names : List String} {ik ic mc ms : Nat} {A : Nat → Prop}
    (hown : s.vm.findClass own = some m.cls) (hcls : Bundle.fit cls = true) (hnames : ∀ n ∈ names, Bundle.fit n = true)
    (hk : (Cond.classLink own ik cls).before args s = true) (hini : (Cond.initialized cls).before args s = true) (hat : ∀ w ∈ vx_at0 own ic cls names, w.before args s = true)
    (hgood : ∀ w ∈ Cond.classLink own ik cls :: Cond.initialized cls :: vx_at0 own ic cls names, vx_ot w = true)
    (hU : vx_Zq Bundle.tN "UNASSIGNED_STACK" Bundle.steD A s s.heap) (hN : vx_Zq Bundle.tN "SUPPRESSED_SENTINEL" Bundle.listD A s s.heap) (hS : va_S A s.heap H locs) (hsize : ls.size = c.maxLocals)
    (d0 : decode cc pc = .ok (.new ik, 3)) (d3 : decode cc (pc + 3) = .ok (.dup, 1)) (d4 : decode cc (pc + 4) = .ok (.invokespecial ic, 3)) (d7 : decode cc (pc + 7) = .ok (.athrow, 1))
    (hout : ∀ x ∈ c.exceptionTable.toList, covers x (pc + 7) = false)
    (hRframes : names.length + 3 < R.frames) (hRlocals : (rest.map fun v => v.category).sum + (13 * (names.length + 1) + 42) ≤ R.locals) (hRcells : cells + 1 ≤ R.cells) (hRslots : slots + 6 ≤ R.slots) (hlocks : meth.locks = false)
    (hx : ∀ t : State, s.vm.Alike t.vm → H.size ≤ t.heap.size → (∀ q : Nat, q < H.size → t.heap[q]? = H[q]?) → XC cls s t)
    (hf : ∀ z ∈ locs, free z.base) (hc : cells + 1 ≤ mc) (hs : slots + 6 ≤ ms) :
    W p l e R s m args below meth c H locs cells slots (vx_MQ below Qc XC args s mc ms free) (F0 m pc ls rest) := by
  intro T hT X
  have htr : e.platform.stackTraces = false := (show e.platform.stackTraces = l.stackTraces by rw [X.admits.platform]).trans hl
  have Y := vx_rebase X (R' := { frames := R.frames, locals := R.locals, cells := 1, slots := 6 }) (Nat.le_refl _) (Nat.le_refl _) hRcells hRslots
  obtain ⟨s', hA⟩ : ∃ z, z = (T.setVm s.vm).setFrames (.invoking m args :: below) := ⟨_, rfl⟩
  rw [← hA] at Y
  have hvm : s'.vm = s.vm := by rw [hA]; rfl
  have hhp : s'.heap = H := by rw [hA]; exact hT
  have hW0 : s.WarmedH s'.vm := by rw [hvm]; exact State.WarmedH.refl s
  have hat' : ∀ w ∈ vx_at0 own ic cls names, w.before args s' = true := fun w hw => vx_ot_at hW0 hvm.symm (hgood w (List.mem_cons_of_mem _ (List.mem_cons_of_mem _ hw))) (hat w hw)
  have hk' : (Cond.classLink own ik cls).before args s' = true := vx_ot_at hW0 hvm.symm (hgood _ List.mem_cons_self) hk
  have hini' : (Cond.initialized cls).before args s' = true := vx_ot_at hW0 hvm.symm (hgood _ (List.mem_cons_of_mem _ List.mem_cons_self)) hini
  have hU' : vx_Zq Bundle.tN "UNASSIGNED_STACK" Bundle.steD A s' s'.heap := by rw [hhp]; exact vx_Zq.moved hW0.alike (hU.kept hS.2.1)
  have hN' : vx_Zq Bundle.tN "SUPPRESSED_SENTINEL" Bundle.listD A s' s'.heap := by rw [hhp]; exact vx_Zq.moved hW0.alike (hN.kept hS.2.1)
  have h : ∀ w ∈ Bundle.ownAtoms0 own ic cls names, w.before args s' = true := vx_own hat' (vx_isRefq hU'.1) (vx_isRefq hN'.1) hU'.2.word hN'.2.word
  have hown' : s'.vm.findClass own = some m.cls := by rw [hvm]; exact hown
  have hins : (Cond.instantiable cls 6).before args s' = true := h _ (by simp [Bundle.ownAtoms0])
  obtain ⟨vm₁, cX, kX, hfX, hkX, -, -, X₁, st1⟩ := Y.newCold hexec (own := own) (C := cls) (index := ik) (n := 6) hown' hk' hins hini'
    (g := F0 m pc ls rest) rfl (by rw [hb]; exact d0) (Nat.le_refl _) (Nat.le_refl _)
  generalize hT1 : (T.setVm vm₁).pushCell { cls := cX, slots := kX.instanceTypes.map defaultValue, vm := .none } = T1 at X₁ st1
  have hcat : (Value.ref T.heap.size).category = 1 := rfl
  have hcellA : T1.heap[T.heap.size]? = some (freshCell cX kX) := by rw [← hT1]; exact State.heap_pushCell_size _ _
  have d3' : decode c.code (pc + 3) = .ok (.dup, 1) := by rw [hb]; exact d3
  obtain ⟨U, hsteps, hrun, hend, hW, hsame, ce, hce, hO⟩ := X₁.ctorThrow0 hexec htr (own := own) (cls := cls) (names := names) (ic := ic) hown' hcls hnames h (fun x hx => nomatch hx) hfX hkX hcellA (by rw [hhp, hT]; exact Nat.le_refl _)
    (g := { method := m, pc := pc + 4, locals := ls, stack := .ref T.heap.size :: .ref T.heap.size :: rest, locked := none }) rfl hsize rfl rfl (rest := rest) rfl
    (by rw [hb]; exact d4) (by rw [hb]; exact d7) hout hRframes (by simp only [List.map_cons, List.sum_cons, hcat]; omega) hlocks
  obtain ⟨f1, f2⟩ := vx_frame hsame
  rw [hhp] at f1 f2
  have hWs : s.WarmedH U.vm := State.WarmedH.trans hW0 hW
  have hcl : s.vm.findClass cls = some ce.cls := by
    have h9 := hO.cls
    rw [hvm] at h9
    exact h9
  have hall : s.sameButNew ({ U with vm := s.vm } : State) locs mc ms := by
    subst hA
    obtain ⟨e1, e2⟩ := hsame
    rw [State.setFrames_setFrames] at e1
    have h2 : (T.setVm s.vm).sameButNew ({ U with vm := s.vm } : State) [] (0 + 1) (0 + 6) := ⟨e1, e2⟩
    have h3 := X.same.trans h2
    rw [List.append_nil] at h3
    exact h3.mono hc hs
  refine ⟨U, ?_, .threw T.heap.size, hrun, hend, Or.inr ⟨T.heap.size, rfl, cls, ce, locs, hx U hWs.alike f1 (fun q hq => f2 q hq (fun z hz => nomatch hz)), hce, hO.vm, hcl, hWs, hall, hf⟩⟩
  refine st1 _ ?_
  show Steps p.tables e below (T1.setTop { method := m, pc := pc + 3, locals := ls, stack := .ref T.heap.size :: rest, locked := none }) _
  jvm_step X₁.here [X₁.here.top, hexec, d3', Value.category]
  exact hsteps
/-- 'throw new E("text")': new; dup; ldc; invokespecial; athrow -/
theorem vx_throwS {cc : ByteArray} {pc : Nat} (hexec : p.tables.exec = Jvm.exec) (hb : c.code = cc) (hl : l.stackTraces = false) {own cls text : String} {names : List String} {ik is ic mc ms sa : Nat} {A : Nat → Prop}
    (hown : s.vm.findClass own = some m.cls) (hcls : Bundle.fit cls = true) (hnames : ∀ n ∈ names, Bundle.fit n = true)
    (hk : (Cond.classLink own ik cls).before args s = true) (hini : (Cond.initialized cls).before args s = true) (hstr : vk_R own is text sa s) (hat : ∀ w ∈ vx_atS own ic cls names, w.before args s = true)
    (hgood : ∀ w ∈ Cond.classLink own ik cls :: Cond.initialized cls :: vx_atS own ic cls names, vx_ot w = true)
    (hU : vx_Zq Bundle.tN "UNASSIGNED_STACK" Bundle.steD A s s.heap) (hN : vx_Zq Bundle.tN "SUPPRESSED_SENTINEL" Bundle.listD A s s.heap) (hS : va_S A s.heap H locs) (hsize : ls.size = c.maxLocals)
    (d0 : decode cc pc = .ok (.new ik, 3)) (d3 : decode cc (pc + 3) = .ok (.dup, 1)) (d4 : decode cc (pc + 4) = .ok (.ldc is, 2)) (d6 : decode cc (pc + 6) = .ok (.invokespecial ic, 3)) (d9 : decode cc (pc + 9) = .ok (.athrow, 1))
    (hout : ∀ x ∈ c.exceptionTable.toList, covers x (pc + 9) = false)
    (hRframes : names.length + 3 < R.frames) (hRlocals : (rest.map fun v => v.category).sum + (13 * (names.length + 1) + 43) ≤ R.locals) (hRcells : cells + 1 ≤ R.cells) (hRslots : slots + 6 ≤ R.slots) (hlocks : meth.locks = false)
    (hx : ∀ t : State, s.vm.Alike t.vm → H.size ≤ t.heap.size → (∀ q : Nat, q < H.size → t.heap[q]? = H[q]?) → XC cls s t)
    (hf : ∀ z ∈ locs, free z.base) (hc : cells + 1 ≤ mc) (hs : slots + 6 ≤ ms) :
    W p l e R s m args below meth c H locs cells slots (vx_MQ below Qc XC args s mc ms free) (F0 m pc ls rest) := by
  intro T hT X
  have htr : e.platform.stackTraces = false := (show e.platform.stackTraces = l.stackTraces by rw [X.admits.platform]).trans hl
  have Y := vx_rebase X (R' := { frames := R.frames, locals := R.locals, cells := 1, slots := 6 }) (Nat.le_refl _) (Nat.le_refl _) hRcells hRslots
  obtain ⟨s', hA⟩ : ∃ z, z = (T.setVm s.vm).setFrames (.invoking m args :: below) := ⟨_, rfl⟩
  rw [← hA] at Y
  have hvm : s'.vm = s.vm := by rw [hA]; rfl
  have hhp : s'.heap = H := by rw [hA]; exact hT
  have hW0 : s.WarmedH s'.vm := by rw [hvm]; exact State.WarmedH.refl s
  have hat' : ∀ w ∈ vx_atS own ic cls names, w.before args s' = true := fun w hw => vx_ot_at hW0 hvm.symm (hgood w (List.mem_cons_of_mem _ (List.mem_cons_of_mem _ hw))) (hat w hw)
  have hk' : (Cond.classLink own ik cls).before args s' = true := vx_ot_at hW0 hvm.symm (hgood _ List.mem_cons_self) hk
  have hini' : (Cond.initialized cls).before args s' = true := vx_ot_at hW0 hvm.symm (hgood _ (List.mem_cons_of_mem _ List.mem_cons_self)) hini
  have hU' : vx_Zq Bundle.tN "UNASSIGNED_STACK" Bundle.steD A s' s'.heap := by rw [hhp]; exact vx_Zq.moved hW0.alike (hU.kept hS.2.1)
  have hN' : vx_Zq Bundle.tN "SUPPRESSED_SENTINEL" Bundle.listD A s' s'.heap := by rw [hhp]; exact vx_Zq.moved hW0.alike (hN.kept hS.2.1)
  have h : ∀ w ∈ Bundle.ownAtoms own ic cls names, w.before args s' = true := vx_own hat' (vx_isRefq hU'.1) (vx_isRefq hN'.1) hU'.2.word hN'.2.word
  have hown' : s'.vm.findClass own = some m.cls := by rw [hvm]; exact hown
  have hins : (Cond.instantiable cls 6).before args s' = true := h _ (by simp [Bundle.ownAtoms])
  obtain ⟨vm₁, cX, kX, hfX, hkX, -, -, X₁, st1⟩ := Y.newCold hexec (own := own) (C := cls) (index := ik) (n := 6) hown' hk' hins hini'
    (g := F0 m pc ls rest) rfl (by rw [hb]; exact d0) (Nat.le_refl _) (Nat.le_refl _)
  generalize hT1 : (T.setVm vm₁).pushCell { cls := cX, slots := kX.instanceTypes.map defaultValue, vm := .none } = T1 at X₁ st1
  have hcat : (Value.ref T.heap.size).category = 1 := rfl
  have hcellA : T1.heap[T.heap.size]? = some (freshCell cX kX) := by rw [← hT1]; exact State.heap_pushCell_size _ _
  have d3' : decode c.code (pc + 3) = .ok (.dup, 1) := by rw [hb]; exact d3
  have d4' : decode c.code (pc + 4) = .ok (.ldc is, 2) := by rw [hb]; exact d4
  have hstr' : vk_R own is text sa s' := vk_R.warm hW0 hstr
  obtain ⟨U, hsteps, hrun, hend, hW, hsame, ce, hce, hO⟩ := X₁.ctorThrowS hexec htr (own := own) (cls := cls) (names := names) (ic := ic) hown' hcls hnames h (fun x hx => nomatch hx) hfX hkX hcellA (by rw [hhp, hT]; exact Nat.le_refl _) (msg := .ref sa) rfl
    (g := { method := m, pc := pc + 6, locals := ls, stack := .ref sa :: .ref T.heap.size :: .ref T.heap.size :: rest, locked := none }) rfl hsize rfl rfl (rest := rest) rfl
    (by rw [hb]; exact d6) (by rw [hb]; exact d9) hout hRframes (by simp only [List.map_cons, List.sum_cons, hcat]; omega) hlocks
  obtain ⟨f1, f2⟩ := vx_frame hsame
  rw [hhp] at f1 f2
  have hWs : s.WarmedH U.vm := State.WarmedH.trans hW0 hW
  have hcl : s.vm.findClass cls = some ce.cls := by
    have h9 := hO.cls
    rw [hvm] at h9
    exact h9
  have hall : s.sameButNew ({ U with vm := s.vm } : State) locs mc ms := by
    subst hA
    obtain ⟨e1, e2⟩ := hsame
    rw [State.setFrames_setFrames] at e1
    have h2 : (T.setVm s.vm).sameButNew ({ U with vm := s.vm } : State) [] (0 + 1) (0 + 6) := ⟨e1, e2⟩
    have h3 := X.same.trans h2
    rw [List.append_nil] at h3
    exact h3.mono hc hs
  refine ⟨U, ?_, .threw T.heap.size, hrun, hend, Or.inr ⟨T.heap.size, rfl, cls, ce, locs, hx U hWs.alike f1 (fun q hq => f2 q hq (fun z hz => nomatch hz)), hce, hO.vm, hcl, hWs, hall, hf⟩⟩
  refine st1 _ ?_
  show Steps p.tables e below (T1.setTop { method := m, pc := pc + 3, locals := ls, stack := .ref T.heap.size :: rest, locked := none }) _
  jvm_step X₁.here [X₁.here.top, hexec, d3', Value.category]
  exact X₁.ldcString hexec (own := own) (text := text) (index := is) (a := sa) hown' hstr'.1 hstr'.2
    (g := { method := m, pc := pc + 4, locals := ls, stack := .ref T.heap.size :: .ref T.heap.size :: rest, locked := none }) rfl d4' _ hsteps
/-- 'throw new E("text")', the text by a wide index -/
theorem vx_throwSW {cc : ByteArray} {pc : Nat} (hexec : p.tables.exec = Jvm.exec) (hb : c.code = cc) (hl : l.stackTraces = false) {own cls text : String} {names : List String} {ik is ic mc ms sa : Nat} {A : Nat → Prop}
    (hown : s.vm.findClass own = some m.cls) (hcls : Bundle.fit cls = true) (hnames : ∀ n ∈ names, Bundle.fit n = true)
    (hk : (Cond.classLink own ik cls).before args s = true) (hini : (Cond.initialized cls).before args s = true) (hstr : vk_R own is text sa s) (hat : ∀ w ∈ vx_atS own ic cls names, w.before args s = true)
    (hgood : ∀ w ∈ Cond.classLink own ik cls :: Cond.initialized cls :: vx_atS own ic cls names, vx_ot w = true)
    (hU : vx_Zq Bundle.tN "UNASSIGNED_STACK" Bundle.steD A s s.heap) (hN : vx_Zq Bundle.tN "SUPPRESSED_SENTINEL" Bundle.listD A s s.heap) (hS : va_S A s.heap H locs) (hsize : ls.size = c.maxLocals)
    (d0 : decode cc pc = .ok (.new ik, 3)) (d3 : decode cc (pc + 3) = .ok (.dup, 1)) (d4 : decode cc (pc + 4) = .ok (.ldc_w is, 3)) (d7 : decode cc (pc + 7) = .ok (.invokespecial ic, 3)) (d10 : decode cc (pc + 10) = .ok (.athrow, 1))
    (hout : ∀ x ∈ c.exceptionTable.toList, covers x (pc + 10) = false)
    (hRframes : names.length + 3 < R.frames) (hRlocals : (rest.map fun v => v.category).sum + (13 * (names.length + 1) + 43) ≤ R.locals) (hRcells : cells + 1 ≤ R.cells) (hRslots : slots + 6 ≤ R.slots) (hlocks : meth.locks = false)
    (hx : ∀ t : State, s.vm.Alike t.vm → H.size ≤ t.heap.size → (∀ q : Nat, q < H.size → t.heap[q]? = H[q]?) → XC cls s t)
    (hf : ∀ z ∈ locs, free z.base) (hc : cells + 1 ≤ mc) (hs : slots + 6 ≤ ms) :
    W p l e R s m args below meth c H locs cells slots (vx_MQ below Qc XC args s mc ms free) (F0 m pc ls rest) := by
  intro T hT X
  have htr : e.platform.stackTraces = false := (show e.platform.stackTraces = l.stackTraces by rw [X.admits.platform]).trans hl
  have Y := vx_rebase X (R' := { frames := R.frames, locals := R.locals, cells := 1, slots := 6 }) (Nat.le_refl _) (Nat.le_refl _) hRcells hRslots
  obtain ⟨s', hA⟩ : ∃ z, z = (T.setVm s.vm).setFrames (.invoking m args :: below) := ⟨_, rfl⟩
  rw [← hA] at Y
  have hvm : s'.vm = s.vm := by rw [hA]; rfl
  have hhp : s'.heap = H := by rw [hA]; exact hT
  have hW0 : s.WarmedH s'.vm := by rw [hvm]; exact State.WarmedH.refl s
  have hat' : ∀ w ∈ vx_atS own ic cls names, w.before args s' = true := fun w hw => vx_ot_at hW0 hvm.symm (hgood w (List.mem_cons_of_mem _ (List.mem_cons_of_mem _ hw))) (hat w hw)
  have hk' : (Cond.classLink own ik cls).before args s' = true := vx_ot_at hW0 hvm.symm (hgood _ List.mem_cons_self) hk
  have hini' : (Cond.initialized cls).before args s' = true := vx_ot_at hW0 hvm.symm (hgood _ (List.mem_cons_of_mem _ List.mem_cons_self)) hini
  have hU' : vx_Zq Bundle.tN "UNASSIGNED_STACK" Bundle.steD A s' s'.heap := by rw [hhp]; exact vx_Zq.moved hW0.alike (hU.kept hS.2.1)
  have hN' : vx_Zq Bundle.tN "SUPPRESSED_SENTINEL" Bundle.listD A s' s'.heap := by rw [hhp]; exact vx_Zq.moved hW0.alike (hN.kept hS.2.1)
  have h : ∀ w ∈ Bundle.ownAtoms own ic cls names, w.before args s' = true := vx_own hat' (vx_isRefq hU'.1) (vx_isRefq hN'.1) hU'.2.word hN'.2.word
  have hown' : s'.vm.findClass own = some m.cls := by rw [hvm]; exact hown
  have hins : (Cond.instantiable cls 6).before args s' = true := h _ (by simp [Bundle.ownAtoms])
  obtain ⟨vm₁, cX, kX, hfX, hkX, -, -, X₁, st1⟩ := Y.newCold hexec (own := own) (C := cls) (index := ik) (n := 6) hown' hk' hins hini'
    (g := F0 m pc ls rest) rfl (by rw [hb]; exact d0) (Nat.le_refl _) (Nat.le_refl _)
  generalize hT1 : (T.setVm vm₁).pushCell { cls := cX, slots := kX.instanceTypes.map defaultValue, vm := .none } = T1 at X₁ st1
  have hcat : (Value.ref T.heap.size).category = 1 := rfl
  have hcellA : T1.heap[T.heap.size]? = some (freshCell cX kX) := by rw [← hT1]; exact State.heap_pushCell_size _ _
  have d3' : decode c.code (pc + 3) = .ok (.dup, 1) := by rw [hb]; exact d3
  have d4' : decode c.code (pc + 4) = .ok (.ldc_w is, 3) := by rw [hb]; exact d4
  have hstr' : vk_R own is text sa s' := vk_R.warm hW0 hstr
  obtain ⟨U, hsteps, hrun, hend, hW, hsame, ce, hce, hO⟩ := X₁.ctorThrowS hexec htr (own := own) (cls := cls) (names := names) (ic := ic) hown' hcls hnames h (fun x hx => nomatch hx) hfX hkX hcellA (by rw [hhp, hT]; exact Nat.le_refl _) (msg := .ref sa) rfl
    (g := { method := m, pc := pc + 7, locals := ls, stack := .ref sa :: .ref T.heap.size :: .ref T.heap.size :: rest, locked := none }) rfl hsize rfl rfl (rest := rest) rfl
    (by rw [hb]; exact d7) (by rw [hb]; exact d10) hout hRframes (by simp only [List.map_cons, List.sum_cons, hcat]; omega) hlocks
  obtain ⟨f1, f2⟩ := vx_frame hsame
  rw [hhp] at f1 f2
  have hWs : s.WarmedH U.vm := State.WarmedH.trans hW0 hW
  have hcl : s.vm.findClass cls = some ce.cls := by
    have h9 := hO.cls
    rw [hvm] at h9
    exact h9
  have hall : s.sameButNew ({ U with vm := s.vm } : State) locs mc ms := by
    subst hA
    obtain ⟨e1, e2⟩ := hsame
    rw [State.setFrames_setFrames] at e1
    have h2 : (T.setVm s.vm).sameButNew ({ U with vm := s.vm } : State) [] (0 + 1) (0 + 6) := ⟨e1, e2⟩
    have h3 := X.same.trans h2
    rw [List.append_nil] at h3
    exact h3.mono hc hs
  refine ⟨U, ?_, .threw T.heap.size, hrun, hend, Or.inr ⟨T.heap.size, rfl, cls, ce, locs, hx U hWs.alike f1 (fun q hq => f2 q hq (fun z hz => nomatch hz)), hce, hO.vm, hcl, hWs, hall, hf⟩⟩
  refine st1 _ ?_
  show Steps p.tables e below (T1.setTop { method := m, pc := pc + 3, locals := ls, stack := .ref T.heap.size :: rest, locked := none }) _
  jvm_step X₁.here [X₁.here.top, hexec, d3', Value.category]
  exact X₁.ldcStringW hexec (own := own) (text := text) (index := is) (a := sa) hown' hstr'.1 hstr'.2
    (g := { method := m, pc := pc + 4, locals := ls, stack := .ref T.heap.size :: .ref T.heap.size :: rest, locked := none }) rfl d4' _ hsteps
end Ends
section Bodies
variable {l : Launch}
theorem vx_ofW {y : MethodName} {ws ws' : List Cond} {rm : Room} {Pc : Array Value → State → Prop} {Qc : Array Value → State → Outcome → State → Prop} {XC : String → State → State → Prop} {mc ms : Nat} {free : Addr → Prop} {cc : ByteArray} {maxL : Nat} {ret : Option FieldType}
    (hy : plainName y.cls = true) (hw : ws = Cond.code y cc maxL ret :: ws')
    (body : ∀ p e s m args below meth c s₁, BodyLoose p l y (headSpec ws rm) cc maxL ret e s m args below meth c s₁ → c.maxLocals = maxL → (∀ x ∈ c.exceptionTable.toList, False) → Pc args s →
      W p l e (headSpec ws rm).room s m args below meth c s.heap [] 0 0 (vx_MQ below Qc XC args s mc ms free) (entryFrame m args maxL)) : vx_Met l y ws rm Pc Qc XC mc ms free := by
  refine MetFree.of_bodyS (code := cc) (maxLocals := maxL) (ret := ret) hy ?_ ?_
  · intro args s m h hn
    obtain ⟨meth, c, h1, h2, h3, h4, h5, h6, -, -⟩ := Cond.code_spec hn (atoms_spec (ws := ws) h _ (by rw [hw]; exact List.mem_cons_self))
    exact ⟨meth, c, h1, h2, h3, h4, h5, h6⟩
  · intro p e s m args below meth c s₁ B hml hP _
    have hh0 : s₁.heap = s.heap := by rw [B.state]; rfl
    have ht : ∀ x ∈ c.exceptionTable.toList, False := by
      obtain ⟨meth9, c9, h1, h2, -, -, -, -, h7, -⟩ := Cond.code_spec B.named (atoms_spec (ws := ws) B.pre _ (by rw [hw]; exact List.mem_cons_self))
      cases Option.some.inj (h1.symm.trans B.method)
      cases Option.some.inj (h2.symm.trans (Stand.of_body B).code)
      intro x hx
      rw [Array.isEmpty_iff.mp h7] at hx
      cases hx
    obtain ⟨t, a1, o, b1, b2, b3⟩ := body p e s m args below meth c s₁ B hml ht hP s₁ hh0 (Stand.of_body B)
    exact ⟨t, o, a1, b1, b2, b3⟩
/-- the table of a body with handlers -/
theorem vx_table {p : Program} {x y : MethodName} {S : Spec} {cc bytes : ByteArray} {maxL maxL' : Nat} {ret ret' : Option FieldType} {e : Env} {s s₁ : State} {m : MethodId} {args : Array Value} {below : List Frame} {meth : Method} {c : Code} {hh : List (Nat × Nat × Nat × Nat)}
    (B : BodyLoose p l y S cc maxL ret e s m args below meth c s₁) (h : (Cond.codeWith y bytes maxL' ret' hh).before args s = true) : c.exceptionTable.toList = tableOf hh := by
  obtain ⟨m9, meth9, c9, hn9, h1, h2, -, -, h6, -⟩ := Cond.codeWith_spec h
  cases Option.some.inj (hn9.symm.trans B.named)
  cases Option.some.inj (h1.symm.trans B.method)
  cases Option.some.inj (h2.symm.trans (Stand.of_body B).code)
  rw [← h6, table_eq]
end Bodies
end VXA
/-! ===== END ===== -/
/-! ===== BEGIN a static call of a method with an exception table ===== -/
section VXS
variable {p : Program} {l : Launch} {e : Env} {R : Room} {s : State} {m : MethodId} {args : Array Value} {below : List Frame} {meth : Method} {c : Code} {T : State} {H : Heap} {locs : List Loc} {cells slots : Nat}
abbrev vx_CSW (R : Room) (s : State) (args : Array Value) (own : String) (index : Nat) (y : MethodName) (bytes : ByteArray) (maxL : Nat) (ret : Option FieldType) (hh : List (Nat × Nat × Nat × Nat)) (ws : List Cond) (rm : Room) (mc ms n : Nat) : Prop :=
  (rm.cells = mc ∧ rm.slots = ms ∧ rm.frames + 1 ≤ R.frames ∧ 8 + (maxL + 11) + rm.locals ≤ R.locals ∧ (∀ w ∈ ws, ∀ (a' : Array Value) (U : State), s.WarmedH U.vm → w.before a' U = true) ∧ Cond.codeWith y bytes maxL ret hh ∈ ws) ∧
  (Cond.codeWith y bytes maxL ret hh).before args s = true ∧ (Cond.initialized y.cls).before args s = true ∧ (y.cls ≠ "java/lang/invoke/MethodHandle" ∧ y.cls ≠ "java/lang/invoke/VarHandle") ∧
  (∀ sig, parseMethodDescriptor y.desc = some sig → n = sig.parameters.length) ∧ (Cond.methodLink own index y).before args s = true ∧ (Cond.static y).before args s = true
theorem vx_cwSW {own : String} {index maxL mc ms : Nat} {y : MethodName} {bytes : ByteArray} {ret : Option FieldType} {hh : List (Nat × Nat × Nat × Nat)} {Ts ws ws' : List Cond} {rm : Room} (n : Nat) (ht : ∀ w ∈ Ts, w.before args s = true) (hT : GoodIn Ts (va_wsS own index y ws)) (hw : ws = Cond.codeWith y bytes maxL ret hh :: ws') (hrc : rm.cells = mc) (hrs : rm.slots = ms)
    (hd : y.cls ≠ "java/lang/invoke/MethodHandle" ∧ y.cls ≠ "java/lang/invoke/VarHandle" ∧ (parseMethodDescriptor y.desc).map (fun d => d.parameters.length) = some n) (hR : rm.frames + 1 ≤ R.frames ∧ 8 + (maxL + 11) + rm.locals ≤ R.locals) :
    vx_CSW R s args own index y bytes maxL ret hh ws rm mc ms n := by
  have ok : ∀ w ∈ va_wsS own index y ws, w.before args s = true := fun w h => ht w (hT w h).1
  have hG : GoodIn Ts ws := fun w h => hT w (by unfold va_wsS; exact List.mem_append_right _ h)
  have hc : Cond.codeWith y bytes maxL ret hh ∈ ws := by rw [hw]; exact List.mem_cons_self
  refine ⟨⟨hrc, hrs, hR.1, hR.2, pay_in ht hG, hc⟩, ht _ (hG _ hc).1, ok _ (by simp [va_wsS]), ⟨hd.1, hd.2.1⟩, fun sig h => ?_, ok _ (by simp [va_wsS]), ok _ (by simp [va_wsS])⟩
  have h2 := hd.2.2
  rw [h] at h2
  exact (Option.some.inj h2).symm
theorem vx_callSW (X : Stand p l e R s m args below meth c T locs cells slots) (hexec : p.tables.exec = Jvm.exec) {own : String} {index : Nat} {y : MethodName} {bytes : ByteArray} {maxL : Nat} {ret : Option FieldType} {hh : List (Nat × Nat × Nat × Nat)}
    (hown : s.vm.findClass own = some m.cls) (hlink : (Cond.methodLink own index y).before args s = true) (hstat : (Cond.static y).before args s = true) (hinit : (Cond.initialized y.cls).before args s = true)
    (hcode : (Cond.codeWith y bytes maxL ret hh).before args s = true) (hy : y.cls ≠ "java/lang/invoke/MethodHandle" ∧ y.cls ≠ "java/lang/invoke/VarHandle")
    {W9 : Nat} {Pre : Pt → Array Value → Prop} {Post : Pt → Array Value → Option Value → Pt → Prop} (hK : Back l R p e below s args y 3 W9 Pre Post)
    {g : JFrame} (hg : g.method = m) (hsize : g.locals.size = c.maxLocals) {argsL rest : List Value} (hlen : ∀ sig, parseMethodDescriptor y.desc = some sig → argsL.length = sig.parameters.length)
    (hstack : g.stack = argsL.reverse ++ rest) (hW : 2 * g.monitorRoom + (rest.map fun v => v.category).sum ≤ W9) (hdg : decode c.code g.pc = .ok (.invokestatic index, 3))
    (hpre : ∀ vm₁, s.WarmedH vm₁ → Pre ⟨T.setVm vm₁, locs, cells, slots⟩ argsL.toArray) :
    ∃ (v : Option Value) (vm₁ : Vm) (B : Pt), s.WarmedH vm₁ ∧ Stand p l e R s m args below meth c B.U B.locs B.cells B.slots ∧ Post ⟨T.setVm vm₁, locs, cells, slots⟩ argsL.toArray v B ∧
      ∀ target, Steps p.tables e below (B.U.setTop { g with pc := g.pc + 3, stack := v.toList ++ rest }) target → Steps p.tables e below (T.setTop g) target := by
  obtain ⟨mk, methM, cM, hnamed, hmethM, -, -, -, -, -, -, hsigM⟩ := Cond.codeWith_spec hcode
  have hstatic : methM.isStatic = true := Cond.static_spec hnamed hmethM hstat
  obtain ⟨kP, hkP, -⟩ := className_of_methodNamed hnamed
  have hinitP : kP.init = .initialized := Cond.initialized_spec (findClass_of_methodNamed hnamed) hkP hinit
  obtain ⟨vm₁, X₁, hstep₁⟩ := X.invokestatic hexec hown hlink hnamed hmethM hstatic hkP hinitP hy (g := g) hg (argsL := argsL) (rest := rest) (hlen _ hsigM) hstack hdg
  obtain ⟨v, B, X', hpost, hsteps⟩ := hK m meth c ⟨T.setVm vm₁, locs, cells, slots⟩ { g with stack := rest } (.invokestatic index) mk argsL.toArray X₁ hg hsize hdg hW (X₁.named hnamed) (hpre vm₁ X₁.warmed)
  exact ⟨v, vm₁, B, X₁.warmed, X', hpost, fun target h => hstep₁ _ fun acts => by rw [doInvoke_state]; exact hsteps.trans h⟩
theorem vx_runSW {y : MethodName} {bytes cc : ByteArray} {maxL nL mc ms n index : Nat} {ret : Option FieldType} {hh : List (Nat × Nat × Nat × Nat)} {ws : List Cond} {rm : Room} {Pc : Array Value → State → Prop} {Qc : Array Value → State → Outcome → State → Prop} {free : Addr → Prop} {Ts : List Cond} {own : String} {As rest : List Value} {g : JFrame}
    (S : CallFix p m c cc nL s args Ts own) (hM : Met l y ws rm Pc Qc mc ms free) (cw : vx_CSW R s args own index y bytes maxL ret hh ws rm mc ms n) (hp : PreS s H Pc As)
    (hg : g.method = m) (hn : As.length = n) (hsize : g.locals.size = nL) (hstack : g.stack = As.reverse ++ rest) (hW : 2 * g.monitorRoom + (rest.map fun v => v.category).sum ≤ 8) (hdg : decode cc g.pc = .ok (.invokestatic index, 3)) (hf : cells + mc ≤ R.cells ∧ slots + ms ≤ R.slots) :
    va_Run p l e R s m args below meth c H locs cells slots mc ms g rest (Qc As.toArray) (free) := by
  obtain ⟨⟨hrc, hrs, hfr, hlo, hws, hcw⟩, hcode, hini, hy, hlen, hl, hstt⟩ := cw
  have hK : Back l R p e below s args y 3 8 (PreOf R mc ms Pc) (PostOf Qc mc ms free) := va_backW (hh := hh) (bytes := bytes) (maxL := maxL) (ret := ret) hM hp.1 hrc hrs hfr hlo hws hcw (fun a' U hW => word_at hW (Or.inl (by first | rfl | simp [Cond.onTables, Cond.keeps, Cond.steady])) hini)
  obtain ⟨hx, hb, hml, ho, -⟩ := S
  intro T hT X
  obtain ⟨v, vm₁, ⟨U', l2, c2, s2⟩, hW₁, X', ⟨g', mk, t, L, e1, e2, hq, h1, hL, h2, h3⟩, st⟩ := vx_callSW X hx (hh := hh) (bytes := bytes) (maxL := maxL) (ret := ret) ho hl hstt hini hcode hy hK hg (hsize.trans hml.symm) (argsL := As) (rest := rest) (fun sig h => hn.trans (hlen sig h)) hstack hW (by rw [hb]; exact hdg)
    (fun vm₁ hW₁ => ⟨hf.1, hf.2, hp.2 (T.setVm vm₁) hT hW₁⟩)
  dsimp only [Pt.U, Pt.locs, Pt.cells, Pt.slots] at X' e1 e2 h1 h2 h3 st
  subst h1; subst h2; subst h3
  exact ⟨v, (T.setVm vm₁).calling g' mk As.toArray, t, U', L, hT, X', hL, e1, e2, hq, st⟩
/-- not caught here, past rows that name other classes: it goes on to the caller -/
theorem vx_outP {p : Program} {l : Launch} {e : Env} {R : Room} {s : State} {m : MethodId} {args : Array Value} {below : List Frame} {meth : Method} {c : Code} {H : Heap} {locs : List Loc} {cells slots : Nat} {free : Addr → Prop} {ls : Array Slot} {rest : List Value} {Qc : Array Value → State → Outcome → State → Prop} {XC : String → State → State → Prop}
    {pc : Nat} {own E : String} {ce : Cell} {q : Addr} {mc ms : Nat} (hown : s.vm.findClass own = some m.cls) (hlocks : meth.locks = false)
    (hpass : ∀ z ∈ c.exceptionTable.toList, covers z pc = false ∨ (z.catchType ≠ 0 ∧ ∃ nm : String, (Cond.classLink own z.catchType nm).before args s = true ∧ va_Nc E nm s)) (hcell : H[q]? = some ce) (hv : ce.vm = .none) (hcl : s.vm.findClass E = some ce.cls)
    (hx : ∀ t : State, t.heap = H → s.vm.Alike t.vm → XC E s t) (hf : ∀ z ∈ locs, free z.base) (hc : cells ≤ mc) (hs : slots ≤ ms) :
    vx_W p l e R s m args below meth c H locs cells slots (vx_MQ below Qc XC args s mc ms free) (F0 m pc ls rest) q := by
  intro T hT X
  have hpl : e.platform.magicAccessors = ({} : Platform).magicAccessors := by rw [X.admits.platform]
  obtain ⟨vm', hW', X', st⟩ := X.outThrough hlocks q (g := F0 m pc ls rest) rfl rfl rfl (cell := ce) (by rw [hT]; exact hcell) (by rw [hv]; rfl)
    (by obtain ⟨k9, h9, -⟩ := Vm.findClass_spec hcl; exact ⟨k9, h9⟩) (fun z hz => by
      rcases hpass z hz with h | ⟨hz0, nm, hl1, hn1⟩
      · exact Or.inl h
      · obtain ⟨c6, hc6, hcl6⟩ := Cond.classLink_spec hown hl1 e.platform hpl
        obtain ⟨a8, b8, h1, h2, h3⟩ := hn1
        cases Option.some.inj (h1.symm.trans hcl)
        cases Option.some.inj (h2.symm.trans hc6)
        exact Or.inr ⟨hz0, _, hcl6, h3⟩)
  obtain ⟨g₀, hfr⟩ := X'.frames_eq
  have hcell9 : ((T.setVm vm').setFrames (.throwing q :: below)).heap[q]? = some ce := by
    show T.heap[q]? = some ce
    rw [hT]; exact hcell
  have hend : Ended ((T.setVm vm').setFrames (.throwing q :: below)) below (.threw q) := State.frames_setFrames _ (State.cur_lt_of_frames hfr)
  refine ⟨(T.setVm vm').setFrames (.throwing q :: below), ?_, .threw q, X'.here.running, hend, Or.inr ⟨q, rfl, E, ce, locs, hx _ hT (X'.ends _).1.alike, hcell9, hv, hcl, (X'.ends _).1, (X'.ends _).2.mono hc hs, hf⟩⟩
  rw [X.pushThrowing_eq]
  exact st
/-- a thing of a world lies in the heap -/
theorem vx_lt {D : va_G} {cl : List vw_C} {ws : va_W} {H1 : Heap} (h : va_P D cl ws H1) {k : Nat} {q : Nat × va_E} (hk : ws[k]? = some q) : q.1 < H1.size := (h k q hk).lt
end VXS
/-! ===== END ===== -/
/-! ===== BEGIN methods with a table of their own: called by a name, returning or throwing ===== -/
section VXH
/-! vx_backW, vx_callVX, vx_callSX, vx_callVW, vx_runVW, vx_runVX, vx_runSX, vx_ofWH follow the same proofs as their sisters above (Free/Laws.lean, Shelf42/LK1.lean); vx_outP calls Shelf42/NT130.lean (outThrough). -/
section
variable {l : Launch} {R : Room} {p : Program} {e : Env} {below : List Frame} {s : State} {sargs : Array Value} {y : MethodName} {len W9 : Nat}
theorem vx_backW {ws : List Cond} {rm : Room} {Pc : Array Value → State → Prop} {Qc : Array Value → State → Outcome → State → Prop} {XC : String → State → State → Prop} {mc ms : Nat} {free : Addr → Prop} {bytes : ByteArray} {maxL : Nat} {ret : Option FieldType} {hh : List (Nat × Nat × Nat × Nat)}
    (hM : vx_Met l y ws rm Pc Qc XC mc ms free) (hblind : FrameBlind Pc) (hrc : rm.cells = mc) (hrs : rm.slots = ms)
    (hframes : rm.frames + 1 ≤ R.frames) (hlocals : W9 + (maxL + 11) + rm.locals ≤ R.locals)
    (hws : ∀ w ∈ ws, ∀ a' U, s.WarmedH U.vm → w.before a' U = true) (hcode : Cond.codeWith y bytes maxL ret hh ∈ ws) (hinit : ∀ a' U, s.WarmedH U.vm → (Cond.initialized y.cls).before a' U = true) :
    vx_Back l R p e below s sargs y len W9 (PreOf R mc ms Pc) (PostOf Qc mc ms free) (vx_Post XC mc ms free) := by
  intro m meth c A g ig mk a X hg hsize hdg hW hn hp
  have h1 : (headSpec ws rm).pre.before a A.U = true := atoms_intro fun w hw => hws w hw _ _ X.warmed
  have h2 : (Cond.codeWith y bytes maxL ret hh).before a A.U = true := hws _ hcode _ _ X.warmed
  have h3 : (Cond.initialized y.cls).before a A.U = true := hinit _ _ X.warmed
  have h4 : A.cells + (headSpec ws rm).room.cells ≤ R.cells := by rw [show (headSpec ws rm).room.cells = mc from hrc]; exact hp.1
  have h5 : A.slots + (headSpec ws rm).room.slots ≤ R.slots := by rw [show (headSpec ws rm).room.slots = ms from hrs]; exact hp.2.1
  have hPc : Pc a (A.U.calling g mk a) := hblind _ _ _ _ hp.2.2
  obtain ⟨U, Ls, c0, s0⟩ := A
  dsimp only [Pt.U, Pt.locs, Pt.cells, Pt.slots] at h1 h2 h3 h4 h5 X hn hPc ⊢
  obtain ⟨m9, methY, cY, hn9, hmY, hcY, -, hlY, -⟩ := Cond.codeWith_spec h2
  cases Option.some.inj (hn9.symm.trans hn)
  obtain ⟨kY, hkY, -⟩ := className_of_methodNamed hn
  have hinitY : kY.init = .initialized := Cond.initialized_spec (findClass_of_methodNamed hn) hkY h3
  have h : At U g.method c below := by rw [hg]; exact X.here
  have hlocals9 : W9 + (maxL + 11) + (headSpec ws rm).room.locals ≤ R.locals := hlocals
  have happ : (headSpec ws rm).appliesLoose y e.platform (U.calling g mk a) = true :=
    Spec.appliesLoose_calling (g := g) h hdg hn hkY hinitY
      (X.room_calling (g := g) (R' := (headSpec ws rm).room) hsize hmY hcY hframes (by rw [hlY]; omega) h4 h5) h1
  obtain ⟨mid, hmid⟩ := h.above
  have hfr : (U.setTop g).frames = (.java g :: mid) ++ below := by rw [State.frames_setTop' g h.top, hmid]; rfl
  obtain ⟨o, s₂, hsteps, -, hend, hq⟩ := Steps.callFree hM p X.admits X.cas X.clock (acts := []) hfr happ hPc trivial
  have hq' : vx_Q Qc XC mc ms free a (U.calling g mk a) o s₂ := hq
  rw [State.frames_setTop' g h.top] at hend
  obtain ⟨g₀, hg0⟩ := Option.isSome_iff_exists.mp h.top
  obtain ⟨r, hr⟩ := State.topJava?_eq_some.mp hg0
  have hr' : (({ U with heap := s₂.heap, slotsUsed := s₂.slotsUsed } : State).setVm s₂.vm).frames = .java g₀ :: r := hr
  rcases hq' with ⟨hqc, L, hfe, hL⟩ | ⟨q, rfl, E, ce, L, hx, hce, hcv, hcl, hW₂, hsm, hL⟩
  · obtain ⟨⟨v, rfl⟩, hW₂, e2, q2, q3, q4, q5, q6⟩ := id hfe
    have e3 : s₂ = ({ (U.calling g mk a).setFrames s₂.frames with heap := s₂.heap, slotsUsed := s₂.slotsUsed } : State).setVm s₂.vm := by
      have : s₂ = ({ s₂ with vm := (U.calling g mk a).vm } : State).setVm s₂.vm := rfl
      rw [e2] at this
      exact this
    obtain ⟨c₂, i₂, len₂, hc₂, hd₂, hf₂⟩ := hend
    have hW' : U.WarmedH s₂.vm := hW₂
    have hcc : c₂ = c := by
      have h1 : s₂.code? g.method = U.code? g.method := by
        rw [State.code?_eq, State.code?_eq, hW'.alike.method?]
      exact Option.some.inj (hc₂.symm.trans (h1.trans h.code))
    subst hcc
    have hlen : len₂ = len := by rw [hdg] at hd₂; cases hd₂; rfl
    subst hlen
    have hs₂ : s₂ = (({ U with heap := s₂.heap, slotsUsed := s₂.slotsUsed } : State).setVm s₂.vm).setTop { g with pc := g.pc + len₂, stack := v.toList ++ g.stack } := by
      refine e3.trans ?_
      rw [hf₂, State.calling_eq h.top, State.setFrames_setFrames, State.setTop_of_frames _ hr', hr]
      rfl
    have hsame : U.sameButNew ({ U with heap := s₂.heap, slotsUsed := s₂.slotsUsed } : State) L mc ms := by
      refine ⟨?_, q2, q3, q4, q5, q6⟩
      obtain ⟨t, ht, -⟩ := State.frames_cons hr
      show ({ U with heap := s₂.heap, slotsUsed := s₂.slotsUsed } : State) = { U.setFrames U.frames with heap := s₂.heap, slotsUsed := s₂.slotsUsed }
      rw [State.setFrames_self ht]
    subst hg
    refine Or.inl ⟨v, ⟨(({ U with heap := s₂.heap, slotsUsed := s₂.slotsUsed } : State).setVm s₂.vm), Ls ++ L, c0 + mc, s0 + ms⟩,
      ⟨X.admits, X.cas, X.clock, X.frames, X.room, X.hears, X.method, X.code, (X.here.setHeapUsed s₂.heap s₂.slotsUsed).setVm hW'.alike, X.tail, State.WarmedH.trans X.warmed hW', X.limits, X.bytes, X.same.trans (hsame.setVm s.vm)⟩,
      ⟨g, mk, s₂, L, rfl, rfl, hqc, rfl, hL, rfl, rfl⟩, ?_⟩
    show Steps p.tables e below _ ((({ U with heap := s₂.heap, slotsUsed := s₂.slotsUsed } : State).setVm s₂.vm).setTop { g with pc := g.pc + len₂, stack := v.toList ++ g.stack })
    rw [← hs₂]
    exact hsteps
  · obtain ⟨e2, q2, q3, q4, q5, q6⟩ := id hsm
    have e3 : s₂ = ({ (U.calling g mk a).setFrames s₂.frames with heap := s₂.heap, slotsUsed := s₂.slotsUsed } : State).setVm s₂.vm := by
      have : s₂ = ({ s₂ with vm := (U.calling g mk a).vm } : State).setVm s₂.vm := rfl
      rw [e2] at this
      exact this
    have hf₂ : s₂.frames = .throwing q :: .java g :: U.frames.tail := hend
    have hW' : U.WarmedH s₂.vm := hW₂
    have hs₂ : s₂ = ((({ U with heap := s₂.heap, slotsUsed := s₂.slotsUsed } : State).setVm s₂.vm).setTop g).pushFrame (.throwing q) := by
      refine e3.trans ?_
      rw [hf₂, State.calling_eq h.top, State.setFrames_setFrames, State.pushFrame, State.frames_setTop _ hr', State.setTop_of_frames _ hr', State.setFrames_setFrames, hr]
      rfl
    have hsame : U.sameButNew ({ U with heap := s₂.heap, slotsUsed := s₂.slotsUsed } : State) L mc ms := by
      refine ⟨?_, q2, q3, q4, q5, q6⟩
      obtain ⟨t, ht, -⟩ := State.frames_cons hr
      show ({ U with heap := s₂.heap, slotsUsed := s₂.slotsUsed } : State) = { U.setFrames U.frames with heap := s₂.heap, slotsUsed := s₂.slotsUsed }
      rw [State.setFrames_self ht]
    subst hg
    refine Or.inr ⟨q, ⟨(({ U with heap := s₂.heap, slotsUsed := s₂.slotsUsed } : State).setVm s₂.vm), Ls ++ L, c0 + mc, s0 + ms⟩,
      ⟨X.admits, X.cas, X.clock, X.frames, X.room, X.hears, X.method, X.code, (X.here.setHeapUsed s₂.heap s₂.slotsUsed).setVm hW'.alike, X.tail, State.WarmedH.trans X.warmed hW', X.limits, X.bytes, X.same.trans (hsame.setVm s.vm)⟩,
      ⟨g, mk, s₂, L, E, ce, rfl, rfl, hx, hce, hcv, hcl, rfl, hL, rfl, rfl⟩, ?_⟩
    show Steps p.tables e below _ (((({ U with heap := s₂.heap, slotsUsed := s₂.slotsUsed } : State).setVm s₂.vm).setTop g).pushFrame (.throwing q))
    rw [← hs₂]
    exact hsteps
end
variable {p : Program} {l : Launch} {e : Env} {R : Room} {s : State} {m : MethodId} {args : Array Value} {below : List Frame} {meth : Method} {c : Code} {T : State} {H : Heap} {locs : List Loc} {cells slots : Nat}
theorem vx_callVX (X : Stand p l e R s m args below meth c T locs cells slots) (hexec : p.tables.exec = Jvm.exec) {own C : String} {index : Nat} {y : MethodName} {bytes : ByteArray} {maxL : Nat} {ret : Option FieldType} {hh : List (Nat × Nat × Nat × Nat)}
    (hown : s.vm.findClass own = some m.cls) (hlink : (Cond.methodLink own index y).before args s = true) (hinst : (Cond.instanceMethod y).before args s = true) (hsel : (Cond.selects C y y).before args s = true)
    (hcode : (Cond.codeWith y bytes maxL ret hh).before args s = true) (hy : y.cls ≠ "java/lang/invoke/MethodHandle" ∧ y.cls ≠ "java/lang/invoke/VarHandle")
    {W9 : Nat} {Pre : Pt → Array Value → Prop} {Post : Pt → Array Value → Option Value → Pt → Prop} {PostX : Pt → Array Value → Addr → Pt → Prop} (hK : vx_Back l R p e below s args y 3 W9 Pre Post PostX)
    {b : Addr} {cellB : Cell} (hcell : T.heap[b]? = some cellB) (hobj : cellB.vm.isStatics = false) (hcls : s.vm.findClass C = some cellB.cls)
    {g : JFrame} (hg : g.method = m) (hsize : g.locals.size = c.maxLocals) {argsL rest : List Value} (hlen : ∀ sig, parseMethodDescriptor y.desc = some sig → argsL.length = sig.parameters.length)
    (hstack : g.stack = argsL.reverse ++ .ref b :: rest) (hW : 2 * g.monitorRoom + (rest.map fun v => v.category).sum ≤ W9) (hdg : decode c.code g.pc = .ok (.invokevirtual index, 3))
    (hpre : ∀ vm₁, s.WarmedH vm₁ → Pre ⟨T.setVm vm₁, locs, cells, slots⟩ (Value.ref b :: argsL).toArray) :
    (∃ (v : Option Value) (vm₁ : Vm) (B : Pt), s.WarmedH vm₁ ∧ Stand p l e R s m args below meth c B.U B.locs B.cells B.slots ∧ Post ⟨T.setVm vm₁, locs, cells, slots⟩ (Value.ref b :: argsL).toArray v B ∧
      ∀ target, Steps p.tables e below (B.U.setTop { g with pc := g.pc + 3, stack := v.toList ++ rest }) target → Steps p.tables e below (T.setTop g) target) ∨
    (∃ (q : Addr) (vm₁ : Vm) (B : Pt), s.WarmedH vm₁ ∧ Stand p l e R s m args below meth c B.U B.locs B.cells B.slots ∧ PostX ⟨T.setVm vm₁, locs, cells, slots⟩ (Value.ref b :: argsL).toArray q B ∧
      Steps p.tables e below (T.setTop g) ((B.U.setTop { g with stack := rest }).pushFrame (.throwing q))) := by
  obtain ⟨mk, methM, hnamed, hmethM, hstM, habM⟩ := Cond.instanceMethod_spec hinst
  obtain ⟨m8, methM', cM, hn8, hmethM', -, -, -, -, -, -, hsigM⟩ := Cond.codeWith_spec hcode
  cases Option.some.inj (hn8.symm.trans hnamed)
  cases hmethM.symm.trans hmethM'
  obtain ⟨c2, r2, m2, q1, q2, q3, q4, kP, hkP, hkPi⟩ := Cond.selects_spec hsel
  cases hcls.symm.trans q1
  cases (State.methodFound?_of_named hnamed hy).symm.trans q2
  cases hnamed.symm.trans q3
  have hselP : selectMethod e.platform s.vm cellB.cls mk = .method mk := by rw [Launch.admits_selectMethod X.admits]; exact q4
  obtain ⟨vm₁, X₁, hstep₁⟩ := X.invokevirtual hexec hown hlink hnamed hmethM hstM hkP hkPi hy (a := b) (cell := cellB) hcell
    (fun z h => by rw [h] at hobj; cases hobj) hselP hmethM habM hkP hkPi (g := g) hg (argsL := argsL) (rest := rest) (hlen _ hsigM) hstack hdg
  rcases hK m meth c ⟨T.setVm vm₁, locs, cells, slots⟩ { g with stack := rest } (.invokevirtual index) mk (Value.ref b :: argsL).toArray X₁ hg hsize hdg hW (X₁.named hnamed) (hpre vm₁ X₁.warmed) with ⟨v, B, X', hpost, hsteps⟩ | ⟨q, B, X', hpost, hsteps⟩
  · exact Or.inl ⟨v, vm₁, B, X₁.warmed, X', hpost, fun target h => hstep₁ _ fun acts => by rw [doInvoke_state]; exact hsteps.trans h⟩
  · exact Or.inr ⟨q, vm₁, B, X₁.warmed, X', hpost, hstep₁ _ fun acts => by rw [doInvoke_state]; exact hsteps⟩
theorem vx_callSX (X : Stand p l e R s m args below meth c T locs cells slots) (hexec : p.tables.exec = Jvm.exec) {own : String} {index : Nat} {y : MethodName} {bytes : ByteArray} {maxL : Nat} {ret : Option FieldType} {hh : List (Nat × Nat × Nat × Nat)}
    (hown : s.vm.findClass own = some m.cls) (hlink : (Cond.methodLink own index y).before args s = true) (hstat : (Cond.static y).before args s = true) (hinit : (Cond.initialized y.cls).before args s = true)
    (hcode : (Cond.codeWith y bytes maxL ret hh).before args s = true) (hy : y.cls ≠ "java/lang/invoke/MethodHandle" ∧ y.cls ≠ "java/lang/invoke/VarHandle")
    {W9 : Nat} {Pre : Pt → Array Value → Prop} {Post : Pt → Array Value → Option Value → Pt → Prop} {PostX : Pt → Array Value → Addr → Pt → Prop} (hK : vx_Back l R p e below s args y 3 W9 Pre Post PostX)
    {g : JFrame} (hg : g.method = m) (hsize : g.locals.size = c.maxLocals) {argsL rest : List Value} (hlen : ∀ sig, parseMethodDescriptor y.desc = some sig → argsL.length = sig.parameters.length)
    (hstack : g.stack = argsL.reverse ++ rest) (hW : 2 * g.monitorRoom + (rest.map fun v => v.category).sum ≤ W9) (hdg : decode c.code g.pc = .ok (.invokestatic index, 3))
    (hpre : ∀ vm₁, s.WarmedH vm₁ → Pre ⟨T.setVm vm₁, locs, cells, slots⟩ argsL.toArray) :
    (∃ (v : Option Value) (vm₁ : Vm) (B : Pt), s.WarmedH vm₁ ∧ Stand p l e R s m args below meth c B.U B.locs B.cells B.slots ∧ Post ⟨T.setVm vm₁, locs, cells, slots⟩ argsL.toArray v B ∧
      ∀ target, Steps p.tables e below (B.U.setTop { g with pc := g.pc + 3, stack := v.toList ++ rest }) target → Steps p.tables e below (T.setTop g) target) ∨
    (∃ (q : Addr) (vm₁ : Vm) (B : Pt), s.WarmedH vm₁ ∧ Stand p l e R s m args below meth c B.U B.locs B.cells B.slots ∧ PostX ⟨T.setVm vm₁, locs, cells, slots⟩ argsL.toArray q B ∧
      Steps p.tables e below (T.setTop g) ((B.U.setTop { g with stack := rest }).pushFrame (.throwing q))) := by
  obtain ⟨mk, methM, cM, hnamed, hmethM, -, -, -, -, -, -, hsigM⟩ := Cond.codeWith_spec hcode
  have hstatic : methM.isStatic = true := Cond.static_spec hnamed hmethM hstat
  obtain ⟨kP, hkP, -⟩ := className_of_methodNamed hnamed
  have hinitP : kP.init = .initialized := Cond.initialized_spec (findClass_of_methodNamed hnamed) hkP hinit
  obtain ⟨vm₁, X₁, hstep₁⟩ := X.invokestatic hexec hown hlink hnamed hmethM hstatic hkP hinitP hy (g := g) hg (argsL := argsL) (rest := rest) (hlen _ hsigM) hstack hdg
  rcases hK m meth c ⟨T.setVm vm₁, locs, cells, slots⟩ { g with stack := rest } (.invokestatic index) mk argsL.toArray X₁ hg hsize hdg hW (X₁.named hnamed) (hpre vm₁ X₁.warmed) with ⟨v, B, X', hpost, hsteps⟩ | ⟨q, B, X', hpost, hsteps⟩
  · exact Or.inl ⟨v, vm₁, B, X₁.warmed, X', hpost, fun target h => hstep₁ _ fun acts => by rw [doInvoke_state]; exact hsteps.trans h⟩
  · exact Or.inr ⟨q, vm₁, B, X₁.warmed, X', hpost, hstep₁ _ fun acts => by rw [doInvoke_state]; exact hsteps⟩
theorem vx_callVW (X : Stand p l e R s m args below meth c T locs cells slots) (hexec : p.tables.exec = Jvm.exec) {own C : String} {index : Nat} {y : MethodName} {bytes : ByteArray} {maxL : Nat} {ret : Option FieldType} {hh : List (Nat × Nat × Nat × Nat)}
    (hown : s.vm.findClass own = some m.cls) (hlink : (Cond.methodLink own index y).before args s = true) (hinst : (Cond.instanceMethod y).before args s = true) (hsel : (Cond.selects C y y).before args s = true)
    (hcode : (Cond.codeWith y bytes maxL ret hh).before args s = true) (hy : y.cls ≠ "java/lang/invoke/MethodHandle" ∧ y.cls ≠ "java/lang/invoke/VarHandle")
    {W9 : Nat} {Pre : Pt → Array Value → Prop} {Post : Pt → Array Value → Option Value → Pt → Prop} (hK : Back l R p e below s args y 3 W9 Pre Post)
    {b : Addr} {cellB : Cell} (hcell : T.heap[b]? = some cellB) (hobj : cellB.vm.isStatics = false) (hcls : s.vm.findClass C = some cellB.cls)
    {g : JFrame} (hg : g.method = m) (hsize : g.locals.size = c.maxLocals) {argsL rest : List Value} (hlen : ∀ sig, parseMethodDescriptor y.desc = some sig → argsL.length = sig.parameters.length)
    (hstack : g.stack = argsL.reverse ++ .ref b :: rest) (hW : 2 * g.monitorRoom + (rest.map fun v => v.category).sum ≤ W9) (hdg : decode c.code g.pc = .ok (.invokevirtual index, 3))
    (hpre : ∀ vm₁, s.WarmedH vm₁ → Pre ⟨T.setVm vm₁, locs, cells, slots⟩ (Value.ref b :: argsL).toArray) :
    ∃ (v : Option Value) (vm₁ : Vm) (B : Pt), s.WarmedH vm₁ ∧ Stand p l e R s m args below meth c B.U B.locs B.cells B.slots ∧ Post ⟨T.setVm vm₁, locs, cells, slots⟩ (Value.ref b :: argsL).toArray v B ∧
      ∀ target, Steps p.tables e below (B.U.setTop { g with pc := g.pc + 3, stack := v.toList ++ rest }) target → Steps p.tables e below (T.setTop g) target := by
  obtain ⟨mk, methM, hnamed, hmethM, hstM, habM⟩ := Cond.instanceMethod_spec hinst
  obtain ⟨m8, methM', cM, hn8, hmethM', -, -, -, -, -, -, hsigM⟩ := Cond.codeWith_spec hcode
  cases Option.some.inj (hn8.symm.trans hnamed)
  cases hmethM.symm.trans hmethM'
  obtain ⟨c2, r2, m2, q1, q2, q3, q4, kP, hkP, hkPi⟩ := Cond.selects_spec hsel
  cases hcls.symm.trans q1
  cases (State.methodFound?_of_named hnamed hy).symm.trans q2
  cases hnamed.symm.trans q3
  have hselP : selectMethod e.platform s.vm cellB.cls mk = .method mk := by rw [Launch.admits_selectMethod X.admits]; exact q4
  obtain ⟨vm₁, X₁, hstep₁⟩ := X.invokevirtual hexec hown hlink hnamed hmethM hstM hkP hkPi hy (a := b) (cell := cellB) hcell
    (fun z h => by rw [h] at hobj; cases hobj) hselP hmethM habM hkP hkPi (g := g) hg (argsL := argsL) (rest := rest) (hlen _ hsigM) hstack hdg
  obtain ⟨v, B, X', hpost, hsteps⟩ := hK m meth c ⟨T.setVm vm₁, locs, cells, slots⟩ { g with stack := rest } (.invokevirtual index) mk (Value.ref b :: argsL).toArray X₁ hg hsize hdg hW (X₁.named hnamed) (hpre vm₁ X₁.warmed)
  exact ⟨v, vm₁, B, X₁.warmed, X', hpost, fun target h => hstep₁ _ fun acts => by rw [doInvoke_state]; exact hsteps.trans h⟩
abbrev vx_CVW (R : Room) (s : State) (args : Array Value) (own C : String) (index : Nat) (y : MethodName) (bytes : ByteArray) (maxL : Nat) (ret : Option FieldType) (hh : List (Nat × Nat × Nat × Nat)) (ws : List Cond) (rm : Room) (mc ms n : Nat) : Prop :=
  (rm.cells = mc ∧ rm.slots = ms ∧ rm.frames + 1 ≤ R.frames ∧ 8 + (maxL + 11) + rm.locals ≤ R.locals ∧ (∀ w ∈ ws, ∀ (a' : Array Value) (U : State), s.WarmedH U.vm → w.before a' U = true) ∧ Cond.codeWith y bytes maxL ret hh ∈ ws) ∧
  (Cond.codeWith y bytes maxL ret hh).before args s = true ∧ (Cond.initialized y.cls).before args s = true ∧ (y.cls ≠ "java/lang/invoke/MethodHandle" ∧ y.cls ≠ "java/lang/invoke/VarHandle") ∧
  (∀ sig, parseMethodDescriptor y.desc = some sig → n = sig.parameters.length) ∧ (Cond.methodLink own index y).before args s = true ∧ (Cond.instanceMethod y).before args s = true ∧ (Cond.selects C y y).before args s = true
theorem vx_cwVW {own C : String} {index maxL mc ms : Nat} {y : MethodName} {bytes : ByteArray} {ret : Option FieldType} {hh : List (Nat × Nat × Nat × Nat)} {Ts ws ws' : List Cond} {rm : Room} (n : Nat) (ht : ∀ w ∈ Ts, w.before args s = true) (hT : GoodIn Ts (wsV own index C y ws)) (hw : ws = Cond.codeWith y bytes maxL ret hh :: ws') (hrc : rm.cells = mc) (hrs : rm.slots = ms)
    (hd : y.cls = C ∧ y.cls ≠ "java/lang/invoke/MethodHandle" ∧ y.cls ≠ "java/lang/invoke/VarHandle" ∧ (parseMethodDescriptor y.desc).map (fun d => d.parameters.length) = some n) (hR : rm.frames + 1 ≤ R.frames ∧ 8 + (maxL + 11) + rm.locals ≤ R.locals) :
    vx_CVW R s args own C index y bytes maxL ret hh ws rm mc ms n := by
  obtain ⟨hC, hd⟩ := hd
  subst hC
  have ok : ∀ w ∈ wsV own index y.cls y ws, w.before args s = true := fun w h => ht w (hT w h).1
  have hG : GoodIn Ts ws := fun w h => hT w (by unfold wsV; exact List.mem_append_right _ h)
  have hc : Cond.codeWith y bytes maxL ret hh ∈ ws := by rw [hw]; exact List.mem_cons_self
  refine ⟨⟨hrc, hrs, hR.1, hR.2, pay_in ht hG, hc⟩, ht _ (hG _ hc).1, ok _ (by simp [wsV]), ⟨hd.1, hd.2.1⟩, fun sig h => ?_, ok _ (by simp [wsV]), ok _ (by simp [wsV]), ok _ (by simp [wsV])⟩
  have h2 := hd.2.2
  rw [h] at h2
  exact (Option.some.inj h2).symm
theorem vx_runVW {y : MethodName} {bytes cc : ByteArray} {maxL nL mc ms n index : Nat} {ret : Option FieldType} {hh : List (Nat × Nat × Nat × Nat)} {ws : List Cond} {rm : Room} {Pc : Array Value → State → Prop} {Qc : Array Value → State → Outcome → State → Prop} {free : Addr → Prop} {Ts : List Cond} {own C : String} {b : Addr} {As rest : List Value} {g : JFrame}
    (S : CallFix p m c cc nL s args Ts own) (hM : Met l y ws rm Pc Qc mc ms free) (cw : vx_CVW R s args own C index y bytes maxL ret hh ws rm mc ms n) (hp : PreV s H C b Pc As)
    (hg : g.method = m) (hn : As.length = n) (hsize : g.locals.size = nL) (hstack : g.stack = As.reverse ++ .ref b :: rest) (hW : 2 * g.monitorRoom + (rest.map fun v => v.category).sum ≤ 8) (hdg : decode cc g.pc = .ok (.invokevirtual index, 3)) (hf : cells + mc ≤ R.cells ∧ slots + ms ≤ R.slots) :
    va_Run p l e R s m args below meth c H locs cells slots mc ms g rest (Qc (Value.ref b :: As).toArray) free := by
  obtain ⟨⟨hrc, hrs, hfr, hlo, hws, hcw⟩, hcode, hini, hy, hlen, hl, hin, hse⟩ := cw
  have hK : Back l R p e below s args y 3 8 (PreOf R mc ms Pc) (PostOf Qc mc ms free) := va_backW (hh := hh) (bytes := bytes) (maxL := maxL) (ret := ret) hM hp.1 hrc hrs hfr hlo hws hcw (fun a' U hW => word_at hW (Or.inl (by first | rfl | simp [Cond.onTables, Cond.keeps, Cond.steady])) hini)
  obtain ⟨hx, hb, hml, ho, -⟩ := S
  obtain ⟨-, ⟨cellB, hcB, hoB, hclB⟩, hPc⟩ := hp
  intro T hT X
  obtain ⟨v, vm₁, ⟨U', l2, c2, s2⟩, hW₁, X', ⟨g', mk, t, L, e1, e2, hq, h1, hL, h2, h3⟩, st⟩ := vx_callVW X hx (C := C) (hh := hh) (bytes := bytes) (maxL := maxL) (ret := ret) ho hl hin hse hcode hy hK (by rw [hT]; exact hcB) hoB hclB hg (hsize.trans hml.symm) (argsL := As) (rest := rest) (fun sig h => hn.trans (hlen sig h)) hstack hW (by rw [hb]; exact hdg)
    (fun vm₁ hW₁ => ⟨hf.1, hf.2, hPc (T.setVm vm₁) hT hW₁⟩)
  dsimp only [Pt.U, Pt.locs, Pt.cells, Pt.slots] at X' e1 e2 h1 h2 h3 st
  subst h1; subst h2; subst h3
  exact ⟨v, (T.setVm vm₁).calling g' mk (Value.ref b :: As).toArray, t, U', L, hT, X', hL, e1, e2, hq, st⟩
section
variable {y : MethodName} {bytes cc : ByteArray} {maxL nL mc ms n index : Nat} {ret : Option FieldType} {ws : List Cond} {rm : Room} {Pc : Array Value → State → Prop} {Qc : Array Value → State → Outcome → State → Prop} {XC : String → State → State → Prop} {free : Addr → Prop} {Ts : List Cond} {own C : String} {b : Addr} {As rest : List Value} {g : JFrame}
theorem vx_runVX {hh : List (Nat × Nat × Nat × Nat)} (S : CallFix p m c cc nL s args Ts own) (hM : vx_Met l y ws rm Pc Qc XC mc ms free) (cw : vx_CVW R s args own C index y bytes maxL ret hh ws rm mc ms n) (hp : PreV s H C b Pc As)
    (hg : g.method = m) (hn : As.length = n) (hsize : g.locals.size = nL) (hstack : g.stack = As.reverse ++ .ref b :: rest) (hW : 2 * g.monitorRoom + (rest.map fun v => v.category).sum ≤ 8) (hdg : decode cc g.pc = .ok (.invokevirtual index, 3)) (hf : cells + mc ≤ R.cells ∧ slots + ms ≤ R.slots) :
    vx_Run p l e R s m args below meth c H locs cells slots mc ms g rest (Qc (Value.ref b :: As).toArray) XC free := by
  obtain ⟨⟨hrc, hrs, hfr, hlo, hws, hcw⟩, hcode, hini, hy, hlen, hl, hin, hse⟩ := cw
  have hK : vx_Back l R p e below s args y 3 8 (PreOf R mc ms Pc) (PostOf Qc mc ms free) (vx_Post XC mc ms free) := vx_backW (hh := hh) (bytes := bytes) (maxL := maxL) (ret := ret) hM hp.1 hrc hrs hfr hlo hws hcw (fun a' U hW => word_at hW (Or.inl (by first | rfl | simp [Cond.onTables, Cond.keeps, Cond.steady])) hini)
  obtain ⟨hx, hb, hml, ho, -⟩ := S
  obtain ⟨-, ⟨cellB, hcB, hoB, hclB⟩, hPc⟩ := hp
  intro T hT X
  rcases vx_callVX X hx (C := C) (hh := hh) (bytes := bytes) (maxL := maxL) (ret := ret) ho hl hin hse hcode hy hK (by rw [hT]; exact hcB) hoB hclB hg (hsize.trans hml.symm) (argsL := As) (rest := rest) (fun sig h => hn.trans (hlen sig h)) hstack hW (by rw [hb]; exact hdg)
    (fun vm₁ hW₁ => ⟨hf.1, hf.2, hPc (T.setVm vm₁) hT hW₁⟩) with ⟨v, vm₁, ⟨U', l2, c2, s2⟩, hW₁, X', ⟨g', mk, t, L, e1, e2, hq, h1, hL, h2, h3⟩, st⟩ | ⟨q, vm₁, ⟨U', l2, c2, s2⟩, hW₁, X', ⟨g', mk, t, L, E, ce, e1, e2, hq, hce, hcv, hcl, h1, hL, h2, h3⟩, st⟩
  · dsimp only [Pt.U, Pt.locs, Pt.cells, Pt.slots] at X' e1 e2 h1 h2 h3 st
    subst h1; subst h2; subst h3
    exact Or.inl ⟨v, (T.setVm vm₁).calling g' mk (Value.ref b :: As).toArray, t, U', L, hT, X', hL, e1, e2, hq, st⟩
  · dsimp only [Pt.U, Pt.locs, Pt.cells, Pt.slots] at X' e1 e2 h1 h2 h3 st hcl
    subst h1; subst h2; subst h3
    exact Or.inr ⟨q, (T.setVm vm₁).calling g' mk (Value.ref b :: As).toArray, t, U', L, E, ce, hT, X', hL, e1, e2, hq, hce, hcv, vx_cls hW₁ hcl, st⟩
theorem vx_runSX {hh : List (Nat × Nat × Nat × Nat)} (S : CallFix p m c cc nL s args Ts own) (hM : vx_Met l y ws rm Pc Qc XC mc ms free) (cw : vx_CSW R s args own index y bytes maxL ret hh ws rm mc ms n) (hp : PreS s H Pc As)
    (hg : g.method = m) (hn : As.length = n) (hsize : g.locals.size = nL) (hstack : g.stack = As.reverse ++ rest) (hW : 2 * g.monitorRoom + (rest.map fun v => v.category).sum ≤ 8) (hdg : decode cc g.pc = .ok (.invokestatic index, 3)) (hf : cells + mc ≤ R.cells ∧ slots + ms ≤ R.slots) :
    vx_Run p l e R s m args below meth c H locs cells slots mc ms g rest (Qc As.toArray) XC free := by
  obtain ⟨⟨hrc, hrs, hfr, hlo, hws, hcw⟩, hcode, hini, hy, hlen, hl, hstt⟩ := cw
  have hK : vx_Back l R p e below s args y 3 8 (PreOf R mc ms Pc) (PostOf Qc mc ms free) (vx_Post XC mc ms free) := vx_backW (hh := hh) (bytes := bytes) (maxL := maxL) (ret := ret) hM hp.1 hrc hrs hfr hlo hws hcw (fun a' U hW => word_at hW (Or.inl (by first | rfl | simp [Cond.onTables, Cond.keeps, Cond.steady])) hini)
  obtain ⟨hx, hb, hml, ho, -⟩ := S
  intro T hT X
  rcases vx_callSX X hx (hh := hh) (bytes := bytes) (maxL := maxL) (ret := ret) ho hl hstt hini hcode hy hK hg (hsize.trans hml.symm) (argsL := As) (rest := rest) (fun sig h => hn.trans (hlen sig h)) hstack hW (by rw [hb]; exact hdg)
    (fun vm₁ hW₁ => ⟨hf.1, hf.2, hp.2 (T.setVm vm₁) hT hW₁⟩) with ⟨v, vm₁, ⟨U', l2, c2, s2⟩, hW₁, X', ⟨g', mk, t, L, e1, e2, hq, h1, hL, h2, h3⟩, st⟩ | ⟨q, vm₁, ⟨U', l2, c2, s2⟩, hW₁, X', ⟨g', mk, t, L, E, ce, e1, e2, hq, hce, hcv, hcl, h1, hL, h2, h3⟩, st⟩
  · dsimp only [Pt.U, Pt.locs, Pt.cells, Pt.slots] at X' e1 e2 h1 h2 h3 st
    subst h1; subst h2; subst h3
    exact Or.inl ⟨v, (T.setVm vm₁).calling g' mk As.toArray, t, U', L, hT, X', hL, e1, e2, hq, st⟩
  · dsimp only [Pt.U, Pt.locs, Pt.cells, Pt.slots] at X' e1 e2 h1 h2 h3 st hcl
    subst h1; subst h2; subst h3
    exact Or.inr ⟨q, (T.setVm vm₁).calling g' mk As.toArray, t, U', L, E, ce, hT, X', hL, e1, e2, hq, hce, hcv, vx_cls hW₁ hcl, st⟩
end
end VXH
theorem vx_ofWH {l : Launch} {y : MethodName} {ws ws' : List Cond} {rm : Room} {Pc : Array Value → State → Prop} {Qc : Array Value → State → Outcome → State → Prop} {XC : String → State → State → Prop} {mc ms : Nat} {free : Addr → Prop} {cc : ByteArray} {maxL : Nat} {ret : Option FieldType} {hh : List (Nat × Nat × Nat × Nat)}
    (hy : plainName y.cls = true) (hw : ws = Cond.codeWith y cc maxL ret hh :: ws')
    (body : ∀ p e s m args below meth c s₁, BodyLoose p l y (headSpec ws rm) cc maxL ret e s m args below meth c s₁ → c.maxLocals = maxL → Pc args s →
      W p l e (headSpec ws rm).room s m args below meth c s.heap [] 0 0 (vx_MQ below Qc XC args s mc ms free) (entryFrame m args maxL)) : vx_Met l y ws rm Pc Qc XC mc ms free := by
  refine MetFree.of_bodyS (code := cc) (maxLocals := maxL) (ret := ret) hy ?_ ?_
  · intro args s m h hn
    obtain ⟨m9, meth, c, hn9, h1, h2, h3, h4, -, h5, h6, -⟩ := Cond.codeWith_spec (atoms_spec (ws := ws) h _ (by rw [hw]; exact List.mem_cons_self))
    cases hn.symm.trans hn9
    exact ⟨meth, c, h1, h2, h3, h4, h5, h6⟩
  · intro p e s m args below meth c s₁ B hml hP _
    have hh0 : s₁.heap = s.heap := by rw [B.state]; rfl
    obtain ⟨t, a1, o, b1, b2, b3⟩ := body p e s m args below meth c s₁ B hml hP s₁ hh0 (Stand.of_body B)
    exact ⟨t, o, a1, b1, b2, b3⟩
/-! ===== END ===== -/
end
section
/-! ===== BEGIN printed: names, fields, word lists, decode rows ===== -/
def RX0 : String := "LockBank$Canal"
def TX0 : u_T := fun k => match k with
  | 0 => ("LockBank$Canal", "hour", "I", false)
  | 1 => ("LockBank$Canal", "bank", "I", false)
  | 2 => ("LockBank$Canal", "fee", "I", false)
  | 3 => ("LockBank$Canal", "drought", "Z", false)
  | 4 => ("LockBank$Canal", "millPound", "I", false)
  | 5 => ("LockBank$Canal", "mark", "I", false)
  | 6 => ("LockBank$Canal", "spring", "[I", true)
  | 7 => ("LockBank$Canal", "level", "[I", true)
  | 8 => ("LockBank$Canal", "ranOver", "[I", true)
  | 9 => ("LockBank$Canal", "drawn", "[I", true)
  | 10 => ("LockBank$Canal", "full", "[Z", true)
  | 11 => ("LockBank$Canal", "lockings", "[I", true)
  | 12 => ("LockBank$Canal", "filled", "[I", true)
  | 13 => ("LockBank$Canal", "barges", "I", false)
  | 14 => ("LockBank$Canal", "at", "[I", true)
  | 15 => ("LockBank$Canal", "goal", "[I", true)
  | 16 => ("LockBank$Canal", "purse", "[I", true)
  | _ => ("LockBank$Canal", "served", "[I", true)
def tyX0 : Nat → FieldType := fun k => match k with
  | 0 => .int
  | 1 => .int
  | 2 => .int
  | 3 => .boolean
  | 4 => .int
  | 5 => .int
  | 6 => .array .int
  | 7 => .array .int
  | 8 => .array .int
  | 9 => .array .int
  | 10 => .array .boolean
  | 11 => .array .int
  | 12 => .array .int
  | 13 => .int
  | 14 => .array .int
  | 15 => .array .int
  | 16 => .array .int
  | _ => .array .int
abbrev wsX00 : List Cond := u_ws RX0 TX0 18
theorem nmX0 : ∀ a, a < 18 → ∀ b, b < 18 → a ≠ b → (TX0 a).2.1 ≠ (TX0 b).2.1 := by decide +kernel
theorem tyX0_ok : ∀ k, k < 18 → parseFieldDescriptor (TX0 k).2.2.1 = some (tyX0 k) := by decide +kernel
abbrev cX0_init : ByteArray := prog_2_method_1_code
def yX0_init : MethodName := ⟨RX0, "<init>", "()V"⟩
abbrev cX0_copyFrom : ByteArray := prog_2_method_2_code
def yX0_copyFrom : MethodName := ⟨RX0, "copyFrom", "(LLockBank$Canal;)V"⟩
abbrev cX0_goHours : ByteArray := prog_2_method_3_code
def yX0_goHours : MethodName := ⟨RX0, "goHours", "(I)I"⟩
abbrev cX0_goHour : ByteArray := prog_2_method_4_code
def yX0_goHour : MethodName := ⟨RX0, "goHour", "()I"⟩
abbrev cX0_pour : ByteArray := prog_2_method_5_code
def yX0_pour : MethodName := ⟨RX0, "pour", "(II)V"⟩
abbrev cX0_turnMill : ByteArray := prog_2_method_6_code
def yX0_turnMill : MethodName := ⟨RX0, "turnMill", "()V"⟩
abbrev cX0_nextBarge : ByteArray := prog_2_method_7_code
def yX0_nextBarge : MethodName := ⟨RX0, "nextBarge", "(II)I"⟩
abbrev cX0_canServe : ByteArray := prog_2_method_8_code
def yX0_canServe : MethodName := ⟨RX0, "canServe", "(II)Z"⟩
abbrev cX0_canFill : ByteArray := prog_2_method_9_code
def yX0_canFill : MethodName := ⟨RX0, "canFill", "(I)Z"⟩
abbrev cX0_fits : ByteArray := prog_2_method_10_code
def yX0_fits : MethodName := ⟨RX0, "fits", "(II)Z"⟩
abbrev cX0_goesDown : ByteArray := prog_2_method_11_code
def yX0_goesDown : MethodName := ⟨RX0, "goesDown", "(I)Z"⟩
abbrev cX0_hasCome : ByteArray := prog_2_method_12_code
def yX0_hasCome : MethodName := ⟨RX0, "hasCome", "(I)Z"⟩
abbrev cX0_waitsAt : ByteArray := prog_2_method_13_code
def yX0_waitsAt : MethodName := ⟨RX0, "waitsAt", "(I)I"⟩
abbrev cX0_serve : ByteArray := prog_2_method_14_code
def yX0_serve : MethodName := ⟨RX0, "serve", "(II)V"⟩
abbrev cX0_turnChamber : ByteArray := prog_2_method_15_code
def yX0_turnChamber : MethodName := ⟨RX0, "turnChamber", "(I)V"⟩
abbrev cX0_tellBarge : ByteArray := prog_2_method_16_code
def yX0_tellBarge : MethodName := ⟨RX0, "tellBarge", "(II)I"⟩
abbrev cX0_tellPound : ByteArray := prog_2_method_17_code
def yX0_tellPound : MethodName := ⟨RX0, "tellPound", "(II)I"⟩
abbrev cX0_tellLock : ByteArray := prog_2_method_18_code
def yX0_tellLock : MethodName := ⟨RX0, "tellLock", "(II)I"⟩
abbrev cX0_tellWhole : ByteArray := prog_2_method_19_code
def yX0_tellWhole : MethodName := ⟨RX0, "tellWhole", "(I)I"⟩
abbrev cX0_bargesAt : ByteArray := prog_2_method_20_code
def yX0_bargesAt : MethodName := ⟨RX0, "bargesAt", "(I)I"⟩
abbrev cX0_bargesWaitingAt : ByteArray := prog_2_method_21_code
def yX0_bargesWaitingAt : MethodName := ⟨RX0, "bargesWaitingAt", "(I)I"⟩
abbrev cX0_bargesThatHaveCome : ByteArray := prog_2_method_22_code
def yX0_bargesThatHaveCome : MethodName := ⟨RX0, "bargesThatHaveCome", "()I"⟩
abbrev cX0_fullChambers : ByteArray := prog_2_method_23_code
def yX0_fullChambers : MethodName := ⟨RX0, "fullChambers", "()I"⟩
abbrev cX0_waterOfAll : ByteArray := prog_2_method_24_code
def yX0_waterOfAll : MethodName := ⟨RX0, "waterOfAll", "()I"⟩
def RX1 : String := "LockBank"
def TX1 : u_T := fun k => match k with
  | 0 => ("LockBank", "canal", "LLockBank$Canal;", true)
  | _ => ("LockBank", "trial", "LLockBank$Canal;", true)
def tyX1 : Nat → FieldType := fun k => match k with
  | 0 => .object "LockBank$Canal"
  | _ => .object "LockBank$Canal"
abbrev wsX10 : List Cond := u_ws RX1 TX1 2
theorem nmX1 : ∀ a, a < 2 → ∀ b, b < 2 → a ≠ b → (TX1 a).2.1 ≠ (TX1 b).2.1 := by decide +kernel
theorem tyX1_ok : ∀ k, k < 2 → parseFieldDescriptor (TX1 k).2.2.1 = some (tyX1 k) := by decide +kernel
abbrev cX1_init : ByteArray := prog_1_method_1_code
def yX1_init : MethodName := ⟨RX1, "<init>", "()V"⟩
abbrev cX1_setSpring : ByteArray := prog_1_method_2_code
def yX1_setSpring : MethodName := ⟨RX1, "setSpring", "(II)I"⟩
abbrev cX1_setMill : ByteArray := prog_1_method_3_code
def yX1_setMill : MethodName := ⟨RX1, "setMill", "(II)I"⟩
abbrev cX1_setDrought : ByteArray := prog_1_method_4_code
def yX1_setDrought : MethodName := ⟨RX1, "setDrought", "(Z)Z"⟩
abbrev cX1_setFee : ByteArray := prog_1_method_5_code
def yX1_setFee : MethodName := ⟨RX1, "setFee", "(I)I"⟩
abbrev cX1_water : ByteArray := prog_1_method_6_code
def yX1_water : MethodName := ⟨RX1, "water", "(II)I"⟩
abbrev cX1_work : ByteArray := prog_1_method_7_code
def yX1_work : MethodName := ⟨RX1, "work", "(I)Z"⟩
abbrev cX1_barge : ByteArray := prog_1_method_8_code
def yX1_barge : MethodName := ⟨RX1, "barge", "(III)I"⟩
abbrev cX1_send : ByteArray := prog_1_method_9_code
def yX1_send : MethodName := ⟨RX1, "send", "(II)I"⟩
abbrev cX1_told : ByteArray := prog_1_method_10_code
def yX1_told : MethodName := ⟨RX1, "told", "(II)I"⟩
abbrev cX1_pound : ByteArray := prog_1_method_11_code
def yX1_pound : MethodName := ⟨RX1, "pound", "(II)I"⟩
abbrev cX1_lock : ByteArray := prog_1_method_12_code
def yX1_lock : MethodName := ⟨RX1, "lock", "(II)I"⟩
abbrev cX1_count : ByteArray := prog_1_method_13_code
def yX1_count : MethodName := ⟨RX1, "count", "(I)I"⟩
abbrev cX1_pass : ByteArray := prog_1_method_14_code
def yX1_pass : MethodName := ⟨RX1, "pass", "(I)I"⟩
abbrev cX1_arrives : ByteArray := prog_1_method_15_code
def yX1_arrives : MethodName := ⟨RX1, "arrives", "(I)I"⟩
abbrev cX1_foresee : ByteArray := prog_1_method_16_code
def yX1_foresee : MethodName := ⟨RX1, "foresee", "(II)I"⟩
abbrev cX1_advise : ByteArray := prog_1_method_17_code
def yX1_advise : MethodName := ⟨RX1, "advise", "(I)I"⟩
abbrev cX1_stops : ByteArray := prog_1_method_18_code
def yX1_stops : MethodName := ⟨RX1, "stops", "()I"⟩
abbrev cX1_mean : ByteArray := prog_1_method_19_code
def yX1_mean : MethodName := ⟨RX1, "mean", "()D"⟩
abbrev cX1_digest : ByteArray := prog_1_method_20_code
def yX1_digest : MethodName := ⟨RX1, "digest", "()J"⟩
abbrev cX1_mix : ByteArray := prog_1_method_21_code
def yX1_mix : MethodName := ⟨RX1, "mix", "(JI)J"⟩
abbrev cX1_requireIndex : ByteArray := prog_1_method_22_code
def yX1_requireIndex : MethodName := ⟨RX1, "requireIndex", "(III)V"⟩
abbrev cX1_requireArgument : ByteArray := prog_1_method_23_code
def yX1_requireArgument : MethodName := ⟨RX1, "requireArgument", "(III)V"⟩
def RX2 : String := "LockBankLaw$Sim"
def TX2 : u_T := fun k => match k with
  | 0 => ("LockBankLaw$Sim", "hour", "I", false)
  | 1 => ("LockBankLaw$Sim", "spring", "[I", false)
  | 2 => ("LockBankLaw$Sim", "pounds", "[[I", false)
  | 3 => ("LockBankLaw$Sim", "away", "I", false)
  | 4 => ("LockBankLaw$Sim", "locks", "[[I", false)
  | 5 => ("LockBankLaw$Sim", "mill", "I", false)
  | 6 => ("LockBankLaw$Sim", "mark", "I", false)
  | 7 => ("LockBankLaw$Sim", "isDry", "Z", false)
  | 8 => ("LockBankLaw$Sim", "fee", "I", false)
  | 9 => ("LockBankLaw$Sim", "bank", "I", false)
  | _ => ("LockBankLaw$Sim", "barges", "[[I", false)
def tyX2 : Nat → FieldType := fun k => match k with
  | 0 => .int
  | 1 => .array .int
  | 2 => .array (.array .int)
  | 3 => .int
  | 4 => .array (.array .int)
  | 5 => .int
  | 6 => .int
  | 7 => .boolean
  | 8 => .int
  | 9 => .int
  | _ => .array (.array .int)
abbrev wsX20 : List Cond := u_ws RX2 TX2 11
theorem nmX2 : ∀ a, a < 11 → ∀ b, b < 11 → a ≠ b → (TX2 a).2.1 ≠ (TX2 b).2.1 := by decide +kernel
theorem tyX2_ok : ∀ k, k < 11 → parseFieldDescriptor (TX2 k).2.2.1 = some (tyX2 k) := by decide +kernel
abbrev cX2_init : ByteArray := prog_4_method_1_code
def yX2_init : MethodName := ⟨RX2, "<init>", "()V"⟩
abbrev cX2_come : ByteArray := prog_4_method_4_code
def yX2_come : MethodName := ⟨RX2, "come", "(III)V"⟩
abbrev cX2_into : ByteArray := prog_4_method_5_code
def yX2_into : MethodName := ⟨RX2, "into", "(II)V"⟩
abbrev cX2_turn : ByteArray := prog_4_method_6_code
def yX2_turn : MethodName := ⟨RX2, "turn", "(I)V"⟩
abbrev cX2_hasWater : ByteArray := prog_4_method_7_code
def yX2_hasWater : MethodName := ⟨RX2, "hasWater", "(I)Z"⟩
abbrev cX2_lockOf : ByteArray := prog_4_method_8_code
def yX2_lockOf : MethodName := ⟨RX2, "lockOf", "([I)I"⟩
abbrev cX2_rank : ByteArray := prog_4_method_9_code
def yX2_rank : MethodName := ⟨RX2, "rank", "([II)I"⟩
abbrev cX2_next : ByteArray := prog_4_method_10_code
def yX2_next : MethodName := ⟨RX2, "next", "(I[Z)I"⟩
abbrev cX2_pass : ByteArray := prog_4_method_11_code
def yX2_pass : MethodName := ⟨RX2, "pass", "()I"⟩
abbrev cX2_counts : ByteArray := prog_4_method_13_code
def yX2_counts : MethodName := ⟨RX2, "counts", "()[I"⟩
abbrev cX2_isSame : ByteArray := prog_4_method_14_code
def yX2_isSame : MethodName := ⟨RX2, "isSame", "(LLockBank;)Z"⟩
def RX3 : String := "LockBankModel$State"
def TX3 : u_T := fun k => match k with
  | _ => ("", "", "", false)
def tyX3 : Nat → FieldType := fun k => match k with
  | _ => .int
abbrev wsX30 : List Cond := u_ws RX3 TX3 0
theorem nmX3 : ∀ a, a < 0 → ∀ b, b < 0 → a ≠ b → (TX3 a).2.1 ≠ (TX3 b).2.1 := by decide +kernel
theorem tyX3_ok : ∀ k, k < 0 → parseFieldDescriptor (TX3 k).2.2.1 = some (tyX3 k) := by decide +kernel
def RX4 : String := "LockBankModel"
def TX4 : u_T := fun k => match k with
  | _ => ("", "", "", false)
def tyX4 : Nat → FieldType := fun k => match k with
  | _ => .int
abbrev wsX40 : List Cond := u_ws RX4 TX4 0
theorem nmX4 : ∀ a, a < 0 → ∀ b, b < 0 → a ≠ b → (TX4 a).2.1 ≠ (TX4 b).2.1 := by decide +kernel
theorem tyX4_ok : ∀ k, k < 0 → parseFieldDescriptor (TX4 k).2.2.1 = some (tyX4 k) := by decide +kernel
def RJ9 : String := "java/lang/Math"
def TJ9 : u_T := fun k => match k with
  | _ => ("", "", "", false)
def tyJ9 : Nat → FieldType := fun k => match k with
  | _ => .int
abbrev wsJ90 : List Cond := u_ws RJ9 TJ9 0
theorem nmJ9 : ∀ a, a < 0 → ∀ b, b < 0 → a ≠ b → (TJ9 a).2.1 ≠ (TJ9 b).2.1 := by decide +kernel
theorem tyJ9_ok : ∀ k, k < 0 → parseFieldDescriptor (TJ9 k).2.2.1 = some (tyJ9 k) := by decide +kernel
abbrev cJ9_floorMod_7cf53 : ByteArray := prog_11_method_50_code
def yJ9_floorMod_7cf53 : MethodName := ⟨RJ9, "floorMod", "(II)I"⟩
abbrev cJ9_min_7cf53 : ByteArray := prog_11_method_69_code
def yJ9_min_7cf53 : MethodName := ⟨RJ9, "min", "(II)I"⟩
def RJ0 : String := "java/lang/String"
def TJ0 : u_T := fun k => match k with
  | _ => ("", "", "", false)
def tyJ0 : Nat → FieldType := fun k => match k with
  | _ => .int
abbrev wsJ00 : List Cond := u_ws RJ0 TJ0 0
theorem nmJ0 : ∀ a, a < 0 → ∀ b, b < 0 → a ≠ b → (TJ0 a).2.1 ≠ (TJ0 b).2.1 := by decide +kernel
theorem tyJ0_ok : ∀ k, k < 0 → parseFieldDescriptor (TJ0 k).2.2.1 = some (tyJ0 k) := by decide +kernel
def RJ10 : String := "java/lang/System"
def TJ10 : u_T := fun k => match k with
  | _ => ("", "", "", false)
def tyJ10 : Nat → FieldType := fun k => match k with
  | _ => .int
abbrev wsJ100 : List Cond := u_ws RJ10 TJ10 0
theorem nmJ10 : ∀ a, a < 0 → ∀ b, b < 0 → a ≠ b → (TJ10 a).2.1 ≠ (TJ10 b).2.1 := by decide +kernel
theorem tyJ10_ok : ∀ k, k < 0 → parseFieldDescriptor (TJ10 k).2.2.1 = some (tyJ10 k) := by decide +kernel
def RL : String := "LockBankLaw"
abbrev cL_below : ByteArray := method_2_code
def yL_below : MethodName := ⟨RL, "below", "(II)I"⟩
abbrev cL_cell : ByteArray := method_3_code
def yL_cell : MethodName := ⟨RL, "cell", "([II)I"⟩
abbrev cL_act : ByteArray := method_4_code
def yL_act : MethodName := ⟨RL, "act", "(LLockBank;LLockBankLaw$Sim;I)Z"⟩
abbrev cL_build : ByteArray := method_5_code
def yL_build : MethodName := ⟨RL, "build", "(LLockBank;[I)LLockBankLaw$Sim;"⟩
abbrev cL_law : ByteArray := code
def yL_law : MethodName := ⟨RL, "law", "([I)Z"⟩
def wsX0_init : List Cond := .code yX0_init cX0_init 2 none :: ([.methodLink RX0 3 objectInit, .instanceMethod objectInit, .code objectInit ⟨#[0xb1]⟩ 1 none, .fieldLink RX0 9 "LockBank$Canal" "fee" "I", .fieldLink RX0 15 "LockBank$Canal" "millPound" "I", .fieldLink RX0 18 "LockBank$Canal" "mark" "I", .arrayClass .int, .fieldLink RX0 21 "LockBank$Canal" "spring" "[I", .fieldLink RX0 25 "LockBank$Canal" "level" "[I", .fieldLink RX0 28 "LockBank$Canal" "ranOver" "[I", .fieldLink RX0 31 "LockBank$Canal" "drawn" "[I", .arrayClass .boolean, .fieldLink RX0 34 "LockBank$Canal" "full" "[Z", .fieldLink RX0 38 "LockBank$Canal" "lockings" "[I", .fieldLink RX0 41 "LockBank$Canal" "filled" "[I", .fieldLink RX0 44 "LockBank$Canal" "at" "[I", .fieldLink RX0 47 "LockBank$Canal" "goal" "[I", .fieldLink RX0 50 "LockBank$Canal" "purse" "[I", .fieldLink RX0 53 "LockBank$Canal" "served" "[I"] ++ wsX00)
def wsX0_copyFrom : List Cond := .code yX0_copyFrom cX0_copyFrom 3 none :: ([.fieldLink RX0 56 "LockBank$Canal" "hour" "I", .fieldLink RX0 59 "LockBank$Canal" "bank" "I", .fieldLink RX0 9 "LockBank$Canal" "fee" "I", .fieldLink RX0 62 "LockBank$Canal" "drought" "Z", .fieldLink RX0 15 "LockBank$Canal" "millPound" "I", .fieldLink RX0 18 "LockBank$Canal" "mark" "I", .fieldLink RX0 21 "LockBank$Canal" "spring" "[I", .methodLink RX0 66 arraycopyName, .native arraycopyName, .static arraycopyName, .initialized "java/lang/System", .fieldLink RX0 25 "LockBank$Canal" "level" "[I", .fieldLink RX0 28 "LockBank$Canal" "ranOver" "[I", .fieldLink RX0 31 "LockBank$Canal" "drawn" "[I", .fieldLink RX0 34 "LockBank$Canal" "full" "[Z", .fieldLink RX0 38 "LockBank$Canal" "lockings" "[I", .fieldLink RX0 41 "LockBank$Canal" "filled" "[I", .fieldLink RX0 72 "LockBank$Canal" "barges" "I", .fieldLink RX0 44 "LockBank$Canal" "at" "[I", .fieldLink RX0 47 "LockBank$Canal" "goal" "[I", .fieldLink RX0 50 "LockBank$Canal" "purse" "[I", .fieldLink RX0 53 "LockBank$Canal" "served" "[I"] ++ wsX00)
def wsJ9_floorMod_7cf53 : List Cond := .code yJ9_floorMod_7cf53 cJ9_floorMod_7cf53 3 (some .int) :: ([])
def wsX0_pour : List Cond := .code yX0_pour cX0_pour 6 none :: ([.fieldLink RX0 25 "LockBank$Canal" "level" "[I", .methodLink RX0 98 Lib.Math.min.name, .static Lib.Math.min.name, .initialized "java/lang/Math", .code Lib.Math.min.name Lib.Math.min.code 2 (some .int), .fieldLink RX0 28 "LockBank$Canal" "ranOver" "[I"] ++ wsX00)
def wsX0_turnMill : List Cond := .code yX0_turnMill cX0_turnMill 3 none :: ([.fieldLink RX0 15 "LockBank$Canal" "millPound" "I", .fieldLink RX0 25 "LockBank$Canal" "level" "[I", .fieldLink RX0 18 "LockBank$Canal" "mark" "I", .methodLink RX0 98 Lib.Math.min.name, .static Lib.Math.min.name, .initialized "java/lang/Math", .code Lib.Math.min.name Lib.Math.min.code 2 (some .int), .fieldLink RX0 31 "LockBank$Canal" "drawn" "[I", .fieldLink RX0 59 "LockBank$Canal" "bank" "I", .methodLink RX0 85 yX0_pour, .instanceMethod yX0_pour, .selects RX0 yX0_pour yX0_pour, .initialized RX0, .code yX0_pour cX0_pour 6 none, .fieldLink RX0 28 "LockBank$Canal" "ranOver" "[I"] ++ wsX00)
def wsX0_hasCome : List Cond := .code yX0_hasCome cX0_hasCome 2 (some .boolean) :: ([.fieldLink RX0 44 "LockBank$Canal" "at" "[I", .fieldLink RX0 47 "LockBank$Canal" "goal" "[I"] ++ wsX00)
def wsX0_goesDown : List Cond := .code yX0_goesDown cX0_goesDown 2 (some .boolean) :: ([.fieldLink RX0 47 "LockBank$Canal" "goal" "[I", .fieldLink RX0 44 "LockBank$Canal" "at" "[I"] ++ wsX00)
def wsX0_waitsAt : List Cond := .code yX0_waitsAt cX0_waitsAt 2 (some .int) :: ([.fieldLink RX0 44 "LockBank$Canal" "at" "[I", .methodLink RX0 119 yX0_hasCome, .instanceMethod yX0_hasCome, .selects RX0 yX0_hasCome yX0_hasCome, .initialized RX0, .code yX0_hasCome cX0_hasCome 2 (some .boolean), .fieldLink RX0 47 "LockBank$Canal" "goal" "[I", .methodLink RX0 112 yX0_goesDown, .instanceMethod yX0_goesDown, .selects RX0 yX0_goesDown yX0_goesDown, .code yX0_goesDown cX0_goesDown 2 (some .boolean)] ++ wsX00)
def wsX0_fits : List Cond := .code yX0_fits cX0_fits 3 (some .boolean) :: ([.fieldLink RX0 34 "LockBank$Canal" "full" "[Z", .methodLink RX0 112 yX0_goesDown, .instanceMethod yX0_goesDown, .selects RX0 yX0_goesDown yX0_goesDown, .initialized RX0, .code yX0_goesDown cX0_goesDown 2 (some .boolean), .fieldLink RX0 47 "LockBank$Canal" "goal" "[I", .fieldLink RX0 44 "LockBank$Canal" "at" "[I"] ++ wsX00)
def wsX0_canFill : List Cond := .code yX0_canFill cX0_canFill 2 (some .boolean) :: ([.fieldLink RX0 25 "LockBank$Canal" "level" "[I"] ++ wsX00)
def wsX0_canServe : List Cond := .code yX0_canServe cX0_canServe 4 (some .boolean) :: ([.fieldLink RX0 50 "LockBank$Canal" "purse" "[I", .fieldLink RX0 9 "LockBank$Canal" "fee" "I", .fieldLink RX0 62 "LockBank$Canal" "drought" "Z", .fieldLink RX0 34 "LockBank$Canal" "full" "[Z", .methodLink RX0 109 yX0_fits, .instanceMethod yX0_fits, .selects RX0 yX0_fits yX0_fits, .initialized RX0, .code yX0_fits cX0_fits 3 (some .boolean), .methodLink RX0 112 yX0_goesDown, .instanceMethod yX0_goesDown, .selects RX0 yX0_goesDown yX0_goesDown, .code yX0_goesDown cX0_goesDown 2 (some .boolean), .fieldLink RX0 47 "LockBank$Canal" "goal" "[I", .fieldLink RX0 44 "LockBank$Canal" "at" "[I", .methodLink RX0 116 yX0_canFill, .instanceMethod yX0_canFill, .selects RX0 yX0_canFill yX0_canFill, .code yX0_canFill cX0_canFill 2 (some .boolean), .fieldLink RX0 25 "LockBank$Canal" "level" "[I"] ++ wsX00)
def wsX0_nextBarge_r1 : List Cond := [Cond.fieldLink RX0 72 "LockBank$Canal" "barges" "I", Cond.methodLink RX0 101 yX0_waitsAt, Cond.instanceMethod yX0_waitsAt, Cond.selects RX0 yX0_waitsAt yX0_waitsAt, Cond.initialized RX0, Cond.code yX0_waitsAt cX0_waitsAt 2 (some .int), Cond.fieldLink RX0 44 "LockBank$Canal" "at" "[I", Cond.methodLink RX0 119 yX0_hasCome, Cond.instanceMethod yX0_hasCome, Cond.selects RX0 yX0_hasCome yX0_hasCome, Cond.code yX0_hasCome cX0_hasCome 2 (some .boolean), Cond.fieldLink RX0 47 "LockBank$Canal" "goal" "[I", Cond.methodLink RX0 112 yX0_goesDown, Cond.instanceMethod yX0_goesDown, Cond.selects RX0 yX0_goesDown yX0_goesDown, Cond.code yX0_goesDown cX0_goesDown 2 (some .boolean), Cond.methodLink RX0 105 yX0_canServe, Cond.instanceMethod yX0_canServe, Cond.selects RX0 yX0_canServe yX0_canServe, Cond.code yX0_canServe cX0_canServe 4 (some .boolean), Cond.fieldLink RX0 50 "LockBank$Canal" "purse" "[I", Cond.fieldLink RX0 9 "LockBank$Canal" "fee" "I", Cond.fieldLink RX0 62 "LockBank$Canal" "drought" "Z", Cond.fieldLink RX0 34 "LockBank$Canal" "full" "[Z"]
def wsX0_nextBarge_r2 : List Cond := [Cond.methodLink RX0 109 yX0_fits, Cond.instanceMethod yX0_fits, Cond.selects RX0 yX0_fits yX0_fits, Cond.code yX0_fits cX0_fits 3 (some .boolean), Cond.methodLink RX0 116 yX0_canFill, Cond.instanceMethod yX0_canFill, Cond.selects RX0 yX0_canFill yX0_canFill, Cond.code yX0_canFill cX0_canFill 2 (some .boolean), Cond.fieldLink RX0 25 "LockBank$Canal" "level" "[I"]
def wsX0_nextBarge : List Cond := .code yX0_nextBarge cX0_nextBarge 6 (some .int) :: ((wsX0_nextBarge_r1 ++ wsX0_nextBarge_r2) ++ wsX00)
def wsX0_turnChamber : List Cond := .code yX0_turnChamber cX0_turnChamber 2 none :: ([.fieldLink RX0 34 "LockBank$Canal" "full" "[Z", .fieldLink RX0 25 "LockBank$Canal" "level" "[I", .fieldLink RX0 41 "LockBank$Canal" "filled" "[I", .methodLink RX0 85 yX0_pour, .instanceMethod yX0_pour, .selects RX0 yX0_pour yX0_pour, .initialized RX0, .code yX0_pour cX0_pour 6 none, .methodLink RX0 98 Lib.Math.min.name, .static Lib.Math.min.name, .initialized "java/lang/Math", .code Lib.Math.min.name Lib.Math.min.code 2 (some .int), .fieldLink RX0 28 "LockBank$Canal" "ranOver" "[I"] ++ wsX00)
def wsX0_serve_r1 : List Cond := [Cond.fieldLink RX0 44 "LockBank$Canal" "at" "[I", Cond.fieldLink RX0 50 "LockBank$Canal" "purse" "[I", Cond.fieldLink RX0 9 "LockBank$Canal" "fee" "I", Cond.fieldLink RX0 59 "LockBank$Canal" "bank" "I", Cond.fieldLink RX0 53 "LockBank$Canal" "served" "[I", Cond.fieldLink RX0 38 "LockBank$Canal" "lockings" "[I", Cond.methodLink RX0 109 yX0_fits, Cond.instanceMethod yX0_fits, Cond.selects RX0 yX0_fits yX0_fits, Cond.initialized RX0, Cond.code yX0_fits cX0_fits 3 (some .boolean), Cond.fieldLink RX0 34 "LockBank$Canal" "full" "[Z", Cond.methodLink RX0 112 yX0_goesDown, Cond.instanceMethod yX0_goesDown, Cond.selects RX0 yX0_goesDown yX0_goesDown, Cond.code yX0_goesDown cX0_goesDown 2 (some .boolean), Cond.fieldLink RX0 47 "LockBank$Canal" "goal" "[I", Cond.methodLink RX0 122 yX0_turnChamber, Cond.instanceMethod yX0_turnChamber, Cond.selects RX0 yX0_turnChamber yX0_turnChamber, Cond.code yX0_turnChamber cX0_turnChamber 2 none, Cond.fieldLink RX0 25 "LockBank$Canal" "level" "[I", Cond.fieldLink RX0 41 "LockBank$Canal" "filled" "[I", Cond.methodLink RX0 85 yX0_pour]
def wsX0_serve_r2 : List Cond := [Cond.instanceMethod yX0_pour, Cond.selects RX0 yX0_pour yX0_pour, Cond.code yX0_pour cX0_pour 6 none, Cond.methodLink RX0 98 Lib.Math.min.name, Cond.static Lib.Math.min.name, Cond.initialized "java/lang/Math", Cond.code Lib.Math.min.name Lib.Math.min.code 2 (some .int), Cond.fieldLink RX0 28 "LockBank$Canal" "ranOver" "[I"]
def wsX0_serve : List Cond := .code yX0_serve cX0_serve 3 none :: ((wsX0_serve_r1 ++ wsX0_serve_r2) ++ wsX00)
def wsX0_goHour_r1 : List Cond := [Cond.fieldLink RX0 21 "LockBank$Canal" "spring" "[I", Cond.fieldLink RX0 56 "LockBank$Canal" "hour" "I", Cond.methodLink RX0 79 yJ9_floorMod_7cf53, Cond.static yJ9_floorMod_7cf53, Cond.initialized RJ9, Cond.code yJ9_floorMod_7cf53 cJ9_floorMod_7cf53 3 (some .int), Cond.methodLink RX0 85 yX0_pour, Cond.instanceMethod yX0_pour, Cond.selects RX0 yX0_pour yX0_pour, Cond.initialized RX0, Cond.code yX0_pour cX0_pour 6 none, Cond.fieldLink RX0 25 "LockBank$Canal" "level" "[I", Cond.methodLink RX0 98 Lib.Math.min.name, Cond.static Lib.Math.min.name, Cond.initialized "java/lang/Math", Cond.code Lib.Math.min.name Lib.Math.min.code 2 (some .int), Cond.fieldLink RX0 28 "LockBank$Canal" "ranOver" "[I", Cond.methodLink RX0 89 yX0_turnMill, Cond.instanceMethod yX0_turnMill, Cond.selects RX0 yX0_turnMill yX0_turnMill, Cond.code yX0_turnMill cX0_turnMill 3 none, Cond.fieldLink RX0 15 "LockBank$Canal" "millPound" "I", Cond.fieldLink RX0 18 "LockBank$Canal" "mark" "I", Cond.fieldLink RX0 31 "LockBank$Canal" "drawn" "[I"]
def wsX0_goHour_r2 : List Cond := [Cond.fieldLink RX0 59 "LockBank$Canal" "bank" "I", Cond.methodLink RX0 92 yX0_nextBarge, Cond.instanceMethod yX0_nextBarge, Cond.selects RX0 yX0_nextBarge yX0_nextBarge, Cond.code yX0_nextBarge cX0_nextBarge 6 (some .int), Cond.fieldLink RX0 72 "LockBank$Canal" "barges" "I", Cond.methodLink RX0 101 yX0_waitsAt, Cond.instanceMethod yX0_waitsAt, Cond.selects RX0 yX0_waitsAt yX0_waitsAt, Cond.code yX0_waitsAt cX0_waitsAt 2 (some .int), Cond.fieldLink RX0 44 "LockBank$Canal" "at" "[I", Cond.methodLink RX0 119 yX0_hasCome, Cond.instanceMethod yX0_hasCome, Cond.selects RX0 yX0_hasCome yX0_hasCome, Cond.code yX0_hasCome cX0_hasCome 2 (some .boolean), Cond.fieldLink RX0 47 "LockBank$Canal" "goal" "[I", Cond.methodLink RX0 112 yX0_goesDown, Cond.instanceMethod yX0_goesDown, Cond.selects RX0 yX0_goesDown yX0_goesDown, Cond.code yX0_goesDown cX0_goesDown 2 (some .boolean), Cond.methodLink RX0 105 yX0_canServe, Cond.instanceMethod yX0_canServe, Cond.selects RX0 yX0_canServe yX0_canServe, Cond.code yX0_canServe cX0_canServe 4 (some .boolean)]
def wsX0_goHour_r3 : List Cond := [Cond.fieldLink RX0 50 "LockBank$Canal" "purse" "[I", Cond.fieldLink RX0 9 "LockBank$Canal" "fee" "I", Cond.fieldLink RX0 62 "LockBank$Canal" "drought" "Z", Cond.fieldLink RX0 34 "LockBank$Canal" "full" "[Z", Cond.methodLink RX0 109 yX0_fits, Cond.instanceMethod yX0_fits, Cond.selects RX0 yX0_fits yX0_fits, Cond.code yX0_fits cX0_fits 3 (some .boolean), Cond.methodLink RX0 116 yX0_canFill, Cond.instanceMethod yX0_canFill, Cond.selects RX0 yX0_canFill yX0_canFill, Cond.code yX0_canFill cX0_canFill 2 (some .boolean), Cond.methodLink RX0 95 yX0_serve, Cond.instanceMethod yX0_serve, Cond.selects RX0 yX0_serve yX0_serve, Cond.code yX0_serve cX0_serve 3 none, Cond.fieldLink RX0 53 "LockBank$Canal" "served" "[I", Cond.fieldLink RX0 38 "LockBank$Canal" "lockings" "[I", Cond.methodLink RX0 122 yX0_turnChamber, Cond.instanceMethod yX0_turnChamber, Cond.selects RX0 yX0_turnChamber yX0_turnChamber, Cond.code yX0_turnChamber cX0_turnChamber 2 none, Cond.fieldLink RX0 41 "LockBank$Canal" "filled" "[I"]
def wsX0_goHour : List Cond := .code yX0_goHour cX0_goHour 5 (some .int) :: ((wsX0_goHour_r1 ++ (wsX0_goHour_r2 ++ wsX0_goHour_r3)) ++ wsX00)
def wsX0_goHours_r1 : List Cond := [Cond.methodLink RX0 75 yX0_goHour, Cond.instanceMethod yX0_goHour, Cond.selects RX0 yX0_goHour yX0_goHour, Cond.initialized RX0, Cond.code yX0_goHour cX0_goHour 5 (some .int), Cond.fieldLink RX0 21 "LockBank$Canal" "spring" "[I", Cond.fieldLink RX0 56 "LockBank$Canal" "hour" "I", Cond.methodLink RX0 79 yJ9_floorMod_7cf53, Cond.static yJ9_floorMod_7cf53, Cond.initialized RJ9, Cond.code yJ9_floorMod_7cf53 cJ9_floorMod_7cf53 3 (some .int), Cond.methodLink RX0 85 yX0_pour, Cond.instanceMethod yX0_pour, Cond.selects RX0 yX0_pour yX0_pour, Cond.code yX0_pour cX0_pour 6 none, Cond.fieldLink RX0 25 "LockBank$Canal" "level" "[I", Cond.methodLink RX0 98 Lib.Math.min.name, Cond.static Lib.Math.min.name, Cond.initialized "java/lang/Math", Cond.code Lib.Math.min.name Lib.Math.min.code 2 (some .int), Cond.fieldLink RX0 28 "LockBank$Canal" "ranOver" "[I", Cond.methodLink RX0 89 yX0_turnMill, Cond.instanceMethod yX0_turnMill, Cond.selects RX0 yX0_turnMill yX0_turnMill]
def wsX0_goHours_r2 : List Cond := [Cond.code yX0_turnMill cX0_turnMill 3 none, Cond.fieldLink RX0 15 "LockBank$Canal" "millPound" "I", Cond.fieldLink RX0 18 "LockBank$Canal" "mark" "I", Cond.fieldLink RX0 31 "LockBank$Canal" "drawn" "[I", Cond.fieldLink RX0 59 "LockBank$Canal" "bank" "I", Cond.methodLink RX0 92 yX0_nextBarge, Cond.instanceMethod yX0_nextBarge, Cond.selects RX0 yX0_nextBarge yX0_nextBarge, Cond.code yX0_nextBarge cX0_nextBarge 6 (some .int), Cond.fieldLink RX0 72 "LockBank$Canal" "barges" "I", Cond.methodLink RX0 101 yX0_waitsAt, Cond.instanceMethod yX0_waitsAt, Cond.selects RX0 yX0_waitsAt yX0_waitsAt, Cond.code yX0_waitsAt cX0_waitsAt 2 (some .int), Cond.fieldLink RX0 44 "LockBank$Canal" "at" "[I", Cond.methodLink RX0 119 yX0_hasCome, Cond.instanceMethod yX0_hasCome, Cond.selects RX0 yX0_hasCome yX0_hasCome, Cond.code yX0_hasCome cX0_hasCome 2 (some .boolean), Cond.fieldLink RX0 47 "LockBank$Canal" "goal" "[I", Cond.methodLink RX0 112 yX0_goesDown, Cond.instanceMethod yX0_goesDown, Cond.selects RX0 yX0_goesDown yX0_goesDown, Cond.code yX0_goesDown cX0_goesDown 2 (some .boolean)]
def wsX0_goHours_r3 : List Cond := [Cond.methodLink RX0 105 yX0_canServe, Cond.instanceMethod yX0_canServe, Cond.selects RX0 yX0_canServe yX0_canServe, Cond.code yX0_canServe cX0_canServe 4 (some .boolean), Cond.fieldLink RX0 50 "LockBank$Canal" "purse" "[I", Cond.fieldLink RX0 9 "LockBank$Canal" "fee" "I", Cond.fieldLink RX0 62 "LockBank$Canal" "drought" "Z", Cond.fieldLink RX0 34 "LockBank$Canal" "full" "[Z", Cond.methodLink RX0 109 yX0_fits, Cond.instanceMethod yX0_fits, Cond.selects RX0 yX0_fits yX0_fits, Cond.code yX0_fits cX0_fits 3 (some .boolean), Cond.methodLink RX0 116 yX0_canFill, Cond.instanceMethod yX0_canFill, Cond.selects RX0 yX0_canFill yX0_canFill, Cond.code yX0_canFill cX0_canFill 2 (some .boolean), Cond.methodLink RX0 95 yX0_serve, Cond.instanceMethod yX0_serve, Cond.selects RX0 yX0_serve yX0_serve, Cond.code yX0_serve cX0_serve 3 none, Cond.fieldLink RX0 53 "LockBank$Canal" "served" "[I", Cond.fieldLink RX0 38 "LockBank$Canal" "lockings" "[I", Cond.methodLink RX0 122 yX0_turnChamber, Cond.instanceMethod yX0_turnChamber]
def wsX0_goHours_r4 : List Cond := [Cond.selects RX0 yX0_turnChamber yX0_turnChamber, Cond.code yX0_turnChamber cX0_turnChamber 2 none, Cond.fieldLink RX0 41 "LockBank$Canal" "filled" "[I"]
def wsX0_goHours : List Cond := .code yX0_goHours cX0_goHours 4 (some .int) :: ((wsX0_goHours_r1 ++ (wsX0_goHours_r2 ++ (wsX0_goHours_r3 ++ wsX0_goHours_r4))) ++ wsX00)
def wsX0_tellBarge : List Cond := .code yX0_tellBarge cX0_tellBarge 3 (some .int) :: ([.fieldLink RX0 44 "LockBank$Canal" "at" "[I", .fieldLink RX0 47 "LockBank$Canal" "goal" "[I", .fieldLink RX0 50 "LockBank$Canal" "purse" "[I", .fieldLink RX0 53 "LockBank$Canal" "served" "[I", .methodLink RX0 101 yX0_waitsAt, .instanceMethod yX0_waitsAt, .selects RX0 yX0_waitsAt yX0_waitsAt, .initialized RX0, .code yX0_waitsAt cX0_waitsAt 2 (some .int), .methodLink RX0 119 yX0_hasCome, .instanceMethod yX0_hasCome, .selects RX0 yX0_hasCome yX0_hasCome, .code yX0_hasCome cX0_hasCome 2 (some .boolean), .methodLink RX0 112 yX0_goesDown, .instanceMethod yX0_goesDown, .selects RX0 yX0_goesDown yX0_goesDown, .code yX0_goesDown cX0_goesDown 2 (some .boolean)] ++ wsX00)
def wsX0_bargesAt : List Cond := .code yX0_bargesAt cX0_bargesAt 4 (some .int) :: ([.fieldLink RX0 72 "LockBank$Canal" "barges" "I", .fieldLink RX0 44 "LockBank$Canal" "at" "[I"] ++ wsX00)
def wsX0_tellPound : List Cond := .code yX0_tellPound cX0_tellPound 3 (some .int) :: ([.fieldLink RX0 25 "LockBank$Canal" "level" "[I", .fieldLink RX0 28 "LockBank$Canal" "ranOver" "[I", .fieldLink RX0 31 "LockBank$Canal" "drawn" "[I", .methodLink RX0 126 yX0_bargesAt, .instanceMethod yX0_bargesAt, .selects RX0 yX0_bargesAt yX0_bargesAt, .initialized RX0, .code yX0_bargesAt cX0_bargesAt 4 (some .int), .fieldLink RX0 72 "LockBank$Canal" "barges" "I", .fieldLink RX0 44 "LockBank$Canal" "at" "[I"] ++ wsX00)
def wsX0_bargesWaitingAt : List Cond := .code yX0_bargesWaitingAt cX0_bargesWaitingAt 4 (some .int) :: ([.fieldLink RX0 72 "LockBank$Canal" "barges" "I", .methodLink RX0 101 yX0_waitsAt, .instanceMethod yX0_waitsAt, .selects RX0 yX0_waitsAt yX0_waitsAt, .initialized RX0, .code yX0_waitsAt cX0_waitsAt 2 (some .int), .fieldLink RX0 44 "LockBank$Canal" "at" "[I", .methodLink RX0 119 yX0_hasCome, .instanceMethod yX0_hasCome, .selects RX0 yX0_hasCome yX0_hasCome, .code yX0_hasCome cX0_hasCome 2 (some .boolean), .fieldLink RX0 47 "LockBank$Canal" "goal" "[I", .methodLink RX0 112 yX0_goesDown, .instanceMethod yX0_goesDown, .selects RX0 yX0_goesDown yX0_goesDown, .code yX0_goesDown cX0_goesDown 2 (some .boolean)] ++ wsX00)
def wsX0_tellLock_r1 : List Cond := [Cond.fieldLink RX0 34 "LockBank$Canal" "full" "[Z", Cond.fieldLink RX0 38 "LockBank$Canal" "lockings" "[I", Cond.fieldLink RX0 41 "LockBank$Canal" "filled" "[I", Cond.methodLink RX0 129 yX0_bargesWaitingAt, Cond.instanceMethod yX0_bargesWaitingAt, Cond.selects RX0 yX0_bargesWaitingAt yX0_bargesWaitingAt, Cond.initialized RX0, Cond.code yX0_bargesWaitingAt cX0_bargesWaitingAt 4 (some .int), Cond.fieldLink RX0 72 "LockBank$Canal" "barges" "I", Cond.methodLink RX0 101 yX0_waitsAt, Cond.instanceMethod yX0_waitsAt, Cond.selects RX0 yX0_waitsAt yX0_waitsAt, Cond.code yX0_waitsAt cX0_waitsAt 2 (some .int), Cond.fieldLink RX0 44 "LockBank$Canal" "at" "[I", Cond.methodLink RX0 119 yX0_hasCome, Cond.instanceMethod yX0_hasCome, Cond.selects RX0 yX0_hasCome yX0_hasCome, Cond.code yX0_hasCome cX0_hasCome 2 (some .boolean), Cond.fieldLink RX0 47 "LockBank$Canal" "goal" "[I", Cond.methodLink RX0 112 yX0_goesDown, Cond.instanceMethod yX0_goesDown, Cond.selects RX0 yX0_goesDown yX0_goesDown, Cond.code yX0_goesDown cX0_goesDown 2 (some .boolean), Cond.methodLink RX0 92 yX0_nextBarge]
def wsX0_tellLock_r2 : List Cond := [Cond.instanceMethod yX0_nextBarge, Cond.selects RX0 yX0_nextBarge yX0_nextBarge, Cond.code yX0_nextBarge cX0_nextBarge 6 (some .int), Cond.methodLink RX0 105 yX0_canServe, Cond.instanceMethod yX0_canServe, Cond.selects RX0 yX0_canServe yX0_canServe, Cond.code yX0_canServe cX0_canServe 4 (some .boolean), Cond.fieldLink RX0 50 "LockBank$Canal" "purse" "[I", Cond.fieldLink RX0 9 "LockBank$Canal" "fee" "I", Cond.fieldLink RX0 62 "LockBank$Canal" "drought" "Z", Cond.methodLink RX0 109 yX0_fits, Cond.instanceMethod yX0_fits, Cond.selects RX0 yX0_fits yX0_fits, Cond.code yX0_fits cX0_fits 3 (some .boolean), Cond.methodLink RX0 116 yX0_canFill, Cond.instanceMethod yX0_canFill, Cond.selects RX0 yX0_canFill yX0_canFill, Cond.code yX0_canFill cX0_canFill 2 (some .boolean), Cond.fieldLink RX0 25 "LockBank$Canal" "level" "[I"]
def wsX0_tellLock : List Cond := .code yX0_tellLock cX0_tellLock 3 (some .int) :: ((wsX0_tellLock_r1 ++ wsX0_tellLock_r2) ++ wsX00)
def wsX0_bargesThatHaveCome : List Cond := .code yX0_bargesThatHaveCome cX0_bargesThatHaveCome 3 (some .int) :: ([.fieldLink RX0 72 "LockBank$Canal" "barges" "I", .methodLink RX0 119 yX0_hasCome, .instanceMethod yX0_hasCome, .selects RX0 yX0_hasCome yX0_hasCome, .initialized RX0, .code yX0_hasCome cX0_hasCome 2 (some .boolean), .fieldLink RX0 44 "LockBank$Canal" "at" "[I", .fieldLink RX0 47 "LockBank$Canal" "goal" "[I"] ++ wsX00)
def wsX0_waterOfAll : List Cond := .code yX0_waterOfAll cX0_waterOfAll 3 (some .int) :: ([.fieldLink RX0 25 "LockBank$Canal" "level" "[I"] ++ wsX00)
def wsX0_fullChambers : List Cond := .code yX0_fullChambers cX0_fullChambers 3 (some .int) :: ([.fieldLink RX0 34 "LockBank$Canal" "full" "[Z"] ++ wsX00)
def wsX0_tellWhole_r1 : List Cond := [Cond.fieldLink RX0 56 "LockBank$Canal" "hour" "I", Cond.fieldLink RX0 72 "LockBank$Canal" "barges" "I", Cond.fieldLink RX0 59 "LockBank$Canal" "bank" "I", Cond.fieldLink RX0 28 "LockBank$Canal" "ranOver" "[I", Cond.fieldLink RX0 31 "LockBank$Canal" "drawn" "[I", Cond.fieldLink RX0 9 "LockBank$Canal" "fee" "I", Cond.fieldLink RX0 18 "LockBank$Canal" "mark" "I", Cond.fieldLink RX0 15 "LockBank$Canal" "millPound" "I", Cond.methodLink RX0 132 yX0_bargesThatHaveCome, Cond.instanceMethod yX0_bargesThatHaveCome, Cond.selects RX0 yX0_bargesThatHaveCome yX0_bargesThatHaveCome, Cond.initialized RX0, Cond.code yX0_bargesThatHaveCome cX0_bargesThatHaveCome 3 (some .int), Cond.methodLink RX0 119 yX0_hasCome, Cond.instanceMethod yX0_hasCome, Cond.selects RX0 yX0_hasCome yX0_hasCome, Cond.code yX0_hasCome cX0_hasCome 2 (some .boolean), Cond.fieldLink RX0 44 "LockBank$Canal" "at" "[I", Cond.fieldLink RX0 47 "LockBank$Canal" "goal" "[I", Cond.methodLink RX0 135 yX0_waterOfAll, Cond.instanceMethod yX0_waterOfAll, Cond.selects RX0 yX0_waterOfAll yX0_waterOfAll, Cond.code yX0_waterOfAll cX0_waterOfAll 3 (some .int), Cond.fieldLink RX0 25 "LockBank$Canal" "level" "[I"]
def wsX0_tellWhole_r2 : List Cond := [Cond.methodLink RX0 138 yX0_fullChambers, Cond.instanceMethod yX0_fullChambers, Cond.selects RX0 yX0_fullChambers yX0_fullChambers, Cond.code yX0_fullChambers cX0_fullChambers 3 (some .int), Cond.fieldLink RX0 34 "LockBank$Canal" "full" "[Z"]
def wsX0_tellWhole : List Cond := .code yX0_tellWhole cX0_tellWhole 2 (some .int) :: ((wsX0_tellWhole_r1 ++ wsX0_tellWhole_r2) ++ wsX00)
def wsX1_init_r1 : List Cond := [Cond.methodLink RX1 3 objectInit, Cond.instanceMethod objectInit, Cond.code objectInit ⟨#[0xb1]⟩ 1 none, Cond.classLink RX1 9 RX0, Cond.instantiable RX0 18, Cond.initialized RX0, Cond.fieldLink RX1 12 "LockBank" "canal" "LLockBank$Canal;", Cond.fieldLink RX1 16 "LockBank" "trial" "LLockBank$Canal;", Cond.methodLink RX1 11 yX0_init, Cond.instanceMethod yX0_init, Cond.code yX0_init cX0_init 2 none, Cond.methodLink RX0 3 objectInit, Cond.fieldLink RX0 9 "LockBank$Canal" "fee" "I", Cond.fieldLink RX0 15 "LockBank$Canal" "millPound" "I", Cond.fieldLink RX0 18 "LockBank$Canal" "mark" "I", Cond.arrayClass .int, Cond.fieldLink RX0 21 "LockBank$Canal" "spring" "[I", Cond.fieldLink RX0 25 "LockBank$Canal" "level" "[I", Cond.fieldLink RX0 28 "LockBank$Canal" "ranOver" "[I", Cond.fieldLink RX0 31 "LockBank$Canal" "drawn" "[I", Cond.arrayClass .boolean, Cond.fieldLink RX0 34 "LockBank$Canal" "full" "[Z", Cond.fieldLink RX0 38 "LockBank$Canal" "lockings" "[I", Cond.fieldLink RX0 41 "LockBank$Canal" "filled" "[I"]
def wsX1_init_r2 : List Cond := [Cond.fieldLink RX0 44 "LockBank$Canal" "at" "[I", Cond.fieldLink RX0 47 "LockBank$Canal" "goal" "[I", Cond.fieldLink RX0 50 "LockBank$Canal" "purse" "[I", Cond.fieldLink RX0 53 "LockBank$Canal" "served" "[I"]
def wsX1_init : List Cond := .code yX1_init cX1_init 1 none :: ((wsX1_init_r1 ++ wsX1_init_r2) ++ wsX00 ++ wsX10)
def wsX1_requireIndex : List Cond := .code yX1_requireIndex cX1_requireIndex 3 none :: ([.classLink RX1 127 "java/lang/IndexOutOfBoundsException", .initialized "java/lang/IndexOutOfBoundsException"] ++ (vx_atS RX1 131 "java/lang/IndexOutOfBoundsException" ["java/lang/RuntimeException", "java/lang/Exception"]).filter goodWord)
def wsX1_requireArgument : List Cond := .code yX1_requireArgument cX1_requireArgument 3 none :: ([.classLink RX1 132 "java/lang/IllegalArgumentException", .initialized "java/lang/IllegalArgumentException"] ++ (vx_atS RX1 136 "java/lang/IllegalArgumentException" ["java/lang/RuntimeException", "java/lang/Exception"]).filter goodWord)
def wsX1_setSpring : List Cond := .code yX1_setSpring cX1_setSpring 4 (some .int) :: ([.fieldLink RX1 12 "LockBank" "canal" "LLockBank$Canal;", .fieldLink RX1 26 "LockBank$Canal" "spring" "[I", .methodLink RX1 19 yX1_requireIndex, .static yX1_requireIndex, .initialized RX1, .code yX1_requireIndex cX1_requireIndex 3 none, .classLink RX1 127 "java/lang/IndexOutOfBoundsException", .initialized "java/lang/IndexOutOfBoundsException", .methodLink RX1 23 yX1_requireArgument, .static yX1_requireArgument, .code yX1_requireArgument cX1_requireArgument 3 none, .classLink RX1 132 "java/lang/IllegalArgumentException", .initialized "java/lang/IllegalArgumentException"] ++ wsX10 ++ wsX00 ++ (vx_atS RX1 131 "java/lang/IndexOutOfBoundsException" ["java/lang/RuntimeException", "java/lang/Exception"]).filter goodWord ++ (vx_atS RX1 136 "java/lang/IllegalArgumentException" ["java/lang/RuntimeException", "java/lang/Exception"]).filter goodWord)
def wsX1_setMill : List Cond := .code yX1_setMill cX1_setMill 4 (some .int) :: ([.fieldLink RX1 12 "LockBank" "canal" "LLockBank$Canal;", .fieldLink RX1 30 "LockBank$Canal" "mark" "I", .fieldLink RX1 34 "LockBank$Canal" "millPound" "I", .methodLink RX1 19 yX1_requireIndex, .static yX1_requireIndex, .initialized RX1, .code yX1_requireIndex cX1_requireIndex 3 none, .classLink RX1 127 "java/lang/IndexOutOfBoundsException", .initialized "java/lang/IndexOutOfBoundsException", .methodLink RX1 23 yX1_requireArgument, .static yX1_requireArgument, .code yX1_requireArgument cX1_requireArgument 3 none, .classLink RX1 132 "java/lang/IllegalArgumentException", .initialized "java/lang/IllegalArgumentException"] ++ wsX10 ++ wsX00 ++ (vx_atS RX1 131 "java/lang/IndexOutOfBoundsException" ["java/lang/RuntimeException", "java/lang/Exception"]).filter goodWord ++ (vx_atS RX1 136 "java/lang/IllegalArgumentException" ["java/lang/RuntimeException", "java/lang/Exception"]).filter goodWord)
def wsX1_setDrought : List Cond := .code yX1_setDrought cX1_setDrought 3 (some .boolean) :: ([.fieldLink RX1 12 "LockBank" "canal" "LLockBank$Canal;", .fieldLink RX1 37 "LockBank$Canal" "drought" "Z"] ++ wsX10 ++ wsX00)
def wsX1_setFee : List Cond := .code yX1_setFee cX1_setFee 3 (some .int) :: ([.fieldLink RX1 12 "LockBank" "canal" "LLockBank$Canal;", .fieldLink RX1 41 "LockBank$Canal" "fee" "I", .methodLink RX1 23 yX1_requireArgument, .static yX1_requireArgument, .initialized RX1, .code yX1_requireArgument cX1_requireArgument 3 none, .classLink RX1 132 "java/lang/IllegalArgumentException", .initialized "java/lang/IllegalArgumentException"] ++ wsX10 ++ wsX00 ++ (vx_atS RX1 136 "java/lang/IllegalArgumentException" ["java/lang/RuntimeException", "java/lang/Exception"]).filter goodWord)
def wsX1_water_r1 : List Cond := [Cond.classLink RX1 47 "java/lang/IllegalStateException", Cond.initialized "java/lang/IllegalStateException", Cond.fieldLink RX1 12 "LockBank" "canal" "LLockBank$Canal;", Cond.fieldLink RX1 44 "LockBank$Canal" "bank" "I", Cond.methodLink RX1 19 yX1_requireIndex, Cond.static yX1_requireIndex, Cond.initialized RX1, Cond.code yX1_requireIndex cX1_requireIndex 3 none, Cond.classLink RX1 127 "java/lang/IndexOutOfBoundsException", Cond.initialized "java/lang/IndexOutOfBoundsException", Cond.methodLink RX1 23 yX1_requireArgument, Cond.static yX1_requireArgument, Cond.code yX1_requireArgument cX1_requireArgument 3 none, Cond.classLink RX1 132 "java/lang/IllegalArgumentException", Cond.initialized "java/lang/IllegalArgumentException", Cond.methodLink RX1 54 yX0_pour, Cond.instanceMethod yX0_pour, Cond.selects RX0 yX0_pour yX0_pour, Cond.initialized RX0, Cond.code yX0_pour cX0_pour 6 none, Cond.fieldLink RX0 25 "LockBank$Canal" "level" "[I", Cond.methodLink RX0 98 Lib.Math.min.name, Cond.static Lib.Math.min.name, Cond.initialized "java/lang/Math"]
def wsX1_water_r2 : List Cond := [Cond.code Lib.Math.min.name Lib.Math.min.code 2 (some .int), Cond.fieldLink RX0 28 "LockBank$Canal" "ranOver" "[I"]
def wsX1_water : List Cond := .code yX1_water cX1_water 4 (some .int) :: ((wsX1_water_r1 ++ wsX1_water_r2) ++ wsX10 ++ wsX00 ++ (vx_atS RX1 51 "java/lang/IllegalStateException" ["java/lang/RuntimeException", "java/lang/Exception"]).filter goodWord ++ (vx_atS RX1 131 "java/lang/IndexOutOfBoundsException" ["java/lang/RuntimeException", "java/lang/Exception"]).filter goodWord ++ (vx_atS RX1 136 "java/lang/IllegalArgumentException" ["java/lang/RuntimeException", "java/lang/Exception"]).filter goodWord)
def wsX1_work_r1 : List Cond := [Cond.classLink RX1 47 "java/lang/IllegalStateException", Cond.initialized "java/lang/IllegalStateException", Cond.fieldLink RX1 12 "LockBank" "canal" "LLockBank$Canal;", Cond.fieldLink RX1 58 "LockBank$Canal" "full" "[Z", Cond.methodLink RX1 19 yX1_requireIndex, Cond.static yX1_requireIndex, Cond.initialized RX1, Cond.code yX1_requireIndex cX1_requireIndex 3 none, Cond.classLink RX1 127 "java/lang/IndexOutOfBoundsException", Cond.initialized "java/lang/IndexOutOfBoundsException", Cond.methodLink RX1 62 yX0_canFill, Cond.instanceMethod yX0_canFill, Cond.selects RX0 yX0_canFill yX0_canFill, Cond.initialized RX0, Cond.code yX0_canFill cX0_canFill 2 (some .boolean), Cond.fieldLink RX0 25 "LockBank$Canal" "level" "[I", Cond.methodLink RX1 68 yX0_turnChamber, Cond.instanceMethod yX0_turnChamber, Cond.selects RX0 yX0_turnChamber yX0_turnChamber, Cond.code yX0_turnChamber cX0_turnChamber 2 none, Cond.fieldLink RX0 34 "LockBank$Canal" "full" "[Z", Cond.fieldLink RX0 41 "LockBank$Canal" "filled" "[I", Cond.methodLink RX0 85 yX0_pour, Cond.instanceMethod yX0_pour]
def wsX1_work_r2 : List Cond := [Cond.selects RX0 yX0_pour yX0_pour, Cond.code yX0_pour cX0_pour 6 none, Cond.methodLink RX0 98 Lib.Math.min.name, Cond.static Lib.Math.min.name, Cond.initialized "java/lang/Math", Cond.code Lib.Math.min.name Lib.Math.min.code 2 (some .int), Cond.fieldLink RX0 28 "LockBank$Canal" "ranOver" "[I"]
def wsX1_work : List Cond := .code yX1_work cX1_work 2 (some .boolean) :: ((wsX1_work_r1 ++ wsX1_work_r2) ++ wsX10 ++ wsX00 ++ (vx_atS RX1 51 "java/lang/IllegalStateException" ["java/lang/RuntimeException", "java/lang/Exception"]).filter goodWord ++ (vx_atS RX1 131 "java/lang/IndexOutOfBoundsException" ["java/lang/RuntimeException", "java/lang/Exception"]).filter goodWord)
def wsX1_barge : List Cond := .code yX1_barge cX1_barge 5 (some .int) :: ([.classLink RX1 47 "java/lang/IllegalStateException", .initialized "java/lang/IllegalStateException", .fieldLink RX1 12 "LockBank" "canal" "LLockBank$Canal;", .fieldLink RX1 72 "LockBank$Canal" "barges" "I", .fieldLink RX1 77 "LockBank$Canal" "at" "[I", .fieldLink RX1 80 "LockBank$Canal" "goal" "[I", .fieldLink RX1 83 "LockBank$Canal" "purse" "[I", .methodLink RX1 19 yX1_requireIndex, .static yX1_requireIndex, .initialized RX1, .code yX1_requireIndex cX1_requireIndex 3 none, .classLink RX1 127 "java/lang/IndexOutOfBoundsException", .initialized "java/lang/IndexOutOfBoundsException", .methodLink RX1 23 yX1_requireArgument, .static yX1_requireArgument, .code yX1_requireArgument cX1_requireArgument 3 none, .classLink RX1 132 "java/lang/IllegalArgumentException", .initialized "java/lang/IllegalArgumentException"] ++ wsX10 ++ wsX00 ++ (vx_atS RX1 51 "java/lang/IllegalStateException" ["java/lang/RuntimeException", "java/lang/Exception"]).filter goodWord ++ (vx_atS RX1 131 "java/lang/IndexOutOfBoundsException" ["java/lang/RuntimeException", "java/lang/Exception"]).filter goodWord ++ (vx_atS RX1 136 "java/lang/IllegalArgumentException" ["java/lang/RuntimeException", "java/lang/Exception"]).filter goodWord)
def wsX1_send : List Cond := .code yX1_send cX1_send 4 (some .int) :: ([.fieldLink RX1 12 "LockBank" "canal" "LLockBank$Canal;", .fieldLink RX1 72 "LockBank$Canal" "barges" "I", .fieldLink RX1 80 "LockBank$Canal" "goal" "[I", .methodLink RX1 19 yX1_requireIndex, .static yX1_requireIndex, .initialized RX1, .code yX1_requireIndex cX1_requireIndex 3 none, .classLink RX1 127 "java/lang/IndexOutOfBoundsException", .initialized "java/lang/IndexOutOfBoundsException"] ++ wsX10 ++ wsX00 ++ (vx_atS RX1 131 "java/lang/IndexOutOfBoundsException" ["java/lang/RuntimeException", "java/lang/Exception"]).filter goodWord)
def wsX1_told_r1 : List Cond := [Cond.fieldLink RX1 12 "LockBank" "canal" "LLockBank$Canal;", Cond.fieldLink RX1 72 "LockBank$Canal" "barges" "I", Cond.methodLink RX1 19 yX1_requireIndex, Cond.static yX1_requireIndex, Cond.initialized RX1, Cond.code yX1_requireIndex cX1_requireIndex 3 none, Cond.classLink RX1 127 "java/lang/IndexOutOfBoundsException", Cond.initialized "java/lang/IndexOutOfBoundsException", Cond.methodLink RX1 86 yX0_tellBarge, Cond.instanceMethod yX0_tellBarge, Cond.selects RX0 yX0_tellBarge yX0_tellBarge, Cond.initialized RX0, Cond.code yX0_tellBarge cX0_tellBarge 3 (some .int), Cond.fieldLink RX0 44 "LockBank$Canal" "at" "[I", Cond.fieldLink RX0 47 "LockBank$Canal" "goal" "[I", Cond.fieldLink RX0 50 "LockBank$Canal" "purse" "[I", Cond.fieldLink RX0 53 "LockBank$Canal" "served" "[I", Cond.methodLink RX0 101 yX0_waitsAt, Cond.instanceMethod yX0_waitsAt, Cond.selects RX0 yX0_waitsAt yX0_waitsAt, Cond.code yX0_waitsAt cX0_waitsAt 2 (some .int), Cond.methodLink RX0 119 yX0_hasCome, Cond.instanceMethod yX0_hasCome, Cond.selects RX0 yX0_hasCome yX0_hasCome]
def wsX1_told_r2 : List Cond := [Cond.code yX0_hasCome cX0_hasCome 2 (some .boolean), Cond.methodLink RX0 112 yX0_goesDown, Cond.instanceMethod yX0_goesDown, Cond.selects RX0 yX0_goesDown yX0_goesDown, Cond.code yX0_goesDown cX0_goesDown 2 (some .boolean)]
def wsX1_told : List Cond := .code yX1_told cX1_told 3 (some .int) :: ((wsX1_told_r1 ++ wsX1_told_r2) ++ wsX10 ++ wsX00 ++ (vx_atS RX1 131 "java/lang/IndexOutOfBoundsException" ["java/lang/RuntimeException", "java/lang/Exception"]).filter goodWord)
def wsX1_pound : List Cond := .code yX1_pound cX1_pound 3 (some .int) :: ([.fieldLink RX1 12 "LockBank" "canal" "LLockBank$Canal;", .methodLink RX1 19 yX1_requireIndex, .static yX1_requireIndex, .initialized RX1, .code yX1_requireIndex cX1_requireIndex 3 none, .classLink RX1 127 "java/lang/IndexOutOfBoundsException", .initialized "java/lang/IndexOutOfBoundsException", .methodLink RX1 90 yX0_tellPound, .instanceMethod yX0_tellPound, .selects RX0 yX0_tellPound yX0_tellPound, .initialized RX0, .code yX0_tellPound cX0_tellPound 3 (some .int), .fieldLink RX0 25 "LockBank$Canal" "level" "[I", .fieldLink RX0 28 "LockBank$Canal" "ranOver" "[I", .fieldLink RX0 31 "LockBank$Canal" "drawn" "[I", .methodLink RX0 126 yX0_bargesAt, .instanceMethod yX0_bargesAt, .selects RX0 yX0_bargesAt yX0_bargesAt, .code yX0_bargesAt cX0_bargesAt 4 (some .int), .fieldLink RX0 72 "LockBank$Canal" "barges" "I", .fieldLink RX0 44 "LockBank$Canal" "at" "[I"] ++ wsX10 ++ wsX00 ++ (vx_atS RX1 131 "java/lang/IndexOutOfBoundsException" ["java/lang/RuntimeException", "java/lang/Exception"]).filter goodWord)
def wsX1_lock_r1 : List Cond := [Cond.fieldLink RX1 12 "LockBank" "canal" "LLockBank$Canal;", Cond.methodLink RX1 19 yX1_requireIndex, Cond.static yX1_requireIndex, Cond.initialized RX1, Cond.code yX1_requireIndex cX1_requireIndex 3 none, Cond.classLink RX1 127 "java/lang/IndexOutOfBoundsException", Cond.initialized "java/lang/IndexOutOfBoundsException", Cond.methodLink RX1 93 yX0_tellLock, Cond.instanceMethod yX0_tellLock, Cond.selects RX0 yX0_tellLock yX0_tellLock, Cond.initialized RX0, Cond.code yX0_tellLock cX0_tellLock 3 (some .int), Cond.fieldLink RX0 34 "LockBank$Canal" "full" "[Z", Cond.fieldLink RX0 38 "LockBank$Canal" "lockings" "[I", Cond.fieldLink RX0 41 "LockBank$Canal" "filled" "[I", Cond.methodLink RX0 129 yX0_bargesWaitingAt, Cond.instanceMethod yX0_bargesWaitingAt, Cond.selects RX0 yX0_bargesWaitingAt yX0_bargesWaitingAt, Cond.code yX0_bargesWaitingAt cX0_bargesWaitingAt 4 (some .int), Cond.fieldLink RX0 72 "LockBank$Canal" "barges" "I", Cond.methodLink RX0 101 yX0_waitsAt, Cond.instanceMethod yX0_waitsAt, Cond.selects RX0 yX0_waitsAt yX0_waitsAt, Cond.code yX0_waitsAt cX0_waitsAt 2 (some .int)]
def wsX1_lock_r2 : List Cond := [Cond.fieldLink RX0 44 "LockBank$Canal" "at" "[I", Cond.methodLink RX0 119 yX0_hasCome, Cond.instanceMethod yX0_hasCome, Cond.selects RX0 yX0_hasCome yX0_hasCome, Cond.code yX0_hasCome cX0_hasCome 2 (some .boolean), Cond.fieldLink RX0 47 "LockBank$Canal" "goal" "[I", Cond.methodLink RX0 112 yX0_goesDown, Cond.instanceMethod yX0_goesDown, Cond.selects RX0 yX0_goesDown yX0_goesDown, Cond.code yX0_goesDown cX0_goesDown 2 (some .boolean), Cond.methodLink RX0 92 yX0_nextBarge, Cond.instanceMethod yX0_nextBarge, Cond.selects RX0 yX0_nextBarge yX0_nextBarge, Cond.code yX0_nextBarge cX0_nextBarge 6 (some .int), Cond.methodLink RX0 105 yX0_canServe, Cond.instanceMethod yX0_canServe, Cond.selects RX0 yX0_canServe yX0_canServe, Cond.code yX0_canServe cX0_canServe 4 (some .boolean), Cond.fieldLink RX0 50 "LockBank$Canal" "purse" "[I", Cond.fieldLink RX0 9 "LockBank$Canal" "fee" "I", Cond.fieldLink RX0 62 "LockBank$Canal" "drought" "Z", Cond.methodLink RX0 109 yX0_fits, Cond.instanceMethod yX0_fits, Cond.selects RX0 yX0_fits yX0_fits]
def wsX1_lock_r3 : List Cond := [Cond.code yX0_fits cX0_fits 3 (some .boolean), Cond.methodLink RX0 116 yX0_canFill, Cond.instanceMethod yX0_canFill, Cond.selects RX0 yX0_canFill yX0_canFill, Cond.code yX0_canFill cX0_canFill 2 (some .boolean), Cond.fieldLink RX0 25 "LockBank$Canal" "level" "[I"]
def wsX1_lock : List Cond := .code yX1_lock cX1_lock 3 (some .int) :: ((wsX1_lock_r1 ++ (wsX1_lock_r2 ++ wsX1_lock_r3)) ++ wsX10 ++ wsX00 ++ (vx_atS RX1 131 "java/lang/IndexOutOfBoundsException" ["java/lang/RuntimeException", "java/lang/Exception"]).filter goodWord)
def wsX1_count_r1 : List Cond := [Cond.fieldLink RX1 12 "LockBank" "canal" "LLockBank$Canal;", Cond.methodLink RX1 19 yX1_requireIndex, Cond.static yX1_requireIndex, Cond.initialized RX1, Cond.code yX1_requireIndex cX1_requireIndex 3 none, Cond.classLink RX1 127 "java/lang/IndexOutOfBoundsException", Cond.initialized "java/lang/IndexOutOfBoundsException", Cond.methodLink RX1 96 yX0_tellWhole, Cond.instanceMethod yX0_tellWhole, Cond.selects RX0 yX0_tellWhole yX0_tellWhole, Cond.initialized RX0, Cond.code yX0_tellWhole cX0_tellWhole 2 (some .int), Cond.fieldLink RX0 56 "LockBank$Canal" "hour" "I", Cond.fieldLink RX0 72 "LockBank$Canal" "barges" "I", Cond.fieldLink RX0 59 "LockBank$Canal" "bank" "I", Cond.fieldLink RX0 28 "LockBank$Canal" "ranOver" "[I", Cond.fieldLink RX0 31 "LockBank$Canal" "drawn" "[I", Cond.fieldLink RX0 9 "LockBank$Canal" "fee" "I", Cond.fieldLink RX0 18 "LockBank$Canal" "mark" "I", Cond.fieldLink RX0 15 "LockBank$Canal" "millPound" "I", Cond.methodLink RX0 132 yX0_bargesThatHaveCome, Cond.instanceMethod yX0_bargesThatHaveCome, Cond.selects RX0 yX0_bargesThatHaveCome yX0_bargesThatHaveCome, Cond.code yX0_bargesThatHaveCome cX0_bargesThatHaveCome 3 (some .int)]
def wsX1_count_r2 : List Cond := [Cond.methodLink RX0 119 yX0_hasCome, Cond.instanceMethod yX0_hasCome, Cond.selects RX0 yX0_hasCome yX0_hasCome, Cond.code yX0_hasCome cX0_hasCome 2 (some .boolean), Cond.fieldLink RX0 44 "LockBank$Canal" "at" "[I", Cond.fieldLink RX0 47 "LockBank$Canal" "goal" "[I", Cond.methodLink RX0 135 yX0_waterOfAll, Cond.instanceMethod yX0_waterOfAll, Cond.selects RX0 yX0_waterOfAll yX0_waterOfAll, Cond.code yX0_waterOfAll cX0_waterOfAll 3 (some .int), Cond.fieldLink RX0 25 "LockBank$Canal" "level" "[I", Cond.methodLink RX0 138 yX0_fullChambers, Cond.instanceMethod yX0_fullChambers, Cond.selects RX0 yX0_fullChambers yX0_fullChambers, Cond.code yX0_fullChambers cX0_fullChambers 3 (some .int), Cond.fieldLink RX0 34 "LockBank$Canal" "full" "[Z"]
def wsX1_count : List Cond := .code yX1_count cX1_count 2 (some .int) :: ((wsX1_count_r1 ++ wsX1_count_r2) ++ wsX10 ++ wsX00 ++ (vx_atS RX1 131 "java/lang/IndexOutOfBoundsException" ["java/lang/RuntimeException", "java/lang/Exception"]).filter goodWord)
def wsX1_pass_r1 : List Cond := [Cond.fieldLink RX1 12 "LockBank" "canal" "LLockBank$Canal;", Cond.methodLink RX1 23 yX1_requireArgument, Cond.static yX1_requireArgument, Cond.initialized RX1, Cond.code yX1_requireArgument cX1_requireArgument 3 none, Cond.classLink RX1 132 "java/lang/IllegalArgumentException", Cond.initialized "java/lang/IllegalArgumentException", Cond.methodLink RX1 100 yX0_goHours, Cond.instanceMethod yX0_goHours, Cond.selects RX0 yX0_goHours yX0_goHours, Cond.initialized RX0, Cond.code yX0_goHours cX0_goHours 4 (some .int), Cond.methodLink RX0 75 yX0_goHour, Cond.instanceMethod yX0_goHour, Cond.selects RX0 yX0_goHour yX0_goHour, Cond.code yX0_goHour cX0_goHour 5 (some .int), Cond.fieldLink RX0 21 "LockBank$Canal" "spring" "[I", Cond.fieldLink RX0 56 "LockBank$Canal" "hour" "I", Cond.methodLink RX0 79 yJ9_floorMod_7cf53, Cond.static yJ9_floorMod_7cf53, Cond.initialized RJ9, Cond.code yJ9_floorMod_7cf53 cJ9_floorMod_7cf53 3 (some .int), Cond.methodLink RX0 85 yX0_pour, Cond.instanceMethod yX0_pour]
def wsX1_pass_r2 : List Cond := [Cond.selects RX0 yX0_pour yX0_pour, Cond.code yX0_pour cX0_pour 6 none, Cond.fieldLink RX0 25 "LockBank$Canal" "level" "[I", Cond.methodLink RX0 98 Lib.Math.min.name, Cond.static Lib.Math.min.name, Cond.initialized "java/lang/Math", Cond.code Lib.Math.min.name Lib.Math.min.code 2 (some .int), Cond.fieldLink RX0 28 "LockBank$Canal" "ranOver" "[I", Cond.methodLink RX0 89 yX0_turnMill, Cond.instanceMethod yX0_turnMill, Cond.selects RX0 yX0_turnMill yX0_turnMill, Cond.code yX0_turnMill cX0_turnMill 3 none, Cond.fieldLink RX0 15 "LockBank$Canal" "millPound" "I", Cond.fieldLink RX0 18 "LockBank$Canal" "mark" "I", Cond.fieldLink RX0 31 "LockBank$Canal" "drawn" "[I", Cond.fieldLink RX0 59 "LockBank$Canal" "bank" "I", Cond.methodLink RX0 92 yX0_nextBarge, Cond.instanceMethod yX0_nextBarge, Cond.selects RX0 yX0_nextBarge yX0_nextBarge, Cond.code yX0_nextBarge cX0_nextBarge 6 (some .int), Cond.fieldLink RX0 72 "LockBank$Canal" "barges" "I", Cond.methodLink RX0 101 yX0_waitsAt, Cond.instanceMethod yX0_waitsAt, Cond.selects RX0 yX0_waitsAt yX0_waitsAt]
def wsX1_pass_r3 : List Cond := [Cond.code yX0_waitsAt cX0_waitsAt 2 (some .int), Cond.fieldLink RX0 44 "LockBank$Canal" "at" "[I", Cond.methodLink RX0 119 yX0_hasCome, Cond.instanceMethod yX0_hasCome, Cond.selects RX0 yX0_hasCome yX0_hasCome, Cond.code yX0_hasCome cX0_hasCome 2 (some .boolean), Cond.fieldLink RX0 47 "LockBank$Canal" "goal" "[I", Cond.methodLink RX0 112 yX0_goesDown, Cond.instanceMethod yX0_goesDown, Cond.selects RX0 yX0_goesDown yX0_goesDown, Cond.code yX0_goesDown cX0_goesDown 2 (some .boolean), Cond.methodLink RX0 105 yX0_canServe, Cond.instanceMethod yX0_canServe, Cond.selects RX0 yX0_canServe yX0_canServe, Cond.code yX0_canServe cX0_canServe 4 (some .boolean), Cond.fieldLink RX0 50 "LockBank$Canal" "purse" "[I", Cond.fieldLink RX0 9 "LockBank$Canal" "fee" "I", Cond.fieldLink RX0 62 "LockBank$Canal" "drought" "Z", Cond.fieldLink RX0 34 "LockBank$Canal" "full" "[Z", Cond.methodLink RX0 109 yX0_fits, Cond.instanceMethod yX0_fits, Cond.selects RX0 yX0_fits yX0_fits, Cond.code yX0_fits cX0_fits 3 (some .boolean), Cond.methodLink RX0 116 yX0_canFill]
def wsX1_pass_r4 : List Cond := [Cond.instanceMethod yX0_canFill, Cond.selects RX0 yX0_canFill yX0_canFill, Cond.code yX0_canFill cX0_canFill 2 (some .boolean), Cond.methodLink RX0 95 yX0_serve, Cond.instanceMethod yX0_serve, Cond.selects RX0 yX0_serve yX0_serve, Cond.code yX0_serve cX0_serve 3 none, Cond.fieldLink RX0 53 "LockBank$Canal" "served" "[I", Cond.fieldLink RX0 38 "LockBank$Canal" "lockings" "[I", Cond.methodLink RX0 122 yX0_turnChamber, Cond.instanceMethod yX0_turnChamber, Cond.selects RX0 yX0_turnChamber yX0_turnChamber, Cond.code yX0_turnChamber cX0_turnChamber 2 none, Cond.fieldLink RX0 41 "LockBank$Canal" "filled" "[I"]
def wsX1_pass : List Cond := .code yX1_pass cX1_pass 2 (some .int) :: ((wsX1_pass_r1 ++ (wsX1_pass_r2 ++ (wsX1_pass_r3 ++ wsX1_pass_r4))) ++ wsX10 ++ wsX00 ++ (vx_atS RX1 136 "java/lang/IllegalArgumentException" ["java/lang/RuntimeException", "java/lang/Exception"]).filter goodWord)
def wsX1_arrives_r1 : List Cond := [Cond.fieldLink RX1 12 "LockBank" "canal" "LLockBank$Canal;", Cond.fieldLink RX1 72 "LockBank$Canal" "barges" "I", Cond.fieldLink RX1 16 "LockBank" "trial" "LLockBank$Canal;", Cond.methodLink RX1 19 yX1_requireIndex, Cond.static yX1_requireIndex, Cond.initialized RX1, Cond.code yX1_requireIndex cX1_requireIndex 3 none, Cond.classLink RX1 127 "java/lang/IndexOutOfBoundsException", Cond.initialized "java/lang/IndexOutOfBoundsException", Cond.methodLink RX1 103 yX0_copyFrom, Cond.instanceMethod yX0_copyFrom, Cond.selects RX0 yX0_copyFrom yX0_copyFrom, Cond.initialized RX0, Cond.code yX0_copyFrom cX0_copyFrom 3 none, Cond.fieldLink RX0 56 "LockBank$Canal" "hour" "I", Cond.fieldLink RX0 59 "LockBank$Canal" "bank" "I", Cond.fieldLink RX0 9 "LockBank$Canal" "fee" "I", Cond.fieldLink RX0 62 "LockBank$Canal" "drought" "Z", Cond.fieldLink RX0 15 "LockBank$Canal" "millPound" "I", Cond.fieldLink RX0 18 "LockBank$Canal" "mark" "I", Cond.fieldLink RX0 21 "LockBank$Canal" "spring" "[I", Cond.methodLink RX0 66 arraycopyName, Cond.native arraycopyName, Cond.static arraycopyName]
def wsX1_arrives_r2 : List Cond := [Cond.initialized "java/lang/System", Cond.fieldLink RX0 25 "LockBank$Canal" "level" "[I", Cond.fieldLink RX0 28 "LockBank$Canal" "ranOver" "[I", Cond.fieldLink RX0 31 "LockBank$Canal" "drawn" "[I", Cond.fieldLink RX0 34 "LockBank$Canal" "full" "[Z", Cond.fieldLink RX0 38 "LockBank$Canal" "lockings" "[I", Cond.fieldLink RX0 41 "LockBank$Canal" "filled" "[I", Cond.fieldLink RX0 72 "LockBank$Canal" "barges" "I", Cond.fieldLink RX0 44 "LockBank$Canal" "at" "[I", Cond.fieldLink RX0 47 "LockBank$Canal" "goal" "[I", Cond.fieldLink RX0 50 "LockBank$Canal" "purse" "[I", Cond.fieldLink RX0 53 "LockBank$Canal" "served" "[I", Cond.methodLink RX1 107 yX0_hasCome, Cond.instanceMethod yX0_hasCome, Cond.selects RX0 yX0_hasCome yX0_hasCome, Cond.code yX0_hasCome cX0_hasCome 2 (some .boolean), Cond.methodLink RX1 110 yX0_goHour, Cond.instanceMethod yX0_goHour, Cond.selects RX0 yX0_goHour yX0_goHour, Cond.code yX0_goHour cX0_goHour 5 (some .int), Cond.methodLink RX0 79 yJ9_floorMod_7cf53, Cond.static yJ9_floorMod_7cf53, Cond.initialized RJ9, Cond.code yJ9_floorMod_7cf53 cJ9_floorMod_7cf53 3 (some .int)]
def wsX1_arrives_r3 : List Cond := [Cond.methodLink RX0 85 yX0_pour, Cond.instanceMethod yX0_pour, Cond.selects RX0 yX0_pour yX0_pour, Cond.code yX0_pour cX0_pour 6 none, Cond.methodLink RX0 98 Lib.Math.min.name, Cond.static Lib.Math.min.name, Cond.initialized "java/lang/Math", Cond.code Lib.Math.min.name Lib.Math.min.code 2 (some .int), Cond.methodLink RX0 89 yX0_turnMill, Cond.instanceMethod yX0_turnMill, Cond.selects RX0 yX0_turnMill yX0_turnMill, Cond.code yX0_turnMill cX0_turnMill 3 none, Cond.methodLink RX0 92 yX0_nextBarge, Cond.instanceMethod yX0_nextBarge, Cond.selects RX0 yX0_nextBarge yX0_nextBarge, Cond.code yX0_nextBarge cX0_nextBarge 6 (some .int), Cond.methodLink RX0 101 yX0_waitsAt, Cond.instanceMethod yX0_waitsAt, Cond.selects RX0 yX0_waitsAt yX0_waitsAt, Cond.code yX0_waitsAt cX0_waitsAt 2 (some .int), Cond.methodLink RX0 119 yX0_hasCome, Cond.methodLink RX0 112 yX0_goesDown, Cond.instanceMethod yX0_goesDown, Cond.selects RX0 yX0_goesDown yX0_goesDown]
def wsX1_arrives_r4 : List Cond := [Cond.code yX0_goesDown cX0_goesDown 2 (some .boolean), Cond.methodLink RX0 105 yX0_canServe, Cond.instanceMethod yX0_canServe, Cond.selects RX0 yX0_canServe yX0_canServe, Cond.code yX0_canServe cX0_canServe 4 (some .boolean), Cond.methodLink RX0 109 yX0_fits, Cond.instanceMethod yX0_fits, Cond.selects RX0 yX0_fits yX0_fits, Cond.code yX0_fits cX0_fits 3 (some .boolean), Cond.methodLink RX0 116 yX0_canFill, Cond.instanceMethod yX0_canFill, Cond.selects RX0 yX0_canFill yX0_canFill, Cond.code yX0_canFill cX0_canFill 2 (some .boolean), Cond.methodLink RX0 95 yX0_serve, Cond.instanceMethod yX0_serve, Cond.selects RX0 yX0_serve yX0_serve, Cond.code yX0_serve cX0_serve 3 none, Cond.methodLink RX0 122 yX0_turnChamber, Cond.instanceMethod yX0_turnChamber, Cond.selects RX0 yX0_turnChamber yX0_turnChamber, Cond.code yX0_turnChamber cX0_turnChamber 2 none]
def wsX1_arrives : List Cond := .code yX1_arrives cX1_arrives 3 (some .int) :: ((wsX1_arrives_r1 ++ (wsX1_arrives_r2 ++ (wsX1_arrives_r3 ++ wsX1_arrives_r4))) ++ wsX10 ++ wsX00 ++ (vx_atS RX1 131 "java/lang/IndexOutOfBoundsException" ["java/lang/RuntimeException", "java/lang/Exception"]).filter goodWord)
def wsX1_foresee_r1 : List Cond := [Cond.fieldLink RX1 16 "LockBank" "trial" "LLockBank$Canal;", Cond.fieldLink RX1 12 "LockBank" "canal" "LLockBank$Canal;", Cond.methodLink RX1 23 yX1_requireArgument, Cond.static yX1_requireArgument, Cond.initialized RX1, Cond.code yX1_requireArgument cX1_requireArgument 3 none, Cond.classLink RX1 132 "java/lang/IllegalArgumentException", Cond.initialized "java/lang/IllegalArgumentException", Cond.methodLink RX1 19 yX1_requireIndex, Cond.static yX1_requireIndex, Cond.code yX1_requireIndex cX1_requireIndex 3 none, Cond.classLink RX1 127 "java/lang/IndexOutOfBoundsException", Cond.initialized "java/lang/IndexOutOfBoundsException", Cond.methodLink RX1 103 yX0_copyFrom, Cond.instanceMethod yX0_copyFrom, Cond.selects RX0 yX0_copyFrom yX0_copyFrom, Cond.initialized RX0, Cond.code yX0_copyFrom cX0_copyFrom 3 none, Cond.fieldLink RX0 56 "LockBank$Canal" "hour" "I", Cond.fieldLink RX0 59 "LockBank$Canal" "bank" "I", Cond.fieldLink RX0 9 "LockBank$Canal" "fee" "I", Cond.fieldLink RX0 62 "LockBank$Canal" "drought" "Z", Cond.fieldLink RX0 15 "LockBank$Canal" "millPound" "I", Cond.fieldLink RX0 18 "LockBank$Canal" "mark" "I"]
def wsX1_foresee_r2 : List Cond := [Cond.fieldLink RX0 21 "LockBank$Canal" "spring" "[I", Cond.methodLink RX0 66 arraycopyName, Cond.native arraycopyName, Cond.static arraycopyName, Cond.initialized "java/lang/System", Cond.fieldLink RX0 25 "LockBank$Canal" "level" "[I", Cond.fieldLink RX0 28 "LockBank$Canal" "ranOver" "[I", Cond.fieldLink RX0 31 "LockBank$Canal" "drawn" "[I", Cond.fieldLink RX0 34 "LockBank$Canal" "full" "[Z", Cond.fieldLink RX0 38 "LockBank$Canal" "lockings" "[I", Cond.fieldLink RX0 41 "LockBank$Canal" "filled" "[I", Cond.fieldLink RX0 72 "LockBank$Canal" "barges" "I", Cond.fieldLink RX0 44 "LockBank$Canal" "at" "[I", Cond.fieldLink RX0 47 "LockBank$Canal" "goal" "[I", Cond.fieldLink RX0 50 "LockBank$Canal" "purse" "[I", Cond.fieldLink RX0 53 "LockBank$Canal" "served" "[I", Cond.methodLink RX1 100 yX0_goHours, Cond.instanceMethod yX0_goHours, Cond.selects RX0 yX0_goHours yX0_goHours, Cond.code yX0_goHours cX0_goHours 4 (some .int), Cond.methodLink RX0 75 yX0_goHour, Cond.instanceMethod yX0_goHour, Cond.selects RX0 yX0_goHour yX0_goHour, Cond.code yX0_goHour cX0_goHour 5 (some .int)]
def wsX1_foresee_r3 : List Cond := [Cond.methodLink RX0 79 yJ9_floorMod_7cf53, Cond.static yJ9_floorMod_7cf53, Cond.initialized RJ9, Cond.code yJ9_floorMod_7cf53 cJ9_floorMod_7cf53 3 (some .int), Cond.methodLink RX0 85 yX0_pour, Cond.instanceMethod yX0_pour, Cond.selects RX0 yX0_pour yX0_pour, Cond.code yX0_pour cX0_pour 6 none, Cond.methodLink RX0 98 Lib.Math.min.name, Cond.static Lib.Math.min.name, Cond.initialized "java/lang/Math", Cond.code Lib.Math.min.name Lib.Math.min.code 2 (some .int), Cond.methodLink RX0 89 yX0_turnMill, Cond.instanceMethod yX0_turnMill, Cond.selects RX0 yX0_turnMill yX0_turnMill, Cond.code yX0_turnMill cX0_turnMill 3 none, Cond.methodLink RX0 92 yX0_nextBarge, Cond.instanceMethod yX0_nextBarge, Cond.selects RX0 yX0_nextBarge yX0_nextBarge, Cond.code yX0_nextBarge cX0_nextBarge 6 (some .int), Cond.methodLink RX0 101 yX0_waitsAt, Cond.instanceMethod yX0_waitsAt, Cond.selects RX0 yX0_waitsAt yX0_waitsAt, Cond.code yX0_waitsAt cX0_waitsAt 2 (some .int)]
def wsX1_foresee_r4 : List Cond := [Cond.methodLink RX0 119 yX0_hasCome, Cond.instanceMethod yX0_hasCome, Cond.selects RX0 yX0_hasCome yX0_hasCome, Cond.code yX0_hasCome cX0_hasCome 2 (some .boolean), Cond.methodLink RX0 112 yX0_goesDown, Cond.instanceMethod yX0_goesDown, Cond.selects RX0 yX0_goesDown yX0_goesDown, Cond.code yX0_goesDown cX0_goesDown 2 (some .boolean), Cond.methodLink RX0 105 yX0_canServe, Cond.instanceMethod yX0_canServe, Cond.selects RX0 yX0_canServe yX0_canServe, Cond.code yX0_canServe cX0_canServe 4 (some .boolean), Cond.methodLink RX0 109 yX0_fits, Cond.instanceMethod yX0_fits, Cond.selects RX0 yX0_fits yX0_fits, Cond.code yX0_fits cX0_fits 3 (some .boolean), Cond.methodLink RX0 116 yX0_canFill, Cond.instanceMethod yX0_canFill, Cond.selects RX0 yX0_canFill yX0_canFill, Cond.code yX0_canFill cX0_canFill 2 (some .boolean), Cond.methodLink RX0 95 yX0_serve, Cond.instanceMethod yX0_serve, Cond.selects RX0 yX0_serve yX0_serve, Cond.code yX0_serve cX0_serve 3 none]
def wsX1_foresee_r5 : List Cond := [Cond.methodLink RX0 122 yX0_turnChamber, Cond.instanceMethod yX0_turnChamber, Cond.selects RX0 yX0_turnChamber yX0_turnChamber, Cond.code yX0_turnChamber cX0_turnChamber 2 none, Cond.methodLink RX1 96 yX0_tellWhole, Cond.instanceMethod yX0_tellWhole, Cond.selects RX0 yX0_tellWhole yX0_tellWhole, Cond.code yX0_tellWhole cX0_tellWhole 2 (some .int), Cond.methodLink RX0 132 yX0_bargesThatHaveCome, Cond.instanceMethod yX0_bargesThatHaveCome, Cond.selects RX0 yX0_bargesThatHaveCome yX0_bargesThatHaveCome, Cond.code yX0_bargesThatHaveCome cX0_bargesThatHaveCome 3 (some .int), Cond.methodLink RX0 135 yX0_waterOfAll, Cond.instanceMethod yX0_waterOfAll, Cond.selects RX0 yX0_waterOfAll yX0_waterOfAll, Cond.code yX0_waterOfAll cX0_waterOfAll 3 (some .int), Cond.methodLink RX0 138 yX0_fullChambers, Cond.instanceMethod yX0_fullChambers, Cond.selects RX0 yX0_fullChambers yX0_fullChambers, Cond.code yX0_fullChambers cX0_fullChambers 3 (some .int)]
def wsX1_foresee : List Cond := .code yX1_foresee cX1_foresee 3 (some .int) :: ((wsX1_foresee_r1 ++ (wsX1_foresee_r2 ++ (wsX1_foresee_r3 ++ (wsX1_foresee_r4 ++ wsX1_foresee_r5)))) ++ wsX10 ++ wsX00 ++ (vx_atS RX1 136 "java/lang/IllegalArgumentException" ["java/lang/RuntimeException", "java/lang/Exception"]).filter goodWord ++ (vx_atS RX1 131 "java/lang/IndexOutOfBoundsException" ["java/lang/RuntimeException", "java/lang/Exception"]).filter goodWord)
def wsX1_advise_r1 : List Cond := [Cond.fieldLink RX1 16 "LockBank" "trial" "LLockBank$Canal;", Cond.fieldLink RX1 12 "LockBank" "canal" "LLockBank$Canal;", Cond.fieldLink RX1 30 "LockBank$Canal" "mark" "I", Cond.fieldLink RX1 44 "LockBank$Canal" "bank" "I", Cond.methodLink RX1 23 yX1_requireArgument, Cond.static yX1_requireArgument, Cond.initialized RX1, Cond.code yX1_requireArgument cX1_requireArgument 3 none, Cond.classLink RX1 132 "java/lang/IllegalArgumentException", Cond.initialized "java/lang/IllegalArgumentException", Cond.methodLink RX1 103 yX0_copyFrom, Cond.instanceMethod yX0_copyFrom, Cond.selects RX0 yX0_copyFrom yX0_copyFrom, Cond.initialized RX0, Cond.code yX0_copyFrom cX0_copyFrom 3 none, Cond.fieldLink RX0 56 "LockBank$Canal" "hour" "I", Cond.fieldLink RX0 59 "LockBank$Canal" "bank" "I", Cond.fieldLink RX0 9 "LockBank$Canal" "fee" "I", Cond.fieldLink RX0 62 "LockBank$Canal" "drought" "Z", Cond.fieldLink RX0 15 "LockBank$Canal" "millPound" "I", Cond.fieldLink RX0 18 "LockBank$Canal" "mark" "I", Cond.fieldLink RX0 21 "LockBank$Canal" "spring" "[I", Cond.methodLink RX0 66 arraycopyName, Cond.native arraycopyName]
def wsX1_advise_r2 : List Cond := [Cond.static arraycopyName, Cond.initialized "java/lang/System", Cond.fieldLink RX0 25 "LockBank$Canal" "level" "[I", Cond.fieldLink RX0 28 "LockBank$Canal" "ranOver" "[I", Cond.fieldLink RX0 31 "LockBank$Canal" "drawn" "[I", Cond.fieldLink RX0 34 "LockBank$Canal" "full" "[Z", Cond.fieldLink RX0 38 "LockBank$Canal" "lockings" "[I", Cond.fieldLink RX0 41 "LockBank$Canal" "filled" "[I", Cond.fieldLink RX0 72 "LockBank$Canal" "barges" "I", Cond.fieldLink RX0 44 "LockBank$Canal" "at" "[I", Cond.fieldLink RX0 47 "LockBank$Canal" "goal" "[I", Cond.fieldLink RX0 50 "LockBank$Canal" "purse" "[I", Cond.fieldLink RX0 53 "LockBank$Canal" "served" "[I", Cond.methodLink RX1 100 yX0_goHours, Cond.instanceMethod yX0_goHours, Cond.selects RX0 yX0_goHours yX0_goHours, Cond.code yX0_goHours cX0_goHours 4 (some .int), Cond.methodLink RX0 75 yX0_goHour, Cond.instanceMethod yX0_goHour, Cond.selects RX0 yX0_goHour yX0_goHour, Cond.code yX0_goHour cX0_goHour 5 (some .int), Cond.methodLink RX0 79 yJ9_floorMod_7cf53, Cond.static yJ9_floorMod_7cf53, Cond.initialized RJ9]
def wsX1_advise_r3 : List Cond := [Cond.code yJ9_floorMod_7cf53 cJ9_floorMod_7cf53 3 (some .int), Cond.methodLink RX0 85 yX0_pour, Cond.instanceMethod yX0_pour, Cond.selects RX0 yX0_pour yX0_pour, Cond.code yX0_pour cX0_pour 6 none, Cond.methodLink RX0 98 Lib.Math.min.name, Cond.static Lib.Math.min.name, Cond.initialized "java/lang/Math", Cond.code Lib.Math.min.name Lib.Math.min.code 2 (some .int), Cond.methodLink RX0 89 yX0_turnMill, Cond.instanceMethod yX0_turnMill, Cond.selects RX0 yX0_turnMill yX0_turnMill, Cond.code yX0_turnMill cX0_turnMill 3 none, Cond.methodLink RX0 92 yX0_nextBarge, Cond.instanceMethod yX0_nextBarge, Cond.selects RX0 yX0_nextBarge yX0_nextBarge, Cond.code yX0_nextBarge cX0_nextBarge 6 (some .int), Cond.methodLink RX0 101 yX0_waitsAt, Cond.instanceMethod yX0_waitsAt, Cond.selects RX0 yX0_waitsAt yX0_waitsAt, Cond.code yX0_waitsAt cX0_waitsAt 2 (some .int), Cond.methodLink RX0 119 yX0_hasCome, Cond.instanceMethod yX0_hasCome, Cond.selects RX0 yX0_hasCome yX0_hasCome]
def wsX1_advise_r4 : List Cond := [Cond.code yX0_hasCome cX0_hasCome 2 (some .boolean), Cond.methodLink RX0 112 yX0_goesDown, Cond.instanceMethod yX0_goesDown, Cond.selects RX0 yX0_goesDown yX0_goesDown, Cond.code yX0_goesDown cX0_goesDown 2 (some .boolean), Cond.methodLink RX0 105 yX0_canServe, Cond.instanceMethod yX0_canServe, Cond.selects RX0 yX0_canServe yX0_canServe, Cond.code yX0_canServe cX0_canServe 4 (some .boolean), Cond.methodLink RX0 109 yX0_fits, Cond.instanceMethod yX0_fits, Cond.selects RX0 yX0_fits yX0_fits, Cond.code yX0_fits cX0_fits 3 (some .boolean), Cond.methodLink RX0 116 yX0_canFill, Cond.instanceMethod yX0_canFill, Cond.selects RX0 yX0_canFill yX0_canFill, Cond.code yX0_canFill cX0_canFill 2 (some .boolean), Cond.methodLink RX0 95 yX0_serve, Cond.instanceMethod yX0_serve, Cond.selects RX0 yX0_serve yX0_serve, Cond.code yX0_serve cX0_serve 3 none, Cond.methodLink RX0 122 yX0_turnChamber, Cond.instanceMethod yX0_turnChamber, Cond.selects RX0 yX0_turnChamber yX0_turnChamber]
def wsX1_advise_r5 : List Cond := [Cond.code yX0_turnChamber cX0_turnChamber 2 none]
def wsX1_advise : List Cond := .code yX1_advise cX1_advise 5 (some .int) :: ((wsX1_advise_r1 ++ (wsX1_advise_r2 ++ (wsX1_advise_r3 ++ (wsX1_advise_r4 ++ wsX1_advise_r5)))) ++ wsX10 ++ wsX00 ++ (vx_atS RX1 136 "java/lang/IllegalArgumentException" ["java/lang/RuntimeException", "java/lang/Exception"]).filter goodWord)
def wsX1_stops_r1 : List Cond := [Cond.fieldLink RX1 16 "LockBank" "trial" "LLockBank$Canal;", Cond.fieldLink RX1 12 "LockBank" "canal" "LLockBank$Canal;", Cond.methodLink RX1 103 yX0_copyFrom, Cond.instanceMethod yX0_copyFrom, Cond.selects RX0 yX0_copyFrom yX0_copyFrom, Cond.initialized RX0, Cond.code yX0_copyFrom cX0_copyFrom 3 none, Cond.fieldLink RX0 56 "LockBank$Canal" "hour" "I", Cond.fieldLink RX0 59 "LockBank$Canal" "bank" "I", Cond.fieldLink RX0 9 "LockBank$Canal" "fee" "I", Cond.fieldLink RX0 62 "LockBank$Canal" "drought" "Z", Cond.fieldLink RX0 15 "LockBank$Canal" "millPound" "I", Cond.fieldLink RX0 18 "LockBank$Canal" "mark" "I", Cond.fieldLink RX0 21 "LockBank$Canal" "spring" "[I", Cond.methodLink RX0 66 arraycopyName, Cond.native arraycopyName, Cond.static arraycopyName, Cond.initialized "java/lang/System", Cond.fieldLink RX0 25 "LockBank$Canal" "level" "[I", Cond.fieldLink RX0 28 "LockBank$Canal" "ranOver" "[I", Cond.fieldLink RX0 31 "LockBank$Canal" "drawn" "[I", Cond.fieldLink RX0 34 "LockBank$Canal" "full" "[Z", Cond.fieldLink RX0 38 "LockBank$Canal" "lockings" "[I", Cond.fieldLink RX0 41 "LockBank$Canal" "filled" "[I"]
def wsX1_stops_r2 : List Cond := [Cond.fieldLink RX0 72 "LockBank$Canal" "barges" "I", Cond.fieldLink RX0 44 "LockBank$Canal" "at" "[I", Cond.fieldLink RX0 47 "LockBank$Canal" "goal" "[I", Cond.fieldLink RX0 50 "LockBank$Canal" "purse" "[I", Cond.fieldLink RX0 53 "LockBank$Canal" "served" "[I", Cond.methodLink RX1 110 yX0_goHour, Cond.instanceMethod yX0_goHour, Cond.selects RX0 yX0_goHour yX0_goHour, Cond.code yX0_goHour cX0_goHour 5 (some .int), Cond.methodLink RX0 79 yJ9_floorMod_7cf53, Cond.static yJ9_floorMod_7cf53, Cond.initialized RJ9, Cond.code yJ9_floorMod_7cf53 cJ9_floorMod_7cf53 3 (some .int), Cond.methodLink RX0 85 yX0_pour, Cond.instanceMethod yX0_pour, Cond.selects RX0 yX0_pour yX0_pour, Cond.code yX0_pour cX0_pour 6 none, Cond.methodLink RX0 98 Lib.Math.min.name, Cond.static Lib.Math.min.name, Cond.initialized "java/lang/Math", Cond.code Lib.Math.min.name Lib.Math.min.code 2 (some .int), Cond.methodLink RX0 89 yX0_turnMill, Cond.instanceMethod yX0_turnMill, Cond.selects RX0 yX0_turnMill yX0_turnMill]
def wsX1_stops_r3 : List Cond := [Cond.code yX0_turnMill cX0_turnMill 3 none, Cond.methodLink RX0 92 yX0_nextBarge, Cond.instanceMethod yX0_nextBarge, Cond.selects RX0 yX0_nextBarge yX0_nextBarge, Cond.code yX0_nextBarge cX0_nextBarge 6 (some .int), Cond.methodLink RX0 101 yX0_waitsAt, Cond.instanceMethod yX0_waitsAt, Cond.selects RX0 yX0_waitsAt yX0_waitsAt, Cond.code yX0_waitsAt cX0_waitsAt 2 (some .int), Cond.methodLink RX0 119 yX0_hasCome, Cond.instanceMethod yX0_hasCome, Cond.selects RX0 yX0_hasCome yX0_hasCome, Cond.code yX0_hasCome cX0_hasCome 2 (some .boolean), Cond.methodLink RX0 112 yX0_goesDown, Cond.instanceMethod yX0_goesDown, Cond.selects RX0 yX0_goesDown yX0_goesDown, Cond.code yX0_goesDown cX0_goesDown 2 (some .boolean), Cond.methodLink RX0 105 yX0_canServe, Cond.instanceMethod yX0_canServe, Cond.selects RX0 yX0_canServe yX0_canServe, Cond.code yX0_canServe cX0_canServe 4 (some .boolean), Cond.methodLink RX0 109 yX0_fits, Cond.instanceMethod yX0_fits, Cond.selects RX0 yX0_fits yX0_fits]
def wsX1_stops_r4 : List Cond := [Cond.code yX0_fits cX0_fits 3 (some .boolean), Cond.methodLink RX0 116 yX0_canFill, Cond.instanceMethod yX0_canFill, Cond.selects RX0 yX0_canFill yX0_canFill, Cond.code yX0_canFill cX0_canFill 2 (some .boolean), Cond.methodLink RX0 95 yX0_serve, Cond.instanceMethod yX0_serve, Cond.selects RX0 yX0_serve yX0_serve, Cond.code yX0_serve cX0_serve 3 none, Cond.methodLink RX0 122 yX0_turnChamber, Cond.instanceMethod yX0_turnChamber, Cond.selects RX0 yX0_turnChamber yX0_turnChamber, Cond.code yX0_turnChamber cX0_turnChamber 2 none]
def wsX1_stops : List Cond := .code yX1_stops cX1_stops 2 (some .int) :: ((wsX1_stops_r1 ++ (wsX1_stops_r2 ++ (wsX1_stops_r3 ++ wsX1_stops_r4))) ++ wsX10 ++ wsX00)
def wsX1_mean : List Cond := .code yX1_mean cX1_mean 1 (some .double) :: ([.fieldLink RX1 12 "LockBank" "canal" "LLockBank$Canal;", .constantDouble RX1 117 (4618441417868443648), .methodLink RX1 114 yX0_waterOfAll, .instanceMethod yX0_waterOfAll, .selects RX0 yX0_waterOfAll yX0_waterOfAll, .initialized RX0, .code yX0_waterOfAll cX0_waterOfAll 3 (some .int), .fieldLink RX0 25 "LockBank$Canal" "level" "[I"] ++ wsX10 ++ wsX00)
def wsX1_mix : List Cond := .code yX1_mix cX1_mix 3 (some .long) :: ([.constantLong RX1 125 (31)])
def wsX1_digest_r1 : List Cond := [Cond.constantLong RX1 119 (1453), Cond.fieldLink RX1 12 "LockBank" "canal" "LLockBank$Canal;", Cond.fieldLink RX1 37 "LockBank$Canal" "drought" "Z", Cond.fieldLink RX1 26 "LockBank$Canal" "spring" "[I", Cond.fieldLink RX1 72 "LockBank$Canal" "barges" "I", Cond.methodLink RX1 96 yX0_tellWhole, Cond.instanceMethod yX0_tellWhole, Cond.selects RX0 yX0_tellWhole yX0_tellWhole, Cond.initialized RX0, Cond.code yX0_tellWhole cX0_tellWhole 2 (some .int), Cond.fieldLink RX0 56 "LockBank$Canal" "hour" "I", Cond.fieldLink RX0 72 "LockBank$Canal" "barges" "I", Cond.fieldLink RX0 59 "LockBank$Canal" "bank" "I", Cond.fieldLink RX0 28 "LockBank$Canal" "ranOver" "[I", Cond.fieldLink RX0 31 "LockBank$Canal" "drawn" "[I", Cond.fieldLink RX0 9 "LockBank$Canal" "fee" "I", Cond.fieldLink RX0 18 "LockBank$Canal" "mark" "I", Cond.fieldLink RX0 15 "LockBank$Canal" "millPound" "I", Cond.methodLink RX0 132 yX0_bargesThatHaveCome, Cond.instanceMethod yX0_bargesThatHaveCome, Cond.selects RX0 yX0_bargesThatHaveCome yX0_bargesThatHaveCome, Cond.code yX0_bargesThatHaveCome cX0_bargesThatHaveCome 3 (some .int), Cond.methodLink RX0 119 yX0_hasCome, Cond.instanceMethod yX0_hasCome]
def wsX1_digest_r2 : List Cond := [Cond.selects RX0 yX0_hasCome yX0_hasCome, Cond.code yX0_hasCome cX0_hasCome 2 (some .boolean), Cond.fieldLink RX0 44 "LockBank$Canal" "at" "[I", Cond.fieldLink RX0 47 "LockBank$Canal" "goal" "[I", Cond.methodLink RX0 135 yX0_waterOfAll, Cond.instanceMethod yX0_waterOfAll, Cond.selects RX0 yX0_waterOfAll yX0_waterOfAll, Cond.code yX0_waterOfAll cX0_waterOfAll 3 (some .int), Cond.fieldLink RX0 25 "LockBank$Canal" "level" "[I", Cond.methodLink RX0 138 yX0_fullChambers, Cond.instanceMethod yX0_fullChambers, Cond.selects RX0 yX0_fullChambers yX0_fullChambers, Cond.code yX0_fullChambers cX0_fullChambers 3 (some .int), Cond.fieldLink RX0 34 "LockBank$Canal" "full" "[Z", Cond.methodLink RX1 121 yX1_mix, Cond.static yX1_mix, Cond.initialized RX1, Cond.code yX1_mix cX1_mix 3 (some .long), Cond.constantLong RX1 125 (31), Cond.methodLink RX1 90 yX0_tellPound, Cond.instanceMethod yX0_tellPound, Cond.selects RX0 yX0_tellPound yX0_tellPound, Cond.code yX0_tellPound cX0_tellPound 3 (some .int), Cond.methodLink RX0 126 yX0_bargesAt]
def wsX1_digest_r3 : List Cond := [Cond.instanceMethod yX0_bargesAt, Cond.selects RX0 yX0_bargesAt yX0_bargesAt, Cond.code yX0_bargesAt cX0_bargesAt 4 (some .int), Cond.methodLink RX1 93 yX0_tellLock, Cond.instanceMethod yX0_tellLock, Cond.selects RX0 yX0_tellLock yX0_tellLock, Cond.code yX0_tellLock cX0_tellLock 3 (some .int), Cond.fieldLink RX0 38 "LockBank$Canal" "lockings" "[I", Cond.fieldLink RX0 41 "LockBank$Canal" "filled" "[I", Cond.methodLink RX0 129 yX0_bargesWaitingAt, Cond.instanceMethod yX0_bargesWaitingAt, Cond.selects RX0 yX0_bargesWaitingAt yX0_bargesWaitingAt, Cond.code yX0_bargesWaitingAt cX0_bargesWaitingAt 4 (some .int), Cond.methodLink RX0 101 yX0_waitsAt, Cond.instanceMethod yX0_waitsAt, Cond.selects RX0 yX0_waitsAt yX0_waitsAt, Cond.code yX0_waitsAt cX0_waitsAt 2 (some .int), Cond.methodLink RX0 112 yX0_goesDown, Cond.instanceMethod yX0_goesDown, Cond.selects RX0 yX0_goesDown yX0_goesDown, Cond.code yX0_goesDown cX0_goesDown 2 (some .boolean), Cond.methodLink RX0 92 yX0_nextBarge, Cond.instanceMethod yX0_nextBarge, Cond.selects RX0 yX0_nextBarge yX0_nextBarge]
def wsX1_digest_r4 : List Cond := [Cond.code yX0_nextBarge cX0_nextBarge 6 (some .int), Cond.methodLink RX0 105 yX0_canServe, Cond.instanceMethod yX0_canServe, Cond.selects RX0 yX0_canServe yX0_canServe, Cond.code yX0_canServe cX0_canServe 4 (some .boolean), Cond.fieldLink RX0 50 "LockBank$Canal" "purse" "[I", Cond.fieldLink RX0 62 "LockBank$Canal" "drought" "Z", Cond.methodLink RX0 109 yX0_fits, Cond.instanceMethod yX0_fits, Cond.selects RX0 yX0_fits yX0_fits, Cond.code yX0_fits cX0_fits 3 (some .boolean), Cond.methodLink RX0 116 yX0_canFill, Cond.instanceMethod yX0_canFill, Cond.selects RX0 yX0_canFill yX0_canFill, Cond.code yX0_canFill cX0_canFill 2 (some .boolean), Cond.methodLink RX1 86 yX0_tellBarge, Cond.instanceMethod yX0_tellBarge, Cond.selects RX0 yX0_tellBarge yX0_tellBarge, Cond.code yX0_tellBarge cX0_tellBarge 3 (some .int), Cond.fieldLink RX0 53 "LockBank$Canal" "served" "[I"]
def wsX1_digest : List Cond := .code yX1_digest cX1_digest 5 (some .long) :: ((wsX1_digest_r1 ++ (wsX1_digest_r2 ++ (wsX1_digest_r3 ++ wsX1_digest_r4))) ++ wsX10 ++ wsX00)
def wsX2_init : List Cond := .code yX2_init cX2_init 1 none :: ([.methodLink RX2 1 objectInit, .instanceMethod objectInit, .code objectInit ⟨#[0xb1]⟩ 1 none, .arrayClass .int, .fieldLink RX2 7 "LockBankLaw$Sim" "spring" "[I", .classLink RX2 13 "[I", .fieldLink RX2 14 "LockBankLaw$Sim" "pounds" "[[I", .fieldLink RX2 18 "LockBankLaw$Sim" "locks" "[[I", .fieldLink RX2 21 "LockBankLaw$Sim" "mill" "I", .fieldLink RX2 25 "LockBankLaw$Sim" "mark" "I", .fieldLink RX2 28 "LockBankLaw$Sim" "fee" "I", .fieldLink RX2 31 "LockBankLaw$Sim" "barges" "[[I"] ++ wsX20)
def wsX2_come : List Cond := .code yX2_come cX2_come 6 none :: ([.fieldLink RX2 31 "LockBankLaw$Sim" "barges" "[[I", .classLink RX2 13 "[I", .arrayClass .int] ++ wsX20)
def wsX2_into : List Cond := .code yX2_into cX2_into 5 none :: ([.fieldLink RX2 46 "LockBankLaw$Sim" "away" "I", .fieldLink RX2 14 "LockBankLaw$Sim" "pounds" "[[I", .methodLink RX2 56 yX2_into, .instanceMethod yX2_into, .selects RX2 yX2_into yX2_into, .initialized RX2] ++ wsX20)
def wsX2_turn : List Cond := .code yX2_turn cX2_turn 3 none :: ([.fieldLink RX2 18 "LockBankLaw$Sim" "locks" "[[I", .fieldLink RX2 14 "LockBankLaw$Sim" "pounds" "[[I", .methodLink RX2 56 yX2_into, .instanceMethod yX2_into, .selects RX2 yX2_into yX2_into, .initialized RX2, .code yX2_into cX2_into 5 none, .fieldLink RX2 46 "LockBankLaw$Sim" "away" "I"] ++ wsX20)
def wsX2_hasWater : List Cond := .code yX2_hasWater cX2_hasWater 2 (some .boolean) :: ([.fieldLink RX2 14 "LockBankLaw$Sim" "pounds" "[[I"] ++ wsX20)
def wsX2_lockOf : List Cond := .code yX2_lockOf cX2_lockOf 2 (some .int) :: ([])
def wsX2_rank : List Cond := .code yX2_rank cX2_rank 5 (some .int) :: ([.fieldLink RX2 28 "LockBankLaw$Sim" "fee" "I", .fieldLink RX2 18 "LockBankLaw$Sim" "locks" "[[I", .fieldLink RX2 49 "LockBankLaw$Sim" "isDry" "Z", .methodLink RX2 60 yX2_lockOf, .instanceMethod yX2_lockOf, .selects RX2 yX2_lockOf yX2_lockOf, .initialized RX2, .code yX2_lockOf cX2_lockOf 2 (some .int), .methodLink RX2 64 yX2_hasWater, .instanceMethod yX2_hasWater, .selects RX2 yX2_hasWater yX2_hasWater, .code yX2_hasWater cX2_hasWater 2 (some .boolean), .fieldLink RX2 14 "LockBankLaw$Sim" "pounds" "[[I"] ++ wsX20)
def wsX2_next : List Cond := .code yX2_next cX2_next 7 (some .int) :: ([.fieldLink RX2 31 "LockBankLaw$Sim" "barges" "[[I", .methodLink RX2 68 yX2_rank, .instanceMethod yX2_rank, .selects RX2 yX2_rank yX2_rank, .initialized RX2, .code yX2_rank cX2_rank 5 (some .int), .fieldLink RX2 28 "LockBankLaw$Sim" "fee" "I", .fieldLink RX2 18 "LockBankLaw$Sim" "locks" "[[I", .fieldLink RX2 49 "LockBankLaw$Sim" "isDry" "Z", .methodLink RX2 60 yX2_lockOf, .instanceMethod yX2_lockOf, .selects RX2 yX2_lockOf yX2_lockOf, .code yX2_lockOf cX2_lockOf 2 (some .int), .methodLink RX2 64 yX2_hasWater, .instanceMethod yX2_hasWater, .selects RX2 yX2_hasWater yX2_hasWater, .code yX2_hasWater cX2_hasWater 2 (some .boolean), .fieldLink RX2 14 "LockBankLaw$Sim" "pounds" "[[I"] ++ wsX20)
def wsX2_pass_r1 : List Cond := [Cond.fieldLink RX2 7 "LockBankLaw$Sim" "spring" "[I", Cond.fieldLink RX2 39 "LockBankLaw$Sim" "hour" "I", Cond.fieldLink RX2 21 "LockBankLaw$Sim" "mill" "I", Cond.fieldLink RX2 14 "LockBankLaw$Sim" "pounds" "[[I", Cond.fieldLink RX2 25 "LockBankLaw$Sim" "mark" "I", Cond.fieldLink RX2 53 "LockBankLaw$Sim" "bank" "I", Cond.fieldLink RX2 31 "LockBankLaw$Sim" "barges" "[[I", Cond.arrayClass .boolean, Cond.fieldLink RX2 18 "LockBankLaw$Sim" "locks" "[[I", Cond.fieldLink RX2 28 "LockBankLaw$Sim" "fee" "I", Cond.methodLink RX2 56 yX2_into, Cond.instanceMethod yX2_into, Cond.selects RX2 yX2_into yX2_into, Cond.initialized RX2, Cond.code yX2_into cX2_into 5 none, Cond.fieldLink RX2 46 "LockBankLaw$Sim" "away" "I", Cond.methodLink RX2 72 yX2_next, Cond.instanceMethod yX2_next, Cond.selects RX2 yX2_next yX2_next, Cond.code yX2_next cX2_next 7 (some .int), Cond.methodLink RX2 68 yX2_rank, Cond.instanceMethod yX2_rank, Cond.selects RX2 yX2_rank yX2_rank, Cond.code yX2_rank cX2_rank 5 (some .int)]
def wsX2_pass_r2 : List Cond := [Cond.fieldLink RX2 49 "LockBankLaw$Sim" "isDry" "Z", Cond.methodLink RX2 60 yX2_lockOf, Cond.instanceMethod yX2_lockOf, Cond.selects RX2 yX2_lockOf yX2_lockOf, Cond.code yX2_lockOf cX2_lockOf 2 (some .int), Cond.methodLink RX2 64 yX2_hasWater, Cond.instanceMethod yX2_hasWater, Cond.selects RX2 yX2_hasWater yX2_hasWater, Cond.code yX2_hasWater cX2_hasWater 2 (some .boolean), Cond.methodLink RX2 76 yX2_turn, Cond.instanceMethod yX2_turn, Cond.selects RX2 yX2_turn yX2_turn, Cond.code yX2_turn cX2_turn 3 none]
def wsX2_pass : List Cond := .code yX2_pass cX2_pass 7 (some .int) :: ((wsX2_pass_r1 ++ wsX2_pass_r2) ++ wsX20)
def wsX2_counts : List Cond := .code yX2_counts cX2_counts 6 (some (.array .int)) :: ([.arrayClass .int, .fieldLink RX2 39 "LockBankLaw$Sim" "hour" "I", .fieldLink RX2 31 "LockBankLaw$Sim" "barges" "[[I", .fieldLink RX2 53 "LockBankLaw$Sim" "bank" "I", .fieldLink RX2 46 "LockBankLaw$Sim" "away" "I", .fieldLink RX2 28 "LockBankLaw$Sim" "fee" "I", .fieldLink RX2 25 "LockBankLaw$Sim" "mark" "I", .fieldLink RX2 21 "LockBankLaw$Sim" "mill" "I", .fieldLink RX2 14 "LockBankLaw$Sim" "pounds" "[[I", .fieldLink RX2 18 "LockBankLaw$Sim" "locks" "[[I"] ++ wsX20)
def wsX2_isSame_r1 : List Cond := [Cond.fieldLink RX2 31 "LockBankLaw$Sim" "barges" "[[I", Cond.fieldLink RX2 14 "LockBankLaw$Sim" "pounds" "[[I", Cond.arrayClass .boolean, Cond.fieldLink RX2 18 "LockBankLaw$Sim" "locks" "[[I", Cond.constantDouble RX2 108 (4618441417868443648), Cond.methodLink RX2 84 yX2_counts, Cond.instanceMethod yX2_counts, Cond.selects RX2 yX2_counts yX2_counts, Cond.initialized RX2, Cond.code yX2_counts cX2_counts 6 (some (.array .int)), Cond.arrayClass .int, Cond.fieldLink RX2 39 "LockBankLaw$Sim" "hour" "I", Cond.fieldLink RX2 53 "LockBankLaw$Sim" "bank" "I", Cond.fieldLink RX2 46 "LockBankLaw$Sim" "away" "I", Cond.fieldLink RX2 28 "LockBankLaw$Sim" "fee" "I", Cond.fieldLink RX2 25 "LockBankLaw$Sim" "mark" "I", Cond.fieldLink RX2 21 "LockBankLaw$Sim" "mill" "I", Cond.methodLink RX2 88 yX1_count, Cond.instanceMethod yX1_count, Cond.selects RX1 yX1_count yX1_count, Cond.initialized RX1, Cond.code yX1_count cX1_count 2 (some .int), Cond.fieldLink RX1 12 "LockBank" "canal" "LLockBank$Canal;", Cond.methodLink RX1 19 yX1_requireIndex]
def wsX2_isSame_r2 : List Cond := [Cond.static yX1_requireIndex, Cond.code yX1_requireIndex cX1_requireIndex 3 none, Cond.classLink RX1 127 "java/lang/IndexOutOfBoundsException", Cond.initialized "java/lang/IndexOutOfBoundsException", Cond.methodLink RX1 96 yX0_tellWhole, Cond.instanceMethod yX0_tellWhole, Cond.selects RX0 yX0_tellWhole yX0_tellWhole, Cond.initialized RX0, Cond.code yX0_tellWhole cX0_tellWhole 2 (some .int), Cond.fieldLink RX0 56 "LockBank$Canal" "hour" "I", Cond.fieldLink RX0 72 "LockBank$Canal" "barges" "I", Cond.fieldLink RX0 59 "LockBank$Canal" "bank" "I", Cond.fieldLink RX0 28 "LockBank$Canal" "ranOver" "[I", Cond.fieldLink RX0 31 "LockBank$Canal" "drawn" "[I", Cond.fieldLink RX0 9 "LockBank$Canal" "fee" "I", Cond.fieldLink RX0 18 "LockBank$Canal" "mark" "I", Cond.fieldLink RX0 15 "LockBank$Canal" "millPound" "I", Cond.methodLink RX0 132 yX0_bargesThatHaveCome, Cond.instanceMethod yX0_bargesThatHaveCome, Cond.selects RX0 yX0_bargesThatHaveCome yX0_bargesThatHaveCome, Cond.code yX0_bargesThatHaveCome cX0_bargesThatHaveCome 3 (some .int), Cond.methodLink RX0 119 yX0_hasCome, Cond.instanceMethod yX0_hasCome, Cond.selects RX0 yX0_hasCome yX0_hasCome]
def wsX2_isSame_r3 : List Cond := [Cond.code yX0_hasCome cX0_hasCome 2 (some .boolean), Cond.fieldLink RX0 44 "LockBank$Canal" "at" "[I", Cond.fieldLink RX0 47 "LockBank$Canal" "goal" "[I", Cond.methodLink RX0 135 yX0_waterOfAll, Cond.instanceMethod yX0_waterOfAll, Cond.selects RX0 yX0_waterOfAll yX0_waterOfAll, Cond.code yX0_waterOfAll cX0_waterOfAll 3 (some .int), Cond.fieldLink RX0 25 "LockBank$Canal" "level" "[I", Cond.methodLink RX0 138 yX0_fullChambers, Cond.instanceMethod yX0_fullChambers, Cond.selects RX0 yX0_fullChambers yX0_fullChambers, Cond.code yX0_fullChambers cX0_fullChambers 3 (some .int), Cond.fieldLink RX0 34 "LockBank$Canal" "full" "[Z", Cond.methodLink RX2 94 yX1_pound, Cond.instanceMethod yX1_pound, Cond.selects RX1 yX1_pound yX1_pound, Cond.code yX1_pound cX1_pound 3 (some .int), Cond.methodLink RX1 90 yX0_tellPound, Cond.instanceMethod yX0_tellPound, Cond.selects RX0 yX0_tellPound yX0_tellPound, Cond.code yX0_tellPound cX0_tellPound 3 (some .int), Cond.methodLink RX0 126 yX0_bargesAt, Cond.instanceMethod yX0_bargesAt, Cond.selects RX0 yX0_bargesAt yX0_bargesAt]
def wsX2_isSame_r4 : List Cond := [Cond.code yX0_bargesAt cX0_bargesAt 4 (some .int), Cond.methodLink RX2 60 yX2_lockOf, Cond.instanceMethod yX2_lockOf, Cond.selects RX2 yX2_lockOf yX2_lockOf, Cond.code yX2_lockOf cX2_lockOf 2 (some .int), Cond.methodLink RX2 98 yX1_lock, Cond.instanceMethod yX1_lock, Cond.selects RX1 yX1_lock yX1_lock, Cond.code yX1_lock cX1_lock 3 (some .int), Cond.methodLink RX1 93 yX0_tellLock, Cond.instanceMethod yX0_tellLock, Cond.selects RX0 yX0_tellLock yX0_tellLock, Cond.code yX0_tellLock cX0_tellLock 3 (some .int), Cond.fieldLink RX0 38 "LockBank$Canal" "lockings" "[I", Cond.fieldLink RX0 41 "LockBank$Canal" "filled" "[I", Cond.methodLink RX0 129 yX0_bargesWaitingAt, Cond.instanceMethod yX0_bargesWaitingAt, Cond.selects RX0 yX0_bargesWaitingAt yX0_bargesWaitingAt, Cond.code yX0_bargesWaitingAt cX0_bargesWaitingAt 4 (some .int), Cond.methodLink RX0 101 yX0_waitsAt, Cond.instanceMethod yX0_waitsAt, Cond.selects RX0 yX0_waitsAt yX0_waitsAt, Cond.code yX0_waitsAt cX0_waitsAt 2 (some .int), Cond.methodLink RX0 112 yX0_goesDown]
def wsX2_isSame_r5 : List Cond := [Cond.instanceMethod yX0_goesDown, Cond.selects RX0 yX0_goesDown yX0_goesDown, Cond.code yX0_goesDown cX0_goesDown 2 (some .boolean), Cond.methodLink RX0 92 yX0_nextBarge, Cond.instanceMethod yX0_nextBarge, Cond.selects RX0 yX0_nextBarge yX0_nextBarge, Cond.code yX0_nextBarge cX0_nextBarge 6 (some .int), Cond.methodLink RX0 105 yX0_canServe, Cond.instanceMethod yX0_canServe, Cond.selects RX0 yX0_canServe yX0_canServe, Cond.code yX0_canServe cX0_canServe 4 (some .boolean), Cond.fieldLink RX0 50 "LockBank$Canal" "purse" "[I", Cond.fieldLink RX0 62 "LockBank$Canal" "drought" "Z", Cond.methodLink RX0 109 yX0_fits, Cond.instanceMethod yX0_fits, Cond.selects RX0 yX0_fits yX0_fits, Cond.code yX0_fits cX0_fits 3 (some .boolean), Cond.methodLink RX0 116 yX0_canFill, Cond.instanceMethod yX0_canFill, Cond.selects RX0 yX0_canFill yX0_canFill, Cond.code yX0_canFill cX0_canFill 2 (some .boolean), Cond.methodLink RX2 72 yX2_next, Cond.instanceMethod yX2_next, Cond.selects RX2 yX2_next yX2_next]
def wsX2_isSame_r6 : List Cond := [Cond.code yX2_next cX2_next 7 (some .int), Cond.methodLink RX2 68 yX2_rank, Cond.instanceMethod yX2_rank, Cond.selects RX2 yX2_rank yX2_rank, Cond.code yX2_rank cX2_rank 5 (some .int), Cond.fieldLink RX2 49 "LockBankLaw$Sim" "isDry" "Z", Cond.methodLink RX2 64 yX2_hasWater, Cond.instanceMethod yX2_hasWater, Cond.selects RX2 yX2_hasWater yX2_hasWater, Cond.code yX2_hasWater cX2_hasWater 2 (some .boolean), Cond.methodLink RX2 101 yX1_told, Cond.instanceMethod yX1_told, Cond.selects RX1 yX1_told yX1_told, Cond.code yX1_told cX1_told 3 (some .int), Cond.fieldLink RX1 72 "LockBank$Canal" "barges" "I", Cond.methodLink RX1 86 yX0_tellBarge, Cond.instanceMethod yX0_tellBarge, Cond.selects RX0 yX0_tellBarge yX0_tellBarge, Cond.code yX0_tellBarge cX0_tellBarge 3 (some .int), Cond.fieldLink RX0 53 "LockBank$Canal" "served" "[I", Cond.methodLink RX2 104 yX1_mean, Cond.instanceMethod yX1_mean, Cond.selects RX1 yX1_mean yX1_mean, Cond.code yX1_mean cX1_mean 1 (some .double)]
def wsX2_isSame_r7 : List Cond := [Cond.constantDouble RX1 117 (4618441417868443648), Cond.methodLink RX1 114 yX0_waterOfAll]
def wsX2_isSame : List Cond := .code yX2_isSame cX2_isSame 10 (some .boolean) :: ((wsX2_isSame_r1 ++ (wsX2_isSame_r2 ++ (wsX2_isSame_r3 ++ (wsX2_isSame_r4 ++ (wsX2_isSame_r5 ++ (wsX2_isSame_r6 ++ wsX2_isSame_r7)))))) ++ wsX20 ++ wsX10 ++ wsX00 ++ (vx_atS RX1 131 "java/lang/IndexOutOfBoundsException" ["java/lang/RuntimeException", "java/lang/Exception"]).filter goodWord)
def wsJ9_min_7cf53 : List Cond := .code yJ9_min_7cf53 cJ9_min_7cf53 2 (some .int) :: ([])
def wsL_below : List Cond := .code yL_below cL_below 2 (some .int) :: ([.constant RL 7 (2147483647)])
def wsL_cell : List Cond := .code yL_cell cL_cell 2 (some .int) :: ([.constant RL 8 (790386105)])
def wsL_act_r1 : List Cond := [Cond.classLink RL 65 "java/lang/IllegalStateException", Cond.fieldLink RL 9 "LockBankLaw$Sim" "barges" "[[I", Cond.fieldLink RL 21 "LockBankLaw$Sim" "spring" "[I", Cond.fieldLink RL 30 "LockBankLaw$Sim" "mark" "I", Cond.fieldLink RL 34 "LockBankLaw$Sim" "mill" "I", Cond.fieldLink RL 40 "LockBankLaw$Sim" "isDry" "Z", Cond.fieldLink RL 48 "LockBankLaw$Sim" "fee" "I", Cond.fieldLink RL 55 "LockBankLaw$Sim" "bank" "I", Cond.fieldLink RL 67 "LockBankLaw$Sim" "locks" "[[I", Cond.methodLink RL 15 yL_below, Cond.static yL_below, Cond.initialized RL, Cond.code yL_below cL_below 2 (some .int), Cond.constant RL 7 (2147483647), Cond.methodLink RL 25 yX1_setSpring, Cond.instanceMethod yX1_setSpring, Cond.selects RX1 yX1_setSpring yX1_setSpring, Cond.initialized RX1, Cond.code yX1_setSpring cX1_setSpring 4 (some .int), Cond.fieldLink RX1 12 "LockBank" "canal" "LLockBank$Canal;", Cond.fieldLink RX1 26 "LockBank$Canal" "spring" "[I", Cond.methodLink RX1 19 yX1_requireIndex, Cond.static yX1_requireIndex, Cond.code yX1_requireIndex cX1_requireIndex 3 none]
def wsL_act_r2 : List Cond := [Cond.classLink RX1 127 "java/lang/IndexOutOfBoundsException", Cond.initialized "java/lang/IndexOutOfBoundsException", Cond.methodLink RX1 23 yX1_requireArgument, Cond.static yX1_requireArgument, Cond.code yX1_requireArgument cX1_requireArgument 3 none, Cond.classLink RX1 132 "java/lang/IllegalArgumentException", Cond.initialized "java/lang/IllegalArgumentException", Cond.methodLink RL 37 yX1_setMill, Cond.instanceMethod yX1_setMill, Cond.selects RX1 yX1_setMill yX1_setMill, Cond.code yX1_setMill cX1_setMill 4 (some .int), Cond.fieldLink RX1 30 "LockBank$Canal" "mark" "I", Cond.fieldLink RX1 34 "LockBank$Canal" "millPound" "I", Cond.methodLink RL 44 yX1_setDrought, Cond.instanceMethod yX1_setDrought, Cond.selects RX1 yX1_setDrought yX1_setDrought, Cond.code yX1_setDrought cX1_setDrought 3 (some .boolean), Cond.fieldLink RX1 37 "LockBank$Canal" "drought" "Z", Cond.methodLink RL 51 yX1_setFee, Cond.instanceMethod yX1_setFee, Cond.selects RX1 yX1_setFee yX1_setFee, Cond.code yX1_setFee cX1_setFee 3 (some .int), Cond.fieldLink RX1 41 "LockBank$Canal" "fee" "I", Cond.methodLink RL 58 yX2_into]
def wsL_act_r3 : List Cond := [Cond.instanceMethod yX2_into, Cond.selects RX2 yX2_into yX2_into, Cond.initialized RX2, Cond.code yX2_into cX2_into 5 none, Cond.fieldLink RX2 46 "LockBankLaw$Sim" "away" "I", Cond.fieldLink RX2 14 "LockBankLaw$Sim" "pounds" "[[I", Cond.methodLink RX2 56 yX2_into, Cond.methodLink RL 62 yX1_water, Cond.instanceMethod yX1_water, Cond.selects RX1 yX1_water yX1_water, Cond.code yX1_water cX1_water 4 (some .int), Cond.classLink RX1 47 "java/lang/IllegalStateException", Cond.initialized "java/lang/IllegalStateException", Cond.fieldLink RX1 44 "LockBank$Canal" "bank" "I", Cond.methodLink RX1 54 yX0_pour, Cond.instanceMethod yX0_pour, Cond.selects RX0 yX0_pour yX0_pour, Cond.initialized RX0, Cond.code yX0_pour cX0_pour 6 none, Cond.fieldLink RX0 25 "LockBank$Canal" "level" "[I", Cond.methodLink RX0 98 Lib.Math.min.name, Cond.static Lib.Math.min.name, Cond.initialized "java/lang/Math", Cond.code Lib.Math.min.name Lib.Math.min.code 2 (some .int)]
def wsL_act_r4 : List Cond := [Cond.fieldLink RX0 28 "LockBank$Canal" "ranOver" "[I", Cond.methodLink RL 70 yX2_hasWater, Cond.instanceMethod yX2_hasWater, Cond.selects RX2 yX2_hasWater yX2_hasWater, Cond.code yX2_hasWater cX2_hasWater 2 (some .boolean), Cond.methodLink RL 74 yX2_turn, Cond.instanceMethod yX2_turn, Cond.selects RX2 yX2_turn yX2_turn, Cond.code yX2_turn cX2_turn 3 none, Cond.fieldLink RX2 18 "LockBankLaw$Sim" "locks" "[[I", Cond.methodLink RL 78 yX1_work, Cond.instanceMethod yX1_work, Cond.selects RX1 yX1_work yX1_work, Cond.code yX1_work cX1_work 2 (some .boolean), Cond.fieldLink RX1 58 "LockBank$Canal" "full" "[Z", Cond.methodLink RX1 62 yX0_canFill, Cond.instanceMethod yX0_canFill, Cond.selects RX0 yX0_canFill yX0_canFill, Cond.code yX0_canFill cX0_canFill 2 (some .boolean), Cond.methodLink RX1 68 yX0_turnChamber, Cond.instanceMethod yX0_turnChamber, Cond.selects RX0 yX0_turnChamber yX0_turnChamber, Cond.code yX0_turnChamber cX0_turnChamber 2 none, Cond.fieldLink RX0 34 "LockBank$Canal" "full" "[Z"]
def wsL_act_r5 : List Cond := [Cond.fieldLink RX0 41 "LockBank$Canal" "filled" "[I", Cond.methodLink RX0 85 yX0_pour, Cond.methodLink RL 81 yX1_send, Cond.instanceMethod yX1_send, Cond.selects RX1 yX1_send yX1_send, Cond.code yX1_send cX1_send 4 (some .int), Cond.fieldLink RX1 72 "LockBank$Canal" "barges" "I", Cond.fieldLink RX1 80 "LockBank$Canal" "goal" "[I", Cond.methodLink RL 84 yX2_come, Cond.instanceMethod yX2_come, Cond.selects RX2 yX2_come yX2_come, Cond.code yX2_come cX2_come 6 none, Cond.fieldLink RX2 31 "LockBankLaw$Sim" "barges" "[[I", Cond.classLink RX2 13 "[I", Cond.arrayClass .int, Cond.methodLink RL 88 yX1_barge, Cond.instanceMethod yX1_barge, Cond.selects RX1 yX1_barge yX1_barge, Cond.code yX1_barge cX1_barge 5 (some .int), Cond.fieldLink RX1 77 "LockBank$Canal" "at" "[I", Cond.fieldLink RX1 83 "LockBank$Canal" "purse" "[I"]
def wsL_act : List Cond := .codeWith yL_act cL_act 10 (some .boolean) [(349, 359, 362, 65), (440, 448, 451, 65), (630, 642, 645, 65)] :: ((wsL_act_r1 ++ (wsL_act_r2 ++ (wsL_act_r3 ++ (wsL_act_r4 ++ wsL_act_r5)))) ++ wsX20 ++ wsX10 ++ wsX00 ++ (vx_atS RX1 131 "java/lang/IndexOutOfBoundsException" ["java/lang/RuntimeException", "java/lang/Exception"]).filter goodWord ++ (vx_atS RX1 136 "java/lang/IllegalArgumentException" ["java/lang/RuntimeException", "java/lang/Exception"]).filter goodWord ++ (vx_atS RX1 51 "java/lang/IllegalStateException" ["java/lang/RuntimeException", "java/lang/Exception"]).filter goodWord)
def wsL_build_r1 : List Cond := [Cond.classLink RL 10 RX2, Cond.instantiable RX2 11, Cond.initialized RX2, Cond.constant RL 97 (100000), Cond.instanceMethod yX2_init, Cond.code yX2_init cX2_init 1 none, Cond.methodLink RX2 1 objectInit, Cond.instanceMethod objectInit, Cond.code objectInit ⟨#[0xb1]⟩ 1 none, Cond.arrayClass .int, Cond.fieldLink RX2 7 "LockBankLaw$Sim" "spring" "[I", Cond.classLink RX2 13 "[I", Cond.fieldLink RX2 14 "LockBankLaw$Sim" "pounds" "[[I", Cond.fieldLink RX2 18 "LockBankLaw$Sim" "locks" "[[I", Cond.fieldLink RX2 21 "LockBankLaw$Sim" "mill" "I", Cond.fieldLink RX2 25 "LockBankLaw$Sim" "mark" "I", Cond.fieldLink RX2 28 "LockBankLaw$Sim" "fee" "I", Cond.fieldLink RX2 31 "LockBankLaw$Sim" "barges" "[[I", Cond.methodLink RL 93 yL_cell, Cond.static yL_cell, Cond.initialized RL, Cond.code yL_cell cL_cell 2 (some .int), Cond.constant RL 8 (790386105), Cond.methodLink RL 15 yL_below]
def wsL_build_r2 : List Cond := [Cond.static yL_below, Cond.code yL_below cL_below 2 (some .int), Cond.constant RL 7 (2147483647), Cond.methodLink RL 98 yL_act, Cond.static yL_act, Cond.codeWith yL_act cL_act 10 (some .boolean) [(349, 359, 362, 65), (440, 448, 451, 65), (630, 642, 645, 65)], Cond.classLink RL 65 "java/lang/IllegalStateException", Cond.fieldLink RL 9 "LockBankLaw$Sim" "barges" "[[I", Cond.fieldLink RL 21 "LockBankLaw$Sim" "spring" "[I", Cond.fieldLink RL 30 "LockBankLaw$Sim" "mark" "I", Cond.fieldLink RL 34 "LockBankLaw$Sim" "mill" "I", Cond.fieldLink RL 40 "LockBankLaw$Sim" "isDry" "Z", Cond.fieldLink RL 48 "LockBankLaw$Sim" "fee" "I", Cond.fieldLink RL 55 "LockBankLaw$Sim" "bank" "I", Cond.fieldLink RL 67 "LockBankLaw$Sim" "locks" "[[I", Cond.methodLink RL 25 yX1_setSpring, Cond.instanceMethod yX1_setSpring, Cond.selects RX1 yX1_setSpring yX1_setSpring, Cond.initialized RX1, Cond.code yX1_setSpring cX1_setSpring 4 (some .int), Cond.fieldLink RX1 12 "LockBank" "canal" "LLockBank$Canal;", Cond.fieldLink RX1 26 "LockBank$Canal" "spring" "[I", Cond.methodLink RX1 19 yX1_requireIndex, Cond.static yX1_requireIndex]
def wsL_build_r3 : List Cond := [Cond.code yX1_requireIndex cX1_requireIndex 3 none, Cond.classLink RX1 127 "java/lang/IndexOutOfBoundsException", Cond.initialized "java/lang/IndexOutOfBoundsException", Cond.methodLink RX1 23 yX1_requireArgument, Cond.static yX1_requireArgument, Cond.code yX1_requireArgument cX1_requireArgument 3 none, Cond.classLink RX1 132 "java/lang/IllegalArgumentException", Cond.initialized "java/lang/IllegalArgumentException", Cond.methodLink RL 37 yX1_setMill, Cond.instanceMethod yX1_setMill, Cond.selects RX1 yX1_setMill yX1_setMill, Cond.code yX1_setMill cX1_setMill 4 (some .int), Cond.fieldLink RX1 30 "LockBank$Canal" "mark" "I", Cond.fieldLink RX1 34 "LockBank$Canal" "millPound" "I", Cond.methodLink RL 44 yX1_setDrought, Cond.instanceMethod yX1_setDrought, Cond.selects RX1 yX1_setDrought yX1_setDrought, Cond.code yX1_setDrought cX1_setDrought 3 (some .boolean), Cond.fieldLink RX1 37 "LockBank$Canal" "drought" "Z", Cond.methodLink RL 51 yX1_setFee, Cond.instanceMethod yX1_setFee, Cond.selects RX1 yX1_setFee yX1_setFee, Cond.code yX1_setFee cX1_setFee 3 (some .int), Cond.fieldLink RX1 41 "LockBank$Canal" "fee" "I"]
def wsL_build_r4 : List Cond := [Cond.methodLink RL 58 yX2_into, Cond.instanceMethod yX2_into, Cond.selects RX2 yX2_into yX2_into, Cond.code yX2_into cX2_into 5 none, Cond.fieldLink RX2 46 "LockBankLaw$Sim" "away" "I", Cond.methodLink RX2 56 yX2_into, Cond.methodLink RL 62 yX1_water, Cond.instanceMethod yX1_water, Cond.selects RX1 yX1_water yX1_water, Cond.code yX1_water cX1_water 4 (some .int), Cond.classLink RX1 47 "java/lang/IllegalStateException", Cond.initialized "java/lang/IllegalStateException", Cond.fieldLink RX1 44 "LockBank$Canal" "bank" "I", Cond.methodLink RX1 54 yX0_pour, Cond.instanceMethod yX0_pour, Cond.selects RX0 yX0_pour yX0_pour, Cond.initialized RX0, Cond.code yX0_pour cX0_pour 6 none, Cond.fieldLink RX0 25 "LockBank$Canal" "level" "[I", Cond.methodLink RX0 98 Lib.Math.min.name, Cond.static Lib.Math.min.name, Cond.initialized "java/lang/Math", Cond.code Lib.Math.min.name Lib.Math.min.code 2 (some .int), Cond.fieldLink RX0 28 "LockBank$Canal" "ranOver" "[I"]
def wsL_build_r5 : List Cond := [Cond.methodLink RL 70 yX2_hasWater, Cond.instanceMethod yX2_hasWater, Cond.selects RX2 yX2_hasWater yX2_hasWater, Cond.code yX2_hasWater cX2_hasWater 2 (some .boolean), Cond.methodLink RL 74 yX2_turn, Cond.instanceMethod yX2_turn, Cond.selects RX2 yX2_turn yX2_turn, Cond.code yX2_turn cX2_turn 3 none, Cond.methodLink RL 78 yX1_work, Cond.instanceMethod yX1_work, Cond.selects RX1 yX1_work yX1_work, Cond.code yX1_work cX1_work 2 (some .boolean), Cond.fieldLink RX1 58 "LockBank$Canal" "full" "[Z", Cond.methodLink RX1 62 yX0_canFill, Cond.instanceMethod yX0_canFill, Cond.selects RX0 yX0_canFill yX0_canFill, Cond.code yX0_canFill cX0_canFill 2 (some .boolean), Cond.methodLink RX1 68 yX0_turnChamber, Cond.instanceMethod yX0_turnChamber, Cond.selects RX0 yX0_turnChamber yX0_turnChamber, Cond.code yX0_turnChamber cX0_turnChamber 2 none, Cond.fieldLink RX0 34 "LockBank$Canal" "full" "[Z", Cond.fieldLink RX0 41 "LockBank$Canal" "filled" "[I", Cond.methodLink RX0 85 yX0_pour]
def wsL_build_r6 : List Cond := [Cond.methodLink RL 81 yX1_send, Cond.instanceMethod yX1_send, Cond.selects RX1 yX1_send yX1_send, Cond.code yX1_send cX1_send 4 (some .int), Cond.fieldLink RX1 72 "LockBank$Canal" "barges" "I", Cond.fieldLink RX1 80 "LockBank$Canal" "goal" "[I", Cond.methodLink RL 84 yX2_come, Cond.instanceMethod yX2_come, Cond.selects RX2 yX2_come yX2_come, Cond.code yX2_come cX2_come 6 none, Cond.methodLink RL 88 yX1_barge, Cond.instanceMethod yX1_barge, Cond.selects RX1 yX1_barge yX1_barge, Cond.code yX1_barge cX1_barge 5 (some .int), Cond.fieldLink RX1 77 "LockBank$Canal" "at" "[I", Cond.fieldLink RX1 83 "LockBank$Canal" "purse" "[I", Cond.methodLink RL 102 yX1_pass, Cond.instanceMethod yX1_pass, Cond.selects RX1 yX1_pass yX1_pass, Cond.code yX1_pass cX1_pass 2 (some .int), Cond.methodLink RX1 100 yX0_goHours, Cond.instanceMethod yX0_goHours, Cond.selects RX0 yX0_goHours yX0_goHours, Cond.code yX0_goHours cX0_goHours 4 (some .int)]
def wsL_build_r7 : List Cond := [Cond.methodLink RX0 75 yX0_goHour, Cond.instanceMethod yX0_goHour, Cond.selects RX0 yX0_goHour yX0_goHour, Cond.code yX0_goHour cX0_goHour 5 (some .int), Cond.fieldLink RX0 21 "LockBank$Canal" "spring" "[I", Cond.fieldLink RX0 56 "LockBank$Canal" "hour" "I", Cond.methodLink RX0 79 yJ9_floorMod_7cf53, Cond.static yJ9_floorMod_7cf53, Cond.initialized RJ9, Cond.code yJ9_floorMod_7cf53 cJ9_floorMod_7cf53 3 (some .int), Cond.methodLink RX0 89 yX0_turnMill, Cond.instanceMethod yX0_turnMill, Cond.selects RX0 yX0_turnMill yX0_turnMill, Cond.code yX0_turnMill cX0_turnMill 3 none, Cond.fieldLink RX0 15 "LockBank$Canal" "millPound" "I", Cond.fieldLink RX0 18 "LockBank$Canal" "mark" "I", Cond.fieldLink RX0 31 "LockBank$Canal" "drawn" "[I", Cond.fieldLink RX0 59 "LockBank$Canal" "bank" "I", Cond.methodLink RX0 92 yX0_nextBarge, Cond.instanceMethod yX0_nextBarge, Cond.selects RX0 yX0_nextBarge yX0_nextBarge, Cond.code yX0_nextBarge cX0_nextBarge 6 (some .int), Cond.fieldLink RX0 72 "LockBank$Canal" "barges" "I", Cond.methodLink RX0 101 yX0_waitsAt]
def wsL_build_r8 : List Cond := [Cond.instanceMethod yX0_waitsAt, Cond.selects RX0 yX0_waitsAt yX0_waitsAt, Cond.code yX0_waitsAt cX0_waitsAt 2 (some .int), Cond.fieldLink RX0 44 "LockBank$Canal" "at" "[I", Cond.methodLink RX0 119 yX0_hasCome, Cond.instanceMethod yX0_hasCome, Cond.selects RX0 yX0_hasCome yX0_hasCome, Cond.code yX0_hasCome cX0_hasCome 2 (some .boolean), Cond.fieldLink RX0 47 "LockBank$Canal" "goal" "[I", Cond.methodLink RX0 112 yX0_goesDown, Cond.instanceMethod yX0_goesDown, Cond.selects RX0 yX0_goesDown yX0_goesDown, Cond.code yX0_goesDown cX0_goesDown 2 (some .boolean), Cond.methodLink RX0 105 yX0_canServe, Cond.instanceMethod yX0_canServe, Cond.selects RX0 yX0_canServe yX0_canServe, Cond.code yX0_canServe cX0_canServe 4 (some .boolean), Cond.fieldLink RX0 50 "LockBank$Canal" "purse" "[I", Cond.fieldLink RX0 9 "LockBank$Canal" "fee" "I", Cond.fieldLink RX0 62 "LockBank$Canal" "drought" "Z", Cond.methodLink RX0 109 yX0_fits, Cond.instanceMethod yX0_fits, Cond.selects RX0 yX0_fits yX0_fits, Cond.code yX0_fits cX0_fits 3 (some .boolean)]
def wsL_build_r9 : List Cond := [Cond.methodLink RX0 116 yX0_canFill, Cond.methodLink RX0 95 yX0_serve, Cond.instanceMethod yX0_serve, Cond.selects RX0 yX0_serve yX0_serve, Cond.code yX0_serve cX0_serve 3 none, Cond.fieldLink RX0 53 "LockBank$Canal" "served" "[I", Cond.fieldLink RX0 38 "LockBank$Canal" "lockings" "[I", Cond.methodLink RX0 122 yX0_turnChamber, Cond.methodLink RL 105 yX2_pass, Cond.instanceMethod yX2_pass, Cond.selects RX2 yX2_pass yX2_pass, Cond.code yX2_pass cX2_pass 7 (some .int), Cond.fieldLink RX2 39 "LockBankLaw$Sim" "hour" "I", Cond.fieldLink RX2 53 "LockBankLaw$Sim" "bank" "I", Cond.arrayClass .boolean, Cond.methodLink RX2 72 yX2_next, Cond.instanceMethod yX2_next, Cond.selects RX2 yX2_next yX2_next, Cond.code yX2_next cX2_next 7 (some .int), Cond.methodLink RX2 68 yX2_rank, Cond.instanceMethod yX2_rank, Cond.selects RX2 yX2_rank yX2_rank, Cond.code yX2_rank cX2_rank 5 (some .int), Cond.fieldLink RX2 49 "LockBankLaw$Sim" "isDry" "Z"]
def wsL_build_r10 : List Cond := [Cond.methodLink RX2 60 yX2_lockOf, Cond.instanceMethod yX2_lockOf, Cond.selects RX2 yX2_lockOf yX2_lockOf, Cond.code yX2_lockOf cX2_lockOf 2 (some .int), Cond.methodLink RX2 64 yX2_hasWater, Cond.methodLink RX2 76 yX2_turn]
def wsL_build : List Cond := .code yL_build cL_build 5 (some (.object "LockBankLaw$Sim")) :: ((wsL_build_r1 ++ (wsL_build_r2 ++ (wsL_build_r3 ++ (wsL_build_r4 ++ (wsL_build_r5 ++ (wsL_build_r6 ++ (wsL_build_r7 ++ (wsL_build_r8 ++ (wsL_build_r9 ++ wsL_build_r10))))))))) ++ wsX20 ++ wsX10 ++ wsX00 ++ (vx_atS RX1 131 "java/lang/IndexOutOfBoundsException" ["java/lang/RuntimeException", "java/lang/Exception"]).filter goodWord ++ (vx_atS RX1 136 "java/lang/IllegalArgumentException" ["java/lang/RuntimeException", "java/lang/Exception"]).filter goodWord ++ (vx_atS RX1 51 "java/lang/IllegalStateException" ["java/lang/RuntimeException", "java/lang/Exception"]).filter goodWord)
def wsL_law0_r1 : List Cond := [Cond.classLink RL 26 RX1, Cond.instantiable RX1 2, Cond.initialized RX1, Cond.classLink RL 116 "[[I", Cond.arrayClass .int, Cond.fieldLink RL 21 "LockBankLaw$Sim" "spring" "[I", Cond.methodLink RL 108 yX1_init, Cond.instanceMethod yX1_init, Cond.code yX1_init cX1_init 1 none, Cond.methodLink RX1 3 objectInit, Cond.instanceMethod objectInit, Cond.code objectInit ⟨#[0xb1]⟩ 1 none, Cond.classLink RX1 9 RX0, Cond.instantiable RX0 18, Cond.initialized RX0, Cond.fieldLink RX1 12 "LockBank" "canal" "LLockBank$Canal;", Cond.fieldLink RX1 16 "LockBank" "trial" "LLockBank$Canal;", Cond.methodLink RX1 11 yX0_init, Cond.instanceMethod yX0_init, Cond.code yX0_init cX0_init 2 none, Cond.methodLink RX0 3 objectInit, Cond.fieldLink RX0 9 "LockBank$Canal" "fee" "I", Cond.fieldLink RX0 15 "LockBank$Canal" "millPound" "I", Cond.fieldLink RX0 18 "LockBank$Canal" "mark" "I"]
def wsL_law0_r2 : List Cond := [Cond.fieldLink RX0 21 "LockBank$Canal" "spring" "[I", Cond.fieldLink RX0 25 "LockBank$Canal" "level" "[I", Cond.fieldLink RX0 28 "LockBank$Canal" "ranOver" "[I", Cond.fieldLink RX0 31 "LockBank$Canal" "drawn" "[I", Cond.arrayClass .boolean, Cond.fieldLink RX0 34 "LockBank$Canal" "full" "[Z", Cond.fieldLink RX0 38 "LockBank$Canal" "lockings" "[I", Cond.fieldLink RX0 41 "LockBank$Canal" "filled" "[I", Cond.fieldLink RX0 44 "LockBank$Canal" "at" "[I", Cond.fieldLink RX0 47 "LockBank$Canal" "goal" "[I", Cond.fieldLink RX0 50 "LockBank$Canal" "purse" "[I", Cond.fieldLink RX0 53 "LockBank$Canal" "served" "[I", Cond.methodLink RL 109 yL_build, Cond.static yL_build, Cond.initialized RL, Cond.code yL_build cL_build 5 (some (.object "LockBankLaw$Sim")), Cond.classLink RL 10 RX2, Cond.instantiable RX2 11, Cond.initialized RX2, Cond.constant RL 97 (100000), Cond.instanceMethod yX2_init, Cond.code yX2_init cX2_init 1 none, Cond.methodLink RX2 1 objectInit, Cond.fieldLink RX2 7 "LockBankLaw$Sim" "spring" "[I"]
def wsL_law0_r3 : List Cond := [Cond.classLink RX2 13 "[I", Cond.fieldLink RX2 14 "LockBankLaw$Sim" "pounds" "[[I", Cond.fieldLink RX2 18 "LockBankLaw$Sim" "locks" "[[I", Cond.fieldLink RX2 21 "LockBankLaw$Sim" "mill" "I", Cond.fieldLink RX2 25 "LockBankLaw$Sim" "mark" "I", Cond.fieldLink RX2 28 "LockBankLaw$Sim" "fee" "I", Cond.fieldLink RX2 31 "LockBankLaw$Sim" "barges" "[[I", Cond.methodLink RL 93 yL_cell, Cond.static yL_cell, Cond.code yL_cell cL_cell 2 (some .int), Cond.constant RL 8 (790386105), Cond.methodLink RL 15 yL_below, Cond.static yL_below, Cond.code yL_below cL_below 2 (some .int), Cond.constant RL 7 (2147483647), Cond.methodLink RL 98 yL_act, Cond.static yL_act, Cond.codeWith yL_act cL_act 10 (some .boolean) [(349, 359, 362, 65), (440, 448, 451, 65), (630, 642, 645, 65)], Cond.classLink RL 65 "java/lang/IllegalStateException", Cond.fieldLink RL 9 "LockBankLaw$Sim" "barges" "[[I", Cond.fieldLink RL 30 "LockBankLaw$Sim" "mark" "I", Cond.fieldLink RL 34 "LockBankLaw$Sim" "mill" "I", Cond.fieldLink RL 40 "LockBankLaw$Sim" "isDry" "Z", Cond.fieldLink RL 48 "LockBankLaw$Sim" "fee" "I"]
def wsL_law0_r4 : List Cond := [Cond.fieldLink RL 55 "LockBankLaw$Sim" "bank" "I", Cond.fieldLink RL 67 "LockBankLaw$Sim" "locks" "[[I", Cond.methodLink RL 25 yX1_setSpring, Cond.instanceMethod yX1_setSpring, Cond.selects RX1 yX1_setSpring yX1_setSpring, Cond.code yX1_setSpring cX1_setSpring 4 (some .int), Cond.fieldLink RX1 26 "LockBank$Canal" "spring" "[I", Cond.methodLink RX1 19 yX1_requireIndex, Cond.static yX1_requireIndex, Cond.code yX1_requireIndex cX1_requireIndex 3 none, Cond.classLink RX1 127 "java/lang/IndexOutOfBoundsException", Cond.initialized "java/lang/IndexOutOfBoundsException", Cond.methodLink RX1 23 yX1_requireArgument, Cond.static yX1_requireArgument, Cond.code yX1_requireArgument cX1_requireArgument 3 none, Cond.classLink RX1 132 "java/lang/IllegalArgumentException", Cond.initialized "java/lang/IllegalArgumentException", Cond.methodLink RL 37 yX1_setMill, Cond.instanceMethod yX1_setMill, Cond.selects RX1 yX1_setMill yX1_setMill, Cond.code yX1_setMill cX1_setMill 4 (some .int), Cond.fieldLink RX1 30 "LockBank$Canal" "mark" "I", Cond.fieldLink RX1 34 "LockBank$Canal" "millPound" "I", Cond.methodLink RL 44 yX1_setDrought]
def wsL_law0_r5 : List Cond := [Cond.instanceMethod yX1_setDrought, Cond.selects RX1 yX1_setDrought yX1_setDrought, Cond.code yX1_setDrought cX1_setDrought 3 (some .boolean), Cond.fieldLink RX1 37 "LockBank$Canal" "drought" "Z", Cond.methodLink RL 51 yX1_setFee, Cond.instanceMethod yX1_setFee, Cond.selects RX1 yX1_setFee yX1_setFee, Cond.code yX1_setFee cX1_setFee 3 (some .int), Cond.fieldLink RX1 41 "LockBank$Canal" "fee" "I", Cond.methodLink RL 58 yX2_into, Cond.instanceMethod yX2_into, Cond.selects RX2 yX2_into yX2_into, Cond.code yX2_into cX2_into 5 none, Cond.fieldLink RX2 46 "LockBankLaw$Sim" "away" "I", Cond.methodLink RX2 56 yX2_into, Cond.methodLink RL 62 yX1_water, Cond.instanceMethod yX1_water, Cond.selects RX1 yX1_water yX1_water, Cond.code yX1_water cX1_water 4 (some .int), Cond.classLink RX1 47 "java/lang/IllegalStateException", Cond.initialized "java/lang/IllegalStateException", Cond.fieldLink RX1 44 "LockBank$Canal" "bank" "I", Cond.methodLink RX1 54 yX0_pour, Cond.instanceMethod yX0_pour]
def wsL_law0_r6 : List Cond := [Cond.selects RX0 yX0_pour yX0_pour, Cond.code yX0_pour cX0_pour 6 none, Cond.methodLink RX0 98 Lib.Math.min.name, Cond.static Lib.Math.min.name, Cond.initialized "java/lang/Math", Cond.code Lib.Math.min.name Lib.Math.min.code 2 (some .int), Cond.methodLink RL 70 yX2_hasWater, Cond.instanceMethod yX2_hasWater, Cond.selects RX2 yX2_hasWater yX2_hasWater, Cond.code yX2_hasWater cX2_hasWater 2 (some .boolean), Cond.methodLink RL 74 yX2_turn, Cond.instanceMethod yX2_turn, Cond.selects RX2 yX2_turn yX2_turn, Cond.code yX2_turn cX2_turn 3 none, Cond.methodLink RL 78 yX1_work, Cond.instanceMethod yX1_work, Cond.selects RX1 yX1_work yX1_work, Cond.code yX1_work cX1_work 2 (some .boolean), Cond.fieldLink RX1 58 "LockBank$Canal" "full" "[Z", Cond.methodLink RX1 62 yX0_canFill, Cond.instanceMethod yX0_canFill, Cond.selects RX0 yX0_canFill yX0_canFill, Cond.code yX0_canFill cX0_canFill 2 (some .boolean), Cond.methodLink RX1 68 yX0_turnChamber]
def wsL_law0_r7 : List Cond := [Cond.instanceMethod yX0_turnChamber, Cond.selects RX0 yX0_turnChamber yX0_turnChamber, Cond.code yX0_turnChamber cX0_turnChamber 2 none, Cond.methodLink RX0 85 yX0_pour, Cond.methodLink RL 81 yX1_send, Cond.instanceMethod yX1_send, Cond.selects RX1 yX1_send yX1_send, Cond.code yX1_send cX1_send 4 (some .int), Cond.fieldLink RX1 72 "LockBank$Canal" "barges" "I", Cond.fieldLink RX1 80 "LockBank$Canal" "goal" "[I", Cond.methodLink RL 84 yX2_come, Cond.instanceMethod yX2_come, Cond.selects RX2 yX2_come yX2_come, Cond.code yX2_come cX2_come 6 none, Cond.methodLink RL 88 yX1_barge, Cond.instanceMethod yX1_barge, Cond.selects RX1 yX1_barge yX1_barge, Cond.code yX1_barge cX1_barge 5 (some .int), Cond.fieldLink RX1 77 "LockBank$Canal" "at" "[I", Cond.fieldLink RX1 83 "LockBank$Canal" "purse" "[I", Cond.methodLink RL 102 yX1_pass, Cond.instanceMethod yX1_pass, Cond.selects RX1 yX1_pass yX1_pass, Cond.code yX1_pass cX1_pass 2 (some .int)]
def wsL_law0_r8 : List Cond := [Cond.methodLink RX1 100 yX0_goHours, Cond.instanceMethod yX0_goHours, Cond.selects RX0 yX0_goHours yX0_goHours, Cond.code yX0_goHours cX0_goHours 4 (some .int), Cond.methodLink RX0 75 yX0_goHour, Cond.instanceMethod yX0_goHour, Cond.selects RX0 yX0_goHour yX0_goHour, Cond.code yX0_goHour cX0_goHour 5 (some .int), Cond.fieldLink RX0 56 "LockBank$Canal" "hour" "I", Cond.methodLink RX0 79 yJ9_floorMod_7cf53, Cond.static yJ9_floorMod_7cf53, Cond.initialized RJ9, Cond.code yJ9_floorMod_7cf53 cJ9_floorMod_7cf53 3 (some .int), Cond.methodLink RX0 89 yX0_turnMill, Cond.instanceMethod yX0_turnMill, Cond.selects RX0 yX0_turnMill yX0_turnMill, Cond.code yX0_turnMill cX0_turnMill 3 none, Cond.fieldLink RX0 59 "LockBank$Canal" "bank" "I", Cond.methodLink RX0 92 yX0_nextBarge, Cond.instanceMethod yX0_nextBarge, Cond.selects RX0 yX0_nextBarge yX0_nextBarge, Cond.code yX0_nextBarge cX0_nextBarge 6 (some .int), Cond.fieldLink RX0 72 "LockBank$Canal" "barges" "I", Cond.methodLink RX0 101 yX0_waitsAt]
def wsL_law0_r9 : List Cond := [Cond.instanceMethod yX0_waitsAt, Cond.selects RX0 yX0_waitsAt yX0_waitsAt, Cond.code yX0_waitsAt cX0_waitsAt 2 (some .int), Cond.methodLink RX0 119 yX0_hasCome, Cond.instanceMethod yX0_hasCome, Cond.selects RX0 yX0_hasCome yX0_hasCome, Cond.code yX0_hasCome cX0_hasCome 2 (some .boolean), Cond.methodLink RX0 112 yX0_goesDown, Cond.instanceMethod yX0_goesDown, Cond.selects RX0 yX0_goesDown yX0_goesDown, Cond.code yX0_goesDown cX0_goesDown 2 (some .boolean), Cond.methodLink RX0 105 yX0_canServe, Cond.instanceMethod yX0_canServe, Cond.selects RX0 yX0_canServe yX0_canServe, Cond.code yX0_canServe cX0_canServe 4 (some .boolean), Cond.fieldLink RX0 62 "LockBank$Canal" "drought" "Z", Cond.methodLink RX0 109 yX0_fits, Cond.instanceMethod yX0_fits, Cond.selects RX0 yX0_fits yX0_fits, Cond.code yX0_fits cX0_fits 3 (some .boolean), Cond.methodLink RX0 116 yX0_canFill, Cond.methodLink RX0 95 yX0_serve, Cond.instanceMethod yX0_serve, Cond.selects RX0 yX0_serve yX0_serve]
def wsL_law0_r10 : List Cond := [Cond.code yX0_serve cX0_serve 3 none, Cond.methodLink RX0 122 yX0_turnChamber, Cond.methodLink RL 105 yX2_pass, Cond.instanceMethod yX2_pass, Cond.selects RX2 yX2_pass yX2_pass, Cond.code yX2_pass cX2_pass 7 (some .int), Cond.fieldLink RX2 39 "LockBankLaw$Sim" "hour" "I", Cond.fieldLink RX2 53 "LockBankLaw$Sim" "bank" "I", Cond.methodLink RX2 72 yX2_next, Cond.instanceMethod yX2_next, Cond.selects RX2 yX2_next yX2_next, Cond.code yX2_next cX2_next 7 (some .int), Cond.methodLink RX2 68 yX2_rank, Cond.instanceMethod yX2_rank, Cond.selects RX2 yX2_rank yX2_rank, Cond.code yX2_rank cX2_rank 5 (some .int), Cond.fieldLink RX2 49 "LockBankLaw$Sim" "isDry" "Z", Cond.methodLink RX2 60 yX2_lockOf, Cond.instanceMethod yX2_lockOf, Cond.selects RX2 yX2_lockOf yX2_lockOf, Cond.code yX2_lockOf cX2_lockOf 2 (some .int), Cond.methodLink RX2 64 yX2_hasWater, Cond.methodLink RX2 76 yX2_turn, Cond.methodLink RL 113 yX1_count]
def wsL_law0_r11 : List Cond := [Cond.instanceMethod yX1_count, Cond.selects RX1 yX1_count yX1_count, Cond.code yX1_count cX1_count 2 (some .int), Cond.methodLink RX1 96 yX0_tellWhole, Cond.instanceMethod yX0_tellWhole, Cond.selects RX0 yX0_tellWhole yX0_tellWhole, Cond.code yX0_tellWhole cX0_tellWhole 2 (some .int), Cond.methodLink RX0 132 yX0_bargesThatHaveCome, Cond.instanceMethod yX0_bargesThatHaveCome, Cond.selects RX0 yX0_bargesThatHaveCome yX0_bargesThatHaveCome, Cond.code yX0_bargesThatHaveCome cX0_bargesThatHaveCome 3 (some .int), Cond.methodLink RX0 135 yX0_waterOfAll, Cond.instanceMethod yX0_waterOfAll, Cond.selects RX0 yX0_waterOfAll yX0_waterOfAll, Cond.code yX0_waterOfAll cX0_waterOfAll 3 (some .int), Cond.methodLink RX0 138 yX0_fullChambers, Cond.instanceMethod yX0_fullChambers, Cond.selects RX0 yX0_fullChambers yX0_fullChambers, Cond.code yX0_fullChambers cX0_fullChambers 3 (some .int), Cond.methodLink RL 117 yX1_told, Cond.instanceMethod yX1_told, Cond.selects RX1 yX1_told yX1_told, Cond.code yX1_told cX1_told 3 (some .int), Cond.methodLink RX1 86 yX0_tellBarge]
def wsL_law0_r12 : List Cond := [Cond.instanceMethod yX0_tellBarge, Cond.selects RX0 yX0_tellBarge yX0_tellBarge, Cond.code yX0_tellBarge cX0_tellBarge 3 (some .int), Cond.methodLink RL 120 yX1_pound, Cond.instanceMethod yX1_pound, Cond.selects RX1 yX1_pound yX1_pound, Cond.code yX1_pound cX1_pound 3 (some .int), Cond.methodLink RX1 90 yX0_tellPound, Cond.instanceMethod yX0_tellPound, Cond.selects RX0 yX0_tellPound yX0_tellPound, Cond.code yX0_tellPound cX0_tellPound 3 (some .int), Cond.methodLink RX0 126 yX0_bargesAt, Cond.instanceMethod yX0_bargesAt, Cond.selects RX0 yX0_bargesAt yX0_bargesAt, Cond.code yX0_bargesAt cX0_bargesAt 4 (some .int), Cond.methodLink RL 123 yX1_lock, Cond.instanceMethod yX1_lock, Cond.selects RX1 yX1_lock yX1_lock, Cond.code yX1_lock cX1_lock 3 (some .int), Cond.methodLink RX1 93 yX0_tellLock, Cond.instanceMethod yX0_tellLock, Cond.selects RX0 yX0_tellLock yX0_tellLock, Cond.code yX0_tellLock cX0_tellLock 3 (some .int), Cond.methodLink RX0 129 yX0_bargesWaitingAt]
def wsL_law0_r13 : List Cond := [Cond.instanceMethod yX0_bargesWaitingAt, Cond.selects RX0 yX0_bargesWaitingAt yX0_bargesWaitingAt, Cond.code yX0_bargesWaitingAt cX0_bargesWaitingAt 4 (some .int), Cond.methodLink RL 126 yX1_digest, Cond.instanceMethod yX1_digest, Cond.selects RX1 yX1_digest yX1_digest, Cond.code yX1_digest cX1_digest 5 (some .long), Cond.constantLong RX1 119 (1453), Cond.methodLink RX1 121 yX1_mix, Cond.static yX1_mix, Cond.code yX1_mix cX1_mix 3 (some .long), Cond.constantLong RX1 125 (31), Cond.methodLink RL 130 yX1_foresee, Cond.instanceMethod yX1_foresee, Cond.selects RX1 yX1_foresee yX1_foresee, Cond.code yX1_foresee cX1_foresee 3 (some .int), Cond.methodLink RX1 103 yX0_copyFrom, Cond.instanceMethod yX0_copyFrom, Cond.selects RX0 yX0_copyFrom yX0_copyFrom, Cond.code yX0_copyFrom cX0_copyFrom 3 none, Cond.methodLink RX0 66 arraycopyName, Cond.native arraycopyName, Cond.static arraycopyName, Cond.initialized "java/lang/System"]
def wsL_law0_r14 : List Cond := [Cond.methodLink RL 133 yX1_arrives, Cond.instanceMethod yX1_arrives, Cond.selects RX1 yX1_arrives yX1_arrives, Cond.code yX1_arrives cX1_arrives 3 (some .int), Cond.methodLink RX1 107 yX0_hasCome, Cond.methodLink RX1 110 yX0_goHour, Cond.methodLink RL 136 yX1_advise, Cond.instanceMethod yX1_advise, Cond.selects RX1 yX1_advise yX1_advise, Cond.code yX1_advise cX1_advise 5 (some .int), Cond.methodLink RL 139 yX1_stops, Cond.instanceMethod yX1_stops, Cond.selects RX1 yX1_stops yX1_stops, Cond.code yX1_stops cX1_stops 2 (some .int), Cond.methodLink RL 142 yX2_isSame, Cond.instanceMethod yX2_isSame, Cond.selects RX2 yX2_isSame yX2_isSame, Cond.code yX2_isSame cX2_isSame 10 (some .boolean), Cond.constantDouble RX2 108 (4618441417868443648), Cond.methodLink RX2 84 yX2_counts, Cond.instanceMethod yX2_counts, Cond.selects RX2 yX2_counts yX2_counts, Cond.code yX2_counts cX2_counts 6 (some (.array .int)), Cond.methodLink RX2 88 yX1_count]
def wsL_law0_r15 : List Cond := [Cond.methodLink RX2 94 yX1_pound, Cond.methodLink RX2 98 yX1_lock, Cond.methodLink RX2 101 yX1_told, Cond.methodLink RX2 104 yX1_mean, Cond.instanceMethod yX1_mean, Cond.selects RX1 yX1_mean yX1_mean, Cond.code yX1_mean cX1_mean 1 (some .double), Cond.constantDouble RX1 117 (4618441417868443648), Cond.methodLink RX1 114 yX0_waterOfAll]
def wsL_law0 : List Cond := (wsL_law0_r1 ++ (wsL_law0_r2 ++ (wsL_law0_r3 ++ (wsL_law0_r4 ++ (wsL_law0_r5 ++ (wsL_law0_r6 ++ (wsL_law0_r7 ++ (wsL_law0_r8 ++ (wsL_law0_r9 ++ (wsL_law0_r10 ++ (wsL_law0_r11 ++ (wsL_law0_r12 ++ (wsL_law0_r13 ++ (wsL_law0_r14 ++ wsL_law0_r15)))))))))))))) ++ wsX10 ++ wsX20 ++ wsX00 ++ ([] : List Cond)
def wsL_law : List Cond := wsL_law0 ++ (vx_atS RX1 131 "java/lang/IndexOutOfBoundsException" ["java/lang/RuntimeException", "java/lang/Exception"]).filter goodWord ++ (vx_atS RX1 136 "java/lang/IllegalArgumentException" ["java/lang/RuntimeException", "java/lang/Exception"]).filter goodWord ++ (vx_atS RX1 51 "java/lang/IllegalStateException" ["java/lang/RuntimeException", "java/lang/Exception"]).filter goodWord
abbrev vwCl : List vw_C := [(RX0, TX0, 18), (RX1, TX1, 2), (RX2, TX2, 11)]
end
section
set_option maxRecDepth 20000 in
theorem wsL_law_c1 : ∀ w ∈ wsL_law0_r1, w ∈ lw_tbl := fun w h => (goodIn_p wsL_law0_r1 [17, 20, 25] (by decide +kernel) (by decide +kernel) w h).1
set_option maxRecDepth 20000 in
theorem wsL_law_c2 : ∀ w ∈ wsL_law0_r2, w ∈ lw_tbl := fun w h => (goodIn_p wsL_law0_r2 [463, 468] (by decide +kernel) (by decide +kernel) w h).1
set_option maxRecDepth 20000 in
theorem wsL_law_c3 : ∀ w ∈ wsL_law0_r3, w ∈ lw_tbl := fun w h => (goodIn_p wsL_law0_r3 [393, 389] (by decide +kernel) (by decide +kernel) w h).1
set_option maxRecDepth 20000 in
theorem wsL_law_c4 : ∀ w ∈ wsL_law0_r4, w ∈ lw_tbl := fun w h => (goodIn_p wsL_law0_r4 [402, 108, 259, 406] (by decide +kernel) (by decide +kernel) w h).1
set_option maxRecDepth 20000 in
theorem wsL_law_c5 : ∀ w ∈ wsL_law0_r5, w ∈ lw_tbl := fun w h => (goodIn_p wsL_law0_r5 [410, 414, 347, 419] (by decide +kernel) (by decide +kernel) w h).1
set_option maxRecDepth 20000 in
theorem wsL_law_c6 : ∀ w ∈ wsL_law0_r6, w ∈ lw_tbl := fun w h => (goodIn_p wsL_law0_r6 [290, 293, 363, 367, 442, 232] (by decide +kernel) (by decide +kernel) w h).1
set_option maxRecDepth 20000 in
theorem wsL_law_c7 : ∀ w ∈ wsL_law0_r7, w ∈ lw_tbl := fun w h => (goodIn_p wsL_law0_r7 [305, 449, 453, 459, 256] (by decide +kernel) (by decide +kernel) w h).1
set_option maxRecDepth 20000 in
theorem wsL_law_c8 : ∀ w ∈ wsL_law0_r8, w ∈ lw_tbl := fun w h => (goodIn_p wsL_law0_r8 [279, 283, 286, 297, 220] (by decide +kernel) (by decide +kernel) w h).1
set_option maxRecDepth 20000 in
theorem wsL_law_c9 : ∀ w ∈ wsL_law0_r9, w ∈ lw_tbl := fun w h => (goodIn_p wsL_law0_r9 [184, 188, 192, 224, 228] (by decide +kernel) (by decide +kernel) w h).1
set_option maxRecDepth 20000 in
theorem wsL_law_c10 : ∀ w ∈ wsL_law0_r10, w ∈ lw_tbl := fun w h => (goodIn_p wsL_law0_r10 [301, 343, 351, 355, 359] (by decide +kernel) (by decide +kernel) w h).1
set_option maxRecDepth 20000 in
theorem wsL_law_c11 : ∀ w ∈ wsL_law0_r11, w ∈ lw_tbl := fun w h => (goodIn_p wsL_law0_r11 [236, 240, 244, 248, 252, 105] (by decide +kernel) (by decide +kernel) w h).1
set_option maxRecDepth 20000 in
theorem wsL_law_c12 : ∀ w ∈ wsL_law0_r12, w ∈ lw_tbl := fun w h => (goodIn_p wsL_law0_r12 [180, 196, 200, 204, 208, 212] (by decide +kernel) (by decide +kernel) w h).1
set_option maxRecDepth 20000 in
theorem wsL_law_c13 : ∀ w ∈ wsL_law0_r13, w ∈ lw_tbl := fun w h => (goodIn_p wsL_law0_r13 [216, 334, 338, 322, 313] (by decide +kernel) (by decide +kernel) w h).1
set_option maxRecDepth 20000 in
theorem wsL_law_c14 : ∀ w ∈ wsL_law0_r14, w ∈ lw_tbl := fun w h => (goodIn_p wsL_law0_r14 [309, 326, 330, 371, 375] (by decide +kernel) (by decide +kernel) w h).1
set_option maxRecDepth 20000 in
theorem wsL_law_c15 : ∀ w ∈ wsL_law0_r15, w ∈ lw_tbl := fun w h => (goodIn_p wsL_law0_r15 [383] (by decide +kernel) (by decide +kernel) w h).1
theorem wsL_law_f_wsX10 : ∀ w ∈ wsX10, w ∈ lw_tbl := by decide +kernel
theorem wsL_law_f_wsX20 : ∀ w ∈ wsX20, w ∈ lw_tbl := by decide +kernel
theorem wsL_law_f_wsX00 : ∀ w ∈ wsX00, w ∈ lw_tbl := by decide +kernel
theorem wsL_law_in0 : ∀ w ∈ wsL_law0, w ∈ lw_tbl := fun w h => (List.mem_append.mp h).elim (fun h => (List.mem_append.mp h).elim (fun h => (List.mem_append.mp h).elim (fun h => (List.mem_append.mp h).elim (fun h => (List.mem_append.mp h).elim (wsL_law_c1 w) (fun h => (List.mem_append.mp h).elim (wsL_law_c2 w) (fun h => (List.mem_append.mp h).elim (wsL_law_c3 w) (fun h => (List.mem_append.mp h).elim (wsL_law_c4 w) (fun h => (List.mem_append.mp h).elim (wsL_law_c5 w) (fun h => (List.mem_append.mp h).elim (wsL_law_c6 w) (fun h => (List.mem_append.mp h).elim (wsL_law_c7 w) (fun h => (List.mem_append.mp h).elim (wsL_law_c8 w) (fun h => (List.mem_append.mp h).elim (wsL_law_c9 w) (fun h => (List.mem_append.mp h).elim (wsL_law_c10 w) (fun h => (List.mem_append.mp h).elim (wsL_law_c11 w) (fun h => (List.mem_append.mp h).elim (wsL_law_c12 w) (fun h => (List.mem_append.mp h).elim (wsL_law_c13 w) (fun h => (List.mem_append.mp h).elim (wsL_law_c14 w) (fun h => wsL_law_c15 w h))))))))))))))) (wsL_law_f_wsX10 w)) (wsL_law_f_wsX20 w)) (wsL_law_f_wsX00 w)) (fun h => absurd h List.not_mem_nil)
theorem wsL_law_x0 : ∀ w ∈ (vx_atS RX1 131 "java/lang/IndexOutOfBoundsException" ["java/lang/RuntimeException", "java/lang/Exception"]).filter goodWord, w ∈ lw_tbl := by decide +kernel
theorem wsL_law_x1 : ∀ w ∈ (vx_atS RX1 136 "java/lang/IllegalArgumentException" ["java/lang/RuntimeException", "java/lang/Exception"]).filter goodWord, w ∈ lw_tbl := by decide +kernel
theorem wsL_law_x2 : ∀ w ∈ (vx_atS RX1 51 "java/lang/IllegalStateException" ["java/lang/RuntimeException", "java/lang/Exception"]).filter goodWord, w ∈ lw_tbl := by decide +kernel
theorem wsL_law_in : ∀ w ∈ wsL_law, w ∈ lw_tbl := fun w h => (List.mem_append.mp h).elim (fun h => (List.mem_append.mp h).elim (fun h => (List.mem_append.mp h).elim (fun h => wsL_law_in0 w h) (fun h => wsL_law_x0 w h)) (fun h => wsL_law_x1 w h)) (fun h => wsL_law_x2 w h)
theorem inlX0 : ∀ w ∈ wsX00, w ∈ wsL_law := fun _ h => List.mem_append_left _ (List.mem_append_left _ (List.mem_append_left _ (List.mem_append_left _ (List.mem_append_right _ h))))
theorem inX0 : ∀ w ∈ wsX00, w ∈ lw_tbl := fun w h => wsL_law_in w (inlX0 w h)
theorem inlX1 : ∀ w ∈ wsX10, w ∈ wsL_law := fun _ h => List.mem_append_left _ (List.mem_append_left _ (List.mem_append_left _ (List.mem_append_left _ (List.mem_append_left _ (List.mem_append_left _ (List.mem_append_right _ h))))))
theorem inX1 : ∀ w ∈ wsX10, w ∈ lw_tbl := fun w h => wsL_law_in w (inlX1 w h)
theorem inlX2 : ∀ w ∈ wsX20, w ∈ wsL_law := fun _ h => List.mem_append_left _ (List.mem_append_left _ (List.mem_append_left _ (List.mem_append_left _ (List.mem_append_left _ (List.mem_append_right _ h)))))
theorem inX2 : ∀ w ∈ wsX20, w ∈ lw_tbl := fun w h => wsL_law_in w (inlX2 w h)
theorem inX3 : ∀ w ∈ wsX30, w ∈ lw_tbl := by decide +kernel
theorem inX4 : ∀ w ∈ wsX40, w ∈ lw_tbl := by decide +kernel
theorem inJ9 : ∀ w ∈ wsJ90, w ∈ lw_tbl := by decide +kernel
theorem inJ0 : ∀ w ∈ wsJ00, w ∈ lw_tbl := by decide +kernel
theorem inJ10 : ∀ w ∈ wsJ100, w ∈ lw_tbl := by decide +kernel
end
section
theorem dX0_init_0 : decode cX0_init 0 = .ok (.aload_n 0, 1) := by decide +kernel
theorem dX0_init_1 : decode cX0_init 1 = .ok (.invokespecial 3, 3) := by decide +kernel
theorem dX0_init_4 : decode cX0_init 4 = .ok (.aload_n 0, 1) := by decide +kernel
theorem dX0_init_5 : decode cX0_init 5 = .ok (.iconst 1, 1) := by decide +kernel
theorem dX0_init_6 : decode cX0_init 6 = .ok (.putfield 9, 3) := by decide +kernel
theorem dX0_init_9 : decode cX0_init 9 = .ok (.aload_n 0, 1) := by decide +kernel
theorem dX0_init_10 : decode cX0_init 10 = .ok (.iconst (-1), 1) := by decide +kernel
theorem dX0_init_11 : decode cX0_init 11 = .ok (.putfield 15, 3) := by decide +kernel
theorem dX0_init_14 : decode cX0_init 14 = .ok (.aload_n 0, 1) := by decide +kernel
theorem dX0_init_15 : decode cX0_init 15 = .ok (.bipush 50, 2) := by decide +kernel
theorem dX0_init_17 : decode cX0_init 17 = .ok (.putfield 18, 3) := by decide +kernel
theorem dX0_init_20 : decode cX0_init 20 = .ok (.aload_n 0, 1) := by decide +kernel
theorem dX0_init_21 : decode cX0_init 21 = .ok (.bipush 8, 2) := by decide +kernel
theorem dX0_init_23 : decode cX0_init 23 = .ok (.newarray .int, 2) := by decide +kernel
theorem dX0_init_25 : decode cX0_init 25 = .ok (.putfield 21, 3) := by decide +kernel
theorem dX0_init_28 : decode cX0_init 28 = .ok (.aload_n 0, 1) := by decide +kernel
theorem dX0_init_29 : decode cX0_init 29 = .ok (.bipush 6, 2) := by decide +kernel
theorem dX0_init_31 : decode cX0_init 31 = .ok (.newarray .int, 2) := by decide +kernel
theorem dX0_init_33 : decode cX0_init 33 = .ok (.putfield 25, 3) := by decide +kernel
theorem dX0_init_36 : decode cX0_init 36 = .ok (.aload_n 0, 1) := by decide +kernel
theorem dX0_init_37 : decode cX0_init 37 = .ok (.bipush 6, 2) := by decide +kernel
theorem dX0_init_39 : decode cX0_init 39 = .ok (.newarray .int, 2) := by decide +kernel
theorem dX0_init_41 : decode cX0_init 41 = .ok (.putfield 28, 3) := by decide +kernel
theorem dX0_init_44 : decode cX0_init 44 = .ok (.aload_n 0, 1) := by decide +kernel
theorem dX0_init_45 : decode cX0_init 45 = .ok (.bipush 6, 2) := by decide +kernel
theorem dX0_init_47 : decode cX0_init 47 = .ok (.newarray .int, 2) := by decide +kernel
theorem dX0_init_49 : decode cX0_init 49 = .ok (.putfield 31, 3) := by decide +kernel
theorem dX0_init_52 : decode cX0_init 52 = .ok (.aload_n 0, 1) := by decide +kernel
theorem dX0_init_53 : decode cX0_init 53 = .ok (.iconst 5, 1) := by decide +kernel
theorem dX0_init_54 : decode cX0_init 54 = .ok (.newarray .boolean, 2) := by decide +kernel
theorem dX0_init_56 : decode cX0_init 56 = .ok (.putfield 34, 3) := by decide +kernel
theorem dX0_init_59 : decode cX0_init 59 = .ok (.aload_n 0, 1) := by decide +kernel
theorem dX0_init_60 : decode cX0_init 60 = .ok (.iconst 5, 1) := by decide +kernel
theorem dX0_init_61 : decode cX0_init 61 = .ok (.newarray .int, 2) := by decide +kernel
theorem dX0_init_63 : decode cX0_init 63 = .ok (.putfield 38, 3) := by decide +kernel
theorem dX0_init_66 : decode cX0_init 66 = .ok (.aload_n 0, 1) := by decide +kernel
theorem dX0_init_67 : decode cX0_init 67 = .ok (.iconst 5, 1) := by decide +kernel
theorem dX0_init_68 : decode cX0_init 68 = .ok (.newarray .int, 2) := by decide +kernel
theorem dX0_init_70 : decode cX0_init 70 = .ok (.putfield 41, 3) := by decide +kernel
theorem dX0_init_73 : decode cX0_init 73 = .ok (.aload_n 0, 1) := by decide +kernel
theorem dX0_init_74 : decode cX0_init 74 = .ok (.bipush 10, 2) := by decide +kernel
theorem dX0_init_76 : decode cX0_init 76 = .ok (.newarray .int, 2) := by decide +kernel
theorem dX0_init_78 : decode cX0_init 78 = .ok (.putfield 44, 3) := by decide +kernel
theorem dX0_init_81 : decode cX0_init 81 = .ok (.aload_n 0, 1) := by decide +kernel
theorem dX0_init_82 : decode cX0_init 82 = .ok (.bipush 10, 2) := by decide +kernel
theorem dX0_init_84 : decode cX0_init 84 = .ok (.newarray .int, 2) := by decide +kernel
theorem dX0_init_86 : decode cX0_init 86 = .ok (.putfield 47, 3) := by decide +kernel
theorem dX0_init_89 : decode cX0_init 89 = .ok (.aload_n 0, 1) := by decide +kernel
theorem dX0_init_90 : decode cX0_init 90 = .ok (.bipush 10, 2) := by decide +kernel
theorem dX0_init_92 : decode cX0_init 92 = .ok (.newarray .int, 2) := by decide +kernel
theorem dX0_init_94 : decode cX0_init 94 = .ok (.putfield 50, 3) := by decide +kernel
theorem dX0_init_97 : decode cX0_init 97 = .ok (.aload_n 0, 1) := by decide +kernel
theorem dX0_init_98 : decode cX0_init 98 = .ok (.bipush 10, 2) := by decide +kernel
theorem dX0_init_100 : decode cX0_init 100 = .ok (.newarray .int, 2) := by decide +kernel
theorem dX0_init_102 : decode cX0_init 102 = .ok (.putfield 53, 3) := by decide +kernel
theorem dX0_init_105 : decode cX0_init 105 = .ok (.iconst 0, 1) := by decide +kernel
theorem dX0_init_106 : decode cX0_init 106 = .ok (.istore_n 1, 1) := by decide +kernel
theorem dX0_init_107 : decode cX0_init 107 = .ok (.iload_n 1, 1) := by decide +kernel
theorem dX0_init_108 : decode cX0_init 108 = .ok (.bipush 8, 2) := by decide +kernel
theorem dX0_init_110 : decode cX0_init 110 = .ok (.if_icmp .ge 17, 3) := by decide +kernel
theorem dX0_init_113 : decode cX0_init 113 = .ok (.aload_n 0, 1) := by decide +kernel
theorem dX0_init_114 : decode cX0_init 114 = .ok (.getfield 21, 3) := by decide +kernel
theorem dX0_init_117 : decode cX0_init 117 = .ok (.iload_n 1, 1) := by decide +kernel
theorem dX0_init_118 : decode cX0_init 118 = .ok (.bipush 8, 2) := by decide +kernel
theorem dX0_init_120 : decode cX0_init 120 = .ok (.iastore, 1) := by decide +kernel
theorem dX0_init_121 : decode cX0_init 121 = .ok (.iinc 1 1, 3) := by decide +kernel
theorem dX0_init_124 : decode cX0_init 124 = .ok (.goto (-17), 3) := by decide +kernel
theorem dX0_init_127 : decode cX0_init 127 = .ok (.iconst 0, 1) := by decide +kernel
theorem dX0_init_128 : decode cX0_init 128 = .ok (.istore_n 1, 1) := by decide +kernel
theorem dX0_init_129 : decode cX0_init 129 = .ok (.iload_n 1, 1) := by decide +kernel
theorem dX0_init_130 : decode cX0_init 130 = .ok (.bipush 6, 2) := by decide +kernel
theorem dX0_init_132 : decode cX0_init 132 = .ok (.if_icmp .ge 17, 3) := by decide +kernel
theorem dX0_init_135 : decode cX0_init 135 = .ok (.aload_n 0, 1) := by decide +kernel
theorem dX0_init_136 : decode cX0_init 136 = .ok (.getfield 25, 3) := by decide +kernel
theorem dX0_init_139 : decode cX0_init 139 = .ok (.iload_n 1, 1) := by decide +kernel
theorem dX0_init_140 : decode cX0_init 140 = .ok (.bipush 60, 2) := by decide +kernel
theorem dX0_init_142 : decode cX0_init 142 = .ok (.iastore, 1) := by decide +kernel
theorem dX0_init_143 : decode cX0_init 143 = .ok (.iinc 1 1, 3) := by decide +kernel
theorem dX0_init_146 : decode cX0_init 146 = .ok (.goto (-17), 3) := by decide +kernel
theorem dX0_init_149 : decode cX0_init 149 = .ok (.return_, 1) := by decide +kernel
theorem dX0_copyFrom_0 : decode cX0_copyFrom 0 = .ok (.aload_n 0, 1) := by decide +kernel
theorem dX0_copyFrom_1 : decode cX0_copyFrom 1 = .ok (.aload_n 1, 1) := by decide +kernel
theorem dX0_copyFrom_2 : decode cX0_copyFrom 2 = .ok (.getfield 56, 3) := by decide +kernel
theorem dX0_copyFrom_5 : decode cX0_copyFrom 5 = .ok (.putfield 56, 3) := by decide +kernel
theorem dX0_copyFrom_8 : decode cX0_copyFrom 8 = .ok (.aload_n 0, 1) := by decide +kernel
theorem dX0_copyFrom_9 : decode cX0_copyFrom 9 = .ok (.aload_n 1, 1) := by decide +kernel
theorem dX0_copyFrom_10 : decode cX0_copyFrom 10 = .ok (.getfield 59, 3) := by decide +kernel
theorem dX0_copyFrom_13 : decode cX0_copyFrom 13 = .ok (.putfield 59, 3) := by decide +kernel
theorem dX0_copyFrom_16 : decode cX0_copyFrom 16 = .ok (.aload_n 0, 1) := by decide +kernel
theorem dX0_copyFrom_17 : decode cX0_copyFrom 17 = .ok (.aload_n 1, 1) := by decide +kernel
theorem dX0_copyFrom_18 : decode cX0_copyFrom 18 = .ok (.getfield 9, 3) := by decide +kernel
theorem dX0_copyFrom_21 : decode cX0_copyFrom 21 = .ok (.putfield 9, 3) := by decide +kernel
theorem dX0_copyFrom_24 : decode cX0_copyFrom 24 = .ok (.aload_n 0, 1) := by decide +kernel
theorem dX0_copyFrom_25 : decode cX0_copyFrom 25 = .ok (.aload_n 1, 1) := by decide +kernel
theorem dX0_copyFrom_26 : decode cX0_copyFrom 26 = .ok (.getfield 62, 3) := by decide +kernel
theorem dX0_copyFrom_29 : decode cX0_copyFrom 29 = .ok (.putfield 62, 3) := by decide +kernel
theorem dX0_copyFrom_32 : decode cX0_copyFrom 32 = .ok (.aload_n 0, 1) := by decide +kernel
theorem dX0_copyFrom_33 : decode cX0_copyFrom 33 = .ok (.aload_n 1, 1) := by decide +kernel
theorem dX0_copyFrom_34 : decode cX0_copyFrom 34 = .ok (.getfield 15, 3) := by decide +kernel
theorem dX0_copyFrom_37 : decode cX0_copyFrom 37 = .ok (.putfield 15, 3) := by decide +kernel
theorem dX0_copyFrom_40 : decode cX0_copyFrom 40 = .ok (.aload_n 0, 1) := by decide +kernel
theorem dX0_copyFrom_41 : decode cX0_copyFrom 41 = .ok (.aload_n 1, 1) := by decide +kernel
theorem dX0_copyFrom_42 : decode cX0_copyFrom 42 = .ok (.getfield 18, 3) := by decide +kernel
theorem dX0_copyFrom_45 : decode cX0_copyFrom 45 = .ok (.putfield 18, 3) := by decide +kernel
theorem dX0_copyFrom_48 : decode cX0_copyFrom 48 = .ok (.aload_n 1, 1) := by decide +kernel
theorem dX0_copyFrom_49 : decode cX0_copyFrom 49 = .ok (.getfield 21, 3) := by decide +kernel
theorem dX0_copyFrom_52 : decode cX0_copyFrom 52 = .ok (.iconst 0, 1) := by decide +kernel
theorem dX0_copyFrom_53 : decode cX0_copyFrom 53 = .ok (.aload_n 0, 1) := by decide +kernel
theorem dX0_copyFrom_54 : decode cX0_copyFrom 54 = .ok (.getfield 21, 3) := by decide +kernel
theorem dX0_copyFrom_57 : decode cX0_copyFrom 57 = .ok (.iconst 0, 1) := by decide +kernel
theorem dX0_copyFrom_58 : decode cX0_copyFrom 58 = .ok (.bipush 8, 2) := by decide +kernel
theorem dX0_copyFrom_60 : decode cX0_copyFrom 60 = .ok (.invokestatic 66, 3) := by decide +kernel
theorem dX0_copyFrom_63 : decode cX0_copyFrom 63 = .ok (.aload_n 1, 1) := by decide +kernel
theorem dX0_copyFrom_64 : decode cX0_copyFrom 64 = .ok (.getfield 25, 3) := by decide +kernel
theorem dX0_copyFrom_67 : decode cX0_copyFrom 67 = .ok (.iconst 0, 1) := by decide +kernel
theorem dX0_copyFrom_68 : decode cX0_copyFrom 68 = .ok (.aload_n 0, 1) := by decide +kernel
theorem dX0_copyFrom_69 : decode cX0_copyFrom 69 = .ok (.getfield 25, 3) := by decide +kernel
theorem dX0_copyFrom_72 : decode cX0_copyFrom 72 = .ok (.iconst 0, 1) := by decide +kernel
theorem dX0_copyFrom_73 : decode cX0_copyFrom 73 = .ok (.bipush 6, 2) := by decide +kernel
theorem dX0_copyFrom_75 : decode cX0_copyFrom 75 = .ok (.invokestatic 66, 3) := by decide +kernel
theorem dX0_copyFrom_78 : decode cX0_copyFrom 78 = .ok (.aload_n 1, 1) := by decide +kernel
theorem dX0_copyFrom_79 : decode cX0_copyFrom 79 = .ok (.getfield 28, 3) := by decide +kernel
theorem dX0_copyFrom_82 : decode cX0_copyFrom 82 = .ok (.iconst 0, 1) := by decide +kernel
theorem dX0_copyFrom_83 : decode cX0_copyFrom 83 = .ok (.aload_n 0, 1) := by decide +kernel
theorem dX0_copyFrom_84 : decode cX0_copyFrom 84 = .ok (.getfield 28, 3) := by decide +kernel
theorem dX0_copyFrom_87 : decode cX0_copyFrom 87 = .ok (.iconst 0, 1) := by decide +kernel
theorem dX0_copyFrom_88 : decode cX0_copyFrom 88 = .ok (.bipush 6, 2) := by decide +kernel
theorem dX0_copyFrom_90 : decode cX0_copyFrom 90 = .ok (.invokestatic 66, 3) := by decide +kernel
theorem dX0_copyFrom_93 : decode cX0_copyFrom 93 = .ok (.aload_n 1, 1) := by decide +kernel
theorem dX0_copyFrom_94 : decode cX0_copyFrom 94 = .ok (.getfield 31, 3) := by decide +kernel
theorem dX0_copyFrom_97 : decode cX0_copyFrom 97 = .ok (.iconst 0, 1) := by decide +kernel
theorem dX0_copyFrom_98 : decode cX0_copyFrom 98 = .ok (.aload_n 0, 1) := by decide +kernel
theorem dX0_copyFrom_99 : decode cX0_copyFrom 99 = .ok (.getfield 31, 3) := by decide +kernel
theorem dX0_copyFrom_102 : decode cX0_copyFrom 102 = .ok (.iconst 0, 1) := by decide +kernel
theorem dX0_copyFrom_103 : decode cX0_copyFrom 103 = .ok (.bipush 6, 2) := by decide +kernel
theorem dX0_copyFrom_105 : decode cX0_copyFrom 105 = .ok (.invokestatic 66, 3) := by decide +kernel
theorem dX0_copyFrom_108 : decode cX0_copyFrom 108 = .ok (.iconst 0, 1) := by decide +kernel
theorem dX0_copyFrom_109 : decode cX0_copyFrom 109 = .ok (.istore_n 2, 1) := by decide +kernel
theorem dX0_copyFrom_110 : decode cX0_copyFrom 110 = .ok (.iload_n 2, 1) := by decide +kernel
theorem dX0_copyFrom_111 : decode cX0_copyFrom 111 = .ok (.iconst 5, 1) := by decide +kernel
theorem dX0_copyFrom_112 : decode cX0_copyFrom 112 = .ok (.if_icmp .ge 21, 3) := by decide +kernel
theorem dX0_copyFrom_115 : decode cX0_copyFrom 115 = .ok (.aload_n 0, 1) := by decide +kernel
theorem dX0_copyFrom_116 : decode cX0_copyFrom 116 = .ok (.getfield 34, 3) := by decide +kernel
theorem dX0_copyFrom_119 : decode cX0_copyFrom 119 = .ok (.iload_n 2, 1) := by decide +kernel
theorem dX0_copyFrom_120 : decode cX0_copyFrom 120 = .ok (.aload_n 1, 1) := by decide +kernel
theorem dX0_copyFrom_121 : decode cX0_copyFrom 121 = .ok (.getfield 34, 3) := by decide +kernel
theorem dX0_copyFrom_124 : decode cX0_copyFrom 124 = .ok (.iload_n 2, 1) := by decide +kernel
theorem dX0_copyFrom_125 : decode cX0_copyFrom 125 = .ok (.baload, 1) := by decide +kernel
theorem dX0_copyFrom_126 : decode cX0_copyFrom 126 = .ok (.bastore, 1) := by decide +kernel
theorem dX0_copyFrom_127 : decode cX0_copyFrom 127 = .ok (.iinc 2 1, 3) := by decide +kernel
theorem dX0_copyFrom_130 : decode cX0_copyFrom 130 = .ok (.goto (-20), 3) := by decide +kernel
theorem dX0_copyFrom_133 : decode cX0_copyFrom 133 = .ok (.aload_n 1, 1) := by decide +kernel
theorem dX0_copyFrom_134 : decode cX0_copyFrom 134 = .ok (.getfield 38, 3) := by decide +kernel
theorem dX0_copyFrom_137 : decode cX0_copyFrom 137 = .ok (.iconst 0, 1) := by decide +kernel
theorem dX0_copyFrom_138 : decode cX0_copyFrom 138 = .ok (.aload_n 0, 1) := by decide +kernel
theorem dX0_copyFrom_139 : decode cX0_copyFrom 139 = .ok (.getfield 38, 3) := by decide +kernel
theorem dX0_copyFrom_142 : decode cX0_copyFrom 142 = .ok (.iconst 0, 1) := by decide +kernel
theorem dX0_copyFrom_143 : decode cX0_copyFrom 143 = .ok (.iconst 5, 1) := by decide +kernel
theorem dX0_copyFrom_144 : decode cX0_copyFrom 144 = .ok (.invokestatic 66, 3) := by decide +kernel
theorem dX0_copyFrom_147 : decode cX0_copyFrom 147 = .ok (.aload_n 1, 1) := by decide +kernel
theorem dX0_copyFrom_148 : decode cX0_copyFrom 148 = .ok (.getfield 41, 3) := by decide +kernel
theorem dX0_copyFrom_151 : decode cX0_copyFrom 151 = .ok (.iconst 0, 1) := by decide +kernel
theorem dX0_copyFrom_152 : decode cX0_copyFrom 152 = .ok (.aload_n 0, 1) := by decide +kernel
theorem dX0_copyFrom_153 : decode cX0_copyFrom 153 = .ok (.getfield 41, 3) := by decide +kernel
theorem dX0_copyFrom_156 : decode cX0_copyFrom 156 = .ok (.iconst 0, 1) := by decide +kernel
theorem dX0_copyFrom_157 : decode cX0_copyFrom 157 = .ok (.iconst 5, 1) := by decide +kernel
theorem dX0_copyFrom_158 : decode cX0_copyFrom 158 = .ok (.invokestatic 66, 3) := by decide +kernel
theorem dX0_copyFrom_161 : decode cX0_copyFrom 161 = .ok (.aload_n 0, 1) := by decide +kernel
theorem dX0_copyFrom_162 : decode cX0_copyFrom 162 = .ok (.aload_n 1, 1) := by decide +kernel
theorem dX0_copyFrom_163 : decode cX0_copyFrom 163 = .ok (.getfield 72, 3) := by decide +kernel
theorem dX0_copyFrom_166 : decode cX0_copyFrom 166 = .ok (.putfield 72, 3) := by decide +kernel
theorem dX0_copyFrom_169 : decode cX0_copyFrom 169 = .ok (.aload_n 1, 1) := by decide +kernel
theorem dX0_copyFrom_170 : decode cX0_copyFrom 170 = .ok (.getfield 44, 3) := by decide +kernel
theorem dX0_copyFrom_173 : decode cX0_copyFrom 173 = .ok (.iconst 0, 1) := by decide +kernel
theorem dX0_copyFrom_174 : decode cX0_copyFrom 174 = .ok (.aload_n 0, 1) := by decide +kernel
theorem dX0_copyFrom_175 : decode cX0_copyFrom 175 = .ok (.getfield 44, 3) := by decide +kernel
theorem dX0_copyFrom_178 : decode cX0_copyFrom 178 = .ok (.iconst 0, 1) := by decide +kernel
theorem dX0_copyFrom_179 : decode cX0_copyFrom 179 = .ok (.bipush 10, 2) := by decide +kernel
theorem dX0_copyFrom_181 : decode cX0_copyFrom 181 = .ok (.invokestatic 66, 3) := by decide +kernel
theorem dX0_copyFrom_184 : decode cX0_copyFrom 184 = .ok (.aload_n 1, 1) := by decide +kernel
theorem dX0_copyFrom_185 : decode cX0_copyFrom 185 = .ok (.getfield 47, 3) := by decide +kernel
theorem dX0_copyFrom_188 : decode cX0_copyFrom 188 = .ok (.iconst 0, 1) := by decide +kernel
theorem dX0_copyFrom_189 : decode cX0_copyFrom 189 = .ok (.aload_n 0, 1) := by decide +kernel
theorem dX0_copyFrom_190 : decode cX0_copyFrom 190 = .ok (.getfield 47, 3) := by decide +kernel
theorem dX0_copyFrom_193 : decode cX0_copyFrom 193 = .ok (.iconst 0, 1) := by decide +kernel
theorem dX0_copyFrom_194 : decode cX0_copyFrom 194 = .ok (.bipush 10, 2) := by decide +kernel
theorem dX0_copyFrom_196 : decode cX0_copyFrom 196 = .ok (.invokestatic 66, 3) := by decide +kernel
theorem dX0_copyFrom_199 : decode cX0_copyFrom 199 = .ok (.aload_n 1, 1) := by decide +kernel
theorem dX0_copyFrom_200 : decode cX0_copyFrom 200 = .ok (.getfield 50, 3) := by decide +kernel
theorem dX0_copyFrom_203 : decode cX0_copyFrom 203 = .ok (.iconst 0, 1) := by decide +kernel
theorem dX0_copyFrom_204 : decode cX0_copyFrom 204 = .ok (.aload_n 0, 1) := by decide +kernel
theorem dX0_copyFrom_205 : decode cX0_copyFrom 205 = .ok (.getfield 50, 3) := by decide +kernel
theorem dX0_copyFrom_208 : decode cX0_copyFrom 208 = .ok (.iconst 0, 1) := by decide +kernel
theorem dX0_copyFrom_209 : decode cX0_copyFrom 209 = .ok (.bipush 10, 2) := by decide +kernel
theorem dX0_copyFrom_211 : decode cX0_copyFrom 211 = .ok (.invokestatic 66, 3) := by decide +kernel
theorem dX0_copyFrom_214 : decode cX0_copyFrom 214 = .ok (.aload_n 1, 1) := by decide +kernel
theorem dX0_copyFrom_215 : decode cX0_copyFrom 215 = .ok (.getfield 53, 3) := by decide +kernel
theorem dX0_copyFrom_218 : decode cX0_copyFrom 218 = .ok (.iconst 0, 1) := by decide +kernel
theorem dX0_copyFrom_219 : decode cX0_copyFrom 219 = .ok (.aload_n 0, 1) := by decide +kernel
theorem dX0_copyFrom_220 : decode cX0_copyFrom 220 = .ok (.getfield 53, 3) := by decide +kernel
theorem dX0_copyFrom_223 : decode cX0_copyFrom 223 = .ok (.iconst 0, 1) := by decide +kernel
theorem dX0_copyFrom_224 : decode cX0_copyFrom 224 = .ok (.bipush 10, 2) := by decide +kernel
theorem dX0_copyFrom_226 : decode cX0_copyFrom 226 = .ok (.invokestatic 66, 3) := by decide +kernel
theorem dX0_copyFrom_229 : decode cX0_copyFrom 229 = .ok (.return_, 1) := by decide +kernel
set_option maxRecDepth 20000 in
theorem ggX0_goHours_X0_goHour : GoodIn wsX0_goHours wsX0_goHour := goodIn_r _ [5, 6, 7, 8, 9, 10, 11, 12, 13, 14, 4, 15, 16, 17, 18, 19, 20, 21, 22, 23, 24, 25, 26, 27, 28, 29, 30, 31, 32, 33, 34, 35, 36, 37, 38, 39, 40, 41, 42, 43, 44, 45, 46, 47, 48, 49, 50, 51, 52, 53, 54, 55, 56, 57, 58, 59, 60, 61, 62, 63, 64, 65, 66, 67, 68, 69, 70, 71, 72, 73, 74, 75, 76, 77, 78, 79, 80, 81, 82, 83, 84, 85, 86, 87, 88, 89, 90, 91, 92, 93] (by decide +kernel) (by decide +kernel)
set_option maxRecDepth 20000 in
theorem gX0_goHours_X0_goHour : GoodIn wsX0_goHours (wsV RX0 75 RX0 yX0_goHour wsX0_goHour) := goodIn_app (goodIn_of _ (by decide +kernel)) ggX0_goHours_X0_goHour
theorem dX0_goHours_0 : decode cX0_goHours 0 = .ok (.iconst 0, 1) := by decide +kernel
theorem dX0_goHours_1 : decode cX0_goHours 1 = .ok (.istore_n 2, 1) := by decide +kernel
theorem dX0_goHours_2 : decode cX0_goHours 2 = .ok (.iconst 0, 1) := by decide +kernel
theorem dX0_goHours_3 : decode cX0_goHours 3 = .ok (.istore_n 3, 1) := by decide +kernel
theorem dX0_goHours_4 : decode cX0_goHours 4 = .ok (.iload_n 3, 1) := by decide +kernel
theorem dX0_goHours_5 : decode cX0_goHours 5 = .ok (.iload_n 1, 1) := by decide +kernel
theorem dX0_goHours_6 : decode cX0_goHours 6 = .ok (.if_icmp .ge 16, 3) := by decide +kernel
theorem dX0_goHours_9 : decode cX0_goHours 9 = .ok (.iload_n 2, 1) := by decide +kernel
theorem dX0_goHours_10 : decode cX0_goHours 10 = .ok (.aload_n 0, 1) := by decide +kernel
theorem dX0_goHours_11 : decode cX0_goHours 11 = .ok (.invokevirtual 75, 3) := by decide +kernel
theorem dX0_goHours_14 : decode cX0_goHours 14 = .ok (.iadd, 1) := by decide +kernel
theorem dX0_goHours_15 : decode cX0_goHours 15 = .ok (.istore_n 2, 1) := by decide +kernel
theorem dX0_goHours_16 : decode cX0_goHours 16 = .ok (.iinc 3 1, 3) := by decide +kernel
theorem dX0_goHours_19 : decode cX0_goHours 19 = .ok (.goto (-15), 3) := by decide +kernel
theorem dX0_goHours_22 : decode cX0_goHours 22 = .ok (.iload_n 2, 1) := by decide +kernel
theorem dX0_goHours_23 : decode cX0_goHours 23 = .ok (.ireturn, 1) := by decide +kernel
set_option maxRecDepth 20000 in
theorem ggX0_goHour_J9_floorMod_7cf53 : GoodIn wsX0_goHour wsJ9_floorMod_7cf53 := goodIn_r _ [6] (by decide +kernel) (by decide +kernel)
set_option maxRecDepth 20000 in
theorem gX0_goHour_J9_floorMod_7cf53 : GoodIn wsX0_goHour (va_wsS RX0 79 yJ9_floorMod_7cf53 wsJ9_floorMod_7cf53) := goodIn_app (goodIn_of _ (by decide +kernel)) ggX0_goHour_J9_floorMod_7cf53
set_option maxRecDepth 20000 in
theorem ggX0_goHour_X0_pour : GoodIn wsX0_goHour wsX0_pour := goodIn_r _ [11, 12, 13, 14, 15, 16, 17, 72, 73, 74, 75, 76, 77, 78, 79, 80, 81, 82, 83, 84, 85, 86, 87, 88, 89] (by decide +kernel) (by decide +kernel)
set_option maxRecDepth 20000 in
theorem gX0_goHour_X0_pour : GoodIn wsX0_goHour (wsV RX0 85 RX0 yX0_pour wsX0_pour) := goodIn_app (goodIn_of _ (by decide +kernel)) ggX0_goHour_X0_pour
set_option maxRecDepth 20000 in
theorem ggX0_goHour_X0_turnMill : GoodIn wsX0_goHour wsX0_turnMill := goodIn_r _ [21, 22, 12, 23, 13, 14, 15, 16, 24, 25, 7, 8, 9, 10, 11, 17, 72, 73, 74, 75, 76, 77, 78, 79, 80, 81, 82, 83, 84, 85, 86, 87, 88, 89] (by decide +kernel) (by decide +kernel)
set_option maxRecDepth 20000 in
theorem gX0_goHour_X0_turnMill : GoodIn wsX0_goHour (wsV RX0 89 RX0 yX0_turnMill wsX0_turnMill) := goodIn_app (goodIn_of _ (by decide +kernel)) ggX0_goHour_X0_turnMill
set_option maxRecDepth 20000 in
theorem ggX0_goHour_X0_nextBarge : GoodIn wsX0_goHour wsX0_nextBarge := goodIn_r _ [29, 30, 31, 32, 33, 10, 34, 35, 36, 37, 38, 39, 40, 41, 42, 43, 44, 45, 46, 47, 48, 49, 50, 51, 52, 53, 54, 55, 56, 57, 58, 59, 60, 12, 72, 73, 74, 75, 76, 77, 78, 79, 80, 81, 82, 83, 84, 85, 86, 87, 88, 89] (by decide +kernel) (by decide +kernel)
set_option maxRecDepth 20000 in
theorem gX0_goHour_X0_nextBarge : GoodIn wsX0_goHour (wsV RX0 92 RX0 yX0_nextBarge wsX0_nextBarge) := goodIn_app (goodIn_of _ (by decide +kernel)) ggX0_goHour_X0_nextBarge
set_option maxRecDepth 20000 in
theorem ggX0_goHour_X0_serve : GoodIn wsX0_goHour wsX0_serve := goodIn_r _ [64, 35, 49, 50, 25, 65, 66, 53, 54, 55, 10, 56, 52, 41, 42, 43, 44, 40, 67, 68, 69, 70, 12, 71, 7, 8, 9, 11, 13, 14, 15, 16, 17, 72, 73, 74, 75, 76, 77, 78, 79, 80, 81, 82, 83, 84, 85, 86, 87, 88, 89] (by decide +kernel) (by decide +kernel)
set_option maxRecDepth 20000 in
theorem gX0_goHour_X0_serve : GoodIn wsX0_goHour (wsV RX0 95 RX0 yX0_serve wsX0_serve) := goodIn_app (goodIn_of _ (by decide +kernel)) ggX0_goHour_X0_serve
theorem dX0_goHour_0 : decode cX0_goHour 0 = .ok (.aload_n 0, 1) := by decide +kernel
theorem dX0_goHour_1 : decode cX0_goHour 1 = .ok (.iconst 5, 1) := by decide +kernel
theorem dX0_goHour_2 : decode cX0_goHour 2 = .ok (.aload_n 0, 1) := by decide +kernel
theorem dX0_goHour_3 : decode cX0_goHour 3 = .ok (.getfield 21, 3) := by decide +kernel
theorem dX0_goHour_6 : decode cX0_goHour 6 = .ok (.aload_n 0, 1) := by decide +kernel
theorem dX0_goHour_7 : decode cX0_goHour 7 = .ok (.getfield 56, 3) := by decide +kernel
theorem dX0_goHour_10 : decode cX0_goHour 10 = .ok (.bipush 8, 2) := by decide +kernel
theorem dX0_goHour_12 : decode cX0_goHour 12 = .ok (.invokestatic 79, 3) := by decide +kernel
theorem dX0_goHour_15 : decode cX0_goHour 15 = .ok (.iaload, 1) := by decide +kernel
theorem dX0_goHour_16 : decode cX0_goHour 16 = .ok (.invokevirtual 85, 3) := by decide +kernel
theorem dX0_goHour_19 : decode cX0_goHour 19 = .ok (.aload_n 0, 1) := by decide +kernel
theorem dX0_goHour_20 : decode cX0_goHour 20 = .ok (.invokevirtual 89, 3) := by decide +kernel
theorem dX0_goHour_23 : decode cX0_goHour 23 = .ok (.iconst 0, 1) := by decide +kernel
theorem dX0_goHour_24 : decode cX0_goHour 24 = .ok (.istore_n 1, 1) := by decide +kernel
theorem dX0_goHour_25 : decode cX0_goHour 25 = .ok (.iconst 0, 1) := by decide +kernel
theorem dX0_goHour_26 : decode cX0_goHour 26 = .ok (.istore_n 2, 1) := by decide +kernel
theorem dX0_goHour_27 : decode cX0_goHour 27 = .ok (.iconst 4, 1) := by decide +kernel
theorem dX0_goHour_28 : decode cX0_goHour 28 = .ok (.istore_n 3, 1) := by decide +kernel
theorem dX0_goHour_29 : decode cX0_goHour 29 = .ok (.iload_n 3, 1) := by decide +kernel
theorem dX0_goHour_30 : decode cX0_goHour 30 = .ok (.ifCond .lt 40, 3) := by decide +kernel
theorem dX0_goHour_33 : decode cX0_goHour 33 = .ok (.aload_n 0, 1) := by decide +kernel
theorem dX0_goHour_34 : decode cX0_goHour 34 = .ok (.iload_n 3, 1) := by decide +kernel
theorem dX0_goHour_35 : decode cX0_goHour 35 = .ok (.iload_n 2, 1) := by decide +kernel
theorem dX0_goHour_36 : decode cX0_goHour 36 = .ok (.invokevirtual 92, 3) := by decide +kernel
theorem dX0_goHour_39 : decode cX0_goHour 39 = .ok (.istore 4, 2) := by decide +kernel
theorem dX0_goHour_41 : decode cX0_goHour 41 = .ok (.iload 4, 2) := by decide +kernel
theorem dX0_goHour_43 : decode cX0_goHour 43 = .ok (.iconst (-1), 1) := by decide +kernel
theorem dX0_goHour_44 : decode cX0_goHour 44 = .ok (.if_icmp .eq 20, 3) := by decide +kernel
theorem dX0_goHour_47 : decode cX0_goHour 47 = .ok (.aload_n 0, 1) := by decide +kernel
theorem dX0_goHour_48 : decode cX0_goHour 48 = .ok (.iload_n 3, 1) := by decide +kernel
theorem dX0_goHour_49 : decode cX0_goHour 49 = .ok (.iload 4, 2) := by decide +kernel
theorem dX0_goHour_51 : decode cX0_goHour 51 = .ok (.invokevirtual 95, 3) := by decide +kernel
theorem dX0_goHour_54 : decode cX0_goHour 54 = .ok (.iload_n 2, 1) := by decide +kernel
theorem dX0_goHour_55 : decode cX0_goHour 55 = .ok (.iconst 1, 1) := by decide +kernel
theorem dX0_goHour_56 : decode cX0_goHour 56 = .ok (.iload 4, 2) := by decide +kernel
theorem dX0_goHour_58 : decode cX0_goHour 58 = .ok (.ishl, 1) := by decide +kernel
theorem dX0_goHour_59 : decode cX0_goHour 59 = .ok (.ior, 1) := by decide +kernel
theorem dX0_goHour_60 : decode cX0_goHour 60 = .ok (.istore_n 2, 1) := by decide +kernel
theorem dX0_goHour_61 : decode cX0_goHour 61 = .ok (.iinc 1 1, 3) := by decide +kernel
theorem dX0_goHour_64 : decode cX0_goHour 64 = .ok (.iinc 3 (-1), 3) := by decide +kernel
theorem dX0_goHour_67 : decode cX0_goHour 67 = .ok (.goto (-38), 3) := by decide +kernel
theorem dX0_goHour_70 : decode cX0_goHour 70 = .ok (.aload_n 0, 1) := by decide +kernel
theorem dX0_goHour_71 : decode cX0_goHour 71 = .ok (.dup, 1) := by decide +kernel
theorem dX0_goHour_72 : decode cX0_goHour 72 = .ok (.getfield 56, 3) := by decide +kernel
theorem dX0_goHour_75 : decode cX0_goHour 75 = .ok (.iconst 1, 1) := by decide +kernel
theorem dX0_goHour_76 : decode cX0_goHour 76 = .ok (.iadd, 1) := by decide +kernel
theorem dX0_goHour_77 : decode cX0_goHour 77 = .ok (.putfield 56, 3) := by decide +kernel
theorem dX0_goHour_80 : decode cX0_goHour 80 = .ok (.iload_n 1, 1) := by decide +kernel
theorem dX0_goHour_81 : decode cX0_goHour 81 = .ok (.ireturn, 1) := by decide +kernel
theorem dX0_pour_0 : decode cX0_pour 0 = .ok (.iload_n 2, 1) := by decide +kernel
theorem dX0_pour_1 : decode cX0_pour 1 = .ok (.istore_n 3, 1) := by decide +kernel
theorem dX0_pour_2 : decode cX0_pour 2 = .ok (.iload_n 1, 1) := by decide +kernel
theorem dX0_pour_3 : decode cX0_pour 3 = .ok (.istore 4, 2) := by decide +kernel
theorem dX0_pour_5 : decode cX0_pour 5 = .ok (.iload 4, 2) := by decide +kernel
theorem dX0_pour_7 : decode cX0_pour 7 = .ok (.ifCond .lt 60, 3) := by decide +kernel
theorem dX0_pour_10 : decode cX0_pour 10 = .ok (.iload_n 3, 1) := by decide +kernel
theorem dX0_pour_11 : decode cX0_pour 11 = .ok (.ifCond .le 56, 3) := by decide +kernel
theorem dX0_pour_14 : decode cX0_pour 14 = .ok (.aload_n 0, 1) := by decide +kernel
theorem dX0_pour_15 : decode cX0_pour 15 = .ok (.getfield 25, 3) := by decide +kernel
theorem dX0_pour_18 : decode cX0_pour 18 = .ok (.iload 4, 2) := by decide +kernel
theorem dX0_pour_20 : decode cX0_pour 20 = .ok (.iaload, 1) := by decide +kernel
theorem dX0_pour_21 : decode cX0_pour 21 = .ok (.iload_n 3, 1) := by decide +kernel
theorem dX0_pour_22 : decode cX0_pour 22 = .ok (.iadd, 1) := by decide +kernel
theorem dX0_pour_23 : decode cX0_pour 23 = .ok (.istore 5, 2) := by decide +kernel
theorem dX0_pour_25 : decode cX0_pour 25 = .ok (.aload_n 0, 1) := by decide +kernel
theorem dX0_pour_26 : decode cX0_pour 26 = .ok (.getfield 25, 3) := by decide +kernel
theorem dX0_pour_29 : decode cX0_pour 29 = .ok (.iload 4, 2) := by decide +kernel
theorem dX0_pour_31 : decode cX0_pour 31 = .ok (.iload 5, 2) := by decide +kernel
theorem dX0_pour_33 : decode cX0_pour 33 = .ok (.bipush 100, 2) := by decide +kernel
theorem dX0_pour_35 : decode cX0_pour 35 = .ok (.invokestatic 98, 3) := by decide +kernel
theorem dX0_pour_38 : decode cX0_pour 38 = .ok (.iastore, 1) := by decide +kernel
theorem dX0_pour_39 : decode cX0_pour 39 = .ok (.iload 5, 2) := by decide +kernel
theorem dX0_pour_41 : decode cX0_pour 41 = .ok (.aload_n 0, 1) := by decide +kernel
theorem dX0_pour_42 : decode cX0_pour 42 = .ok (.getfield 25, 3) := by decide +kernel
theorem dX0_pour_45 : decode cX0_pour 45 = .ok (.iload 4, 2) := by decide +kernel
theorem dX0_pour_47 : decode cX0_pour 47 = .ok (.iaload, 1) := by decide +kernel
theorem dX0_pour_48 : decode cX0_pour 48 = .ok (.isub, 1) := by decide +kernel
theorem dX0_pour_49 : decode cX0_pour 49 = .ok (.istore_n 3, 1) := by decide +kernel
theorem dX0_pour_50 : decode cX0_pour 50 = .ok (.aload_n 0, 1) := by decide +kernel
theorem dX0_pour_51 : decode cX0_pour 51 = .ok (.getfield 28, 3) := by decide +kernel
theorem dX0_pour_54 : decode cX0_pour 54 = .ok (.iload 4, 2) := by decide +kernel
theorem dX0_pour_56 : decode cX0_pour 56 = .ok (.dup2, 1) := by decide +kernel
theorem dX0_pour_57 : decode cX0_pour 57 = .ok (.iaload, 1) := by decide +kernel
theorem dX0_pour_58 : decode cX0_pour 58 = .ok (.iload_n 3, 1) := by decide +kernel
theorem dX0_pour_59 : decode cX0_pour 59 = .ok (.iadd, 1) := by decide +kernel
theorem dX0_pour_60 : decode cX0_pour 60 = .ok (.iastore, 1) := by decide +kernel
theorem dX0_pour_61 : decode cX0_pour 61 = .ok (.iinc 4 (-1), 3) := by decide +kernel
theorem dX0_pour_64 : decode cX0_pour 64 = .ok (.goto (-59), 3) := by decide +kernel
theorem dX0_pour_67 : decode cX0_pour 67 = .ok (.return_, 1) := by decide +kernel
set_option maxRecDepth 20000 in
theorem ggX0_turnMill_X0_pour : GoodIn wsX0_turnMill wsX0_pour := goodIn_r _ [14, 2, 4, 5, 6, 7, 15, 16, 17, 18, 19, 20, 21, 22, 23, 24, 25, 26, 27, 28, 29, 30, 31, 32, 33] (by decide +kernel) (by decide +kernel)
set_option maxRecDepth 20000 in
theorem gX0_turnMill_X0_pour : GoodIn wsX0_turnMill (wsV RX0 85 RX0 yX0_pour wsX0_pour) := goodIn_app (goodIn_of _ (by decide +kernel)) ggX0_turnMill_X0_pour
theorem dX0_turnMill_0 : decode cX0_turnMill 0 = .ok (.aload_n 0, 1) := by decide +kernel
theorem dX0_turnMill_1 : decode cX0_turnMill 1 = .ok (.getfield 15, 3) := by decide +kernel
theorem dX0_turnMill_4 : decode cX0_turnMill 4 = .ok (.istore_n 1, 1) := by decide +kernel
theorem dX0_turnMill_5 : decode cX0_turnMill 5 = .ok (.iload_n 1, 1) := by decide +kernel
theorem dX0_turnMill_6 : decode cX0_turnMill 6 = .ok (.iconst (-1), 1) := by decide +kernel
theorem dX0_turnMill_7 : decode cX0_turnMill 7 = .ok (.if_icmp .eq 16, 3) := by decide +kernel
theorem dX0_turnMill_10 : decode cX0_turnMill 10 = .ok (.aload_n 0, 1) := by decide +kernel
theorem dX0_turnMill_11 : decode cX0_turnMill 11 = .ok (.getfield 25, 3) := by decide +kernel
theorem dX0_turnMill_14 : decode cX0_turnMill 14 = .ok (.iload_n 1, 1) := by decide +kernel
theorem dX0_turnMill_15 : decode cX0_turnMill 15 = .ok (.iaload, 1) := by decide +kernel
theorem dX0_turnMill_16 : decode cX0_turnMill 16 = .ok (.aload_n 0, 1) := by decide +kernel
theorem dX0_turnMill_17 : decode cX0_turnMill 17 = .ok (.getfield 18, 3) := by decide +kernel
theorem dX0_turnMill_20 : decode cX0_turnMill 20 = .ok (.if_icmp .gt 4, 3) := by decide +kernel
theorem dX0_turnMill_23 : decode cX0_turnMill 23 = .ok (.return_, 1) := by decide +kernel
theorem dX0_turnMill_24 : decode cX0_turnMill 24 = .ok (.aload_n 0, 1) := by decide +kernel
theorem dX0_turnMill_25 : decode cX0_turnMill 25 = .ok (.getfield 25, 3) := by decide +kernel
theorem dX0_turnMill_28 : decode cX0_turnMill 28 = .ok (.iload_n 1, 1) := by decide +kernel
theorem dX0_turnMill_29 : decode cX0_turnMill 29 = .ok (.iaload, 1) := by decide +kernel
theorem dX0_turnMill_30 : decode cX0_turnMill 30 = .ok (.aload_n 0, 1) := by decide +kernel
theorem dX0_turnMill_31 : decode cX0_turnMill 31 = .ok (.getfield 18, 3) := by decide +kernel
theorem dX0_turnMill_34 : decode cX0_turnMill 34 = .ok (.isub, 1) := by decide +kernel
theorem dX0_turnMill_35 : decode cX0_turnMill 35 = .ok (.bipush 10, 2) := by decide +kernel
theorem dX0_turnMill_37 : decode cX0_turnMill 37 = .ok (.invokestatic 98, 3) := by decide +kernel
theorem dX0_turnMill_40 : decode cX0_turnMill 40 = .ok (.istore_n 2, 1) := by decide +kernel
theorem dX0_turnMill_41 : decode cX0_turnMill 41 = .ok (.aload_n 0, 1) := by decide +kernel
theorem dX0_turnMill_42 : decode cX0_turnMill 42 = .ok (.getfield 25, 3) := by decide +kernel
theorem dX0_turnMill_45 : decode cX0_turnMill 45 = .ok (.iload_n 1, 1) := by decide +kernel
theorem dX0_turnMill_46 : decode cX0_turnMill 46 = .ok (.dup2, 1) := by decide +kernel
theorem dX0_turnMill_47 : decode cX0_turnMill 47 = .ok (.iaload, 1) := by decide +kernel
theorem dX0_turnMill_48 : decode cX0_turnMill 48 = .ok (.iload_n 2, 1) := by decide +kernel
theorem dX0_turnMill_49 : decode cX0_turnMill 49 = .ok (.isub, 1) := by decide +kernel
theorem dX0_turnMill_50 : decode cX0_turnMill 50 = .ok (.iastore, 1) := by decide +kernel
theorem dX0_turnMill_51 : decode cX0_turnMill 51 = .ok (.aload_n 0, 1) := by decide +kernel
theorem dX0_turnMill_52 : decode cX0_turnMill 52 = .ok (.getfield 31, 3) := by decide +kernel
theorem dX0_turnMill_55 : decode cX0_turnMill 55 = .ok (.iload_n 1, 1) := by decide +kernel
theorem dX0_turnMill_56 : decode cX0_turnMill 56 = .ok (.dup2, 1) := by decide +kernel
theorem dX0_turnMill_57 : decode cX0_turnMill 57 = .ok (.iaload, 1) := by decide +kernel
theorem dX0_turnMill_58 : decode cX0_turnMill 58 = .ok (.iload_n 2, 1) := by decide +kernel
theorem dX0_turnMill_59 : decode cX0_turnMill 59 = .ok (.iadd, 1) := by decide +kernel
theorem dX0_turnMill_60 : decode cX0_turnMill 60 = .ok (.iastore, 1) := by decide +kernel
theorem dX0_turnMill_61 : decode cX0_turnMill 61 = .ok (.aload_n 0, 1) := by decide +kernel
theorem dX0_turnMill_62 : decode cX0_turnMill 62 = .ok (.dup, 1) := by decide +kernel
theorem dX0_turnMill_63 : decode cX0_turnMill 63 = .ok (.getfield 59, 3) := by decide +kernel
theorem dX0_turnMill_66 : decode cX0_turnMill 66 = .ok (.iload_n 2, 1) := by decide +kernel
theorem dX0_turnMill_67 : decode cX0_turnMill 67 = .ok (.iconst 5, 1) := by decide +kernel
theorem dX0_turnMill_68 : decode cX0_turnMill 68 = .ok (.idiv, 1) := by decide +kernel
theorem dX0_turnMill_69 : decode cX0_turnMill 69 = .ok (.iadd, 1) := by decide +kernel
theorem dX0_turnMill_70 : decode cX0_turnMill 70 = .ok (.putfield 59, 3) := by decide +kernel
theorem dX0_turnMill_73 : decode cX0_turnMill 73 = .ok (.aload_n 0, 1) := by decide +kernel
theorem dX0_turnMill_74 : decode cX0_turnMill 74 = .ok (.iload_n 1, 1) := by decide +kernel
theorem dX0_turnMill_75 : decode cX0_turnMill 75 = .ok (.iconst 1, 1) := by decide +kernel
theorem dX0_turnMill_76 : decode cX0_turnMill 76 = .ok (.isub, 1) := by decide +kernel
theorem dX0_turnMill_77 : decode cX0_turnMill 77 = .ok (.iload_n 2, 1) := by decide +kernel
theorem dX0_turnMill_78 : decode cX0_turnMill 78 = .ok (.invokevirtual 85, 3) := by decide +kernel
theorem dX0_turnMill_81 : decode cX0_turnMill 81 = .ok (.return_, 1) := by decide +kernel
set_option maxRecDepth 20000 in
theorem ggX0_nextBarge_X0_waitsAt : GoodIn wsX0_nextBarge wsX0_waitsAt := goodIn_r _ [6, 7, 8, 9, 10, 5, 11, 12, 13, 14, 15, 16, 34, 35, 36, 37, 38, 39, 40, 41, 42, 43, 44, 45, 46, 47, 48, 49, 50, 51] (by decide +kernel) (by decide +kernel)
set_option maxRecDepth 20000 in
theorem gX0_nextBarge_X0_waitsAt : GoodIn wsX0_nextBarge (wsV RX0 101 RX0 yX0_waitsAt wsX0_waitsAt) := goodIn_app (goodIn_of _ (by decide +kernel)) ggX0_nextBarge_X0_waitsAt
set_option maxRecDepth 20000 in
theorem ggX0_nextBarge_X0_canServe : GoodIn wsX0_nextBarge wsX0_canServe := goodIn_r _ [20, 21, 22, 23, 24, 25, 26, 27, 5, 28, 13, 14, 15, 16, 12, 7, 29, 30, 31, 32, 33, 34, 35, 36, 37, 38, 39, 40, 41, 42, 43, 44, 45, 46, 47, 48, 49, 50, 51] (by decide +kernel) (by decide +kernel)
set_option maxRecDepth 20000 in
theorem gX0_nextBarge_X0_canServe : GoodIn wsX0_nextBarge (wsV RX0 105 RX0 yX0_canServe wsX0_canServe) := goodIn_app (goodIn_of _ (by decide +kernel)) ggX0_nextBarge_X0_canServe
set_option maxRecDepth 20000 in
theorem ggX0_nextBarge_X0_fits : GoodIn wsX0_nextBarge wsX0_fits := goodIn_r _ [28, 24, 13, 14, 15, 5, 16, 12, 7, 34, 35, 36, 37, 38, 39, 40, 41, 42, 43, 44, 45, 46, 47, 48, 49, 50, 51] (by decide +kernel) (by decide +kernel)
set_option maxRecDepth 20000 in
theorem gX0_nextBarge_X0_fits : GoodIn wsX0_nextBarge (wsV RX0 109 RX0 yX0_fits wsX0_fits) := goodIn_app (goodIn_of _ (by decide +kernel)) ggX0_nextBarge_X0_fits
theorem dX0_nextBarge_0 : decode cX0_nextBarge 0 = .ok (.iconst (-1), 1) := by decide +kernel
theorem dX0_nextBarge_1 : decode cX0_nextBarge 1 = .ok (.istore_n 3, 1) := by decide +kernel
theorem dX0_nextBarge_2 : decode cX0_nextBarge 2 = .ok (.iconst 0, 1) := by decide +kernel
theorem dX0_nextBarge_3 : decode cX0_nextBarge 3 = .ok (.istore 4, 2) := by decide +kernel
theorem dX0_nextBarge_5 : decode cX0_nextBarge 5 = .ok (.iload 4, 2) := by decide +kernel
theorem dX0_nextBarge_7 : decode cX0_nextBarge 7 = .ok (.aload_n 0, 1) := by decide +kernel
theorem dX0_nextBarge_8 : decode cX0_nextBarge 8 = .ok (.getfield 72, 3) := by decide +kernel
theorem dX0_nextBarge_11 : decode cX0_nextBarge 11 = .ok (.if_icmp .ge 71, 3) := by decide +kernel
theorem dX0_nextBarge_14 : decode cX0_nextBarge 14 = .ok (.aload_n 0, 1) := by decide +kernel
theorem dX0_nextBarge_15 : decode cX0_nextBarge 15 = .ok (.iload 4, 2) := by decide +kernel
theorem dX0_nextBarge_17 : decode cX0_nextBarge 17 = .ok (.invokevirtual 101, 3) := by decide +kernel
theorem dX0_nextBarge_20 : decode cX0_nextBarge 20 = .ok (.iload_n 1, 1) := by decide +kernel
theorem dX0_nextBarge_21 : decode cX0_nextBarge 21 = .ok (.if_icmp .ne 16, 3) := by decide +kernel
theorem dX0_nextBarge_24 : decode cX0_nextBarge 24 = .ok (.iload_n 2, 1) := by decide +kernel
theorem dX0_nextBarge_25 : decode cX0_nextBarge 25 = .ok (.iload 4, 2) := by decide +kernel
theorem dX0_nextBarge_27 : decode cX0_nextBarge 27 = .ok (.ishr, 1) := by decide +kernel
theorem dX0_nextBarge_28 : decode cX0_nextBarge 28 = .ok (.iconst 1, 1) := by decide +kernel
theorem dX0_nextBarge_29 : decode cX0_nextBarge 29 = .ok (.iand, 1) := by decide +kernel
theorem dX0_nextBarge_30 : decode cX0_nextBarge 30 = .ok (.ifCond .ne 7, 3) := by decide +kernel
theorem dX0_nextBarge_33 : decode cX0_nextBarge 33 = .ok (.iconst 1, 1) := by decide +kernel
theorem dX0_nextBarge_34 : decode cX0_nextBarge 34 = .ok (.goto 4, 3) := by decide +kernel
theorem dX0_nextBarge_37 : decode cX0_nextBarge 37 = .ok (.iconst 0, 1) := by decide +kernel
theorem dX0_nextBarge_38 : decode cX0_nextBarge 38 = .ok (.istore 5, 2) := by decide +kernel
theorem dX0_nextBarge_40 : decode cX0_nextBarge 40 = .ok (.iload 5, 2) := by decide +kernel
theorem dX0_nextBarge_42 : decode cX0_nextBarge 42 = .ok (.ifCond .eq 34, 3) := by decide +kernel
theorem dX0_nextBarge_45 : decode cX0_nextBarge 45 = .ok (.aload_n 0, 1) := by decide +kernel
theorem dX0_nextBarge_46 : decode cX0_nextBarge 46 = .ok (.iload_n 1, 1) := by decide +kernel
theorem dX0_nextBarge_47 : decode cX0_nextBarge 47 = .ok (.iload 4, 2) := by decide +kernel
theorem dX0_nextBarge_49 : decode cX0_nextBarge 49 = .ok (.invokevirtual 105, 3) := by decide +kernel
theorem dX0_nextBarge_52 : decode cX0_nextBarge 52 = .ok (.ifCond .eq 24, 3) := by decide +kernel
theorem dX0_nextBarge_55 : decode cX0_nextBarge 55 = .ok (.aload_n 0, 1) := by decide +kernel
theorem dX0_nextBarge_56 : decode cX0_nextBarge 56 = .ok (.iload_n 1, 1) := by decide +kernel
theorem dX0_nextBarge_57 : decode cX0_nextBarge 57 = .ok (.iload 4, 2) := by decide +kernel
theorem dX0_nextBarge_59 : decode cX0_nextBarge 59 = .ok (.invokevirtual 109, 3) := by decide +kernel
theorem dX0_nextBarge_62 : decode cX0_nextBarge 62 = .ok (.ifCond .eq 6, 3) := by decide +kernel
theorem dX0_nextBarge_65 : decode cX0_nextBarge 65 = .ok (.iload 4, 2) := by decide +kernel
theorem dX0_nextBarge_67 : decode cX0_nextBarge 67 = .ok (.ireturn, 1) := by decide +kernel
theorem dX0_nextBarge_68 : decode cX0_nextBarge 68 = .ok (.iload_n 3, 1) := by decide +kernel
theorem dX0_nextBarge_69 : decode cX0_nextBarge 69 = .ok (.iconst (-1), 1) := by decide +kernel
theorem dX0_nextBarge_70 : decode cX0_nextBarge 70 = .ok (.if_icmp .ne 6, 3) := by decide +kernel
theorem dX0_nextBarge_73 : decode cX0_nextBarge 73 = .ok (.iload 4, 2) := by decide +kernel
theorem dX0_nextBarge_75 : decode cX0_nextBarge 75 = .ok (.istore_n 3, 1) := by decide +kernel
theorem dX0_nextBarge_76 : decode cX0_nextBarge 76 = .ok (.iinc 4 1, 3) := by decide +kernel
theorem dX0_nextBarge_79 : decode cX0_nextBarge 79 = .ok (.goto (-74), 3) := by decide +kernel
theorem dX0_nextBarge_82 : decode cX0_nextBarge 82 = .ok (.iload_n 3, 1) := by decide +kernel
theorem dX0_nextBarge_83 : decode cX0_nextBarge 83 = .ok (.ireturn, 1) := by decide +kernel
set_option maxRecDepth 20000 in
theorem ggX0_canServe_X0_fits : GoodIn wsX0_canServe wsX0_fits := goodIn_r _ [9, 4, 10, 11, 12, 8, 13, 14, 15, 21, 22, 23, 24, 25, 26, 27, 28, 29, 30, 31, 32, 33, 34, 35, 36, 37, 38] (by decide +kernel) (by decide +kernel)
set_option maxRecDepth 20000 in
theorem gX0_canServe_X0_fits : GoodIn wsX0_canServe (wsV RX0 109 RX0 yX0_fits wsX0_fits) := goodIn_app (goodIn_of _ (by decide +kernel)) ggX0_canServe_X0_fits
set_option maxRecDepth 20000 in
theorem ggX0_canServe_X0_goesDown : GoodIn wsX0_canServe wsX0_goesDown := goodIn_r _ [13, 14, 15, 21, 22, 23, 24, 25, 26, 27, 28, 29, 30, 31, 32, 33, 34, 35, 36, 37, 38] (by decide +kernel) (by decide +kernel)
set_option maxRecDepth 20000 in
theorem gX0_canServe_X0_goesDown : GoodIn wsX0_canServe (wsV RX0 112 RX0 yX0_goesDown wsX0_goesDown) := goodIn_app (goodIn_of _ (by decide +kernel)) ggX0_canServe_X0_goesDown
set_option maxRecDepth 20000 in
theorem ggX0_canServe_X0_canFill : GoodIn wsX0_canServe wsX0_canFill := goodIn_r _ [19, 20, 21, 22, 23, 24, 25, 26, 27, 28, 29, 30, 31, 32, 33, 34, 35, 36, 37, 38] (by decide +kernel) (by decide +kernel)
set_option maxRecDepth 20000 in
theorem gX0_canServe_X0_canFill : GoodIn wsX0_canServe (wsV RX0 116 RX0 yX0_canFill wsX0_canFill) := goodIn_app (goodIn_of _ (by decide +kernel)) ggX0_canServe_X0_canFill
theorem dX0_canServe_0 : decode cX0_canServe 0 = .ok (.aload_n 0, 1) := by decide +kernel
theorem dX0_canServe_1 : decode cX0_canServe 1 = .ok (.getfield 50, 3) := by decide +kernel
theorem dX0_canServe_4 : decode cX0_canServe 4 = .ok (.iload_n 2, 1) := by decide +kernel
theorem dX0_canServe_5 : decode cX0_canServe 5 = .ok (.iaload, 1) := by decide +kernel
theorem dX0_canServe_6 : decode cX0_canServe 6 = .ok (.aload_n 0, 1) := by decide +kernel
theorem dX0_canServe_7 : decode cX0_canServe 7 = .ok (.getfield 9, 3) := by decide +kernel
theorem dX0_canServe_10 : decode cX0_canServe 10 = .ok (.if_icmp .ge 5, 3) := by decide +kernel
theorem dX0_canServe_13 : decode cX0_canServe 13 = .ok (.iconst 0, 1) := by decide +kernel
theorem dX0_canServe_14 : decode cX0_canServe 14 = .ok (.ireturn, 1) := by decide +kernel
theorem dX0_canServe_15 : decode cX0_canServe 15 = .ok (.aload_n 0, 1) := by decide +kernel
theorem dX0_canServe_16 : decode cX0_canServe 16 = .ok (.getfield 62, 3) := by decide +kernel
theorem dX0_canServe_19 : decode cX0_canServe 19 = .ok (.ifCond .eq 14, 3) := by decide +kernel
theorem dX0_canServe_22 : decode cX0_canServe 22 = .ok (.aload_n 0, 1) := by decide +kernel
theorem dX0_canServe_23 : decode cX0_canServe 23 = .ok (.iload_n 1, 1) := by decide +kernel
theorem dX0_canServe_24 : decode cX0_canServe 24 = .ok (.iload_n 2, 1) := by decide +kernel
theorem dX0_canServe_25 : decode cX0_canServe 25 = .ok (.invokevirtual 109, 3) := by decide +kernel
theorem dX0_canServe_28 : decode cX0_canServe 28 = .ok (.ifCond .ne 5, 3) := by decide +kernel
theorem dX0_canServe_31 : decode cX0_canServe 31 = .ok (.iconst 0, 1) := by decide +kernel
theorem dX0_canServe_32 : decode cX0_canServe 32 = .ok (.ireturn, 1) := by decide +kernel
theorem dX0_canServe_33 : decode cX0_canServe 33 = .ok (.aload_n 0, 1) := by decide +kernel
theorem dX0_canServe_34 : decode cX0_canServe 34 = .ok (.iload_n 2, 1) := by decide +kernel
theorem dX0_canServe_35 : decode cX0_canServe 35 = .ok (.invokevirtual 112, 3) := by decide +kernel
theorem dX0_canServe_38 : decode cX0_canServe 38 = .ok (.ifCond .eq 12, 3) := by decide +kernel
theorem dX0_canServe_41 : decode cX0_canServe 41 = .ok (.aload_n 0, 1) := by decide +kernel
theorem dX0_canServe_42 : decode cX0_canServe 42 = .ok (.getfield 34, 3) := by decide +kernel
theorem dX0_canServe_45 : decode cX0_canServe 45 = .ok (.iload_n 1, 1) := by decide +kernel
theorem dX0_canServe_46 : decode cX0_canServe 46 = .ok (.baload, 1) := by decide +kernel
theorem dX0_canServe_47 : decode cX0_canServe 47 = .ok (.ifCond .ne 7, 3) := by decide +kernel
theorem dX0_canServe_50 : decode cX0_canServe 50 = .ok (.iconst 1, 1) := by decide +kernel
theorem dX0_canServe_51 : decode cX0_canServe 51 = .ok (.goto 4, 3) := by decide +kernel
theorem dX0_canServe_54 : decode cX0_canServe 54 = .ok (.iconst 0, 1) := by decide +kernel
theorem dX0_canServe_55 : decode cX0_canServe 55 = .ok (.istore_n 3, 1) := by decide +kernel
theorem dX0_canServe_56 : decode cX0_canServe 56 = .ok (.iload_n 3, 1) := by decide +kernel
theorem dX0_canServe_57 : decode cX0_canServe 57 = .ok (.ifCond .eq 11, 3) := by decide +kernel
theorem dX0_canServe_60 : decode cX0_canServe 60 = .ok (.aload_n 0, 1) := by decide +kernel
theorem dX0_canServe_61 : decode cX0_canServe 61 = .ok (.iload_n 1, 1) := by decide +kernel
theorem dX0_canServe_62 : decode cX0_canServe 62 = .ok (.invokevirtual 116, 3) := by decide +kernel
theorem dX0_canServe_65 : decode cX0_canServe 65 = .ok (.ifCond .eq 7, 3) := by decide +kernel
theorem dX0_canServe_68 : decode cX0_canServe 68 = .ok (.iconst 1, 1) := by decide +kernel
theorem dX0_canServe_69 : decode cX0_canServe 69 = .ok (.goto 4, 3) := by decide +kernel
theorem dX0_canServe_72 : decode cX0_canServe 72 = .ok (.iconst 0, 1) := by decide +kernel
theorem dX0_canServe_73 : decode cX0_canServe 73 = .ok (.ireturn, 1) := by decide +kernel
theorem dX0_canFill_0 : decode cX0_canFill 0 = .ok (.aload_n 0, 1) := by decide +kernel
theorem dX0_canFill_1 : decode cX0_canFill 1 = .ok (.getfield 25, 3) := by decide +kernel
theorem dX0_canFill_4 : decode cX0_canFill 4 = .ok (.iload_n 1, 1) := by decide +kernel
theorem dX0_canFill_5 : decode cX0_canFill 5 = .ok (.iconst 1, 1) := by decide +kernel
theorem dX0_canFill_6 : decode cX0_canFill 6 = .ok (.iadd, 1) := by decide +kernel
theorem dX0_canFill_7 : decode cX0_canFill 7 = .ok (.iaload, 1) := by decide +kernel
theorem dX0_canFill_8 : decode cX0_canFill 8 = .ok (.bipush 32, 2) := by decide +kernel
theorem dX0_canFill_10 : decode cX0_canFill 10 = .ok (.if_icmp .lt 7, 3) := by decide +kernel
theorem dX0_canFill_13 : decode cX0_canFill 13 = .ok (.iconst 1, 1) := by decide +kernel
theorem dX0_canFill_14 : decode cX0_canFill 14 = .ok (.goto 4, 3) := by decide +kernel
theorem dX0_canFill_17 : decode cX0_canFill 17 = .ok (.iconst 0, 1) := by decide +kernel
theorem dX0_canFill_18 : decode cX0_canFill 18 = .ok (.ireturn, 1) := by decide +kernel
set_option maxRecDepth 20000 in
theorem ggX0_fits_X0_goesDown : GoodIn wsX0_fits wsX0_goesDown := goodIn_r _ [6, 7, 8, 9, 10, 11, 12, 13, 14, 15, 16, 17, 18, 19, 20, 21, 22, 23, 24, 25, 26] (by decide +kernel) (by decide +kernel)
set_option maxRecDepth 20000 in
theorem gX0_fits_X0_goesDown : GoodIn wsX0_fits (wsV RX0 112 RX0 yX0_goesDown wsX0_goesDown) := goodIn_app (goodIn_of _ (by decide +kernel)) ggX0_fits_X0_goesDown
theorem dX0_fits_0 : decode cX0_fits 0 = .ok (.aload_n 0, 1) := by decide +kernel
theorem dX0_fits_1 : decode cX0_fits 1 = .ok (.getfield 34, 3) := by decide +kernel
theorem dX0_fits_4 : decode cX0_fits 4 = .ok (.iload_n 1, 1) := by decide +kernel
theorem dX0_fits_5 : decode cX0_fits 5 = .ok (.baload, 1) := by decide +kernel
theorem dX0_fits_6 : decode cX0_fits 6 = .ok (.aload_n 0, 1) := by decide +kernel
theorem dX0_fits_7 : decode cX0_fits 7 = .ok (.iload_n 2, 1) := by decide +kernel
theorem dX0_fits_8 : decode cX0_fits 8 = .ok (.invokevirtual 112, 3) := by decide +kernel
theorem dX0_fits_11 : decode cX0_fits 11 = .ok (.if_icmp .ne 7, 3) := by decide +kernel
theorem dX0_fits_14 : decode cX0_fits 14 = .ok (.iconst 1, 1) := by decide +kernel
theorem dX0_fits_15 : decode cX0_fits 15 = .ok (.goto 4, 3) := by decide +kernel
theorem dX0_fits_18 : decode cX0_fits 18 = .ok (.iconst 0, 1) := by decide +kernel
theorem dX0_fits_19 : decode cX0_fits 19 = .ok (.ireturn, 1) := by decide +kernel
theorem dX0_goesDown_0 : decode cX0_goesDown 0 = .ok (.aload_n 0, 1) := by decide +kernel
theorem dX0_goesDown_1 : decode cX0_goesDown 1 = .ok (.getfield 47, 3) := by decide +kernel
theorem dX0_goesDown_4 : decode cX0_goesDown 4 = .ok (.iload_n 1, 1) := by decide +kernel
theorem dX0_goesDown_5 : decode cX0_goesDown 5 = .ok (.iaload, 1) := by decide +kernel
theorem dX0_goesDown_6 : decode cX0_goesDown 6 = .ok (.aload_n 0, 1) := by decide +kernel
theorem dX0_goesDown_7 : decode cX0_goesDown 7 = .ok (.getfield 44, 3) := by decide +kernel
theorem dX0_goesDown_10 : decode cX0_goesDown 10 = .ok (.iload_n 1, 1) := by decide +kernel
theorem dX0_goesDown_11 : decode cX0_goesDown 11 = .ok (.iaload, 1) := by decide +kernel
theorem dX0_goesDown_12 : decode cX0_goesDown 12 = .ok (.if_icmp .ge 7, 3) := by decide +kernel
theorem dX0_goesDown_15 : decode cX0_goesDown 15 = .ok (.iconst 1, 1) := by decide +kernel
theorem dX0_goesDown_16 : decode cX0_goesDown 16 = .ok (.goto 4, 3) := by decide +kernel
theorem dX0_goesDown_19 : decode cX0_goesDown 19 = .ok (.iconst 0, 1) := by decide +kernel
theorem dX0_goesDown_20 : decode cX0_goesDown 20 = .ok (.ireturn, 1) := by decide +kernel
theorem dX0_hasCome_0 : decode cX0_hasCome 0 = .ok (.aload_n 0, 1) := by decide +kernel
theorem dX0_hasCome_1 : decode cX0_hasCome 1 = .ok (.getfield 44, 3) := by decide +kernel
theorem dX0_hasCome_4 : decode cX0_hasCome 4 = .ok (.iload_n 1, 1) := by decide +kernel
theorem dX0_hasCome_5 : decode cX0_hasCome 5 = .ok (.iaload, 1) := by decide +kernel
theorem dX0_hasCome_6 : decode cX0_hasCome 6 = .ok (.aload_n 0, 1) := by decide +kernel
theorem dX0_hasCome_7 : decode cX0_hasCome 7 = .ok (.getfield 47, 3) := by decide +kernel
theorem dX0_hasCome_10 : decode cX0_hasCome 10 = .ok (.iload_n 1, 1) := by decide +kernel
theorem dX0_hasCome_11 : decode cX0_hasCome 11 = .ok (.iaload, 1) := by decide +kernel
theorem dX0_hasCome_12 : decode cX0_hasCome 12 = .ok (.if_icmp .ne 7, 3) := by decide +kernel
theorem dX0_hasCome_15 : decode cX0_hasCome 15 = .ok (.iconst 1, 1) := by decide +kernel
theorem dX0_hasCome_16 : decode cX0_hasCome 16 = .ok (.goto 4, 3) := by decide +kernel
theorem dX0_hasCome_19 : decode cX0_hasCome 19 = .ok (.iconst 0, 1) := by decide +kernel
theorem dX0_hasCome_20 : decode cX0_hasCome 20 = .ok (.ireturn, 1) := by decide +kernel
set_option maxRecDepth 20000 in
theorem ggX0_waitsAt_X0_hasCome : GoodIn wsX0_waitsAt wsX0_hasCome := goodIn_r _ [6, 1, 7, 12, 13, 14, 15, 16, 17, 18, 19, 20, 21, 22, 23, 24, 25, 26, 27, 28, 29] (by decide +kernel) (by decide +kernel)
set_option maxRecDepth 20000 in
theorem gX0_waitsAt_X0_hasCome : GoodIn wsX0_waitsAt (wsV RX0 119 RX0 yX0_hasCome wsX0_hasCome) := goodIn_app (goodIn_of _ (by decide +kernel)) ggX0_waitsAt_X0_hasCome
set_option maxRecDepth 20000 in
theorem ggX0_waitsAt_X0_goesDown : GoodIn wsX0_waitsAt wsX0_goesDown := goodIn_r _ [11, 7, 1, 12, 13, 14, 15, 16, 17, 18, 19, 20, 21, 22, 23, 24, 25, 26, 27, 28, 29] (by decide +kernel) (by decide +kernel)
set_option maxRecDepth 20000 in
theorem gX0_waitsAt_X0_goesDown : GoodIn wsX0_waitsAt (wsV RX0 112 RX0 yX0_goesDown wsX0_goesDown) := goodIn_app (goodIn_of _ (by decide +kernel)) ggX0_waitsAt_X0_goesDown
theorem dX0_waitsAt_0 : decode cX0_waitsAt 0 = .ok (.aload_n 0, 1) := by decide +kernel
theorem dX0_waitsAt_1 : decode cX0_waitsAt 1 = .ok (.iload_n 1, 1) := by decide +kernel
theorem dX0_waitsAt_2 : decode cX0_waitsAt 2 = .ok (.invokevirtual 119, 3) := by decide +kernel
theorem dX0_waitsAt_5 : decode cX0_waitsAt 5 = .ok (.ifCond .eq 5, 3) := by decide +kernel
theorem dX0_waitsAt_8 : decode cX0_waitsAt 8 = .ok (.iconst (-1), 1) := by decide +kernel
theorem dX0_waitsAt_9 : decode cX0_waitsAt 9 = .ok (.ireturn, 1) := by decide +kernel
theorem dX0_waitsAt_10 : decode cX0_waitsAt 10 = .ok (.aload_n 0, 1) := by decide +kernel
theorem dX0_waitsAt_11 : decode cX0_waitsAt 11 = .ok (.iload_n 1, 1) := by decide +kernel
theorem dX0_waitsAt_12 : decode cX0_waitsAt 12 = .ok (.invokevirtual 112, 3) := by decide +kernel
theorem dX0_waitsAt_15 : decode cX0_waitsAt 15 = .ok (.ifCond .eq 14, 3) := by decide +kernel
theorem dX0_waitsAt_18 : decode cX0_waitsAt 18 = .ok (.aload_n 0, 1) := by decide +kernel
theorem dX0_waitsAt_19 : decode cX0_waitsAt 19 = .ok (.getfield 44, 3) := by decide +kernel
theorem dX0_waitsAt_22 : decode cX0_waitsAt 22 = .ok (.iload_n 1, 1) := by decide +kernel
theorem dX0_waitsAt_23 : decode cX0_waitsAt 23 = .ok (.iaload, 1) := by decide +kernel
theorem dX0_waitsAt_24 : decode cX0_waitsAt 24 = .ok (.iconst 1, 1) := by decide +kernel
theorem dX0_waitsAt_25 : decode cX0_waitsAt 25 = .ok (.isub, 1) := by decide +kernel
theorem dX0_waitsAt_26 : decode cX0_waitsAt 26 = .ok (.goto 9, 3) := by decide +kernel
theorem dX0_waitsAt_29 : decode cX0_waitsAt 29 = .ok (.aload_n 0, 1) := by decide +kernel
theorem dX0_waitsAt_30 : decode cX0_waitsAt 30 = .ok (.getfield 44, 3) := by decide +kernel
theorem dX0_waitsAt_33 : decode cX0_waitsAt 33 = .ok (.iload_n 1, 1) := by decide +kernel
theorem dX0_waitsAt_34 : decode cX0_waitsAt 34 = .ok (.iaload, 1) := by decide +kernel
theorem dX0_waitsAt_35 : decode cX0_waitsAt 35 = .ok (.ireturn, 1) := by decide +kernel
set_option maxRecDepth 20000 in
theorem ggX0_serve_X0_fits : GoodIn wsX0_serve wsX0_fits := goodIn_r _ [11, 12, 13, 14, 15, 10, 16, 17, 1, 33, 34, 35, 36, 37, 38, 39, 40, 41, 42, 43, 44, 45, 46, 47, 48, 49, 50] (by decide +kernel) (by decide +kernel)
set_option maxRecDepth 20000 in
theorem gX0_serve_X0_fits : GoodIn wsX0_serve (wsV RX0 109 RX0 yX0_fits wsX0_fits) := goodIn_app (goodIn_of _ (by decide +kernel)) ggX0_serve_X0_fits
set_option maxRecDepth 20000 in
theorem ggX0_serve_X0_turnChamber : GoodIn wsX0_serve wsX0_turnChamber := goodIn_r _ [21, 12, 22, 23, 24, 25, 26, 10, 27, 28, 29, 30, 31, 32, 33, 34, 35, 36, 37, 38, 39, 40, 41, 42, 43, 44, 45, 46, 47, 48, 49, 50] (by decide +kernel) (by decide +kernel)
set_option maxRecDepth 20000 in
theorem gX0_serve_X0_turnChamber : GoodIn wsX0_serve (wsV RX0 122 RX0 yX0_turnChamber wsX0_turnChamber) := goodIn_app (goodIn_of _ (by decide +kernel)) ggX0_serve_X0_turnChamber
set_option maxRecDepth 20000 in
theorem ggX0_serve_X0_goesDown : GoodIn wsX0_serve wsX0_goesDown := goodIn_r _ [16, 17, 1, 33, 34, 35, 36, 37, 38, 39, 40, 41, 42, 43, 44, 45, 46, 47, 48, 49, 50] (by decide +kernel) (by decide +kernel)
set_option maxRecDepth 20000 in
theorem gX0_serve_X0_goesDown : GoodIn wsX0_serve (wsV RX0 112 RX0 yX0_goesDown wsX0_goesDown) := goodIn_app (goodIn_of _ (by decide +kernel)) ggX0_serve_X0_goesDown
theorem dX0_serve_0 : decode cX0_serve 0 = .ok (.aload_n 0, 1) := by decide +kernel
theorem dX0_serve_1 : decode cX0_serve 1 = .ok (.iload_n 1, 1) := by decide +kernel
theorem dX0_serve_2 : decode cX0_serve 2 = .ok (.iload_n 2, 1) := by decide +kernel
theorem dX0_serve_3 : decode cX0_serve 3 = .ok (.invokevirtual 109, 3) := by decide +kernel
theorem dX0_serve_6 : decode cX0_serve 6 = .ok (.ifCond .ne 8, 3) := by decide +kernel
theorem dX0_serve_9 : decode cX0_serve 9 = .ok (.aload_n 0, 1) := by decide +kernel
theorem dX0_serve_10 : decode cX0_serve 10 = .ok (.iload_n 1, 1) := by decide +kernel
theorem dX0_serve_11 : decode cX0_serve 11 = .ok (.invokevirtual 122, 3) := by decide +kernel
theorem dX0_serve_14 : decode cX0_serve 14 = .ok (.aload_n 0, 1) := by decide +kernel
theorem dX0_serve_15 : decode cX0_serve 15 = .ok (.iload_n 1, 1) := by decide +kernel
theorem dX0_serve_16 : decode cX0_serve 16 = .ok (.invokevirtual 122, 3) := by decide +kernel
theorem dX0_serve_19 : decode cX0_serve 19 = .ok (.aload_n 0, 1) := by decide +kernel
theorem dX0_serve_20 : decode cX0_serve 20 = .ok (.getfield 44, 3) := by decide +kernel
theorem dX0_serve_23 : decode cX0_serve 23 = .ok (.iload_n 2, 1) := by decide +kernel
theorem dX0_serve_24 : decode cX0_serve 24 = .ok (.aload_n 0, 1) := by decide +kernel
theorem dX0_serve_25 : decode cX0_serve 25 = .ok (.iload_n 2, 1) := by decide +kernel
theorem dX0_serve_26 : decode cX0_serve 26 = .ok (.invokevirtual 112, 3) := by decide +kernel
theorem dX0_serve_29 : decode cX0_serve 29 = .ok (.ifCond .eq 7, 3) := by decide +kernel
theorem dX0_serve_32 : decode cX0_serve 32 = .ok (.iload_n 1, 1) := by decide +kernel
theorem dX0_serve_33 : decode cX0_serve 33 = .ok (.goto 6, 3) := by decide +kernel
theorem dX0_serve_36 : decode cX0_serve 36 = .ok (.iload_n 1, 1) := by decide +kernel
theorem dX0_serve_37 : decode cX0_serve 37 = .ok (.iconst 1, 1) := by decide +kernel
theorem dX0_serve_38 : decode cX0_serve 38 = .ok (.iadd, 1) := by decide +kernel
theorem dX0_serve_39 : decode cX0_serve 39 = .ok (.iastore, 1) := by decide +kernel
theorem dX0_serve_40 : decode cX0_serve 40 = .ok (.aload_n 0, 1) := by decide +kernel
theorem dX0_serve_41 : decode cX0_serve 41 = .ok (.getfield 50, 3) := by decide +kernel
theorem dX0_serve_44 : decode cX0_serve 44 = .ok (.iload_n 2, 1) := by decide +kernel
theorem dX0_serve_45 : decode cX0_serve 45 = .ok (.dup2, 1) := by decide +kernel
theorem dX0_serve_46 : decode cX0_serve 46 = .ok (.iaload, 1) := by decide +kernel
theorem dX0_serve_47 : decode cX0_serve 47 = .ok (.aload_n 0, 1) := by decide +kernel
theorem dX0_serve_48 : decode cX0_serve 48 = .ok (.getfield 9, 3) := by decide +kernel
theorem dX0_serve_51 : decode cX0_serve 51 = .ok (.isub, 1) := by decide +kernel
theorem dX0_serve_52 : decode cX0_serve 52 = .ok (.iastore, 1) := by decide +kernel
theorem dX0_serve_53 : decode cX0_serve 53 = .ok (.aload_n 0, 1) := by decide +kernel
theorem dX0_serve_54 : decode cX0_serve 54 = .ok (.dup, 1) := by decide +kernel
theorem dX0_serve_55 : decode cX0_serve 55 = .ok (.getfield 59, 3) := by decide +kernel
theorem dX0_serve_58 : decode cX0_serve 58 = .ok (.aload_n 0, 1) := by decide +kernel
theorem dX0_serve_59 : decode cX0_serve 59 = .ok (.getfield 9, 3) := by decide +kernel
theorem dX0_serve_62 : decode cX0_serve 62 = .ok (.iadd, 1) := by decide +kernel
theorem dX0_serve_63 : decode cX0_serve 63 = .ok (.putfield 59, 3) := by decide +kernel
theorem dX0_serve_66 : decode cX0_serve 66 = .ok (.aload_n 0, 1) := by decide +kernel
theorem dX0_serve_67 : decode cX0_serve 67 = .ok (.getfield 53, 3) := by decide +kernel
theorem dX0_serve_70 : decode cX0_serve 70 = .ok (.iload_n 2, 1) := by decide +kernel
theorem dX0_serve_71 : decode cX0_serve 71 = .ok (.dup2, 1) := by decide +kernel
theorem dX0_serve_72 : decode cX0_serve 72 = .ok (.iaload, 1) := by decide +kernel
theorem dX0_serve_73 : decode cX0_serve 73 = .ok (.iconst 1, 1) := by decide +kernel
theorem dX0_serve_74 : decode cX0_serve 74 = .ok (.iadd, 1) := by decide +kernel
theorem dX0_serve_75 : decode cX0_serve 75 = .ok (.iastore, 1) := by decide +kernel
theorem dX0_serve_76 : decode cX0_serve 76 = .ok (.aload_n 0, 1) := by decide +kernel
theorem dX0_serve_77 : decode cX0_serve 77 = .ok (.getfield 38, 3) := by decide +kernel
theorem dX0_serve_80 : decode cX0_serve 80 = .ok (.iload_n 1, 1) := by decide +kernel
theorem dX0_serve_81 : decode cX0_serve 81 = .ok (.dup2, 1) := by decide +kernel
theorem dX0_serve_82 : decode cX0_serve 82 = .ok (.iaload, 1) := by decide +kernel
theorem dX0_serve_83 : decode cX0_serve 83 = .ok (.iconst 1, 1) := by decide +kernel
theorem dX0_serve_84 : decode cX0_serve 84 = .ok (.iadd, 1) := by decide +kernel
theorem dX0_serve_85 : decode cX0_serve 85 = .ok (.iastore, 1) := by decide +kernel
theorem dX0_serve_86 : decode cX0_serve 86 = .ok (.return_, 1) := by decide +kernel
set_option maxRecDepth 20000 in
theorem ggX0_turnChamber_X0_pour : GoodIn wsX0_turnChamber wsX0_pour := goodIn_r _ [8, 2, 9, 10, 11, 12, 13, 14, 15, 16, 17, 18, 19, 20, 21, 22, 23, 24, 25, 26, 27, 28, 29, 30, 31] (by decide +kernel) (by decide +kernel)
set_option maxRecDepth 20000 in
theorem gX0_turnChamber_X0_pour : GoodIn wsX0_turnChamber (wsV RX0 85 RX0 yX0_pour wsX0_pour) := goodIn_app (goodIn_of _ (by decide +kernel)) ggX0_turnChamber_X0_pour
theorem dX0_turnChamber_0 : decode cX0_turnChamber 0 = .ok (.aload_n 0, 1) := by decide +kernel
theorem dX0_turnChamber_1 : decode cX0_turnChamber 1 = .ok (.getfield 34, 3) := by decide +kernel
theorem dX0_turnChamber_4 : decode cX0_turnChamber 4 = .ok (.iload_n 1, 1) := by decide +kernel
theorem dX0_turnChamber_5 : decode cX0_turnChamber 5 = .ok (.baload, 1) := by decide +kernel
theorem dX0_turnChamber_6 : decode cX0_turnChamber 6 = .ok (.ifCond .eq 20, 3) := by decide +kernel
theorem dX0_turnChamber_9 : decode cX0_turnChamber 9 = .ok (.aload_n 0, 1) := by decide +kernel
theorem dX0_turnChamber_10 : decode cX0_turnChamber 10 = .ok (.getfield 34, 3) := by decide +kernel
theorem dX0_turnChamber_13 : decode cX0_turnChamber 13 = .ok (.iload_n 1, 1) := by decide +kernel
theorem dX0_turnChamber_14 : decode cX0_turnChamber 14 = .ok (.iconst 0, 1) := by decide +kernel
theorem dX0_turnChamber_15 : decode cX0_turnChamber 15 = .ok (.bastore, 1) := by decide +kernel
theorem dX0_turnChamber_16 : decode cX0_turnChamber 16 = .ok (.aload_n 0, 1) := by decide +kernel
theorem dX0_turnChamber_17 : decode cX0_turnChamber 17 = .ok (.iload_n 1, 1) := by decide +kernel
theorem dX0_turnChamber_18 : decode cX0_turnChamber 18 = .ok (.bipush 12, 2) := by decide +kernel
theorem dX0_turnChamber_20 : decode cX0_turnChamber 20 = .ok (.invokevirtual 85, 3) := by decide +kernel
theorem dX0_turnChamber_23 : decode cX0_turnChamber 23 = .ok (.goto 34, 3) := by decide +kernel
theorem dX0_turnChamber_26 : decode cX0_turnChamber 26 = .ok (.aload_n 0, 1) := by decide +kernel
theorem dX0_turnChamber_27 : decode cX0_turnChamber 27 = .ok (.getfield 34, 3) := by decide +kernel
theorem dX0_turnChamber_30 : decode cX0_turnChamber 30 = .ok (.iload_n 1, 1) := by decide +kernel
theorem dX0_turnChamber_31 : decode cX0_turnChamber 31 = .ok (.iconst 1, 1) := by decide +kernel
theorem dX0_turnChamber_32 : decode cX0_turnChamber 32 = .ok (.bastore, 1) := by decide +kernel
theorem dX0_turnChamber_33 : decode cX0_turnChamber 33 = .ok (.aload_n 0, 1) := by decide +kernel
theorem dX0_turnChamber_34 : decode cX0_turnChamber 34 = .ok (.getfield 25, 3) := by decide +kernel
theorem dX0_turnChamber_37 : decode cX0_turnChamber 37 = .ok (.iload_n 1, 1) := by decide +kernel
theorem dX0_turnChamber_38 : decode cX0_turnChamber 38 = .ok (.iconst 1, 1) := by decide +kernel
theorem dX0_turnChamber_39 : decode cX0_turnChamber 39 = .ok (.iadd, 1) := by decide +kernel
theorem dX0_turnChamber_40 : decode cX0_turnChamber 40 = .ok (.dup2, 1) := by decide +kernel
theorem dX0_turnChamber_41 : decode cX0_turnChamber 41 = .ok (.iaload, 1) := by decide +kernel
theorem dX0_turnChamber_42 : decode cX0_turnChamber 42 = .ok (.bipush 12, 2) := by decide +kernel
theorem dX0_turnChamber_44 : decode cX0_turnChamber 44 = .ok (.isub, 1) := by decide +kernel
theorem dX0_turnChamber_45 : decode cX0_turnChamber 45 = .ok (.iastore, 1) := by decide +kernel
theorem dX0_turnChamber_46 : decode cX0_turnChamber 46 = .ok (.aload_n 0, 1) := by decide +kernel
theorem dX0_turnChamber_47 : decode cX0_turnChamber 47 = .ok (.getfield 41, 3) := by decide +kernel
theorem dX0_turnChamber_50 : decode cX0_turnChamber 50 = .ok (.iload_n 1, 1) := by decide +kernel
theorem dX0_turnChamber_51 : decode cX0_turnChamber 51 = .ok (.dup2, 1) := by decide +kernel
theorem dX0_turnChamber_52 : decode cX0_turnChamber 52 = .ok (.iaload, 1) := by decide +kernel
theorem dX0_turnChamber_53 : decode cX0_turnChamber 53 = .ok (.bipush 12, 2) := by decide +kernel
theorem dX0_turnChamber_55 : decode cX0_turnChamber 55 = .ok (.iadd, 1) := by decide +kernel
theorem dX0_turnChamber_56 : decode cX0_turnChamber 56 = .ok (.iastore, 1) := by decide +kernel
theorem dX0_turnChamber_57 : decode cX0_turnChamber 57 = .ok (.return_, 1) := by decide +kernel
set_option maxRecDepth 20000 in
theorem ggX0_tellBarge_X0_waitsAt : GoodIn wsX0_tellBarge wsX0_waitsAt := goodIn_r _ [9, 1, 10, 11, 12, 8, 13, 2, 14, 15, 16, 17, 18, 19, 20, 21, 22, 23, 24, 25, 26, 27, 28, 29, 30, 31, 32, 33, 34, 35] (by decide +kernel) (by decide +kernel)
set_option maxRecDepth 20000 in
theorem gX0_tellBarge_X0_waitsAt : GoodIn wsX0_tellBarge (wsV RX0 101 RX0 yX0_waitsAt wsX0_waitsAt) := goodIn_app (goodIn_of _ (by decide +kernel)) ggX0_tellBarge_X0_waitsAt
theorem dX0_tellBarge_0 : decode cX0_tellBarge 0 = .ok (.iload_n 2, 1) := by decide +kernel
theorem dX0_tellBarge_1 : decode cX0_tellBarge 1 = .ok (.tableswitch 59 0 3 #[31, 38, 45, 52], 31) := by decide +kernel
theorem dX0_tellBarge_32 : decode cX0_tellBarge 32 = .ok (.aload_n 0, 1) := by decide +kernel
theorem dX0_tellBarge_33 : decode cX0_tellBarge 33 = .ok (.getfield 44, 3) := by decide +kernel
theorem dX0_tellBarge_36 : decode cX0_tellBarge 36 = .ok (.iload_n 1, 1) := by decide +kernel
theorem dX0_tellBarge_37 : decode cX0_tellBarge 37 = .ok (.iaload, 1) := by decide +kernel
theorem dX0_tellBarge_38 : decode cX0_tellBarge 38 = .ok (.ireturn, 1) := by decide +kernel
theorem dX0_tellBarge_39 : decode cX0_tellBarge 39 = .ok (.aload_n 0, 1) := by decide +kernel
theorem dX0_tellBarge_40 : decode cX0_tellBarge 40 = .ok (.getfield 47, 3) := by decide +kernel
theorem dX0_tellBarge_43 : decode cX0_tellBarge 43 = .ok (.iload_n 1, 1) := by decide +kernel
theorem dX0_tellBarge_44 : decode cX0_tellBarge 44 = .ok (.iaload, 1) := by decide +kernel
theorem dX0_tellBarge_45 : decode cX0_tellBarge 45 = .ok (.ireturn, 1) := by decide +kernel
theorem dX0_tellBarge_46 : decode cX0_tellBarge 46 = .ok (.aload_n 0, 1) := by decide +kernel
theorem dX0_tellBarge_47 : decode cX0_tellBarge 47 = .ok (.getfield 50, 3) := by decide +kernel
theorem dX0_tellBarge_50 : decode cX0_tellBarge 50 = .ok (.iload_n 1, 1) := by decide +kernel
theorem dX0_tellBarge_51 : decode cX0_tellBarge 51 = .ok (.iaload, 1) := by decide +kernel
theorem dX0_tellBarge_52 : decode cX0_tellBarge 52 = .ok (.ireturn, 1) := by decide +kernel
theorem dX0_tellBarge_53 : decode cX0_tellBarge 53 = .ok (.aload_n 0, 1) := by decide +kernel
theorem dX0_tellBarge_54 : decode cX0_tellBarge 54 = .ok (.getfield 53, 3) := by decide +kernel
theorem dX0_tellBarge_57 : decode cX0_tellBarge 57 = .ok (.iload_n 1, 1) := by decide +kernel
theorem dX0_tellBarge_58 : decode cX0_tellBarge 58 = .ok (.iaload, 1) := by decide +kernel
theorem dX0_tellBarge_59 : decode cX0_tellBarge 59 = .ok (.ireturn, 1) := by decide +kernel
theorem dX0_tellBarge_60 : decode cX0_tellBarge 60 = .ok (.aload_n 0, 1) := by decide +kernel
theorem dX0_tellBarge_61 : decode cX0_tellBarge 61 = .ok (.iload_n 1, 1) := by decide +kernel
theorem dX0_tellBarge_62 : decode cX0_tellBarge 62 = .ok (.invokevirtual 101, 3) := by decide +kernel
theorem dX0_tellBarge_65 : decode cX0_tellBarge 65 = .ok (.ireturn, 1) := by decide +kernel
set_option maxRecDepth 20000 in
theorem ggX0_tellPound_X0_bargesAt : GoodIn wsX0_tellPound wsX0_bargesAt := goodIn_r _ [8, 9, 10, 11, 12, 13, 14, 15, 16, 17, 18, 19, 20, 21, 22, 23, 24, 25, 26, 27, 28] (by decide +kernel) (by decide +kernel)
set_option maxRecDepth 20000 in
theorem gX0_tellPound_X0_bargesAt : GoodIn wsX0_tellPound (wsV RX0 126 RX0 yX0_bargesAt wsX0_bargesAt) := goodIn_app (goodIn_of _ (by decide +kernel)) ggX0_tellPound_X0_bargesAt
theorem dX0_tellPound_0 : decode cX0_tellPound 0 = .ok (.iload_n 2, 1) := by decide +kernel
theorem dX0_tellPound_1 : decode cX0_tellPound 1 = .ok (.tableswitch 47 0 2 #[27, 34, 40], 27) := by decide +kernel
theorem dX0_tellPound_28 : decode cX0_tellPound 28 = .ok (.aload_n 0, 1) := by decide +kernel
theorem dX0_tellPound_29 : decode cX0_tellPound 29 = .ok (.getfield 25, 3) := by decide +kernel
theorem dX0_tellPound_32 : decode cX0_tellPound 32 = .ok (.iload_n 1, 1) := by decide +kernel
theorem dX0_tellPound_33 : decode cX0_tellPound 33 = .ok (.iaload, 1) := by decide +kernel
theorem dX0_tellPound_34 : decode cX0_tellPound 34 = .ok (.ireturn, 1) := by decide +kernel
theorem dX0_tellPound_35 : decode cX0_tellPound 35 = .ok (.aload_n 0, 1) := by decide +kernel
theorem dX0_tellPound_36 : decode cX0_tellPound 36 = .ok (.iload_n 1, 1) := by decide +kernel
theorem dX0_tellPound_37 : decode cX0_tellPound 37 = .ok (.invokevirtual 126, 3) := by decide +kernel
theorem dX0_tellPound_40 : decode cX0_tellPound 40 = .ok (.ireturn, 1) := by decide +kernel
theorem dX0_tellPound_41 : decode cX0_tellPound 41 = .ok (.aload_n 0, 1) := by decide +kernel
theorem dX0_tellPound_42 : decode cX0_tellPound 42 = .ok (.getfield 28, 3) := by decide +kernel
theorem dX0_tellPound_45 : decode cX0_tellPound 45 = .ok (.iload_n 1, 1) := by decide +kernel
theorem dX0_tellPound_46 : decode cX0_tellPound 46 = .ok (.iaload, 1) := by decide +kernel
theorem dX0_tellPound_47 : decode cX0_tellPound 47 = .ok (.ireturn, 1) := by decide +kernel
theorem dX0_tellPound_48 : decode cX0_tellPound 48 = .ok (.aload_n 0, 1) := by decide +kernel
theorem dX0_tellPound_49 : decode cX0_tellPound 49 = .ok (.getfield 31, 3) := by decide +kernel
theorem dX0_tellPound_52 : decode cX0_tellPound 52 = .ok (.iload_n 1, 1) := by decide +kernel
theorem dX0_tellPound_53 : decode cX0_tellPound 53 = .ok (.iaload, 1) := by decide +kernel
theorem dX0_tellPound_54 : decode cX0_tellPound 54 = .ok (.ireturn, 1) := by decide +kernel
set_option maxRecDepth 20000 in
theorem ggX0_tellLock_X0_bargesWaitingAt : GoodIn wsX0_tellLock wsX0_bargesWaitingAt := goodIn_r _ [8, 9, 10, 11, 12, 7, 13, 14, 15, 16, 17, 18, 19, 20, 21, 22, 23, 44, 45, 46, 47, 48, 49, 50, 51, 52, 53, 54, 55, 56, 57, 58, 59, 60, 61] (by decide +kernel) (by decide +kernel)
set_option maxRecDepth 20000 in
theorem gX0_tellLock_X0_bargesWaitingAt : GoodIn wsX0_tellLock (wsV RX0 129 RX0 yX0_bargesWaitingAt wsX0_bargesWaitingAt) := goodIn_app (goodIn_of _ (by decide +kernel)) ggX0_tellLock_X0_bargesWaitingAt
set_option maxRecDepth 20000 in
theorem ggX0_tellLock_X0_nextBarge : GoodIn wsX0_tellLock wsX0_nextBarge := goodIn_r _ [27, 9, 10, 11, 12, 7, 13, 14, 15, 16, 17, 18, 19, 20, 21, 22, 23, 28, 29, 30, 31, 32, 33, 34, 1, 35, 36, 37, 38, 39, 40, 41, 42, 43, 44, 45, 46, 47, 48, 49, 50, 51, 52, 53, 54, 55, 56, 57, 58, 59, 60, 61] (by decide +kernel) (by decide +kernel)
set_option maxRecDepth 20000 in
theorem gX0_tellLock_X0_nextBarge : GoodIn wsX0_tellLock (wsV RX0 92 RX0 yX0_nextBarge wsX0_nextBarge) := goodIn_app (goodIn_of _ (by decide +kernel)) ggX0_tellLock_X0_nextBarge
theorem dX0_tellLock_0 : decode cX0_tellLock 0 = .ok (.iload_n 2, 1) := by decide +kernel
theorem dX0_tellLock_1 : decode cX0_tellLock 1 = .ok (.tableswitch 66 0 3 #[31, 46, 52, 59], 31) := by decide +kernel
theorem dX0_tellLock_32 : decode cX0_tellLock 32 = .ok (.aload_n 0, 1) := by decide +kernel
theorem dX0_tellLock_33 : decode cX0_tellLock 33 = .ok (.getfield 34, 3) := by decide +kernel
theorem dX0_tellLock_36 : decode cX0_tellLock 36 = .ok (.iload_n 1, 1) := by decide +kernel
theorem dX0_tellLock_37 : decode cX0_tellLock 37 = .ok (.baload, 1) := by decide +kernel
theorem dX0_tellLock_38 : decode cX0_tellLock 38 = .ok (.ifCond .eq 7, 3) := by decide +kernel
theorem dX0_tellLock_41 : decode cX0_tellLock 41 = .ok (.iconst 1, 1) := by decide +kernel
theorem dX0_tellLock_42 : decode cX0_tellLock 42 = .ok (.goto 4, 3) := by decide +kernel
theorem dX0_tellLock_45 : decode cX0_tellLock 45 = .ok (.iconst 0, 1) := by decide +kernel
theorem dX0_tellLock_46 : decode cX0_tellLock 46 = .ok (.ireturn, 1) := by decide +kernel
theorem dX0_tellLock_47 : decode cX0_tellLock 47 = .ok (.aload_n 0, 1) := by decide +kernel
theorem dX0_tellLock_48 : decode cX0_tellLock 48 = .ok (.iload_n 1, 1) := by decide +kernel
theorem dX0_tellLock_49 : decode cX0_tellLock 49 = .ok (.invokevirtual 129, 3) := by decide +kernel
theorem dX0_tellLock_52 : decode cX0_tellLock 52 = .ok (.ireturn, 1) := by decide +kernel
theorem dX0_tellLock_53 : decode cX0_tellLock 53 = .ok (.aload_n 0, 1) := by decide +kernel
theorem dX0_tellLock_54 : decode cX0_tellLock 54 = .ok (.getfield 38, 3) := by decide +kernel
theorem dX0_tellLock_57 : decode cX0_tellLock 57 = .ok (.iload_n 1, 1) := by decide +kernel
theorem dX0_tellLock_58 : decode cX0_tellLock 58 = .ok (.iaload, 1) := by decide +kernel
theorem dX0_tellLock_59 : decode cX0_tellLock 59 = .ok (.ireturn, 1) := by decide +kernel
theorem dX0_tellLock_60 : decode cX0_tellLock 60 = .ok (.aload_n 0, 1) := by decide +kernel
theorem dX0_tellLock_61 : decode cX0_tellLock 61 = .ok (.getfield 41, 3) := by decide +kernel
theorem dX0_tellLock_64 : decode cX0_tellLock 64 = .ok (.iload_n 1, 1) := by decide +kernel
theorem dX0_tellLock_65 : decode cX0_tellLock 65 = .ok (.iaload, 1) := by decide +kernel
theorem dX0_tellLock_66 : decode cX0_tellLock 66 = .ok (.ireturn, 1) := by decide +kernel
theorem dX0_tellLock_67 : decode cX0_tellLock 67 = .ok (.aload_n 0, 1) := by decide +kernel
theorem dX0_tellLock_68 : decode cX0_tellLock 68 = .ok (.iload_n 1, 1) := by decide +kernel
theorem dX0_tellLock_69 : decode cX0_tellLock 69 = .ok (.iconst 0, 1) := by decide +kernel
theorem dX0_tellLock_70 : decode cX0_tellLock 70 = .ok (.invokevirtual 92, 3) := by decide +kernel
theorem dX0_tellLock_73 : decode cX0_tellLock 73 = .ok (.ireturn, 1) := by decide +kernel
set_option maxRecDepth 20000 in
theorem ggX0_tellWhole_X0_bargesThatHaveCome : GoodIn wsX0_tellWhole wsX0_bargesThatHaveCome := goodIn_r _ [13, 2, 14, 15, 16, 12, 17, 18, 19, 30, 31, 32, 33, 34, 35, 36, 37, 38, 39, 40, 41, 42, 43, 44, 45, 46, 47] (by decide +kernel) (by decide +kernel)
set_option maxRecDepth 20000 in
theorem gX0_tellWhole_X0_bargesThatHaveCome : GoodIn wsX0_tellWhole (wsV RX0 132 RX0 yX0_bargesThatHaveCome wsX0_bargesThatHaveCome) := goodIn_app (goodIn_of _ (by decide +kernel)) ggX0_tellWhole_X0_bargesThatHaveCome
set_option maxRecDepth 20000 in
theorem ggX0_tellWhole_X0_waterOfAll : GoodIn wsX0_tellWhole wsX0_waterOfAll := goodIn_r _ [23, 24, 30, 31, 32, 33, 34, 35, 36, 37, 38, 39, 40, 41, 42, 43, 44, 45, 46, 47] (by decide +kernel) (by decide +kernel)
set_option maxRecDepth 20000 in
theorem gX0_tellWhole_X0_waterOfAll : GoodIn wsX0_tellWhole (wsV RX0 135 RX0 yX0_waterOfAll wsX0_waterOfAll) := goodIn_app (goodIn_of _ (by decide +kernel)) ggX0_tellWhole_X0_waterOfAll
set_option maxRecDepth 20000 in
theorem ggX0_tellWhole_X0_fullChambers : GoodIn wsX0_tellWhole wsX0_fullChambers := goodIn_r _ [28, 29, 30, 31, 32, 33, 34, 35, 36, 37, 38, 39, 40, 41, 42, 43, 44, 45, 46, 47] (by decide +kernel) (by decide +kernel)
set_option maxRecDepth 20000 in
theorem gX0_tellWhole_X0_fullChambers : GoodIn wsX0_tellWhole (wsV RX0 138 RX0 yX0_fullChambers wsX0_fullChambers) := goodIn_app (goodIn_of _ (by decide +kernel)) ggX0_tellWhole_X0_fullChambers
theorem dX0_tellWhole_0 : decode cX0_tellWhole 0 = .ok (.iload_n 1, 1) := by decide +kernel
theorem dX0_tellWhole_1 : decode cX0_tellWhole 1 = .ok (.tableswitch 105 0 8 #[51, 56, 61, 66, 71, 76, 81, 95, 100], 51) := by decide +kernel
theorem dX0_tellWhole_52 : decode cX0_tellWhole 52 = .ok (.aload_n 0, 1) := by decide +kernel
theorem dX0_tellWhole_53 : decode cX0_tellWhole 53 = .ok (.getfield 56, 3) := by decide +kernel
theorem dX0_tellWhole_56 : decode cX0_tellWhole 56 = .ok (.ireturn, 1) := by decide +kernel
theorem dX0_tellWhole_57 : decode cX0_tellWhole 57 = .ok (.aload_n 0, 1) := by decide +kernel
theorem dX0_tellWhole_58 : decode cX0_tellWhole 58 = .ok (.getfield 72, 3) := by decide +kernel
theorem dX0_tellWhole_61 : decode cX0_tellWhole 61 = .ok (.ireturn, 1) := by decide +kernel
theorem dX0_tellWhole_62 : decode cX0_tellWhole 62 = .ok (.aload_n 0, 1) := by decide +kernel
theorem dX0_tellWhole_63 : decode cX0_tellWhole 63 = .ok (.invokevirtual 132, 3) := by decide +kernel
theorem dX0_tellWhole_66 : decode cX0_tellWhole 66 = .ok (.ireturn, 1) := by decide +kernel
theorem dX0_tellWhole_67 : decode cX0_tellWhole 67 = .ok (.aload_n 0, 1) := by decide +kernel
theorem dX0_tellWhole_68 : decode cX0_tellWhole 68 = .ok (.getfield 59, 3) := by decide +kernel
theorem dX0_tellWhole_71 : decode cX0_tellWhole 71 = .ok (.ireturn, 1) := by decide +kernel
theorem dX0_tellWhole_72 : decode cX0_tellWhole 72 = .ok (.aload_n 0, 1) := by decide +kernel
theorem dX0_tellWhole_73 : decode cX0_tellWhole 73 = .ok (.invokevirtual 135, 3) := by decide +kernel
theorem dX0_tellWhole_76 : decode cX0_tellWhole 76 = .ok (.ireturn, 1) := by decide +kernel
theorem dX0_tellWhole_77 : decode cX0_tellWhole 77 = .ok (.aload_n 0, 1) := by decide +kernel
theorem dX0_tellWhole_78 : decode cX0_tellWhole 78 = .ok (.invokevirtual 138, 3) := by decide +kernel
theorem dX0_tellWhole_81 : decode cX0_tellWhole 81 = .ok (.ireturn, 1) := by decide +kernel
theorem dX0_tellWhole_82 : decode cX0_tellWhole 82 = .ok (.aload_n 0, 1) := by decide +kernel
theorem dX0_tellWhole_83 : decode cX0_tellWhole 83 = .ok (.getfield 28, 3) := by decide +kernel
theorem dX0_tellWhole_86 : decode cX0_tellWhole 86 = .ok (.iconst 0, 1) := by decide +kernel
theorem dX0_tellWhole_87 : decode cX0_tellWhole 87 = .ok (.iaload, 1) := by decide +kernel
theorem dX0_tellWhole_88 : decode cX0_tellWhole 88 = .ok (.aload_n 0, 1) := by decide +kernel
theorem dX0_tellWhole_89 : decode cX0_tellWhole 89 = .ok (.getfield 31, 3) := by decide +kernel
theorem dX0_tellWhole_92 : decode cX0_tellWhole 92 = .ok (.iconst 0, 1) := by decide +kernel
theorem dX0_tellWhole_93 : decode cX0_tellWhole 93 = .ok (.iaload, 1) := by decide +kernel
theorem dX0_tellWhole_94 : decode cX0_tellWhole 94 = .ok (.iadd, 1) := by decide +kernel
theorem dX0_tellWhole_95 : decode cX0_tellWhole 95 = .ok (.ireturn, 1) := by decide +kernel
theorem dX0_tellWhole_96 : decode cX0_tellWhole 96 = .ok (.aload_n 0, 1) := by decide +kernel
theorem dX0_tellWhole_97 : decode cX0_tellWhole 97 = .ok (.getfield 9, 3) := by decide +kernel
theorem dX0_tellWhole_100 : decode cX0_tellWhole 100 = .ok (.ireturn, 1) := by decide +kernel
theorem dX0_tellWhole_101 : decode cX0_tellWhole 101 = .ok (.aload_n 0, 1) := by decide +kernel
theorem dX0_tellWhole_102 : decode cX0_tellWhole 102 = .ok (.getfield 18, 3) := by decide +kernel
theorem dX0_tellWhole_105 : decode cX0_tellWhole 105 = .ok (.ireturn, 1) := by decide +kernel
theorem dX0_tellWhole_106 : decode cX0_tellWhole 106 = .ok (.aload_n 0, 1) := by decide +kernel
theorem dX0_tellWhole_107 : decode cX0_tellWhole 107 = .ok (.getfield 15, 3) := by decide +kernel
theorem dX0_tellWhole_110 : decode cX0_tellWhole 110 = .ok (.ireturn, 1) := by decide +kernel
theorem dX0_bargesAt_0 : decode cX0_bargesAt 0 = .ok (.iconst 0, 1) := by decide +kernel
theorem dX0_bargesAt_1 : decode cX0_bargesAt 1 = .ok (.istore_n 2, 1) := by decide +kernel
theorem dX0_bargesAt_2 : decode cX0_bargesAt 2 = .ok (.iconst 0, 1) := by decide +kernel
theorem dX0_bargesAt_3 : decode cX0_bargesAt 3 = .ok (.istore_n 3, 1) := by decide +kernel
theorem dX0_bargesAt_4 : decode cX0_bargesAt 4 = .ok (.iload_n 3, 1) := by decide +kernel
theorem dX0_bargesAt_5 : decode cX0_bargesAt 5 = .ok (.aload_n 0, 1) := by decide +kernel
theorem dX0_bargesAt_6 : decode cX0_bargesAt 6 = .ok (.getfield 72, 3) := by decide +kernel
theorem dX0_bargesAt_9 : decode cX0_bargesAt 9 = .ok (.if_icmp .ge 27, 3) := by decide +kernel
theorem dX0_bargesAt_12 : decode cX0_bargesAt 12 = .ok (.iload_n 2, 1) := by decide +kernel
theorem dX0_bargesAt_13 : decode cX0_bargesAt 13 = .ok (.aload_n 0, 1) := by decide +kernel
theorem dX0_bargesAt_14 : decode cX0_bargesAt 14 = .ok (.getfield 44, 3) := by decide +kernel
theorem dX0_bargesAt_17 : decode cX0_bargesAt 17 = .ok (.iload_n 3, 1) := by decide +kernel
theorem dX0_bargesAt_18 : decode cX0_bargesAt 18 = .ok (.iaload, 1) := by decide +kernel
theorem dX0_bargesAt_19 : decode cX0_bargesAt 19 = .ok (.iload_n 1, 1) := by decide +kernel
theorem dX0_bargesAt_20 : decode cX0_bargesAt 20 = .ok (.if_icmp .ne 7, 3) := by decide +kernel
theorem dX0_bargesAt_23 : decode cX0_bargesAt 23 = .ok (.iconst 1, 1) := by decide +kernel
theorem dX0_bargesAt_24 : decode cX0_bargesAt 24 = .ok (.goto 4, 3) := by decide +kernel
theorem dX0_bargesAt_27 : decode cX0_bargesAt 27 = .ok (.iconst 0, 1) := by decide +kernel
theorem dX0_bargesAt_28 : decode cX0_bargesAt 28 = .ok (.iadd, 1) := by decide +kernel
theorem dX0_bargesAt_29 : decode cX0_bargesAt 29 = .ok (.istore_n 2, 1) := by decide +kernel
theorem dX0_bargesAt_30 : decode cX0_bargesAt 30 = .ok (.iinc 3 1, 3) := by decide +kernel
theorem dX0_bargesAt_33 : decode cX0_bargesAt 33 = .ok (.goto (-29), 3) := by decide +kernel
theorem dX0_bargesAt_36 : decode cX0_bargesAt 36 = .ok (.iload_n 2, 1) := by decide +kernel
theorem dX0_bargesAt_37 : decode cX0_bargesAt 37 = .ok (.ireturn, 1) := by decide +kernel
set_option maxRecDepth 20000 in
theorem ggX0_bargesWaitingAt_X0_waitsAt : GoodIn wsX0_bargesWaitingAt wsX0_waitsAt := goodIn_r _ [6, 7, 8, 9, 10, 5, 11, 12, 13, 14, 15, 16, 17, 18, 19, 20, 21, 22, 23, 24, 25, 26, 27, 28, 29, 30, 31, 32, 33, 34] (by decide +kernel) (by decide +kernel)
set_option maxRecDepth 20000 in
theorem gX0_bargesWaitingAt_X0_waitsAt : GoodIn wsX0_bargesWaitingAt (wsV RX0 101 RX0 yX0_waitsAt wsX0_waitsAt) := goodIn_app (goodIn_of _ (by decide +kernel)) ggX0_bargesWaitingAt_X0_waitsAt
theorem dX0_bargesWaitingAt_0 : decode cX0_bargesWaitingAt 0 = .ok (.iconst 0, 1) := by decide +kernel
theorem dX0_bargesWaitingAt_1 : decode cX0_bargesWaitingAt 1 = .ok (.istore_n 2, 1) := by decide +kernel
theorem dX0_bargesWaitingAt_2 : decode cX0_bargesWaitingAt 2 = .ok (.iconst 0, 1) := by decide +kernel
theorem dX0_bargesWaitingAt_3 : decode cX0_bargesWaitingAt 3 = .ok (.istore_n 3, 1) := by decide +kernel
theorem dX0_bargesWaitingAt_4 : decode cX0_bargesWaitingAt 4 = .ok (.iload_n 3, 1) := by decide +kernel
theorem dX0_bargesWaitingAt_5 : decode cX0_bargesWaitingAt 5 = .ok (.aload_n 0, 1) := by decide +kernel
theorem dX0_bargesWaitingAt_6 : decode cX0_bargesWaitingAt 6 = .ok (.getfield 72, 3) := by decide +kernel
theorem dX0_bargesWaitingAt_9 : decode cX0_bargesWaitingAt 9 = .ok (.if_icmp .ge 26, 3) := by decide +kernel
theorem dX0_bargesWaitingAt_12 : decode cX0_bargesWaitingAt 12 = .ok (.iload_n 2, 1) := by decide +kernel
theorem dX0_bargesWaitingAt_13 : decode cX0_bargesWaitingAt 13 = .ok (.aload_n 0, 1) := by decide +kernel
theorem dX0_bargesWaitingAt_14 : decode cX0_bargesWaitingAt 14 = .ok (.iload_n 3, 1) := by decide +kernel
theorem dX0_bargesWaitingAt_15 : decode cX0_bargesWaitingAt 15 = .ok (.invokevirtual 101, 3) := by decide +kernel
theorem dX0_bargesWaitingAt_18 : decode cX0_bargesWaitingAt 18 = .ok (.iload_n 1, 1) := by decide +kernel
theorem dX0_bargesWaitingAt_19 : decode cX0_bargesWaitingAt 19 = .ok (.if_icmp .ne 7, 3) := by decide +kernel
theorem dX0_bargesWaitingAt_22 : decode cX0_bargesWaitingAt 22 = .ok (.iconst 1, 1) := by decide +kernel
theorem dX0_bargesWaitingAt_23 : decode cX0_bargesWaitingAt 23 = .ok (.goto 4, 3) := by decide +kernel
theorem dX0_bargesWaitingAt_26 : decode cX0_bargesWaitingAt 26 = .ok (.iconst 0, 1) := by decide +kernel
theorem dX0_bargesWaitingAt_27 : decode cX0_bargesWaitingAt 27 = .ok (.iadd, 1) := by decide +kernel
theorem dX0_bargesWaitingAt_28 : decode cX0_bargesWaitingAt 28 = .ok (.istore_n 2, 1) := by decide +kernel
theorem dX0_bargesWaitingAt_29 : decode cX0_bargesWaitingAt 29 = .ok (.iinc 3 1, 3) := by decide +kernel
theorem dX0_bargesWaitingAt_32 : decode cX0_bargesWaitingAt 32 = .ok (.goto (-28), 3) := by decide +kernel
theorem dX0_bargesWaitingAt_35 : decode cX0_bargesWaitingAt 35 = .ok (.iload_n 2, 1) := by decide +kernel
theorem dX0_bargesWaitingAt_36 : decode cX0_bargesWaitingAt 36 = .ok (.ireturn, 1) := by decide +kernel
set_option maxRecDepth 20000 in
theorem ggX0_bargesThatHaveCome_X0_hasCome : GoodIn wsX0_bargesThatHaveCome wsX0_hasCome := goodIn_r _ [6, 7, 8, 9, 10, 11, 12, 13, 14, 15, 16, 17, 18, 19, 20, 21, 22, 23, 24, 25, 26] (by decide +kernel) (by decide +kernel)
set_option maxRecDepth 20000 in
theorem gX0_bargesThatHaveCome_X0_hasCome : GoodIn wsX0_bargesThatHaveCome (wsV RX0 119 RX0 yX0_hasCome wsX0_hasCome) := goodIn_app (goodIn_of _ (by decide +kernel)) ggX0_bargesThatHaveCome_X0_hasCome
theorem dX0_bargesThatHaveCome_0 : decode cX0_bargesThatHaveCome 0 = .ok (.iconst 0, 1) := by decide +kernel
theorem dX0_bargesThatHaveCome_1 : decode cX0_bargesThatHaveCome 1 = .ok (.istore_n 1, 1) := by decide +kernel
theorem dX0_bargesThatHaveCome_2 : decode cX0_bargesThatHaveCome 2 = .ok (.iconst 0, 1) := by decide +kernel
theorem dX0_bargesThatHaveCome_3 : decode cX0_bargesThatHaveCome 3 = .ok (.istore_n 2, 1) := by decide +kernel
theorem dX0_bargesThatHaveCome_4 : decode cX0_bargesThatHaveCome 4 = .ok (.iload_n 2, 1) := by decide +kernel
theorem dX0_bargesThatHaveCome_5 : decode cX0_bargesThatHaveCome 5 = .ok (.aload_n 0, 1) := by decide +kernel
theorem dX0_bargesThatHaveCome_6 : decode cX0_bargesThatHaveCome 6 = .ok (.getfield 72, 3) := by decide +kernel
theorem dX0_bargesThatHaveCome_9 : decode cX0_bargesThatHaveCome 9 = .ok (.if_icmp .ge 25, 3) := by decide +kernel
theorem dX0_bargesThatHaveCome_12 : decode cX0_bargesThatHaveCome 12 = .ok (.iload_n 1, 1) := by decide +kernel
theorem dX0_bargesThatHaveCome_13 : decode cX0_bargesThatHaveCome 13 = .ok (.aload_n 0, 1) := by decide +kernel
theorem dX0_bargesThatHaveCome_14 : decode cX0_bargesThatHaveCome 14 = .ok (.iload_n 2, 1) := by decide +kernel
theorem dX0_bargesThatHaveCome_15 : decode cX0_bargesThatHaveCome 15 = .ok (.invokevirtual 119, 3) := by decide +kernel
theorem dX0_bargesThatHaveCome_18 : decode cX0_bargesThatHaveCome 18 = .ok (.ifCond .eq 7, 3) := by decide +kernel
theorem dX0_bargesThatHaveCome_21 : decode cX0_bargesThatHaveCome 21 = .ok (.iconst 1, 1) := by decide +kernel
theorem dX0_bargesThatHaveCome_22 : decode cX0_bargesThatHaveCome 22 = .ok (.goto 4, 3) := by decide +kernel
theorem dX0_bargesThatHaveCome_25 : decode cX0_bargesThatHaveCome 25 = .ok (.iconst 0, 1) := by decide +kernel
theorem dX0_bargesThatHaveCome_26 : decode cX0_bargesThatHaveCome 26 = .ok (.iadd, 1) := by decide +kernel
theorem dX0_bargesThatHaveCome_27 : decode cX0_bargesThatHaveCome 27 = .ok (.istore_n 1, 1) := by decide +kernel
theorem dX0_bargesThatHaveCome_28 : decode cX0_bargesThatHaveCome 28 = .ok (.iinc 2 1, 3) := by decide +kernel
theorem dX0_bargesThatHaveCome_31 : decode cX0_bargesThatHaveCome 31 = .ok (.goto (-27), 3) := by decide +kernel
theorem dX0_bargesThatHaveCome_34 : decode cX0_bargesThatHaveCome 34 = .ok (.iload_n 1, 1) := by decide +kernel
theorem dX0_bargesThatHaveCome_35 : decode cX0_bargesThatHaveCome 35 = .ok (.ireturn, 1) := by decide +kernel
theorem dX0_fullChambers_0 : decode cX0_fullChambers 0 = .ok (.iconst 0, 1) := by decide +kernel
theorem dX0_fullChambers_1 : decode cX0_fullChambers 1 = .ok (.istore_n 1, 1) := by decide +kernel
theorem dX0_fullChambers_2 : decode cX0_fullChambers 2 = .ok (.iconst 0, 1) := by decide +kernel
theorem dX0_fullChambers_3 : decode cX0_fullChambers 3 = .ok (.istore_n 2, 1) := by decide +kernel
theorem dX0_fullChambers_4 : decode cX0_fullChambers 4 = .ok (.iload_n 2, 1) := by decide +kernel
theorem dX0_fullChambers_5 : decode cX0_fullChambers 5 = .ok (.iconst 5, 1) := by decide +kernel
theorem dX0_fullChambers_6 : decode cX0_fullChambers 6 = .ok (.if_icmp .ge 26, 3) := by decide +kernel
theorem dX0_fullChambers_9 : decode cX0_fullChambers 9 = .ok (.iload_n 1, 1) := by decide +kernel
theorem dX0_fullChambers_10 : decode cX0_fullChambers 10 = .ok (.aload_n 0, 1) := by decide +kernel
theorem dX0_fullChambers_11 : decode cX0_fullChambers 11 = .ok (.getfield 34, 3) := by decide +kernel
theorem dX0_fullChambers_14 : decode cX0_fullChambers 14 = .ok (.iload_n 2, 1) := by decide +kernel
theorem dX0_fullChambers_15 : decode cX0_fullChambers 15 = .ok (.baload, 1) := by decide +kernel
theorem dX0_fullChambers_16 : decode cX0_fullChambers 16 = .ok (.ifCond .eq 7, 3) := by decide +kernel
theorem dX0_fullChambers_19 : decode cX0_fullChambers 19 = .ok (.iconst 1, 1) := by decide +kernel
theorem dX0_fullChambers_20 : decode cX0_fullChambers 20 = .ok (.goto 4, 3) := by decide +kernel
theorem dX0_fullChambers_23 : decode cX0_fullChambers 23 = .ok (.iconst 0, 1) := by decide +kernel
theorem dX0_fullChambers_24 : decode cX0_fullChambers 24 = .ok (.iadd, 1) := by decide +kernel
theorem dX0_fullChambers_25 : decode cX0_fullChambers 25 = .ok (.istore_n 1, 1) := by decide +kernel
theorem dX0_fullChambers_26 : decode cX0_fullChambers 26 = .ok (.iinc 2 1, 3) := by decide +kernel
theorem dX0_fullChambers_29 : decode cX0_fullChambers 29 = .ok (.goto (-25), 3) := by decide +kernel
theorem dX0_fullChambers_32 : decode cX0_fullChambers 32 = .ok (.iload_n 1, 1) := by decide +kernel
theorem dX0_fullChambers_33 : decode cX0_fullChambers 33 = .ok (.ireturn, 1) := by decide +kernel
theorem dX0_waterOfAll_0 : decode cX0_waterOfAll 0 = .ok (.iconst 0, 1) := by decide +kernel
theorem dX0_waterOfAll_1 : decode cX0_waterOfAll 1 = .ok (.istore_n 1, 1) := by decide +kernel
theorem dX0_waterOfAll_2 : decode cX0_waterOfAll 2 = .ok (.iconst 0, 1) := by decide +kernel
theorem dX0_waterOfAll_3 : decode cX0_waterOfAll 3 = .ok (.istore_n 2, 1) := by decide +kernel
theorem dX0_waterOfAll_4 : decode cX0_waterOfAll 4 = .ok (.iload_n 2, 1) := by decide +kernel
theorem dX0_waterOfAll_5 : decode cX0_waterOfAll 5 = .ok (.bipush 6, 2) := by decide +kernel
theorem dX0_waterOfAll_7 : decode cX0_waterOfAll 7 = .ok (.if_icmp .ge 18, 3) := by decide +kernel
theorem dX0_waterOfAll_10 : decode cX0_waterOfAll 10 = .ok (.iload_n 1, 1) := by decide +kernel
theorem dX0_waterOfAll_11 : decode cX0_waterOfAll 11 = .ok (.aload_n 0, 1) := by decide +kernel
theorem dX0_waterOfAll_12 : decode cX0_waterOfAll 12 = .ok (.getfield 25, 3) := by decide +kernel
theorem dX0_waterOfAll_15 : decode cX0_waterOfAll 15 = .ok (.iload_n 2, 1) := by decide +kernel
theorem dX0_waterOfAll_16 : decode cX0_waterOfAll 16 = .ok (.iaload, 1) := by decide +kernel
theorem dX0_waterOfAll_17 : decode cX0_waterOfAll 17 = .ok (.iadd, 1) := by decide +kernel
theorem dX0_waterOfAll_18 : decode cX0_waterOfAll 18 = .ok (.istore_n 1, 1) := by decide +kernel
theorem dX0_waterOfAll_19 : decode cX0_waterOfAll 19 = .ok (.iinc 2 1, 3) := by decide +kernel
theorem dX0_waterOfAll_22 : decode cX0_waterOfAll 22 = .ok (.goto (-18), 3) := by decide +kernel
theorem dX0_waterOfAll_25 : decode cX0_waterOfAll 25 = .ok (.iload_n 1, 1) := by decide +kernel
theorem dX0_waterOfAll_26 : decode cX0_waterOfAll 26 = .ok (.ireturn, 1) := by decide +kernel
end
section
set_option maxRecDepth 20000 in
theorem ggX1_init_X0_init : GoodIn wsX1_init wsX0_init := goodIn_r _ [11, 12, 2, 3, 13, 14, 15, 16, 17, 18, 19, 20, 21, 22, 23, 24, 25, 26, 27, 28, 29, 30, 31, 32, 33, 34, 35, 36, 37, 38, 39, 40, 41, 42, 43, 44, 45, 46] (by decide +kernel) (by decide +kernel)
set_option maxRecDepth 20000 in
theorem gX1_init_X0_init : GoodIn wsX1_init (wsX0_init) := ggX1_init_X0_init
theorem dX1_init_0 : decode cX1_init 0 = .ok (.aload_n 0, 1) := by decide +kernel
theorem dX1_init_1 : decode cX1_init 1 = .ok (.invokespecial 3, 3) := by decide +kernel
theorem dX1_init_4 : decode cX1_init 4 = .ok (.aload_n 0, 1) := by decide +kernel
theorem dX1_init_5 : decode cX1_init 5 = .ok (.new 9, 3) := by decide +kernel
theorem dX1_init_8 : decode cX1_init 8 = .ok (.dup, 1) := by decide +kernel
theorem dX1_init_9 : decode cX1_init 9 = .ok (.invokespecial 11, 3) := by decide +kernel
theorem dX1_init_12 : decode cX1_init 12 = .ok (.putfield 12, 3) := by decide +kernel
theorem dX1_init_15 : decode cX1_init 15 = .ok (.aload_n 0, 1) := by decide +kernel
theorem dX1_init_16 : decode cX1_init 16 = .ok (.new 9, 3) := by decide +kernel
theorem dX1_init_19 : decode cX1_init 19 = .ok (.dup, 1) := by decide +kernel
theorem dX1_init_20 : decode cX1_init 20 = .ok (.invokespecial 11, 3) := by decide +kernel
theorem dX1_init_23 : decode cX1_init 23 = .ok (.putfield 16, 3) := by decide +kernel
theorem dX1_init_26 : decode cX1_init 26 = .ok (.return_, 1) := by decide +kernel
set_option maxRecDepth 20000 in
theorem ggX1_setSpring_X1_requireIndex : GoodIn wsX1_setSpring wsX1_requireIndex := goodIn_ca (goodIn_r _ [6, 7, 8] (by decide +kernel) (by decide +kernel)) (goodIn_sub (fun _ h => List.mem_cons_of_mem _ (List.mem_append_left _ (List.mem_append_right _ h))) (by decide +kernel))
set_option maxRecDepth 20000 in
theorem gX1_setSpring_X1_requireIndex : GoodIn wsX1_setSpring (va_wsS RX1 19 yX1_requireIndex wsX1_requireIndex) := goodIn_app (goodIn_of _ (by decide +kernel)) ggX1_setSpring_X1_requireIndex
set_option maxRecDepth 20000 in
theorem ggX1_setSpring_X1_requireArgument : GoodIn wsX1_setSpring wsX1_requireArgument := goodIn_ca (goodIn_r _ [11, 12, 13] (by decide +kernel) (by decide +kernel)) (goodIn_sub (fun _ h => List.mem_cons_of_mem _ (List.mem_append_right _ h)) (by decide +kernel))
set_option maxRecDepth 20000 in
theorem gX1_setSpring_X1_requireArgument : GoodIn wsX1_setSpring (va_wsS RX1 23 yX1_requireArgument wsX1_requireArgument) := goodIn_app (goodIn_of _ (by decide +kernel)) ggX1_setSpring_X1_requireArgument
theorem dX1_setSpring_0 : decode cX1_setSpring 0 = .ok (.iload_n 1, 1) := by decide +kernel
theorem dX1_setSpring_1 : decode cX1_setSpring 1 = .ok (.iconst 0, 1) := by decide +kernel
theorem dX1_setSpring_2 : decode cX1_setSpring 2 = .ok (.bipush 7, 2) := by decide +kernel
theorem dX1_setSpring_4 : decode cX1_setSpring 4 = .ok (.invokestatic 19, 3) := by decide +kernel
theorem dX1_setSpring_7 : decode cX1_setSpring 7 = .ok (.iload_n 2, 1) := by decide +kernel
theorem dX1_setSpring_8 : decode cX1_setSpring 8 = .ok (.iconst 0, 1) := by decide +kernel
theorem dX1_setSpring_9 : decode cX1_setSpring 9 = .ok (.bipush 30, 2) := by decide +kernel
theorem dX1_setSpring_11 : decode cX1_setSpring 11 = .ok (.invokestatic 23, 3) := by decide +kernel
theorem dX1_setSpring_14 : decode cX1_setSpring 14 = .ok (.aload_n 0, 1) := by decide +kernel
theorem dX1_setSpring_15 : decode cX1_setSpring 15 = .ok (.getfield 12, 3) := by decide +kernel
theorem dX1_setSpring_18 : decode cX1_setSpring 18 = .ok (.getfield 26, 3) := by decide +kernel
theorem dX1_setSpring_21 : decode cX1_setSpring 21 = .ok (.iload_n 1, 1) := by decide +kernel
theorem dX1_setSpring_22 : decode cX1_setSpring 22 = .ok (.iaload, 1) := by decide +kernel
theorem dX1_setSpring_23 : decode cX1_setSpring 23 = .ok (.istore_n 3, 1) := by decide +kernel
theorem dX1_setSpring_24 : decode cX1_setSpring 24 = .ok (.aload_n 0, 1) := by decide +kernel
theorem dX1_setSpring_25 : decode cX1_setSpring 25 = .ok (.getfield 12, 3) := by decide +kernel
theorem dX1_setSpring_28 : decode cX1_setSpring 28 = .ok (.getfield 26, 3) := by decide +kernel
theorem dX1_setSpring_31 : decode cX1_setSpring 31 = .ok (.iload_n 1, 1) := by decide +kernel
theorem dX1_setSpring_32 : decode cX1_setSpring 32 = .ok (.iload_n 2, 1) := by decide +kernel
theorem dX1_setSpring_33 : decode cX1_setSpring 33 = .ok (.iastore, 1) := by decide +kernel
theorem dX1_setSpring_34 : decode cX1_setSpring 34 = .ok (.iload_n 3, 1) := by decide +kernel
theorem dX1_setSpring_35 : decode cX1_setSpring 35 = .ok (.ireturn, 1) := by decide +kernel
set_option maxRecDepth 20000 in
theorem ggX1_setMill_X1_requireIndex : GoodIn wsX1_setMill wsX1_requireIndex := goodIn_ca (goodIn_r _ [7, 8, 9] (by decide +kernel) (by decide +kernel)) (goodIn_sub (fun _ h => List.mem_cons_of_mem _ (List.mem_append_left _ (List.mem_append_right _ h))) (by decide +kernel))
set_option maxRecDepth 20000 in
theorem gX1_setMill_X1_requireIndex : GoodIn wsX1_setMill (va_wsS RX1 19 yX1_requireIndex wsX1_requireIndex) := goodIn_app (goodIn_of _ (by decide +kernel)) ggX1_setMill_X1_requireIndex
set_option maxRecDepth 20000 in
theorem ggX1_setMill_X1_requireArgument : GoodIn wsX1_setMill wsX1_requireArgument := goodIn_ca (goodIn_r _ [12, 13, 14] (by decide +kernel) (by decide +kernel)) (goodIn_sub (fun _ h => List.mem_cons_of_mem _ (List.mem_append_right _ h)) (by decide +kernel))
set_option maxRecDepth 20000 in
theorem gX1_setMill_X1_requireArgument : GoodIn wsX1_setMill (va_wsS RX1 23 yX1_requireArgument wsX1_requireArgument) := goodIn_app (goodIn_of _ (by decide +kernel)) ggX1_setMill_X1_requireArgument
theorem dX1_setMill_0 : decode cX1_setMill 0 = .ok (.iload_n 1, 1) := by decide +kernel
theorem dX1_setMill_1 : decode cX1_setMill 1 = .ok (.iconst (-1), 1) := by decide +kernel
theorem dX1_setMill_2 : decode cX1_setMill 2 = .ok (.iconst 5, 1) := by decide +kernel
theorem dX1_setMill_3 : decode cX1_setMill 3 = .ok (.invokestatic 19, 3) := by decide +kernel
theorem dX1_setMill_6 : decode cX1_setMill 6 = .ok (.iload_n 2, 1) := by decide +kernel
theorem dX1_setMill_7 : decode cX1_setMill 7 = .ok (.iconst 0, 1) := by decide +kernel
theorem dX1_setMill_8 : decode cX1_setMill 8 = .ok (.bipush 100, 2) := by decide +kernel
theorem dX1_setMill_10 : decode cX1_setMill 10 = .ok (.invokestatic 23, 3) := by decide +kernel
theorem dX1_setMill_13 : decode cX1_setMill 13 = .ok (.aload_n 0, 1) := by decide +kernel
theorem dX1_setMill_14 : decode cX1_setMill 14 = .ok (.getfield 12, 3) := by decide +kernel
theorem dX1_setMill_17 : decode cX1_setMill 17 = .ok (.getfield 30, 3) := by decide +kernel
theorem dX1_setMill_20 : decode cX1_setMill 20 = .ok (.istore_n 3, 1) := by decide +kernel
theorem dX1_setMill_21 : decode cX1_setMill 21 = .ok (.aload_n 0, 1) := by decide +kernel
theorem dX1_setMill_22 : decode cX1_setMill 22 = .ok (.getfield 12, 3) := by decide +kernel
theorem dX1_setMill_25 : decode cX1_setMill 25 = .ok (.iload_n 1, 1) := by decide +kernel
theorem dX1_setMill_26 : decode cX1_setMill 26 = .ok (.putfield 34, 3) := by decide +kernel
theorem dX1_setMill_29 : decode cX1_setMill 29 = .ok (.aload_n 0, 1) := by decide +kernel
theorem dX1_setMill_30 : decode cX1_setMill 30 = .ok (.getfield 12, 3) := by decide +kernel
theorem dX1_setMill_33 : decode cX1_setMill 33 = .ok (.iload_n 2, 1) := by decide +kernel
theorem dX1_setMill_34 : decode cX1_setMill 34 = .ok (.putfield 30, 3) := by decide +kernel
theorem dX1_setMill_37 : decode cX1_setMill 37 = .ok (.iload_n 3, 1) := by decide +kernel
theorem dX1_setMill_38 : decode cX1_setMill 38 = .ok (.ireturn, 1) := by decide +kernel
theorem dX1_setDrought_0 : decode cX1_setDrought 0 = .ok (.aload_n 0, 1) := by decide +kernel
theorem dX1_setDrought_1 : decode cX1_setDrought 1 = .ok (.getfield 12, 3) := by decide +kernel
theorem dX1_setDrought_4 : decode cX1_setDrought 4 = .ok (.getfield 37, 3) := by decide +kernel
theorem dX1_setDrought_7 : decode cX1_setDrought 7 = .ok (.istore_n 2, 1) := by decide +kernel
theorem dX1_setDrought_8 : decode cX1_setDrought 8 = .ok (.aload_n 0, 1) := by decide +kernel
theorem dX1_setDrought_9 : decode cX1_setDrought 9 = .ok (.getfield 12, 3) := by decide +kernel
theorem dX1_setDrought_12 : decode cX1_setDrought 12 = .ok (.iload_n 1, 1) := by decide +kernel
theorem dX1_setDrought_13 : decode cX1_setDrought 13 = .ok (.putfield 37, 3) := by decide +kernel
theorem dX1_setDrought_16 : decode cX1_setDrought 16 = .ok (.iload_n 2, 1) := by decide +kernel
theorem dX1_setDrought_17 : decode cX1_setDrought 17 = .ok (.ireturn, 1) := by decide +kernel
set_option maxRecDepth 20000 in
theorem ggX1_setFee_X1_requireArgument : GoodIn wsX1_setFee wsX1_requireArgument := goodIn_ca (goodIn_r _ [6, 7, 8] (by decide +kernel) (by decide +kernel)) (goodIn_sub (fun _ h => List.mem_cons_of_mem _ (List.mem_append_right _ h)) (by decide +kernel))
set_option maxRecDepth 20000 in
theorem gX1_setFee_X1_requireArgument : GoodIn wsX1_setFee (va_wsS RX1 23 yX1_requireArgument wsX1_requireArgument) := goodIn_app (goodIn_of _ (by decide +kernel)) ggX1_setFee_X1_requireArgument
theorem dX1_setFee_0 : decode cX1_setFee 0 = .ok (.iload_n 1, 1) := by decide +kernel
theorem dX1_setFee_1 : decode cX1_setFee 1 = .ok (.iconst 0, 1) := by decide +kernel
theorem dX1_setFee_2 : decode cX1_setFee 2 = .ok (.bipush 20, 2) := by decide +kernel
theorem dX1_setFee_4 : decode cX1_setFee 4 = .ok (.invokestatic 23, 3) := by decide +kernel
theorem dX1_setFee_7 : decode cX1_setFee 7 = .ok (.aload_n 0, 1) := by decide +kernel
theorem dX1_setFee_8 : decode cX1_setFee 8 = .ok (.getfield 12, 3) := by decide +kernel
theorem dX1_setFee_11 : decode cX1_setFee 11 = .ok (.getfield 41, 3) := by decide +kernel
theorem dX1_setFee_14 : decode cX1_setFee 14 = .ok (.istore_n 2, 1) := by decide +kernel
theorem dX1_setFee_15 : decode cX1_setFee 15 = .ok (.aload_n 0, 1) := by decide +kernel
theorem dX1_setFee_16 : decode cX1_setFee 16 = .ok (.getfield 12, 3) := by decide +kernel
theorem dX1_setFee_19 : decode cX1_setFee 19 = .ok (.iload_n 1, 1) := by decide +kernel
theorem dX1_setFee_20 : decode cX1_setFee 20 = .ok (.putfield 41, 3) := by decide +kernel
theorem dX1_setFee_23 : decode cX1_setFee 23 = .ok (.iload_n 2, 1) := by decide +kernel
theorem dX1_setFee_24 : decode cX1_setFee 24 = .ok (.ireturn, 1) := by decide +kernel
set_option maxRecDepth 20000 in
theorem ggX1_water_X1_requireIndex : GoodIn wsX1_water wsX1_requireIndex := goodIn_ca (goodIn_r _ [8, 9, 10] (by decide +kernel) (by decide +kernel)) (goodIn_sub (fun _ h => List.mem_cons_of_mem _ (List.mem_append_left _ (List.mem_append_right _ h))) (by decide +kernel))
set_option maxRecDepth 20000 in
theorem gX1_water_X1_requireIndex : GoodIn wsX1_water (va_wsS RX1 19 yX1_requireIndex wsX1_requireIndex) := goodIn_app (goodIn_of _ (by decide +kernel)) ggX1_water_X1_requireIndex
set_option maxRecDepth 20000 in
theorem ggX1_water_X1_requireArgument : GoodIn wsX1_water wsX1_requireArgument := goodIn_ca (goodIn_r _ [13, 14, 15] (by decide +kernel) (by decide +kernel)) (goodIn_sub (fun _ h => List.mem_cons_of_mem _ (List.mem_append_right _ h)) (by decide +kernel))
set_option maxRecDepth 20000 in
theorem gX1_water_X1_requireArgument : GoodIn wsX1_water (va_wsS RX1 23 yX1_requireArgument wsX1_requireArgument) := goodIn_app (goodIn_of _ (by decide +kernel)) ggX1_water_X1_requireArgument
set_option maxRecDepth 20000 in
theorem ggX1_water_X0_pour : GoodIn wsX1_water wsX0_pour := goodIn_r _ [20, 21, 22, 23, 24, 25, 26, 29, 30, 31, 32, 33, 34, 35, 36, 37, 38, 39, 40, 41, 42, 43, 44, 45, 46] (by decide +kernel) (by decide +kernel)
set_option maxRecDepth 20000 in
theorem gX1_water_X0_pour : GoodIn wsX1_water (wsV RX1 54 RX0 yX0_pour wsX0_pour) := goodIn_app (goodIn_of _ (by decide +kernel)) ggX1_water_X0_pour
theorem dX1_water_0 : decode cX1_water 0 = .ok (.iload_n 1, 1) := by decide +kernel
theorem dX1_water_1 : decode cX1_water 1 = .ok (.iconst 0, 1) := by decide +kernel
theorem dX1_water_2 : decode cX1_water 2 = .ok (.iconst 5, 1) := by decide +kernel
theorem dX1_water_3 : decode cX1_water 3 = .ok (.invokestatic 19, 3) := by decide +kernel
theorem dX1_water_6 : decode cX1_water 6 = .ok (.iload_n 2, 1) := by decide +kernel
theorem dX1_water_7 : decode cX1_water 7 = .ok (.iconst 1, 1) := by decide +kernel
theorem dX1_water_8 : decode cX1_water 8 = .ok (.bipush 60, 2) := by decide +kernel
theorem dX1_water_10 : decode cX1_water 10 = .ok (.invokestatic 23, 3) := by decide +kernel
theorem dX1_water_13 : decode cX1_water 13 = .ok (.iload_n 2, 1) := by decide +kernel
theorem dX1_water_14 : decode cX1_water 14 = .ok (.iconst 1, 1) := by decide +kernel
theorem dX1_water_15 : decode cX1_water 15 = .ok (.iadd, 1) := by decide +kernel
theorem dX1_water_16 : decode cX1_water 16 = .ok (.iconst 2, 1) := by decide +kernel
theorem dX1_water_17 : decode cX1_water 17 = .ok (.idiv, 1) := by decide +kernel
theorem dX1_water_18 : decode cX1_water 18 = .ok (.istore_n 3, 1) := by decide +kernel
theorem dX1_water_19 : decode cX1_water 19 = .ok (.aload_n 0, 1) := by decide +kernel
theorem dX1_water_20 : decode cX1_water 20 = .ok (.getfield 12, 3) := by decide +kernel
theorem dX1_water_23 : decode cX1_water 23 = .ok (.getfield 44, 3) := by decide +kernel
theorem dX1_water_26 : decode cX1_water 26 = .ok (.iload_n 3, 1) := by decide +kernel
theorem dX1_water_27 : decode cX1_water 27 = .ok (.if_icmp .ge 13, 3) := by decide +kernel
theorem dX1_water_30 : decode cX1_water 30 = .ok (.new 47, 3) := by decide +kernel
theorem dX1_water_33 : decode cX1_water 33 = .ok (.dup, 1) := by decide +kernel
theorem dX1_water_34 : decode cX1_water 34 = .ok (.ldc 49, 2) := by decide +kernel
theorem dX1_water_36 : decode cX1_water 36 = .ok (.invokespecial 51, 3) := by decide +kernel
theorem dX1_water_39 : decode cX1_water 39 = .ok (.athrow, 1) := by decide +kernel
theorem dX1_water_40 : decode cX1_water 40 = .ok (.aload_n 0, 1) := by decide +kernel
theorem dX1_water_41 : decode cX1_water 41 = .ok (.getfield 12, 3) := by decide +kernel
theorem dX1_water_44 : decode cX1_water 44 = .ok (.dup, 1) := by decide +kernel
theorem dX1_water_45 : decode cX1_water 45 = .ok (.getfield 44, 3) := by decide +kernel
theorem dX1_water_48 : decode cX1_water 48 = .ok (.iload_n 3, 1) := by decide +kernel
theorem dX1_water_49 : decode cX1_water 49 = .ok (.isub, 1) := by decide +kernel
theorem dX1_water_50 : decode cX1_water 50 = .ok (.putfield 44, 3) := by decide +kernel
theorem dX1_water_53 : decode cX1_water 53 = .ok (.aload_n 0, 1) := by decide +kernel
theorem dX1_water_54 : decode cX1_water 54 = .ok (.getfield 12, 3) := by decide +kernel
theorem dX1_water_57 : decode cX1_water 57 = .ok (.iload_n 1, 1) := by decide +kernel
theorem dX1_water_58 : decode cX1_water 58 = .ok (.iload_n 2, 1) := by decide +kernel
theorem dX1_water_59 : decode cX1_water 59 = .ok (.invokevirtual 54, 3) := by decide +kernel
theorem dX1_water_62 : decode cX1_water 62 = .ok (.aload_n 0, 1) := by decide +kernel
theorem dX1_water_63 : decode cX1_water 63 = .ok (.getfield 12, 3) := by decide +kernel
theorem dX1_water_66 : decode cX1_water 66 = .ok (.getfield 44, 3) := by decide +kernel
theorem dX1_water_69 : decode cX1_water 69 = .ok (.ireturn, 1) := by decide +kernel
set_option maxRecDepth 20000 in
theorem ggX1_work_X1_requireIndex : GoodIn wsX1_work wsX1_requireIndex := goodIn_ca (goodIn_r _ [8, 9, 10] (by decide +kernel) (by decide +kernel)) (goodIn_sub (fun _ h => List.mem_cons_of_mem _ (List.mem_append_right _ h)) (by decide +kernel))
set_option maxRecDepth 20000 in
theorem gX1_work_X1_requireIndex : GoodIn wsX1_work (va_wsS RX1 19 yX1_requireIndex wsX1_requireIndex) := goodIn_app (goodIn_of _ (by decide +kernel)) ggX1_work_X1_requireIndex
set_option maxRecDepth 20000 in
theorem ggX1_work_X0_canFill : GoodIn wsX1_work wsX0_canFill := goodIn_r _ [15, 16, 34, 35, 36, 37, 38, 39, 40, 41, 42, 43, 44, 45, 46, 47, 48, 49, 50, 51] (by decide +kernel) (by decide +kernel)
set_option maxRecDepth 20000 in
theorem gX1_work_X0_canFill : GoodIn wsX1_work (wsV RX1 62 RX0 yX0_canFill wsX0_canFill) := goodIn_app (goodIn_of _ (by decide +kernel)) ggX1_work_X0_canFill
set_option maxRecDepth 20000 in
theorem ggX1_work_X0_turnChamber : GoodIn wsX1_work wsX0_turnChamber := goodIn_r _ [20, 21, 16, 22, 23, 24, 25, 14, 26, 27, 28, 29, 30, 31, 34, 35, 36, 37, 38, 39, 40, 41, 42, 43, 44, 45, 46, 47, 48, 49, 50, 51] (by decide +kernel) (by decide +kernel)
set_option maxRecDepth 20000 in
theorem gX1_work_X0_turnChamber : GoodIn wsX1_work (wsV RX1 68 RX0 yX0_turnChamber wsX0_turnChamber) := goodIn_app (goodIn_of _ (by decide +kernel)) ggX1_work_X0_turnChamber
theorem dX1_work_0 : decode cX1_work 0 = .ok (.iload_n 1, 1) := by decide +kernel
theorem dX1_work_1 : decode cX1_work 1 = .ok (.iconst 0, 1) := by decide +kernel
theorem dX1_work_2 : decode cX1_work 2 = .ok (.iconst 4, 1) := by decide +kernel
theorem dX1_work_3 : decode cX1_work 3 = .ok (.invokestatic 19, 3) := by decide +kernel
theorem dX1_work_6 : decode cX1_work 6 = .ok (.aload_n 0, 1) := by decide +kernel
theorem dX1_work_7 : decode cX1_work 7 = .ok (.getfield 12, 3) := by decide +kernel
theorem dX1_work_10 : decode cX1_work 10 = .ok (.getfield 58, 3) := by decide +kernel
theorem dX1_work_13 : decode cX1_work 13 = .ok (.iload_n 1, 1) := by decide +kernel
theorem dX1_work_14 : decode cX1_work 14 = .ok (.baload, 1) := by decide +kernel
theorem dX1_work_15 : decode cX1_work 15 = .ok (.ifCond .ne 24, 3) := by decide +kernel
theorem dX1_work_18 : decode cX1_work 18 = .ok (.aload_n 0, 1) := by decide +kernel
theorem dX1_work_19 : decode cX1_work 19 = .ok (.getfield 12, 3) := by decide +kernel
theorem dX1_work_22 : decode cX1_work 22 = .ok (.iload_n 1, 1) := by decide +kernel
theorem dX1_work_23 : decode cX1_work 23 = .ok (.invokevirtual 62, 3) := by decide +kernel
theorem dX1_work_26 : decode cX1_work 26 = .ok (.ifCond .ne 13, 3) := by decide +kernel
theorem dX1_work_29 : decode cX1_work 29 = .ok (.new 47, 3) := by decide +kernel
theorem dX1_work_32 : decode cX1_work 32 = .ok (.dup, 1) := by decide +kernel
theorem dX1_work_33 : decode cX1_work 33 = .ok (.ldc 66, 2) := by decide +kernel
theorem dX1_work_35 : decode cX1_work 35 = .ok (.invokespecial 51, 3) := by decide +kernel
theorem dX1_work_38 : decode cX1_work 38 = .ok (.athrow, 1) := by decide +kernel
theorem dX1_work_39 : decode cX1_work 39 = .ok (.aload_n 0, 1) := by decide +kernel
theorem dX1_work_40 : decode cX1_work 40 = .ok (.getfield 12, 3) := by decide +kernel
theorem dX1_work_43 : decode cX1_work 43 = .ok (.iload_n 1, 1) := by decide +kernel
theorem dX1_work_44 : decode cX1_work 44 = .ok (.invokevirtual 68, 3) := by decide +kernel
theorem dX1_work_47 : decode cX1_work 47 = .ok (.aload_n 0, 1) := by decide +kernel
theorem dX1_work_48 : decode cX1_work 48 = .ok (.getfield 12, 3) := by decide +kernel
theorem dX1_work_51 : decode cX1_work 51 = .ok (.getfield 58, 3) := by decide +kernel
theorem dX1_work_54 : decode cX1_work 54 = .ok (.iload_n 1, 1) := by decide +kernel
theorem dX1_work_55 : decode cX1_work 55 = .ok (.baload, 1) := by decide +kernel
theorem dX1_work_56 : decode cX1_work 56 = .ok (.ireturn, 1) := by decide +kernel
set_option maxRecDepth 20000 in
theorem ggX1_barge_X1_requireIndex : GoodIn wsX1_barge wsX1_requireIndex := goodIn_ca (goodIn_r _ [11, 12, 13] (by decide +kernel) (by decide +kernel)) (goodIn_sub (fun _ h => List.mem_cons_of_mem _ (List.mem_append_left _ (List.mem_append_right _ h))) (by decide +kernel))
set_option maxRecDepth 20000 in
theorem gX1_barge_X1_requireIndex : GoodIn wsX1_barge (va_wsS RX1 19 yX1_requireIndex wsX1_requireIndex) := goodIn_app (goodIn_of _ (by decide +kernel)) ggX1_barge_X1_requireIndex
set_option maxRecDepth 20000 in
theorem ggX1_barge_X1_requireArgument : GoodIn wsX1_barge wsX1_requireArgument := goodIn_ca (goodIn_r _ [16, 17, 18] (by decide +kernel) (by decide +kernel)) (goodIn_sub (fun _ h => List.mem_cons_of_mem _ (List.mem_append_right _ h)) (by decide +kernel))
set_option maxRecDepth 20000 in
theorem gX1_barge_X1_requireArgument : GoodIn wsX1_barge (va_wsS RX1 23 yX1_requireArgument wsX1_requireArgument) := goodIn_app (goodIn_of _ (by decide +kernel)) ggX1_barge_X1_requireArgument
theorem dX1_barge_0 : decode cX1_barge 0 = .ok (.iload_n 1, 1) := by decide +kernel
theorem dX1_barge_1 : decode cX1_barge 1 = .ok (.iconst 0, 1) := by decide +kernel
theorem dX1_barge_2 : decode cX1_barge 2 = .ok (.iconst 5, 1) := by decide +kernel
theorem dX1_barge_3 : decode cX1_barge 3 = .ok (.invokestatic 19, 3) := by decide +kernel
theorem dX1_barge_6 : decode cX1_barge 6 = .ok (.iload_n 2, 1) := by decide +kernel
theorem dX1_barge_7 : decode cX1_barge 7 = .ok (.iconst 0, 1) := by decide +kernel
theorem dX1_barge_8 : decode cX1_barge 8 = .ok (.iconst 5, 1) := by decide +kernel
theorem dX1_barge_9 : decode cX1_barge 9 = .ok (.invokestatic 19, 3) := by decide +kernel
theorem dX1_barge_12 : decode cX1_barge 12 = .ok (.iload_n 3, 1) := by decide +kernel
theorem dX1_barge_13 : decode cX1_barge 13 = .ok (.iconst 0, 1) := by decide +kernel
theorem dX1_barge_14 : decode cX1_barge 14 = .ok (.bipush 99, 2) := by decide +kernel
theorem dX1_barge_16 : decode cX1_barge 16 = .ok (.invokestatic 23, 3) := by decide +kernel
theorem dX1_barge_19 : decode cX1_barge 19 = .ok (.aload_n 0, 1) := by decide +kernel
theorem dX1_barge_20 : decode cX1_barge 20 = .ok (.getfield 12, 3) := by decide +kernel
theorem dX1_barge_23 : decode cX1_barge 23 = .ok (.getfield 72, 3) := by decide +kernel
theorem dX1_barge_26 : decode cX1_barge 26 = .ok (.istore 4, 2) := by decide +kernel
theorem dX1_barge_28 : decode cX1_barge 28 = .ok (.iload 4, 2) := by decide +kernel
theorem dX1_barge_30 : decode cX1_barge 30 = .ok (.bipush 10, 2) := by decide +kernel
theorem dX1_barge_32 : decode cX1_barge 32 = .ok (.if_icmp .lt 13, 3) := by decide +kernel
theorem dX1_barge_35 : decode cX1_barge 35 = .ok (.new 47, 3) := by decide +kernel
theorem dX1_barge_38 : decode cX1_barge 38 = .ok (.dup, 1) := by decide +kernel
theorem dX1_barge_39 : decode cX1_barge 39 = .ok (.ldc 75, 2) := by decide +kernel
theorem dX1_barge_41 : decode cX1_barge 41 = .ok (.invokespecial 51, 3) := by decide +kernel
theorem dX1_barge_44 : decode cX1_barge 44 = .ok (.athrow, 1) := by decide +kernel
theorem dX1_barge_45 : decode cX1_barge 45 = .ok (.aload_n 0, 1) := by decide +kernel
theorem dX1_barge_46 : decode cX1_barge 46 = .ok (.getfield 12, 3) := by decide +kernel
theorem dX1_barge_49 : decode cX1_barge 49 = .ok (.getfield 77, 3) := by decide +kernel
theorem dX1_barge_52 : decode cX1_barge 52 = .ok (.iload 4, 2) := by decide +kernel
theorem dX1_barge_54 : decode cX1_barge 54 = .ok (.iload_n 1, 1) := by decide +kernel
theorem dX1_barge_55 : decode cX1_barge 55 = .ok (.iastore, 1) := by decide +kernel
theorem dX1_barge_56 : decode cX1_barge 56 = .ok (.aload_n 0, 1) := by decide +kernel
theorem dX1_barge_57 : decode cX1_barge 57 = .ok (.getfield 12, 3) := by decide +kernel
theorem dX1_barge_60 : decode cX1_barge 60 = .ok (.getfield 80, 3) := by decide +kernel
theorem dX1_barge_63 : decode cX1_barge 63 = .ok (.iload 4, 2) := by decide +kernel
theorem dX1_barge_65 : decode cX1_barge 65 = .ok (.iload_n 2, 1) := by decide +kernel
theorem dX1_barge_66 : decode cX1_barge 66 = .ok (.iastore, 1) := by decide +kernel
theorem dX1_barge_67 : decode cX1_barge 67 = .ok (.aload_n 0, 1) := by decide +kernel
theorem dX1_barge_68 : decode cX1_barge 68 = .ok (.getfield 12, 3) := by decide +kernel
theorem dX1_barge_71 : decode cX1_barge 71 = .ok (.getfield 83, 3) := by decide +kernel
theorem dX1_barge_74 : decode cX1_barge 74 = .ok (.iload 4, 2) := by decide +kernel
theorem dX1_barge_76 : decode cX1_barge 76 = .ok (.iload_n 3, 1) := by decide +kernel
theorem dX1_barge_77 : decode cX1_barge 77 = .ok (.iastore, 1) := by decide +kernel
theorem dX1_barge_78 : decode cX1_barge 78 = .ok (.aload_n 0, 1) := by decide +kernel
theorem dX1_barge_79 : decode cX1_barge 79 = .ok (.getfield 12, 3) := by decide +kernel
theorem dX1_barge_82 : decode cX1_barge 82 = .ok (.iload 4, 2) := by decide +kernel
theorem dX1_barge_84 : decode cX1_barge 84 = .ok (.iconst 1, 1) := by decide +kernel
theorem dX1_barge_85 : decode cX1_barge 85 = .ok (.iadd, 1) := by decide +kernel
theorem dX1_barge_86 : decode cX1_barge 86 = .ok (.putfield 72, 3) := by decide +kernel
theorem dX1_barge_89 : decode cX1_barge 89 = .ok (.iload 4, 2) := by decide +kernel
theorem dX1_barge_91 : decode cX1_barge 91 = .ok (.ireturn, 1) := by decide +kernel
set_option maxRecDepth 20000 in
theorem ggX1_send_X1_requireIndex : GoodIn wsX1_send wsX1_requireIndex := goodIn_ca (goodIn_r _ [7, 8, 9] (by decide +kernel) (by decide +kernel)) (goodIn_sub (fun _ h => List.mem_cons_of_mem _ (List.mem_append_right _ h)) (by decide +kernel))
set_option maxRecDepth 20000 in
theorem gX1_send_X1_requireIndex : GoodIn wsX1_send (va_wsS RX1 19 yX1_requireIndex wsX1_requireIndex) := goodIn_app (goodIn_of _ (by decide +kernel)) ggX1_send_X1_requireIndex
theorem dX1_send_0 : decode cX1_send 0 = .ok (.iload_n 1, 1) := by decide +kernel
theorem dX1_send_1 : decode cX1_send 1 = .ok (.iconst 0, 1) := by decide +kernel
theorem dX1_send_2 : decode cX1_send 2 = .ok (.aload_n 0, 1) := by decide +kernel
theorem dX1_send_3 : decode cX1_send 3 = .ok (.getfield 12, 3) := by decide +kernel
theorem dX1_send_6 : decode cX1_send 6 = .ok (.getfield 72, 3) := by decide +kernel
theorem dX1_send_9 : decode cX1_send 9 = .ok (.iconst 1, 1) := by decide +kernel
theorem dX1_send_10 : decode cX1_send 10 = .ok (.isub, 1) := by decide +kernel
theorem dX1_send_11 : decode cX1_send 11 = .ok (.invokestatic 19, 3) := by decide +kernel
theorem dX1_send_14 : decode cX1_send 14 = .ok (.iload_n 2, 1) := by decide +kernel
theorem dX1_send_15 : decode cX1_send 15 = .ok (.iconst 0, 1) := by decide +kernel
theorem dX1_send_16 : decode cX1_send 16 = .ok (.iconst 5, 1) := by decide +kernel
theorem dX1_send_17 : decode cX1_send 17 = .ok (.invokestatic 19, 3) := by decide +kernel
theorem dX1_send_20 : decode cX1_send 20 = .ok (.aload_n 0, 1) := by decide +kernel
theorem dX1_send_21 : decode cX1_send 21 = .ok (.getfield 12, 3) := by decide +kernel
theorem dX1_send_24 : decode cX1_send 24 = .ok (.getfield 80, 3) := by decide +kernel
theorem dX1_send_27 : decode cX1_send 27 = .ok (.iload_n 1, 1) := by decide +kernel
theorem dX1_send_28 : decode cX1_send 28 = .ok (.iaload, 1) := by decide +kernel
theorem dX1_send_29 : decode cX1_send 29 = .ok (.istore_n 3, 1) := by decide +kernel
theorem dX1_send_30 : decode cX1_send 30 = .ok (.aload_n 0, 1) := by decide +kernel
theorem dX1_send_31 : decode cX1_send 31 = .ok (.getfield 12, 3) := by decide +kernel
theorem dX1_send_34 : decode cX1_send 34 = .ok (.getfield 80, 3) := by decide +kernel
theorem dX1_send_37 : decode cX1_send 37 = .ok (.iload_n 1, 1) := by decide +kernel
theorem dX1_send_38 : decode cX1_send 38 = .ok (.iload_n 2, 1) := by decide +kernel
theorem dX1_send_39 : decode cX1_send 39 = .ok (.iastore, 1) := by decide +kernel
theorem dX1_send_40 : decode cX1_send 40 = .ok (.iload_n 3, 1) := by decide +kernel
theorem dX1_send_41 : decode cX1_send 41 = .ok (.ireturn, 1) := by decide +kernel
set_option maxRecDepth 20000 in
theorem ggX1_told_X1_requireIndex : GoodIn wsX1_told wsX1_requireIndex := goodIn_ca (goodIn_r _ [6, 7, 8] (by decide +kernel) (by decide +kernel)) (goodIn_sub (fun _ h => List.mem_cons_of_mem _ (List.mem_append_right _ h)) (by decide +kernel))
set_option maxRecDepth 20000 in
theorem gX1_told_X1_requireIndex : GoodIn wsX1_told (va_wsS RX1 19 yX1_requireIndex wsX1_requireIndex) := goodIn_app (goodIn_of _ (by decide +kernel)) ggX1_told_X1_requireIndex
set_option maxRecDepth 20000 in
theorem ggX1_told_X0_tellBarge : GoodIn wsX1_told wsX0_tellBarge := goodIn_r _ [13, 14, 15, 16, 17, 18, 19, 20, 12, 21, 22, 23, 24, 25, 26, 27, 28, 29, 32, 33, 34, 35, 36, 37, 38, 39, 40, 41, 42, 43, 44, 45, 46, 47, 48, 49] (by decide +kernel) (by decide +kernel)
set_option maxRecDepth 20000 in
theorem gX1_told_X0_tellBarge : GoodIn wsX1_told (wsV RX1 86 RX0 yX0_tellBarge wsX0_tellBarge) := goodIn_app (goodIn_of _ (by decide +kernel)) ggX1_told_X0_tellBarge
theorem dX1_told_0 : decode cX1_told 0 = .ok (.iload_n 1, 1) := by decide +kernel
theorem dX1_told_1 : decode cX1_told 1 = .ok (.iconst 0, 1) := by decide +kernel
theorem dX1_told_2 : decode cX1_told 2 = .ok (.aload_n 0, 1) := by decide +kernel
theorem dX1_told_3 : decode cX1_told 3 = .ok (.getfield 12, 3) := by decide +kernel
theorem dX1_told_6 : decode cX1_told 6 = .ok (.getfield 72, 3) := by decide +kernel
theorem dX1_told_9 : decode cX1_told 9 = .ok (.iconst 1, 1) := by decide +kernel
theorem dX1_told_10 : decode cX1_told 10 = .ok (.isub, 1) := by decide +kernel
theorem dX1_told_11 : decode cX1_told 11 = .ok (.invokestatic 19, 3) := by decide +kernel
theorem dX1_told_14 : decode cX1_told 14 = .ok (.iload_n 2, 1) := by decide +kernel
theorem dX1_told_15 : decode cX1_told 15 = .ok (.iconst 0, 1) := by decide +kernel
theorem dX1_told_16 : decode cX1_told 16 = .ok (.iconst 4, 1) := by decide +kernel
theorem dX1_told_17 : decode cX1_told 17 = .ok (.invokestatic 19, 3) := by decide +kernel
theorem dX1_told_20 : decode cX1_told 20 = .ok (.aload_n 0, 1) := by decide +kernel
theorem dX1_told_21 : decode cX1_told 21 = .ok (.getfield 12, 3) := by decide +kernel
theorem dX1_told_24 : decode cX1_told 24 = .ok (.iload_n 1, 1) := by decide +kernel
theorem dX1_told_25 : decode cX1_told 25 = .ok (.iload_n 2, 1) := by decide +kernel
theorem dX1_told_26 : decode cX1_told 26 = .ok (.invokevirtual 86, 3) := by decide +kernel
theorem dX1_told_29 : decode cX1_told 29 = .ok (.ireturn, 1) := by decide +kernel
set_option maxRecDepth 20000 in
theorem ggX1_pound_X1_requireIndex : GoodIn wsX1_pound wsX1_requireIndex := goodIn_ca (goodIn_r _ [5, 6, 7] (by decide +kernel) (by decide +kernel)) (goodIn_sub (fun _ h => List.mem_cons_of_mem _ (List.mem_append_right _ h)) (by decide +kernel))
set_option maxRecDepth 20000 in
theorem gX1_pound_X1_requireIndex : GoodIn wsX1_pound (va_wsS RX1 19 yX1_requireIndex wsX1_requireIndex) := goodIn_app (goodIn_of _ (by decide +kernel)) ggX1_pound_X1_requireIndex
set_option maxRecDepth 20000 in
theorem ggX1_pound_X0_tellPound : GoodIn wsX1_pound wsX0_tellPound := goodIn_r _ [12, 13, 14, 15, 16, 17, 18, 11, 19, 20, 21, 24, 25, 26, 27, 28, 29, 30, 31, 32, 33, 34, 35, 36, 37, 38, 39, 40, 41] (by decide +kernel) (by decide +kernel)
set_option maxRecDepth 20000 in
theorem gX1_pound_X0_tellPound : GoodIn wsX1_pound (wsV RX1 90 RX0 yX0_tellPound wsX0_tellPound) := goodIn_app (goodIn_of _ (by decide +kernel)) ggX1_pound_X0_tellPound
theorem dX1_pound_0 : decode cX1_pound 0 = .ok (.iload_n 1, 1) := by decide +kernel
theorem dX1_pound_1 : decode cX1_pound 1 = .ok (.iconst 0, 1) := by decide +kernel
theorem dX1_pound_2 : decode cX1_pound 2 = .ok (.iconst 5, 1) := by decide +kernel
theorem dX1_pound_3 : decode cX1_pound 3 = .ok (.invokestatic 19, 3) := by decide +kernel
theorem dX1_pound_6 : decode cX1_pound 6 = .ok (.iload_n 2, 1) := by decide +kernel
theorem dX1_pound_7 : decode cX1_pound 7 = .ok (.iconst 0, 1) := by decide +kernel
theorem dX1_pound_8 : decode cX1_pound 8 = .ok (.iconst 3, 1) := by decide +kernel
theorem dX1_pound_9 : decode cX1_pound 9 = .ok (.invokestatic 19, 3) := by decide +kernel
theorem dX1_pound_12 : decode cX1_pound 12 = .ok (.aload_n 0, 1) := by decide +kernel
theorem dX1_pound_13 : decode cX1_pound 13 = .ok (.getfield 12, 3) := by decide +kernel
theorem dX1_pound_16 : decode cX1_pound 16 = .ok (.iload_n 1, 1) := by decide +kernel
theorem dX1_pound_17 : decode cX1_pound 17 = .ok (.iload_n 2, 1) := by decide +kernel
theorem dX1_pound_18 : decode cX1_pound 18 = .ok (.invokevirtual 90, 3) := by decide +kernel
theorem dX1_pound_21 : decode cX1_pound 21 = .ok (.ireturn, 1) := by decide +kernel
set_option maxRecDepth 20000 in
theorem ggX1_lock_X1_requireIndex : GoodIn wsX1_lock wsX1_requireIndex := goodIn_ca (goodIn_r _ [5, 6, 7] (by decide +kernel) (by decide +kernel)) (goodIn_sub (fun _ h => List.mem_cons_of_mem _ (List.mem_append_right _ h)) (by decide +kernel))
set_option maxRecDepth 20000 in
theorem gX1_lock_X1_requireIndex : GoodIn wsX1_lock (va_wsS RX1 19 yX1_requireIndex wsX1_requireIndex) := goodIn_app (goodIn_of _ (by decide +kernel)) ggX1_lock_X1_requireIndex
set_option maxRecDepth 20000 in
theorem ggX1_lock_X0_tellLock : GoodIn wsX1_lock wsX0_tellLock := goodIn_r _ [12, 13, 14, 15, 16, 17, 18, 11, 19, 20, 21, 22, 23, 24, 25, 26, 27, 28, 29, 30, 31, 32, 33, 34, 35, 36, 37, 38, 39, 40, 41, 42, 43, 44, 45, 46, 47, 48, 49, 50, 51, 52, 53, 54, 57, 58, 59, 60, 61, 62, 63, 64, 65, 66, 67, 68, 69, 70, 71, 72, 73, 74] (by decide +kernel) (by decide +kernel)
set_option maxRecDepth 20000 in
theorem gX1_lock_X0_tellLock : GoodIn wsX1_lock (wsV RX1 93 RX0 yX0_tellLock wsX0_tellLock) := goodIn_app (goodIn_of _ (by decide +kernel)) ggX1_lock_X0_tellLock
theorem dX1_lock_0 : decode cX1_lock 0 = .ok (.iload_n 1, 1) := by decide +kernel
theorem dX1_lock_1 : decode cX1_lock 1 = .ok (.iconst 0, 1) := by decide +kernel
theorem dX1_lock_2 : decode cX1_lock 2 = .ok (.iconst 4, 1) := by decide +kernel
theorem dX1_lock_3 : decode cX1_lock 3 = .ok (.invokestatic 19, 3) := by decide +kernel
theorem dX1_lock_6 : decode cX1_lock 6 = .ok (.iload_n 2, 1) := by decide +kernel
theorem dX1_lock_7 : decode cX1_lock 7 = .ok (.iconst 0, 1) := by decide +kernel
theorem dX1_lock_8 : decode cX1_lock 8 = .ok (.iconst 4, 1) := by decide +kernel
theorem dX1_lock_9 : decode cX1_lock 9 = .ok (.invokestatic 19, 3) := by decide +kernel
theorem dX1_lock_12 : decode cX1_lock 12 = .ok (.aload_n 0, 1) := by decide +kernel
theorem dX1_lock_13 : decode cX1_lock 13 = .ok (.getfield 12, 3) := by decide +kernel
theorem dX1_lock_16 : decode cX1_lock 16 = .ok (.iload_n 1, 1) := by decide +kernel
theorem dX1_lock_17 : decode cX1_lock 17 = .ok (.iload_n 2, 1) := by decide +kernel
theorem dX1_lock_18 : decode cX1_lock 18 = .ok (.invokevirtual 93, 3) := by decide +kernel
theorem dX1_lock_21 : decode cX1_lock 21 = .ok (.ireturn, 1) := by decide +kernel
set_option maxRecDepth 20000 in
theorem ggX1_count_X1_requireIndex : GoodIn wsX1_count wsX1_requireIndex := goodIn_ca (goodIn_r _ [5, 6, 7] (by decide +kernel) (by decide +kernel)) (goodIn_sub (fun _ h => List.mem_cons_of_mem _ (List.mem_append_right _ h)) (by decide +kernel))
set_option maxRecDepth 20000 in
theorem gX1_count_X1_requireIndex : GoodIn wsX1_count (va_wsS RX1 19 yX1_requireIndex wsX1_requireIndex) := goodIn_app (goodIn_of _ (by decide +kernel)) ggX1_count_X1_requireIndex
set_option maxRecDepth 20000 in
theorem ggX1_count_X0_tellWhole : GoodIn wsX1_count wsX0_tellWhole := goodIn_r _ [12, 13, 14, 15, 16, 17, 18, 19, 20, 21, 22, 23, 11, 24, 25, 26, 27, 28, 29, 30, 31, 32, 33, 34, 35, 36, 37, 38, 39, 40, 43, 44, 45, 46, 47, 48, 49, 50, 51, 52, 53, 54, 55, 56, 57, 58, 59, 60] (by decide +kernel) (by decide +kernel)
set_option maxRecDepth 20000 in
theorem gX1_count_X0_tellWhole : GoodIn wsX1_count (wsV RX1 96 RX0 yX0_tellWhole wsX0_tellWhole) := goodIn_app (goodIn_of _ (by decide +kernel)) ggX1_count_X0_tellWhole
theorem dX1_count_0 : decode cX1_count 0 = .ok (.iload_n 1, 1) := by decide +kernel
theorem dX1_count_1 : decode cX1_count 1 = .ok (.iconst 0, 1) := by decide +kernel
theorem dX1_count_2 : decode cX1_count 2 = .ok (.bipush 9, 2) := by decide +kernel
theorem dX1_count_4 : decode cX1_count 4 = .ok (.invokestatic 19, 3) := by decide +kernel
theorem dX1_count_7 : decode cX1_count 7 = .ok (.aload_n 0, 1) := by decide +kernel
theorem dX1_count_8 : decode cX1_count 8 = .ok (.getfield 12, 3) := by decide +kernel
theorem dX1_count_11 : decode cX1_count 11 = .ok (.iload_n 1, 1) := by decide +kernel
theorem dX1_count_12 : decode cX1_count 12 = .ok (.invokevirtual 96, 3) := by decide +kernel
theorem dX1_count_15 : decode cX1_count 15 = .ok (.ireturn, 1) := by decide +kernel
set_option maxRecDepth 20000 in
theorem ggX1_pass_X1_requireArgument : GoodIn wsX1_pass wsX1_requireArgument := goodIn_ca (goodIn_r _ [5, 6, 7] (by decide +kernel) (by decide +kernel)) (goodIn_sub (fun _ h => List.mem_cons_of_mem _ (List.mem_append_right _ h)) (by decide +kernel))
set_option maxRecDepth 20000 in
theorem gX1_pass_X1_requireArgument : GoodIn wsX1_pass (va_wsS RX1 23 yX1_requireArgument wsX1_requireArgument) := goodIn_app (goodIn_of _ (by decide +kernel)) ggX1_pass_X1_requireArgument
set_option maxRecDepth 20000 in
theorem ggX1_pass_X0_goHours : GoodIn wsX1_pass wsX0_goHours := goodIn_r _ [12, 13, 14, 15, 11, 16, 17, 18, 19, 20, 21, 22, 23, 24, 25, 26, 27, 28, 29, 30, 31, 32, 33, 34, 35, 36, 37, 38, 39, 40, 41, 42, 43, 44, 45, 46, 47, 48, 49, 50, 51, 52, 53, 54, 55, 56, 57, 58, 59, 60, 61, 62, 63, 64, 65, 66, 67, 68, 69, 70, 71, 72, 73, 74, 75, 76, 77, 78, 79, 80, 81, 82, 83, 84, 85, 86, 89, 90, 91, 92, 93, 94, 95, 96, 97, 98, 99, 100, 101, 102, 103, 104, 105, 106] (by decide +kernel) (by decide +kernel)
set_option maxRecDepth 20000 in
theorem gX1_pass_X0_goHours : GoodIn wsX1_pass (wsV RX1 100 RX0 yX0_goHours wsX0_goHours) := goodIn_app (goodIn_of _ (by decide +kernel)) ggX1_pass_X0_goHours
theorem dX1_pass_0 : decode cX1_pass 0 = .ok (.iload_n 1, 1) := by decide +kernel
theorem dX1_pass_1 : decode cX1_pass 1 = .ok (.iconst 1, 1) := by decide +kernel
theorem dX1_pass_2 : decode cX1_pass 2 = .ok (.bipush 60, 2) := by decide +kernel
theorem dX1_pass_4 : decode cX1_pass 4 = .ok (.invokestatic 23, 3) := by decide +kernel
theorem dX1_pass_7 : decode cX1_pass 7 = .ok (.aload_n 0, 1) := by decide +kernel
theorem dX1_pass_8 : decode cX1_pass 8 = .ok (.getfield 12, 3) := by decide +kernel
theorem dX1_pass_11 : decode cX1_pass 11 = .ok (.iload_n 1, 1) := by decide +kernel
theorem dX1_pass_12 : decode cX1_pass 12 = .ok (.invokevirtual 100, 3) := by decide +kernel
theorem dX1_pass_15 : decode cX1_pass 15 = .ok (.ireturn, 1) := by decide +kernel
set_option maxRecDepth 20000 in
theorem ggX1_arrives_X1_requireIndex : GoodIn wsX1_arrives wsX1_requireIndex := goodIn_ca (goodIn_r _ [7, 8, 9] (by decide +kernel) (by decide +kernel)) (goodIn_sub (fun _ h => List.mem_cons_of_mem _ (List.mem_append_right _ h)) (by decide +kernel))
set_option maxRecDepth 20000 in
theorem gX1_arrives_X1_requireIndex : GoodIn wsX1_arrives (va_wsS RX1 19 yX1_requireIndex wsX1_requireIndex) := goodIn_app (goodIn_of _ (by decide +kernel)) ggX1_arrives_X1_requireIndex
set_option maxRecDepth 20000 in
theorem ggX1_arrives_X0_copyFrom : GoodIn wsX1_arrives wsX0_copyFrom := goodIn_r _ [14, 15, 16, 17, 18, 19, 20, 21, 22, 23, 24, 25, 26, 27, 28, 29, 30, 31, 32, 33, 34, 35, 36, 96, 97, 98, 99, 100, 101, 102, 103, 104, 105, 106, 107, 108, 109, 110, 111, 112, 113] (by decide +kernel) (by decide +kernel)
set_option maxRecDepth 20000 in
theorem gX1_arrives_X0_copyFrom : GoodIn wsX1_arrives (wsV RX1 103 RX0 yX0_copyFrom wsX0_copyFrom) := goodIn_app (goodIn_of _ (by decide +kernel)) ggX1_arrives_X0_copyFrom
set_option maxRecDepth 20000 in
theorem ggX1_arrives_X0_hasCome : GoodIn wsX1_arrives wsX0_hasCome := goodIn_r _ [40, 33, 34, 96, 97, 98, 99, 100, 101, 102, 103, 104, 105, 106, 107, 108, 109, 110, 111, 112, 113] (by decide +kernel) (by decide +kernel)
set_option maxRecDepth 20000 in
theorem gX1_arrives_X0_hasCome : GoodIn wsX1_arrives (wsV RX1 107 RX0 yX0_hasCome wsX0_hasCome) := goodIn_app (goodIn_of _ (by decide +kernel)) ggX1_arrives_X0_hasCome
set_option maxRecDepth 20000 in
theorem ggX1_arrives_X0_goHour : GoodIn wsX1_arrives wsX0_goHour := goodIn_r _ [44, 21, 15, 45, 46, 47, 48, 49, 50, 51, 13, 52, 26, 53, 54, 55, 56, 27, 57, 58, 59, 60, 19, 20, 28, 16, 61, 62, 63, 64, 32, 65, 66, 67, 68, 33, 69, 38, 39, 40, 34, 70, 71, 72, 73, 74, 75, 76, 77, 35, 17, 18, 29, 78, 79, 80, 81, 82, 83, 84, 85, 86, 87, 88, 89, 36, 30, 90, 91, 92, 93, 31, 96, 97, 98, 99, 100, 101, 102, 103, 104, 105, 106, 107, 108, 109, 110, 111, 112, 113] (by decide +kernel) (by decide +kernel)
set_option maxRecDepth 20000 in
theorem gX1_arrives_X0_goHour : GoodIn wsX1_arrives (wsV RX1 110 RX0 yX0_goHour wsX0_goHour) := goodIn_app (goodIn_of _ (by decide +kernel)) ggX1_arrives_X0_goHour
theorem dX1_arrives_0 : decode cX1_arrives 0 = .ok (.iload_n 1, 1) := by decide +kernel
theorem dX1_arrives_1 : decode cX1_arrives 1 = .ok (.iconst 0, 1) := by decide +kernel
theorem dX1_arrives_2 : decode cX1_arrives 2 = .ok (.aload_n 0, 1) := by decide +kernel
theorem dX1_arrives_3 : decode cX1_arrives 3 = .ok (.getfield 12, 3) := by decide +kernel
theorem dX1_arrives_6 : decode cX1_arrives 6 = .ok (.getfield 72, 3) := by decide +kernel
theorem dX1_arrives_9 : decode cX1_arrives 9 = .ok (.iconst 1, 1) := by decide +kernel
theorem dX1_arrives_10 : decode cX1_arrives 10 = .ok (.isub, 1) := by decide +kernel
theorem dX1_arrives_11 : decode cX1_arrives 11 = .ok (.invokestatic 19, 3) := by decide +kernel
theorem dX1_arrives_14 : decode cX1_arrives 14 = .ok (.aload_n 0, 1) := by decide +kernel
theorem dX1_arrives_15 : decode cX1_arrives 15 = .ok (.getfield 16, 3) := by decide +kernel
theorem dX1_arrives_18 : decode cX1_arrives 18 = .ok (.aload_n 0, 1) := by decide +kernel
theorem dX1_arrives_19 : decode cX1_arrives 19 = .ok (.getfield 12, 3) := by decide +kernel
theorem dX1_arrives_22 : decode cX1_arrives 22 = .ok (.invokevirtual 103, 3) := by decide +kernel
theorem dX1_arrives_25 : decode cX1_arrives 25 = .ok (.iconst 0, 1) := by decide +kernel
theorem dX1_arrives_26 : decode cX1_arrives 26 = .ok (.istore_n 2, 1) := by decide +kernel
theorem dX1_arrives_27 : decode cX1_arrives 27 = .ok (.iload_n 2, 1) := by decide +kernel
theorem dX1_arrives_28 : decode cX1_arrives 28 = .ok (.bipush 120, 2) := by decide +kernel
theorem dX1_arrives_30 : decode cX1_arrives 30 = .ok (.if_icmp .ge 30, 3) := by decide +kernel
theorem dX1_arrives_33 : decode cX1_arrives 33 = .ok (.aload_n 0, 1) := by decide +kernel
theorem dX1_arrives_34 : decode cX1_arrives 34 = .ok (.getfield 16, 3) := by decide +kernel
theorem dX1_arrives_37 : decode cX1_arrives 37 = .ok (.iload_n 1, 1) := by decide +kernel
theorem dX1_arrives_38 : decode cX1_arrives 38 = .ok (.invokevirtual 107, 3) := by decide +kernel
theorem dX1_arrives_41 : decode cX1_arrives 41 = .ok (.ifCond .eq 5, 3) := by decide +kernel
theorem dX1_arrives_44 : decode cX1_arrives 44 = .ok (.iload_n 2, 1) := by decide +kernel
theorem dX1_arrives_45 : decode cX1_arrives 45 = .ok (.ireturn, 1) := by decide +kernel
theorem dX1_arrives_46 : decode cX1_arrives 46 = .ok (.aload_n 0, 1) := by decide +kernel
theorem dX1_arrives_47 : decode cX1_arrives 47 = .ok (.getfield 16, 3) := by decide +kernel
theorem dX1_arrives_50 : decode cX1_arrives 50 = .ok (.invokevirtual 110, 3) := by decide +kernel
theorem dX1_arrives_53 : decode cX1_arrives 53 = .ok (.pop, 1) := by decide +kernel
theorem dX1_arrives_54 : decode cX1_arrives 54 = .ok (.iinc 2 1, 3) := by decide +kernel
theorem dX1_arrives_57 : decode cX1_arrives 57 = .ok (.goto (-30), 3) := by decide +kernel
theorem dX1_arrives_60 : decode cX1_arrives 60 = .ok (.aload_n 0, 1) := by decide +kernel
theorem dX1_arrives_61 : decode cX1_arrives 61 = .ok (.getfield 16, 3) := by decide +kernel
theorem dX1_arrives_64 : decode cX1_arrives 64 = .ok (.iload_n 1, 1) := by decide +kernel
theorem dX1_arrives_65 : decode cX1_arrives 65 = .ok (.invokevirtual 107, 3) := by decide +kernel
theorem dX1_arrives_68 : decode cX1_arrives 68 = .ok (.ifCond .eq 8, 3) := by decide +kernel
theorem dX1_arrives_71 : decode cX1_arrives 71 = .ok (.bipush 120, 2) := by decide +kernel
theorem dX1_arrives_73 : decode cX1_arrives 73 = .ok (.goto 4, 3) := by decide +kernel
theorem dX1_arrives_76 : decode cX1_arrives 76 = .ok (.iconst (-1), 1) := by decide +kernel
theorem dX1_arrives_77 : decode cX1_arrives 77 = .ok (.ireturn, 1) := by decide +kernel
set_option maxRecDepth 20000 in
theorem ggX1_foresee_X1_requireArgument : GoodIn wsX1_foresee wsX1_requireArgument := goodIn_ca (goodIn_r _ [6, 7, 8] (by decide +kernel) (by decide +kernel)) (goodIn_sub (fun _ h => List.mem_cons_of_mem _ (List.mem_append_left _ (List.mem_append_right _ h))) (by decide +kernel))
set_option maxRecDepth 20000 in
theorem gX1_foresee_X1_requireArgument : GoodIn wsX1_foresee (va_wsS RX1 23 yX1_requireArgument wsX1_requireArgument) := goodIn_app (goodIn_of _ (by decide +kernel)) ggX1_foresee_X1_requireArgument
set_option maxRecDepth 20000 in
theorem ggX1_foresee_X1_requireIndex : GoodIn wsX1_foresee wsX1_requireIndex := goodIn_ca (goodIn_r _ [11, 12, 13] (by decide +kernel) (by decide +kernel)) (goodIn_sub (fun _ h => List.mem_cons_of_mem _ (List.mem_append_right _ h)) (by decide +kernel))
set_option maxRecDepth 20000 in
theorem gX1_foresee_X1_requireIndex : GoodIn wsX1_foresee (va_wsS RX1 19 yX1_requireIndex wsX1_requireIndex) := goodIn_app (goodIn_of _ (by decide +kernel)) ggX1_foresee_X1_requireIndex
set_option maxRecDepth 20000 in
theorem ggX1_foresee_X0_copyFrom : GoodIn wsX1_foresee wsX0_copyFrom := goodIn_r _ [18, 19, 20, 21, 22, 23, 24, 25, 26, 27, 28, 29, 30, 31, 32, 33, 34, 35, 36, 37, 38, 39, 40, 119, 120, 121, 122, 123, 124, 125, 126, 127, 128, 129, 130, 131, 132, 133, 134, 135, 136] (by decide +kernel) (by decide +kernel)
set_option maxRecDepth 20000 in
theorem gX1_foresee_X0_copyFrom : GoodIn wsX1_foresee (wsV RX1 103 RX0 yX0_copyFrom wsX0_copyFrom) := goodIn_app (goodIn_of _ (by decide +kernel)) ggX1_foresee_X0_copyFrom
set_option maxRecDepth 20000 in
theorem ggX1_foresee_X0_goHours : GoodIn wsX1_foresee wsX0_goHours := goodIn_r _ [44, 45, 46, 47, 17, 48, 25, 19, 49, 50, 51, 52, 53, 54, 55, 56, 30, 57, 58, 59, 60, 31, 61, 62, 63, 64, 23, 24, 32, 20, 65, 66, 67, 68, 36, 69, 70, 71, 72, 37, 73, 74, 75, 76, 38, 77, 78, 79, 80, 81, 82, 83, 84, 39, 21, 22, 33, 85, 86, 87, 88, 89, 90, 91, 92, 93, 94, 95, 96, 40, 34, 97, 98, 99, 100, 35, 119, 120, 121, 122, 123, 124, 125, 126, 127, 128, 129, 130, 131, 132, 133, 134, 135, 136] (by decide +kernel) (by decide +kernel)
set_option maxRecDepth 20000 in
theorem gX1_foresee_X0_goHours : GoodIn wsX1_foresee (wsV RX1 100 RX0 yX0_goHours wsX0_goHours) := goodIn_app (goodIn_of _ (by decide +kernel)) ggX1_foresee_X0_goHours
set_option maxRecDepth 20000 in
theorem ggX1_foresee_X0_tellWhole : GoodIn wsX1_foresee wsX0_tellWhole := goodIn_r _ [104, 19, 36, 20, 31, 32, 21, 24, 23, 105, 106, 107, 17, 108, 73, 74, 75, 76, 37, 38, 109, 110, 111, 112, 30, 113, 114, 115, 116, 33, 119, 120, 121, 122, 123, 124, 125, 126, 127, 128, 129, 130, 131, 132, 133, 134, 135, 136] (by decide +kernel) (by decide +kernel)
set_option maxRecDepth 20000 in
theorem gX1_foresee_X0_tellWhole : GoodIn wsX1_foresee (wsV RX1 96 RX0 yX0_tellWhole wsX0_tellWhole) := goodIn_app (goodIn_of _ (by decide +kernel)) ggX1_foresee_X0_tellWhole
theorem dX1_foresee_0 : decode cX1_foresee 0 = .ok (.iload_n 1, 1) := by decide +kernel
theorem dX1_foresee_1 : decode cX1_foresee 1 = .ok (.iconst 1, 1) := by decide +kernel
theorem dX1_foresee_2 : decode cX1_foresee 2 = .ok (.bipush 60, 2) := by decide +kernel
theorem dX1_foresee_4 : decode cX1_foresee 4 = .ok (.invokestatic 23, 3) := by decide +kernel
theorem dX1_foresee_7 : decode cX1_foresee 7 = .ok (.iload_n 2, 1) := by decide +kernel
theorem dX1_foresee_8 : decode cX1_foresee 8 = .ok (.iconst 2, 1) := by decide +kernel
theorem dX1_foresee_9 : decode cX1_foresee 9 = .ok (.bipush 6, 2) := by decide +kernel
theorem dX1_foresee_11 : decode cX1_foresee 11 = .ok (.invokestatic 19, 3) := by decide +kernel
theorem dX1_foresee_14 : decode cX1_foresee 14 = .ok (.aload_n 0, 1) := by decide +kernel
theorem dX1_foresee_15 : decode cX1_foresee 15 = .ok (.getfield 16, 3) := by decide +kernel
theorem dX1_foresee_18 : decode cX1_foresee 18 = .ok (.aload_n 0, 1) := by decide +kernel
theorem dX1_foresee_19 : decode cX1_foresee 19 = .ok (.getfield 12, 3) := by decide +kernel
theorem dX1_foresee_22 : decode cX1_foresee 22 = .ok (.invokevirtual 103, 3) := by decide +kernel
theorem dX1_foresee_25 : decode cX1_foresee 25 = .ok (.aload_n 0, 1) := by decide +kernel
theorem dX1_foresee_26 : decode cX1_foresee 26 = .ok (.getfield 16, 3) := by decide +kernel
theorem dX1_foresee_29 : decode cX1_foresee 29 = .ok (.iload_n 1, 1) := by decide +kernel
theorem dX1_foresee_30 : decode cX1_foresee 30 = .ok (.invokevirtual 100, 3) := by decide +kernel
theorem dX1_foresee_33 : decode cX1_foresee 33 = .ok (.pop, 1) := by decide +kernel
theorem dX1_foresee_34 : decode cX1_foresee 34 = .ok (.aload_n 0, 1) := by decide +kernel
theorem dX1_foresee_35 : decode cX1_foresee 35 = .ok (.getfield 16, 3) := by decide +kernel
theorem dX1_foresee_38 : decode cX1_foresee 38 = .ok (.iload_n 2, 1) := by decide +kernel
theorem dX1_foresee_39 : decode cX1_foresee 39 = .ok (.invokevirtual 96, 3) := by decide +kernel
theorem dX1_foresee_42 : decode cX1_foresee 42 = .ok (.ireturn, 1) := by decide +kernel
set_option maxRecDepth 20000 in
theorem ggX1_advise_X1_requireArgument : GoodIn wsX1_advise wsX1_requireArgument := goodIn_ca (goodIn_r _ [8, 9, 10] (by decide +kernel) (by decide +kernel)) (goodIn_sub (fun _ h => List.mem_cons_of_mem _ (List.mem_append_right _ h)) (by decide +kernel))
set_option maxRecDepth 20000 in
theorem gX1_advise_X1_requireArgument : GoodIn wsX1_advise (va_wsS RX1 23 yX1_requireArgument wsX1_requireArgument) := goodIn_app (goodIn_of _ (by decide +kernel)) ggX1_advise_X1_requireArgument
set_option maxRecDepth 20000 in
theorem ggX1_advise_X0_copyFrom : GoodIn wsX1_advise wsX0_copyFrom := goodIn_r _ [15, 16, 17, 18, 19, 20, 21, 22, 23, 24, 25, 26, 27, 28, 29, 30, 31, 32, 33, 34, 35, 36, 37, 100, 101, 102, 103, 104, 105, 106, 107, 108, 109, 110, 111, 112, 113, 114, 115, 116, 117] (by decide +kernel) (by decide +kernel)
set_option maxRecDepth 20000 in
theorem gX1_advise_X0_copyFrom : GoodIn wsX1_advise (wsV RX1 103 RX0 yX0_copyFrom wsX0_copyFrom) := goodIn_app (goodIn_of _ (by decide +kernel)) ggX1_advise_X0_copyFrom
set_option maxRecDepth 20000 in
theorem ggX1_advise_X0_goHours : GoodIn wsX1_advise wsX0_goHours := goodIn_r _ [41, 42, 43, 44, 14, 45, 22, 16, 46, 47, 48, 49, 50, 51, 52, 53, 27, 54, 55, 56, 57, 28, 58, 59, 60, 61, 20, 21, 29, 17, 62, 63, 64, 65, 33, 66, 67, 68, 69, 34, 70, 71, 72, 73, 35, 74, 75, 76, 77, 78, 79, 80, 81, 36, 18, 19, 30, 82, 83, 84, 85, 86, 87, 88, 89, 90, 91, 92, 93, 37, 31, 94, 95, 96, 97, 32, 100, 101, 102, 103, 104, 105, 106, 107, 108, 109, 110, 111, 112, 113, 114, 115, 116, 117] (by decide +kernel) (by decide +kernel)
set_option maxRecDepth 20000 in
theorem gX1_advise_X0_goHours : GoodIn wsX1_advise (wsV RX1 100 RX0 yX0_goHours wsX0_goHours) := goodIn_app (goodIn_of _ (by decide +kernel)) ggX1_advise_X0_goHours
theorem dX1_advise_0 : decode cX1_advise 0 = .ok (.iload_n 1, 1) := by decide +kernel
theorem dX1_advise_1 : decode cX1_advise 1 = .ok (.iconst 1, 1) := by decide +kernel
theorem dX1_advise_2 : decode cX1_advise 2 = .ok (.bipush 40, 2) := by decide +kernel
theorem dX1_advise_4 : decode cX1_advise 4 = .ok (.invokestatic 23, 3) := by decide +kernel
theorem dX1_advise_7 : decode cX1_advise 7 = .ok (.iconst 0, 1) := by decide +kernel
theorem dX1_advise_8 : decode cX1_advise 8 = .ok (.istore_n 2, 1) := by decide +kernel
theorem dX1_advise_9 : decode cX1_advise 9 = .ok (.iconst 0, 1) := by decide +kernel
theorem dX1_advise_10 : decode cX1_advise 10 = .ok (.istore_n 3, 1) := by decide +kernel
theorem dX1_advise_11 : decode cX1_advise 11 = .ok (.iconst 0, 1) := by decide +kernel
theorem dX1_advise_12 : decode cX1_advise 12 = .ok (.istore 4, 2) := by decide +kernel
theorem dX1_advise_14 : decode cX1_advise 14 = .ok (.iload 4, 2) := by decide +kernel
theorem dX1_advise_16 : decode cX1_advise 16 = .ok (.bipush 100, 2) := by decide +kernel
theorem dX1_advise_18 : decode cX1_advise 18 = .ok (.if_icmp .gt 60, 3) := by decide +kernel
theorem dX1_advise_21 : decode cX1_advise 21 = .ok (.aload_n 0, 1) := by decide +kernel
theorem dX1_advise_22 : decode cX1_advise 22 = .ok (.getfield 16, 3) := by decide +kernel
theorem dX1_advise_25 : decode cX1_advise 25 = .ok (.aload_n 0, 1) := by decide +kernel
theorem dX1_advise_26 : decode cX1_advise 26 = .ok (.getfield 12, 3) := by decide +kernel
theorem dX1_advise_29 : decode cX1_advise 29 = .ok (.invokevirtual 103, 3) := by decide +kernel
theorem dX1_advise_32 : decode cX1_advise 32 = .ok (.aload_n 0, 1) := by decide +kernel
theorem dX1_advise_33 : decode cX1_advise 33 = .ok (.getfield 16, 3) := by decide +kernel
theorem dX1_advise_36 : decode cX1_advise 36 = .ok (.iload 4, 2) := by decide +kernel
theorem dX1_advise_38 : decode cX1_advise 38 = .ok (.putfield 30, 3) := by decide +kernel
theorem dX1_advise_41 : decode cX1_advise 41 = .ok (.aload_n 0, 1) := by decide +kernel
theorem dX1_advise_42 : decode cX1_advise 42 = .ok (.getfield 16, 3) := by decide +kernel
theorem dX1_advise_45 : decode cX1_advise 45 = .ok (.iload_n 1, 1) := by decide +kernel
theorem dX1_advise_46 : decode cX1_advise 46 = .ok (.invokevirtual 100, 3) := by decide +kernel
theorem dX1_advise_49 : decode cX1_advise 49 = .ok (.pop, 1) := by decide +kernel
theorem dX1_advise_50 : decode cX1_advise 50 = .ok (.aload_n 0, 1) := by decide +kernel
theorem dX1_advise_51 : decode cX1_advise 51 = .ok (.getfield 16, 3) := by decide +kernel
theorem dX1_advise_54 : decode cX1_advise 54 = .ok (.getfield 44, 3) := by decide +kernel
theorem dX1_advise_57 : decode cX1_advise 57 = .ok (.iload_n 3, 1) := by decide +kernel
theorem dX1_advise_58 : decode cX1_advise 58 = .ok (.if_icmp .lt 14, 3) := by decide +kernel
theorem dX1_advise_61 : decode cX1_advise 61 = .ok (.aload_n 0, 1) := by decide +kernel
theorem dX1_advise_62 : decode cX1_advise 62 = .ok (.getfield 16, 3) := by decide +kernel
theorem dX1_advise_65 : decode cX1_advise 65 = .ok (.getfield 44, 3) := by decide +kernel
theorem dX1_advise_68 : decode cX1_advise 68 = .ok (.istore_n 3, 1) := by decide +kernel
theorem dX1_advise_69 : decode cX1_advise 69 = .ok (.iload 4, 2) := by decide +kernel
theorem dX1_advise_71 : decode cX1_advise 71 = .ok (.istore_n 2, 1) := by decide +kernel
theorem dX1_advise_72 : decode cX1_advise 72 = .ok (.iinc 4 10, 3) := by decide +kernel
theorem dX1_advise_75 : decode cX1_advise 75 = .ok (.goto (-61), 3) := by decide +kernel
theorem dX1_advise_78 : decode cX1_advise 78 = .ok (.iload_n 2, 1) := by decide +kernel
theorem dX1_advise_79 : decode cX1_advise 79 = .ok (.ireturn, 1) := by decide +kernel
set_option maxRecDepth 20000 in
theorem ggX1_stops_X0_copyFrom : GoodIn wsX1_stops wsX0_copyFrom := goodIn_r _ [7, 8, 9, 10, 11, 12, 13, 14, 15, 16, 17, 18, 19, 20, 21, 22, 23, 24, 25, 26, 27, 28, 29, 88, 89, 90, 91, 92, 93, 94, 95, 96, 97, 98, 99, 100, 101, 102, 103, 104, 105] (by decide +kernel) (by decide +kernel)
set_option maxRecDepth 20000 in
theorem gX1_stops_X0_copyFrom : GoodIn wsX1_stops (wsV RX1 103 RX0 yX0_copyFrom wsX0_copyFrom) := goodIn_app (goodIn_of _ (by decide +kernel)) ggX1_stops_X0_copyFrom
set_option maxRecDepth 20000 in
theorem ggX1_stops_X0_goHour : GoodIn wsX1_stops wsX0_goHour := goodIn_r _ [33, 14, 8, 34, 35, 36, 37, 38, 39, 40, 6, 41, 19, 42, 43, 44, 45, 20, 46, 47, 48, 49, 12, 13, 21, 9, 50, 51, 52, 53, 25, 54, 55, 56, 57, 26, 58, 59, 60, 61, 27, 62, 63, 64, 65, 66, 67, 68, 69, 28, 10, 11, 22, 70, 71, 72, 73, 74, 75, 76, 77, 78, 79, 80, 81, 29, 23, 82, 83, 84, 85, 24, 88, 89, 90, 91, 92, 93, 94, 95, 96, 97, 98, 99, 100, 101, 102, 103, 104, 105] (by decide +kernel) (by decide +kernel)
set_option maxRecDepth 20000 in
theorem gX1_stops_X0_goHour : GoodIn wsX1_stops (wsV RX1 110 RX0 yX0_goHour wsX0_goHour) := goodIn_app (goodIn_of _ (by decide +kernel)) ggX1_stops_X0_goHour
theorem dX1_stops_0 : decode cX1_stops 0 = .ok (.aload_n 0, 1) := by decide +kernel
theorem dX1_stops_1 : decode cX1_stops 1 = .ok (.getfield 16, 3) := by decide +kernel
theorem dX1_stops_4 : decode cX1_stops 4 = .ok (.aload_n 0, 1) := by decide +kernel
theorem dX1_stops_5 : decode cX1_stops 5 = .ok (.getfield 12, 3) := by decide +kernel
theorem dX1_stops_8 : decode cX1_stops 8 = .ok (.invokevirtual 103, 3) := by decide +kernel
theorem dX1_stops_11 : decode cX1_stops 11 = .ok (.iconst 0, 1) := by decide +kernel
theorem dX1_stops_12 : decode cX1_stops 12 = .ok (.istore_n 1, 1) := by decide +kernel
theorem dX1_stops_13 : decode cX1_stops 13 = .ok (.iload_n 1, 1) := by decide +kernel
theorem dX1_stops_14 : decode cX1_stops 14 = .ok (.bipush 60, 2) := by decide +kernel
theorem dX1_stops_16 : decode cX1_stops 16 = .ok (.if_icmp .ge 21, 3) := by decide +kernel
theorem dX1_stops_19 : decode cX1_stops 19 = .ok (.aload_n 0, 1) := by decide +kernel
theorem dX1_stops_20 : decode cX1_stops 20 = .ok (.getfield 16, 3) := by decide +kernel
theorem dX1_stops_23 : decode cX1_stops 23 = .ok (.invokevirtual 110, 3) := by decide +kernel
theorem dX1_stops_26 : decode cX1_stops 26 = .ok (.ifCond .ne 5, 3) := by decide +kernel
theorem dX1_stops_29 : decode cX1_stops 29 = .ok (.iload_n 1, 1) := by decide +kernel
theorem dX1_stops_30 : decode cX1_stops 30 = .ok (.ireturn, 1) := by decide +kernel
theorem dX1_stops_31 : decode cX1_stops 31 = .ok (.iinc 1 1, 3) := by decide +kernel
theorem dX1_stops_34 : decode cX1_stops 34 = .ok (.goto (-21), 3) := by decide +kernel
theorem dX1_stops_37 : decode cX1_stops 37 = .ok (.iconst (-1), 1) := by decide +kernel
theorem dX1_stops_38 : decode cX1_stops 38 = .ok (.ireturn, 1) := by decide +kernel
set_option maxRecDepth 20000 in
theorem ggX1_mean_X0_waterOfAll : GoodIn wsX1_mean wsX0_waterOfAll := goodIn_r _ [7, 8, 11, 12, 13, 14, 15, 16, 17, 18, 19, 20, 21, 22, 23, 24, 25, 26, 27, 28] (by decide +kernel) (by decide +kernel)
set_option maxRecDepth 20000 in
theorem gX1_mean_X0_waterOfAll : GoodIn wsX1_mean (wsV RX1 114 RX0 yX0_waterOfAll wsX0_waterOfAll) := goodIn_app (goodIn_of _ (by decide +kernel)) ggX1_mean_X0_waterOfAll
theorem dX1_mean_0 : decode cX1_mean 0 = .ok (.aload_n 0, 1) := by decide +kernel
theorem dX1_mean_1 : decode cX1_mean 1 = .ok (.getfield 12, 3) := by decide +kernel
theorem dX1_mean_4 : decode cX1_mean 4 = .ok (.invokevirtual 114, 3) := by decide +kernel
theorem dX1_mean_7 : decode cX1_mean 7 = .ok (.i2d, 1) := by decide +kernel
theorem dX1_mean_8 : decode cX1_mean 8 = .ok (.ldc2_w 117, 3) := by decide +kernel
theorem dX1_mean_11 : decode cX1_mean 11 = .ok (.ddiv, 1) := by decide +kernel
theorem dX1_mean_12 : decode cX1_mean 12 = .ok (.dreturn, 1) := by decide +kernel
set_option maxRecDepth 20000 in
theorem ggX1_digest_X0_tellWhole : GoodIn wsX1_digest wsX0_tellWhole := goodIn_r _ [10, 11, 12, 13, 14, 15, 16, 17, 18, 19, 20, 21, 9, 22, 23, 24, 25, 26, 27, 28, 29, 30, 31, 32, 33, 34, 35, 36, 37, 38, 95, 96, 97, 98, 99, 100, 101, 102, 103, 104, 105, 106, 107, 108, 109, 110, 111, 112] (by decide +kernel) (by decide +kernel)
set_option maxRecDepth 20000 in
theorem gX1_digest_X0_tellWhole : GoodIn wsX1_digest (wsV RX1 96 RX0 yX0_tellWhole wsX0_tellWhole) := goodIn_app (goodIn_of _ (by decide +kernel)) ggX1_digest_X0_tellWhole
set_option maxRecDepth 20000 in
theorem ggX1_digest_X1_mix : GoodIn wsX1_digest wsX1_mix := goodIn_r _ [42, 43] (by decide +kernel) (by decide +kernel)
set_option maxRecDepth 20000 in
theorem gX1_digest_X1_mix : GoodIn wsX1_digest (va_wsS RX1 121 yX1_mix wsX1_mix) := goodIn_app (goodIn_of _ (by decide +kernel)) ggX1_digest_X1_mix
set_option maxRecDepth 20000 in
theorem ggX1_digest_X0_tellPound : GoodIn wsX1_digest wsX0_tellPound := goodIn_r _ [47, 33, 14, 15, 48, 49, 50, 9, 51, 12, 27, 95, 96, 97, 98, 99, 100, 101, 102, 103, 104, 105, 106, 107, 108, 109, 110, 111, 112] (by decide +kernel) (by decide +kernel)
set_option maxRecDepth 20000 in
theorem gX1_digest_X0_tellPound : GoodIn wsX1_digest (wsV RX1 90 RX0 yX0_tellPound wsX0_tellPound) := goodIn_app (goodIn_of _ (by decide +kernel)) ggX1_digest_X0_tellPound
set_option maxRecDepth 20000 in
theorem ggX1_digest_X0_tellLock : GoodIn wsX1_digest wsX0_tellLock := goodIn_r _ [55, 38, 56, 57, 58, 59, 60, 9, 61, 12, 62, 63, 64, 65, 27, 23, 24, 25, 26, 28, 66, 67, 68, 69, 70, 71, 72, 73, 74, 75, 76, 77, 78, 16, 79, 80, 81, 82, 83, 84, 85, 86, 87, 33, 95, 96, 97, 98, 99, 100, 101, 102, 103, 104, 105, 106, 107, 108, 109, 110, 111, 112] (by decide +kernel) (by decide +kernel)
set_option maxRecDepth 20000 in
theorem gX1_digest_X0_tellLock : GoodIn wsX1_digest (wsV RX1 93 RX0 yX0_tellLock wsX0_tellLock) := goodIn_app (goodIn_of _ (by decide +kernel)) ggX1_digest_X0_tellLock
set_option maxRecDepth 20000 in
theorem ggX1_digest_X0_tellBarge : GoodIn wsX1_digest wsX0_tellBarge := goodIn_r _ [91, 27, 28, 78, 92, 62, 63, 64, 9, 65, 23, 24, 25, 26, 66, 67, 68, 69, 95, 96, 97, 98, 99, 100, 101, 102, 103, 104, 105, 106, 107, 108, 109, 110, 111, 112] (by decide +kernel) (by decide +kernel)
set_option maxRecDepth 20000 in
theorem gX1_digest_X0_tellBarge : GoodIn wsX1_digest (wsV RX1 86 RX0 yX0_tellBarge wsX0_tellBarge) := goodIn_app (goodIn_of _ (by decide +kernel)) ggX1_digest_X0_tellBarge
theorem dX1_digest_0 : decode cX1_digest 0 = .ok (.ldc2_w 119, 3) := by decide +kernel
theorem dX1_digest_3 : decode cX1_digest 3 = .ok (.lstore_n 1, 1) := by decide +kernel
theorem dX1_digest_4 : decode cX1_digest 4 = .ok (.iconst 0, 1) := by decide +kernel
theorem dX1_digest_5 : decode cX1_digest 5 = .ok (.istore_n 3, 1) := by decide +kernel
theorem dX1_digest_6 : decode cX1_digest 6 = .ok (.iload_n 3, 1) := by decide +kernel
theorem dX1_digest_7 : decode cX1_digest 7 = .ok (.bipush 10, 2) := by decide +kernel
theorem dX1_digest_9 : decode cX1_digest 9 = .ok (.if_icmp .ge 22, 3) := by decide +kernel
theorem dX1_digest_12 : decode cX1_digest 12 = .ok (.lload_n 1, 1) := by decide +kernel
theorem dX1_digest_13 : decode cX1_digest 13 = .ok (.aload_n 0, 1) := by decide +kernel
theorem dX1_digest_14 : decode cX1_digest 14 = .ok (.getfield 12, 3) := by decide +kernel
theorem dX1_digest_17 : decode cX1_digest 17 = .ok (.iload_n 3, 1) := by decide +kernel
theorem dX1_digest_18 : decode cX1_digest 18 = .ok (.invokevirtual 96, 3) := by decide +kernel
theorem dX1_digest_21 : decode cX1_digest 21 = .ok (.invokestatic 121, 3) := by decide +kernel
theorem dX1_digest_24 : decode cX1_digest 24 = .ok (.lstore_n 1, 1) := by decide +kernel
theorem dX1_digest_25 : decode cX1_digest 25 = .ok (.iinc 3 1, 3) := by decide +kernel
theorem dX1_digest_28 : decode cX1_digest 28 = .ok (.goto (-22), 3) := by decide +kernel
theorem dX1_digest_31 : decode cX1_digest 31 = .ok (.lload_n 1, 1) := by decide +kernel
theorem dX1_digest_32 : decode cX1_digest 32 = .ok (.aload_n 0, 1) := by decide +kernel
theorem dX1_digest_33 : decode cX1_digest 33 = .ok (.getfield 12, 3) := by decide +kernel
theorem dX1_digest_36 : decode cX1_digest 36 = .ok (.getfield 37, 3) := by decide +kernel
theorem dX1_digest_39 : decode cX1_digest 39 = .ok (.ifCond .eq 7, 3) := by decide +kernel
theorem dX1_digest_42 : decode cX1_digest 42 = .ok (.iconst 1, 1) := by decide +kernel
theorem dX1_digest_43 : decode cX1_digest 43 = .ok (.goto 4, 3) := by decide +kernel
theorem dX1_digest_46 : decode cX1_digest 46 = .ok (.iconst 0, 1) := by decide +kernel
theorem dX1_digest_47 : decode cX1_digest 47 = .ok (.invokestatic 121, 3) := by decide +kernel
theorem dX1_digest_50 : decode cX1_digest 50 = .ok (.lstore_n 1, 1) := by decide +kernel
theorem dX1_digest_51 : decode cX1_digest 51 = .ok (.iconst 0, 1) := by decide +kernel
theorem dX1_digest_52 : decode cX1_digest 52 = .ok (.istore_n 3, 1) := by decide +kernel
theorem dX1_digest_53 : decode cX1_digest 53 = .ok (.iload_n 3, 1) := by decide +kernel
theorem dX1_digest_54 : decode cX1_digest 54 = .ok (.bipush 8, 2) := by decide +kernel
theorem dX1_digest_56 : decode cX1_digest 56 = .ok (.if_icmp .ge 23, 3) := by decide +kernel
theorem dX1_digest_59 : decode cX1_digest 59 = .ok (.lload_n 1, 1) := by decide +kernel
theorem dX1_digest_60 : decode cX1_digest 60 = .ok (.aload_n 0, 1) := by decide +kernel
theorem dX1_digest_61 : decode cX1_digest 61 = .ok (.getfield 12, 3) := by decide +kernel
theorem dX1_digest_64 : decode cX1_digest 64 = .ok (.getfield 26, 3) := by decide +kernel
theorem dX1_digest_67 : decode cX1_digest 67 = .ok (.iload_n 3, 1) := by decide +kernel
theorem dX1_digest_68 : decode cX1_digest 68 = .ok (.iaload, 1) := by decide +kernel
theorem dX1_digest_69 : decode cX1_digest 69 = .ok (.invokestatic 121, 3) := by decide +kernel
theorem dX1_digest_72 : decode cX1_digest 72 = .ok (.lstore_n 1, 1) := by decide +kernel
theorem dX1_digest_73 : decode cX1_digest 73 = .ok (.iinc 3 1, 3) := by decide +kernel
theorem dX1_digest_76 : decode cX1_digest 76 = .ok (.goto (-23), 3) := by decide +kernel
theorem dX1_digest_79 : decode cX1_digest 79 = .ok (.iconst 0, 1) := by decide +kernel
theorem dX1_digest_80 : decode cX1_digest 80 = .ok (.istore_n 3, 1) := by decide +kernel
theorem dX1_digest_81 : decode cX1_digest 81 = .ok (.iload_n 3, 1) := by decide +kernel
theorem dX1_digest_82 : decode cX1_digest 82 = .ok (.bipush 6, 2) := by decide +kernel
theorem dX1_digest_84 : decode cX1_digest 84 = .ok (.if_icmp .ge 39, 3) := by decide +kernel
theorem dX1_digest_87 : decode cX1_digest 87 = .ok (.iconst 0, 1) := by decide +kernel
theorem dX1_digest_88 : decode cX1_digest 88 = .ok (.istore 4, 2) := by decide +kernel
theorem dX1_digest_90 : decode cX1_digest 90 = .ok (.iload 4, 2) := by decide +kernel
theorem dX1_digest_92 : decode cX1_digest 92 = .ok (.iconst 4, 1) := by decide +kernel
theorem dX1_digest_93 : decode cX1_digest 93 = .ok (.if_icmp .ge 24, 3) := by decide +kernel
theorem dX1_digest_96 : decode cX1_digest 96 = .ok (.lload_n 1, 1) := by decide +kernel
theorem dX1_digest_97 : decode cX1_digest 97 = .ok (.aload_n 0, 1) := by decide +kernel
theorem dX1_digest_98 : decode cX1_digest 98 = .ok (.getfield 12, 3) := by decide +kernel
theorem dX1_digest_101 : decode cX1_digest 101 = .ok (.iload_n 3, 1) := by decide +kernel
theorem dX1_digest_102 : decode cX1_digest 102 = .ok (.iload 4, 2) := by decide +kernel
theorem dX1_digest_104 : decode cX1_digest 104 = .ok (.invokevirtual 90, 3) := by decide +kernel
theorem dX1_digest_107 : decode cX1_digest 107 = .ok (.invokestatic 121, 3) := by decide +kernel
theorem dX1_digest_110 : decode cX1_digest 110 = .ok (.lstore_n 1, 1) := by decide +kernel
theorem dX1_digest_111 : decode cX1_digest 111 = .ok (.iinc 4 1, 3) := by decide +kernel
theorem dX1_digest_114 : decode cX1_digest 114 = .ok (.goto (-24), 3) := by decide +kernel
theorem dX1_digest_117 : decode cX1_digest 117 = .ok (.iinc 3 1, 3) := by decide +kernel
theorem dX1_digest_120 : decode cX1_digest 120 = .ok (.goto (-39), 3) := by decide +kernel
theorem dX1_digest_123 : decode cX1_digest 123 = .ok (.iconst 0, 1) := by decide +kernel
theorem dX1_digest_124 : decode cX1_digest 124 = .ok (.istore_n 3, 1) := by decide +kernel
theorem dX1_digest_125 : decode cX1_digest 125 = .ok (.iload_n 3, 1) := by decide +kernel
theorem dX1_digest_126 : decode cX1_digest 126 = .ok (.iconst 5, 1) := by decide +kernel
theorem dX1_digest_127 : decode cX1_digest 127 = .ok (.if_icmp .ge 39, 3) := by decide +kernel
theorem dX1_digest_130 : decode cX1_digest 130 = .ok (.iconst 0, 1) := by decide +kernel
theorem dX1_digest_131 : decode cX1_digest 131 = .ok (.istore 4, 2) := by decide +kernel
theorem dX1_digest_133 : decode cX1_digest 133 = .ok (.iload 4, 2) := by decide +kernel
theorem dX1_digest_135 : decode cX1_digest 135 = .ok (.iconst 5, 1) := by decide +kernel
theorem dX1_digest_136 : decode cX1_digest 136 = .ok (.if_icmp .ge 24, 3) := by decide +kernel
theorem dX1_digest_139 : decode cX1_digest 139 = .ok (.lload_n 1, 1) := by decide +kernel
theorem dX1_digest_140 : decode cX1_digest 140 = .ok (.aload_n 0, 1) := by decide +kernel
theorem dX1_digest_141 : decode cX1_digest 141 = .ok (.getfield 12, 3) := by decide +kernel
theorem dX1_digest_144 : decode cX1_digest 144 = .ok (.iload_n 3, 1) := by decide +kernel
theorem dX1_digest_145 : decode cX1_digest 145 = .ok (.iload 4, 2) := by decide +kernel
theorem dX1_digest_147 : decode cX1_digest 147 = .ok (.invokevirtual 93, 3) := by decide +kernel
theorem dX1_digest_150 : decode cX1_digest 150 = .ok (.invokestatic 121, 3) := by decide +kernel
theorem dX1_digest_153 : decode cX1_digest 153 = .ok (.lstore_n 1, 1) := by decide +kernel
theorem dX1_digest_154 : decode cX1_digest 154 = .ok (.iinc 4 1, 3) := by decide +kernel
theorem dX1_digest_157 : decode cX1_digest 157 = .ok (.goto (-24), 3) := by decide +kernel
theorem dX1_digest_160 : decode cX1_digest 160 = .ok (.iinc 3 1, 3) := by decide +kernel
theorem dX1_digest_163 : decode cX1_digest 163 = .ok (.goto (-38), 3) := by decide +kernel
theorem dX1_digest_166 : decode cX1_digest 166 = .ok (.iconst 0, 1) := by decide +kernel
theorem dX1_digest_167 : decode cX1_digest 167 = .ok (.istore_n 3, 1) := by decide +kernel
theorem dX1_digest_168 : decode cX1_digest 168 = .ok (.iload_n 3, 1) := by decide +kernel
theorem dX1_digest_169 : decode cX1_digest 169 = .ok (.aload_n 0, 1) := by decide +kernel
theorem dX1_digest_170 : decode cX1_digest 170 = .ok (.getfield 12, 3) := by decide +kernel
theorem dX1_digest_173 : decode cX1_digest 173 = .ok (.getfield 72, 3) := by decide +kernel
theorem dX1_digest_176 : decode cX1_digest 176 = .ok (.if_icmp .ge 39, 3) := by decide +kernel
theorem dX1_digest_179 : decode cX1_digest 179 = .ok (.iconst 0, 1) := by decide +kernel
theorem dX1_digest_180 : decode cX1_digest 180 = .ok (.istore 4, 2) := by decide +kernel
theorem dX1_digest_182 : decode cX1_digest 182 = .ok (.iload 4, 2) := by decide +kernel
theorem dX1_digest_184 : decode cX1_digest 184 = .ok (.iconst 5, 1) := by decide +kernel
theorem dX1_digest_185 : decode cX1_digest 185 = .ok (.if_icmp .ge 24, 3) := by decide +kernel
theorem dX1_digest_188 : decode cX1_digest 188 = .ok (.lload_n 1, 1) := by decide +kernel
theorem dX1_digest_189 : decode cX1_digest 189 = .ok (.aload_n 0, 1) := by decide +kernel
theorem dX1_digest_190 : decode cX1_digest 190 = .ok (.getfield 12, 3) := by decide +kernel
theorem dX1_digest_193 : decode cX1_digest 193 = .ok (.iload_n 3, 1) := by decide +kernel
theorem dX1_digest_194 : decode cX1_digest 194 = .ok (.iload 4, 2) := by decide +kernel
theorem dX1_digest_196 : decode cX1_digest 196 = .ok (.invokevirtual 86, 3) := by decide +kernel
theorem dX1_digest_199 : decode cX1_digest 199 = .ok (.invokestatic 121, 3) := by decide +kernel
theorem dX1_digest_202 : decode cX1_digest 202 = .ok (.lstore_n 1, 1) := by decide +kernel
theorem dX1_digest_203 : decode cX1_digest 203 = .ok (.iinc 4 1, 3) := by decide +kernel
theorem dX1_digest_206 : decode cX1_digest 206 = .ok (.goto (-24), 3) := by decide +kernel
theorem dX1_digest_209 : decode cX1_digest 209 = .ok (.iinc 3 1, 3) := by decide +kernel
theorem dX1_digest_212 : decode cX1_digest 212 = .ok (.goto (-44), 3) := by decide +kernel
theorem dX1_digest_215 : decode cX1_digest 215 = .ok (.lload_n 1, 1) := by decide +kernel
theorem dX1_digest_216 : decode cX1_digest 216 = .ok (.lreturn, 1) := by decide +kernel
theorem dX1_mix_0 : decode cX1_mix 0 = .ok (.lload_n 0, 1) := by decide +kernel
theorem dX1_mix_1 : decode cX1_mix 1 = .ok (.ldc2_w 125, 3) := by decide +kernel
theorem dX1_mix_4 : decode cX1_mix 4 = .ok (.lmul, 1) := by decide +kernel
theorem dX1_mix_5 : decode cX1_mix 5 = .ok (.iload_n 2, 1) := by decide +kernel
theorem dX1_mix_6 : decode cX1_mix 6 = .ok (.i2l, 1) := by decide +kernel
theorem dX1_mix_7 : decode cX1_mix 7 = .ok (.ladd, 1) := by decide +kernel
theorem dX1_mix_8 : decode cX1_mix 8 = .ok (.lreturn, 1) := by decide +kernel
theorem dX1_requireIndex_0 : decode cX1_requireIndex 0 = .ok (.iload_n 0, 1) := by decide +kernel
theorem dX1_requireIndex_1 : decode cX1_requireIndex 1 = .ok (.iload_n 1, 1) := by decide +kernel
theorem dX1_requireIndex_2 : decode cX1_requireIndex 2 = .ok (.if_icmp .lt 8, 3) := by decide +kernel
theorem dX1_requireIndex_5 : decode cX1_requireIndex 5 = .ok (.iload_n 0, 1) := by decide +kernel
theorem dX1_requireIndex_6 : decode cX1_requireIndex 6 = .ok (.iload_n 2, 1) := by decide +kernel
theorem dX1_requireIndex_7 : decode cX1_requireIndex 7 = .ok (.if_icmp .le 13, 3) := by decide +kernel
theorem dX1_requireIndex_10 : decode cX1_requireIndex 10 = .ok (.new 127, 3) := by decide +kernel
theorem dX1_requireIndex_13 : decode cX1_requireIndex 13 = .ok (.dup, 1) := by decide +kernel
theorem dX1_requireIndex_14 : decode cX1_requireIndex 14 = .ok (.ldc 129, 2) := by decide +kernel
theorem dX1_requireIndex_16 : decode cX1_requireIndex 16 = .ok (.invokespecial 131, 3) := by decide +kernel
theorem dX1_requireIndex_19 : decode cX1_requireIndex 19 = .ok (.athrow, 1) := by decide +kernel
theorem dX1_requireIndex_20 : decode cX1_requireIndex 20 = .ok (.return_, 1) := by decide +kernel
theorem dX1_requireArgument_0 : decode cX1_requireArgument 0 = .ok (.iload_n 0, 1) := by decide +kernel
theorem dX1_requireArgument_1 : decode cX1_requireArgument 1 = .ok (.iload_n 1, 1) := by decide +kernel
theorem dX1_requireArgument_2 : decode cX1_requireArgument 2 = .ok (.if_icmp .lt 8, 3) := by decide +kernel
theorem dX1_requireArgument_5 : decode cX1_requireArgument 5 = .ok (.iload_n 0, 1) := by decide +kernel
theorem dX1_requireArgument_6 : decode cX1_requireArgument 6 = .ok (.iload_n 2, 1) := by decide +kernel
theorem dX1_requireArgument_7 : decode cX1_requireArgument 7 = .ok (.if_icmp .le 13, 3) := by decide +kernel
theorem dX1_requireArgument_10 : decode cX1_requireArgument 10 = .ok (.new 132, 3) := by decide +kernel
theorem dX1_requireArgument_13 : decode cX1_requireArgument 13 = .ok (.dup, 1) := by decide +kernel
theorem dX1_requireArgument_14 : decode cX1_requireArgument 14 = .ok (.ldc 134, 2) := by decide +kernel
theorem dX1_requireArgument_16 : decode cX1_requireArgument 16 = .ok (.invokespecial 136, 3) := by decide +kernel
theorem dX1_requireArgument_19 : decode cX1_requireArgument 19 = .ok (.athrow, 1) := by decide +kernel
theorem dX1_requireArgument_20 : decode cX1_requireArgument 20 = .ok (.return_, 1) := by decide +kernel
end
section
theorem dX2_init_0 : decode cX2_init 0 = .ok (.aload_n 0, 1) := by decide +kernel
theorem dX2_init_1 : decode cX2_init 1 = .ok (.invokespecial 1, 3) := by decide +kernel
theorem dX2_init_4 : decode cX2_init 4 = .ok (.aload_n 0, 1) := by decide +kernel
theorem dX2_init_5 : decode cX2_init 5 = .ok (.bipush 8, 2) := by decide +kernel
theorem dX2_init_7 : decode cX2_init 7 = .ok (.newarray .int, 2) := by decide +kernel
theorem dX2_init_9 : decode cX2_init 9 = .ok (.dup, 1) := by decide +kernel
theorem dX2_init_10 : decode cX2_init 10 = .ok (.iconst 0, 1) := by decide +kernel
theorem dX2_init_11 : decode cX2_init 11 = .ok (.bipush 8, 2) := by decide +kernel
theorem dX2_init_13 : decode cX2_init 13 = .ok (.iastore, 1) := by decide +kernel
theorem dX2_init_14 : decode cX2_init 14 = .ok (.dup, 1) := by decide +kernel
theorem dX2_init_15 : decode cX2_init 15 = .ok (.iconst 1, 1) := by decide +kernel
theorem dX2_init_16 : decode cX2_init 16 = .ok (.bipush 8, 2) := by decide +kernel
theorem dX2_init_18 : decode cX2_init 18 = .ok (.iastore, 1) := by decide +kernel
theorem dX2_init_19 : decode cX2_init 19 = .ok (.dup, 1) := by decide +kernel
theorem dX2_init_20 : decode cX2_init 20 = .ok (.iconst 2, 1) := by decide +kernel
theorem dX2_init_21 : decode cX2_init 21 = .ok (.bipush 8, 2) := by decide +kernel
theorem dX2_init_23 : decode cX2_init 23 = .ok (.iastore, 1) := by decide +kernel
theorem dX2_init_24 : decode cX2_init 24 = .ok (.dup, 1) := by decide +kernel
theorem dX2_init_25 : decode cX2_init 25 = .ok (.iconst 3, 1) := by decide +kernel
theorem dX2_init_26 : decode cX2_init 26 = .ok (.bipush 8, 2) := by decide +kernel
theorem dX2_init_28 : decode cX2_init 28 = .ok (.iastore, 1) := by decide +kernel
theorem dX2_init_29 : decode cX2_init 29 = .ok (.dup, 1) := by decide +kernel
theorem dX2_init_30 : decode cX2_init 30 = .ok (.iconst 4, 1) := by decide +kernel
theorem dX2_init_31 : decode cX2_init 31 = .ok (.bipush 8, 2) := by decide +kernel
theorem dX2_init_33 : decode cX2_init 33 = .ok (.iastore, 1) := by decide +kernel
theorem dX2_init_34 : decode cX2_init 34 = .ok (.dup, 1) := by decide +kernel
theorem dX2_init_35 : decode cX2_init 35 = .ok (.iconst 5, 1) := by decide +kernel
theorem dX2_init_36 : decode cX2_init 36 = .ok (.bipush 8, 2) := by decide +kernel
theorem dX2_init_38 : decode cX2_init 38 = .ok (.iastore, 1) := by decide +kernel
theorem dX2_init_39 : decode cX2_init 39 = .ok (.dup, 1) := by decide +kernel
theorem dX2_init_40 : decode cX2_init 40 = .ok (.bipush 6, 2) := by decide +kernel
theorem dX2_init_42 : decode cX2_init 42 = .ok (.bipush 8, 2) := by decide +kernel
theorem dX2_init_44 : decode cX2_init 44 = .ok (.iastore, 1) := by decide +kernel
theorem dX2_init_45 : decode cX2_init 45 = .ok (.dup, 1) := by decide +kernel
theorem dX2_init_46 : decode cX2_init 46 = .ok (.bipush 7, 2) := by decide +kernel
theorem dX2_init_48 : decode cX2_init 48 = .ok (.bipush 8, 2) := by decide +kernel
theorem dX2_init_50 : decode cX2_init 50 = .ok (.iastore, 1) := by decide +kernel
theorem dX2_init_51 : decode cX2_init 51 = .ok (.putfield 7, 3) := by decide +kernel
theorem dX2_init_54 : decode cX2_init 54 = .ok (.aload_n 0, 1) := by decide +kernel
theorem dX2_init_55 : decode cX2_init 55 = .ok (.bipush 6, 2) := by decide +kernel
theorem dX2_init_57 : decode cX2_init 57 = .ok (.anewarray 13, 3) := by decide +kernel
theorem dX2_init_60 : decode cX2_init 60 = .ok (.dup, 1) := by decide +kernel
theorem dX2_init_61 : decode cX2_init 61 = .ok (.iconst 0, 1) := by decide +kernel
theorem dX2_init_62 : decode cX2_init 62 = .ok (.iconst 3, 1) := by decide +kernel
theorem dX2_init_63 : decode cX2_init 63 = .ok (.newarray .int, 2) := by decide +kernel
theorem dX2_init_65 : decode cX2_init 65 = .ok (.dup, 1) := by decide +kernel
theorem dX2_init_66 : decode cX2_init 66 = .ok (.iconst 0, 1) := by decide +kernel
theorem dX2_init_67 : decode cX2_init 67 = .ok (.bipush 60, 2) := by decide +kernel
theorem dX2_init_69 : decode cX2_init 69 = .ok (.iastore, 1) := by decide +kernel
theorem dX2_init_70 : decode cX2_init 70 = .ok (.dup, 1) := by decide +kernel
theorem dX2_init_71 : decode cX2_init 71 = .ok (.iconst 1, 1) := by decide +kernel
theorem dX2_init_72 : decode cX2_init 72 = .ok (.iconst 0, 1) := by decide +kernel
theorem dX2_init_73 : decode cX2_init 73 = .ok (.iastore, 1) := by decide +kernel
theorem dX2_init_74 : decode cX2_init 74 = .ok (.dup, 1) := by decide +kernel
theorem dX2_init_75 : decode cX2_init 75 = .ok (.iconst 2, 1) := by decide +kernel
theorem dX2_init_76 : decode cX2_init 76 = .ok (.iconst 0, 1) := by decide +kernel
theorem dX2_init_77 : decode cX2_init 77 = .ok (.iastore, 1) := by decide +kernel
theorem dX2_init_78 : decode cX2_init 78 = .ok (.aastore, 1) := by decide +kernel
theorem dX2_init_79 : decode cX2_init 79 = .ok (.dup, 1) := by decide +kernel
theorem dX2_init_80 : decode cX2_init 80 = .ok (.iconst 1, 1) := by decide +kernel
theorem dX2_init_81 : decode cX2_init 81 = .ok (.iconst 3, 1) := by decide +kernel
theorem dX2_init_82 : decode cX2_init 82 = .ok (.newarray .int, 2) := by decide +kernel
theorem dX2_init_84 : decode cX2_init 84 = .ok (.dup, 1) := by decide +kernel
theorem dX2_init_85 : decode cX2_init 85 = .ok (.iconst 0, 1) := by decide +kernel
theorem dX2_init_86 : decode cX2_init 86 = .ok (.bipush 60, 2) := by decide +kernel
theorem dX2_init_88 : decode cX2_init 88 = .ok (.iastore, 1) := by decide +kernel
theorem dX2_init_89 : decode cX2_init 89 = .ok (.dup, 1) := by decide +kernel
theorem dX2_init_90 : decode cX2_init 90 = .ok (.iconst 1, 1) := by decide +kernel
theorem dX2_init_91 : decode cX2_init 91 = .ok (.iconst 0, 1) := by decide +kernel
theorem dX2_init_92 : decode cX2_init 92 = .ok (.iastore, 1) := by decide +kernel
theorem dX2_init_93 : decode cX2_init 93 = .ok (.dup, 1) := by decide +kernel
theorem dX2_init_94 : decode cX2_init 94 = .ok (.iconst 2, 1) := by decide +kernel
theorem dX2_init_95 : decode cX2_init 95 = .ok (.iconst 0, 1) := by decide +kernel
theorem dX2_init_96 : decode cX2_init 96 = .ok (.iastore, 1) := by decide +kernel
theorem dX2_init_97 : decode cX2_init 97 = .ok (.aastore, 1) := by decide +kernel
theorem dX2_init_98 : decode cX2_init 98 = .ok (.dup, 1) := by decide +kernel
theorem dX2_init_99 : decode cX2_init 99 = .ok (.iconst 2, 1) := by decide +kernel
theorem dX2_init_100 : decode cX2_init 100 = .ok (.iconst 3, 1) := by decide +kernel
theorem dX2_init_101 : decode cX2_init 101 = .ok (.newarray .int, 2) := by decide +kernel
theorem dX2_init_103 : decode cX2_init 103 = .ok (.dup, 1) := by decide +kernel
theorem dX2_init_104 : decode cX2_init 104 = .ok (.iconst 0, 1) := by decide +kernel
theorem dX2_init_105 : decode cX2_init 105 = .ok (.bipush 60, 2) := by decide +kernel
theorem dX2_init_107 : decode cX2_init 107 = .ok (.iastore, 1) := by decide +kernel
theorem dX2_init_108 : decode cX2_init 108 = .ok (.dup, 1) := by decide +kernel
theorem dX2_init_109 : decode cX2_init 109 = .ok (.iconst 1, 1) := by decide +kernel
theorem dX2_init_110 : decode cX2_init 110 = .ok (.iconst 0, 1) := by decide +kernel
theorem dX2_init_111 : decode cX2_init 111 = .ok (.iastore, 1) := by decide +kernel
theorem dX2_init_112 : decode cX2_init 112 = .ok (.dup, 1) := by decide +kernel
theorem dX2_init_113 : decode cX2_init 113 = .ok (.iconst 2, 1) := by decide +kernel
theorem dX2_init_114 : decode cX2_init 114 = .ok (.iconst 0, 1) := by decide +kernel
theorem dX2_init_115 : decode cX2_init 115 = .ok (.iastore, 1) := by decide +kernel
theorem dX2_init_116 : decode cX2_init 116 = .ok (.aastore, 1) := by decide +kernel
theorem dX2_init_117 : decode cX2_init 117 = .ok (.dup, 1) := by decide +kernel
theorem dX2_init_118 : decode cX2_init 118 = .ok (.iconst 3, 1) := by decide +kernel
theorem dX2_init_119 : decode cX2_init 119 = .ok (.iconst 3, 1) := by decide +kernel
theorem dX2_init_120 : decode cX2_init 120 = .ok (.newarray .int, 2) := by decide +kernel
theorem dX2_init_122 : decode cX2_init 122 = .ok (.dup, 1) := by decide +kernel
theorem dX2_init_123 : decode cX2_init 123 = .ok (.iconst 0, 1) := by decide +kernel
theorem dX2_init_124 : decode cX2_init 124 = .ok (.bipush 60, 2) := by decide +kernel
theorem dX2_init_126 : decode cX2_init 126 = .ok (.iastore, 1) := by decide +kernel
theorem dX2_init_127 : decode cX2_init 127 = .ok (.dup, 1) := by decide +kernel
theorem dX2_init_128 : decode cX2_init 128 = .ok (.iconst 1, 1) := by decide +kernel
theorem dX2_init_129 : decode cX2_init 129 = .ok (.iconst 0, 1) := by decide +kernel
theorem dX2_init_130 : decode cX2_init 130 = .ok (.iastore, 1) := by decide +kernel
theorem dX2_init_131 : decode cX2_init 131 = .ok (.dup, 1) := by decide +kernel
theorem dX2_init_132 : decode cX2_init 132 = .ok (.iconst 2, 1) := by decide +kernel
theorem dX2_init_133 : decode cX2_init 133 = .ok (.iconst 0, 1) := by decide +kernel
theorem dX2_init_134 : decode cX2_init 134 = .ok (.iastore, 1) := by decide +kernel
theorem dX2_init_135 : decode cX2_init 135 = .ok (.aastore, 1) := by decide +kernel
theorem dX2_init_136 : decode cX2_init 136 = .ok (.dup, 1) := by decide +kernel
theorem dX2_init_137 : decode cX2_init 137 = .ok (.iconst 4, 1) := by decide +kernel
theorem dX2_init_138 : decode cX2_init 138 = .ok (.iconst 3, 1) := by decide +kernel
theorem dX2_init_139 : decode cX2_init 139 = .ok (.newarray .int, 2) := by decide +kernel
theorem dX2_init_141 : decode cX2_init 141 = .ok (.dup, 1) := by decide +kernel
theorem dX2_init_142 : decode cX2_init 142 = .ok (.iconst 0, 1) := by decide +kernel
theorem dX2_init_143 : decode cX2_init 143 = .ok (.bipush 60, 2) := by decide +kernel
theorem dX2_init_145 : decode cX2_init 145 = .ok (.iastore, 1) := by decide +kernel
theorem dX2_init_146 : decode cX2_init 146 = .ok (.dup, 1) := by decide +kernel
theorem dX2_init_147 : decode cX2_init 147 = .ok (.iconst 1, 1) := by decide +kernel
theorem dX2_init_148 : decode cX2_init 148 = .ok (.iconst 0, 1) := by decide +kernel
theorem dX2_init_149 : decode cX2_init 149 = .ok (.iastore, 1) := by decide +kernel
theorem dX2_init_150 : decode cX2_init 150 = .ok (.dup, 1) := by decide +kernel
theorem dX2_init_151 : decode cX2_init 151 = .ok (.iconst 2, 1) := by decide +kernel
theorem dX2_init_152 : decode cX2_init 152 = .ok (.iconst 0, 1) := by decide +kernel
theorem dX2_init_153 : decode cX2_init 153 = .ok (.iastore, 1) := by decide +kernel
theorem dX2_init_154 : decode cX2_init 154 = .ok (.aastore, 1) := by decide +kernel
theorem dX2_init_155 : decode cX2_init 155 = .ok (.dup, 1) := by decide +kernel
theorem dX2_init_156 : decode cX2_init 156 = .ok (.iconst 5, 1) := by decide +kernel
theorem dX2_init_157 : decode cX2_init 157 = .ok (.iconst 3, 1) := by decide +kernel
theorem dX2_init_158 : decode cX2_init 158 = .ok (.newarray .int, 2) := by decide +kernel
theorem dX2_init_160 : decode cX2_init 160 = .ok (.dup, 1) := by decide +kernel
theorem dX2_init_161 : decode cX2_init 161 = .ok (.iconst 0, 1) := by decide +kernel
theorem dX2_init_162 : decode cX2_init 162 = .ok (.bipush 60, 2) := by decide +kernel
theorem dX2_init_164 : decode cX2_init 164 = .ok (.iastore, 1) := by decide +kernel
theorem dX2_init_165 : decode cX2_init 165 = .ok (.dup, 1) := by decide +kernel
theorem dX2_init_166 : decode cX2_init 166 = .ok (.iconst 1, 1) := by decide +kernel
theorem dX2_init_167 : decode cX2_init 167 = .ok (.iconst 0, 1) := by decide +kernel
theorem dX2_init_168 : decode cX2_init 168 = .ok (.iastore, 1) := by decide +kernel
theorem dX2_init_169 : decode cX2_init 169 = .ok (.dup, 1) := by decide +kernel
theorem dX2_init_170 : decode cX2_init 170 = .ok (.iconst 2, 1) := by decide +kernel
theorem dX2_init_171 : decode cX2_init 171 = .ok (.iconst 0, 1) := by decide +kernel
theorem dX2_init_172 : decode cX2_init 172 = .ok (.iastore, 1) := by decide +kernel
theorem dX2_init_173 : decode cX2_init 173 = .ok (.aastore, 1) := by decide +kernel
theorem dX2_init_174 : decode cX2_init 174 = .ok (.putfield 14, 3) := by decide +kernel
theorem dX2_init_177 : decode cX2_init 177 = .ok (.aload_n 0, 1) := by decide +kernel
theorem dX2_init_178 : decode cX2_init 178 = .ok (.iconst 5, 1) := by decide +kernel
theorem dX2_init_179 : decode cX2_init 179 = .ok (.anewarray 13, 3) := by decide +kernel
theorem dX2_init_182 : decode cX2_init 182 = .ok (.dup, 1) := by decide +kernel
theorem dX2_init_183 : decode cX2_init 183 = .ok (.iconst 0, 1) := by decide +kernel
theorem dX2_init_184 : decode cX2_init 184 = .ok (.iconst 3, 1) := by decide +kernel
theorem dX2_init_185 : decode cX2_init 185 = .ok (.newarray .int, 2) := by decide +kernel
theorem dX2_init_187 : decode cX2_init 187 = .ok (.dup, 1) := by decide +kernel
theorem dX2_init_188 : decode cX2_init 188 = .ok (.iconst 0, 1) := by decide +kernel
theorem dX2_init_189 : decode cX2_init 189 = .ok (.iconst 0, 1) := by decide +kernel
theorem dX2_init_190 : decode cX2_init 190 = .ok (.iastore, 1) := by decide +kernel
theorem dX2_init_191 : decode cX2_init 191 = .ok (.dup, 1) := by decide +kernel
theorem dX2_init_192 : decode cX2_init 192 = .ok (.iconst 1, 1) := by decide +kernel
theorem dX2_init_193 : decode cX2_init 193 = .ok (.iconst 0, 1) := by decide +kernel
theorem dX2_init_194 : decode cX2_init 194 = .ok (.iastore, 1) := by decide +kernel
theorem dX2_init_195 : decode cX2_init 195 = .ok (.dup, 1) := by decide +kernel
theorem dX2_init_196 : decode cX2_init 196 = .ok (.iconst 2, 1) := by decide +kernel
theorem dX2_init_197 : decode cX2_init 197 = .ok (.iconst 0, 1) := by decide +kernel
theorem dX2_init_198 : decode cX2_init 198 = .ok (.iastore, 1) := by decide +kernel
theorem dX2_init_199 : decode cX2_init 199 = .ok (.aastore, 1) := by decide +kernel
theorem dX2_init_200 : decode cX2_init 200 = .ok (.dup, 1) := by decide +kernel
theorem dX2_init_201 : decode cX2_init 201 = .ok (.iconst 1, 1) := by decide +kernel
theorem dX2_init_202 : decode cX2_init 202 = .ok (.iconst 3, 1) := by decide +kernel
theorem dX2_init_203 : decode cX2_init 203 = .ok (.newarray .int, 2) := by decide +kernel
theorem dX2_init_205 : decode cX2_init 205 = .ok (.dup, 1) := by decide +kernel
theorem dX2_init_206 : decode cX2_init 206 = .ok (.iconst 0, 1) := by decide +kernel
theorem dX2_init_207 : decode cX2_init 207 = .ok (.iconst 0, 1) := by decide +kernel
theorem dX2_init_208 : decode cX2_init 208 = .ok (.iastore, 1) := by decide +kernel
theorem dX2_init_209 : decode cX2_init 209 = .ok (.dup, 1) := by decide +kernel
theorem dX2_init_210 : decode cX2_init 210 = .ok (.iconst 1, 1) := by decide +kernel
theorem dX2_init_211 : decode cX2_init 211 = .ok (.iconst 0, 1) := by decide +kernel
theorem dX2_init_212 : decode cX2_init 212 = .ok (.iastore, 1) := by decide +kernel
theorem dX2_init_213 : decode cX2_init 213 = .ok (.dup, 1) := by decide +kernel
theorem dX2_init_214 : decode cX2_init 214 = .ok (.iconst 2, 1) := by decide +kernel
theorem dX2_init_215 : decode cX2_init 215 = .ok (.iconst 0, 1) := by decide +kernel
theorem dX2_init_216 : decode cX2_init 216 = .ok (.iastore, 1) := by decide +kernel
theorem dX2_init_217 : decode cX2_init 217 = .ok (.aastore, 1) := by decide +kernel
theorem dX2_init_218 : decode cX2_init 218 = .ok (.dup, 1) := by decide +kernel
theorem dX2_init_219 : decode cX2_init 219 = .ok (.iconst 2, 1) := by decide +kernel
theorem dX2_init_220 : decode cX2_init 220 = .ok (.iconst 3, 1) := by decide +kernel
theorem dX2_init_221 : decode cX2_init 221 = .ok (.newarray .int, 2) := by decide +kernel
theorem dX2_init_223 : decode cX2_init 223 = .ok (.dup, 1) := by decide +kernel
theorem dX2_init_224 : decode cX2_init 224 = .ok (.iconst 0, 1) := by decide +kernel
theorem dX2_init_225 : decode cX2_init 225 = .ok (.iconst 0, 1) := by decide +kernel
theorem dX2_init_226 : decode cX2_init 226 = .ok (.iastore, 1) := by decide +kernel
theorem dX2_init_227 : decode cX2_init 227 = .ok (.dup, 1) := by decide +kernel
theorem dX2_init_228 : decode cX2_init 228 = .ok (.iconst 1, 1) := by decide +kernel
theorem dX2_init_229 : decode cX2_init 229 = .ok (.iconst 0, 1) := by decide +kernel
theorem dX2_init_230 : decode cX2_init 230 = .ok (.iastore, 1) := by decide +kernel
theorem dX2_init_231 : decode cX2_init 231 = .ok (.dup, 1) := by decide +kernel
theorem dX2_init_232 : decode cX2_init 232 = .ok (.iconst 2, 1) := by decide +kernel
theorem dX2_init_233 : decode cX2_init 233 = .ok (.iconst 0, 1) := by decide +kernel
theorem dX2_init_234 : decode cX2_init 234 = .ok (.iastore, 1) := by decide +kernel
theorem dX2_init_235 : decode cX2_init 235 = .ok (.aastore, 1) := by decide +kernel
theorem dX2_init_236 : decode cX2_init 236 = .ok (.dup, 1) := by decide +kernel
theorem dX2_init_237 : decode cX2_init 237 = .ok (.iconst 3, 1) := by decide +kernel
theorem dX2_init_238 : decode cX2_init 238 = .ok (.iconst 3, 1) := by decide +kernel
theorem dX2_init_239 : decode cX2_init 239 = .ok (.newarray .int, 2) := by decide +kernel
theorem dX2_init_241 : decode cX2_init 241 = .ok (.dup, 1) := by decide +kernel
theorem dX2_init_242 : decode cX2_init 242 = .ok (.iconst 0, 1) := by decide +kernel
theorem dX2_init_243 : decode cX2_init 243 = .ok (.iconst 0, 1) := by decide +kernel
theorem dX2_init_244 : decode cX2_init 244 = .ok (.iastore, 1) := by decide +kernel
theorem dX2_init_245 : decode cX2_init 245 = .ok (.dup, 1) := by decide +kernel
theorem dX2_init_246 : decode cX2_init 246 = .ok (.iconst 1, 1) := by decide +kernel
theorem dX2_init_247 : decode cX2_init 247 = .ok (.iconst 0, 1) := by decide +kernel
theorem dX2_init_248 : decode cX2_init 248 = .ok (.iastore, 1) := by decide +kernel
theorem dX2_init_249 : decode cX2_init 249 = .ok (.dup, 1) := by decide +kernel
theorem dX2_init_250 : decode cX2_init 250 = .ok (.iconst 2, 1) := by decide +kernel
theorem dX2_init_251 : decode cX2_init 251 = .ok (.iconst 0, 1) := by decide +kernel
theorem dX2_init_252 : decode cX2_init 252 = .ok (.iastore, 1) := by decide +kernel
theorem dX2_init_253 : decode cX2_init 253 = .ok (.aastore, 1) := by decide +kernel
theorem dX2_init_254 : decode cX2_init 254 = .ok (.dup, 1) := by decide +kernel
theorem dX2_init_255 : decode cX2_init 255 = .ok (.iconst 4, 1) := by decide +kernel
theorem dX2_init_256 : decode cX2_init 256 = .ok (.iconst 3, 1) := by decide +kernel
theorem dX2_init_257 : decode cX2_init 257 = .ok (.newarray .int, 2) := by decide +kernel
theorem dX2_init_259 : decode cX2_init 259 = .ok (.dup, 1) := by decide +kernel
theorem dX2_init_260 : decode cX2_init 260 = .ok (.iconst 0, 1) := by decide +kernel
theorem dX2_init_261 : decode cX2_init 261 = .ok (.iconst 0, 1) := by decide +kernel
theorem dX2_init_262 : decode cX2_init 262 = .ok (.iastore, 1) := by decide +kernel
theorem dX2_init_263 : decode cX2_init 263 = .ok (.dup, 1) := by decide +kernel
theorem dX2_init_264 : decode cX2_init 264 = .ok (.iconst 1, 1) := by decide +kernel
theorem dX2_init_265 : decode cX2_init 265 = .ok (.iconst 0, 1) := by decide +kernel
theorem dX2_init_266 : decode cX2_init 266 = .ok (.iastore, 1) := by decide +kernel
theorem dX2_init_267 : decode cX2_init 267 = .ok (.dup, 1) := by decide +kernel
theorem dX2_init_268 : decode cX2_init 268 = .ok (.iconst 2, 1) := by decide +kernel
theorem dX2_init_269 : decode cX2_init 269 = .ok (.iconst 0, 1) := by decide +kernel
theorem dX2_init_270 : decode cX2_init 270 = .ok (.iastore, 1) := by decide +kernel
theorem dX2_init_271 : decode cX2_init 271 = .ok (.aastore, 1) := by decide +kernel
theorem dX2_init_272 : decode cX2_init 272 = .ok (.putfield 18, 3) := by decide +kernel
theorem dX2_init_275 : decode cX2_init 275 = .ok (.aload_n 0, 1) := by decide +kernel
theorem dX2_init_276 : decode cX2_init 276 = .ok (.iconst (-1), 1) := by decide +kernel
theorem dX2_init_277 : decode cX2_init 277 = .ok (.putfield 21, 3) := by decide +kernel
theorem dX2_init_280 : decode cX2_init 280 = .ok (.aload_n 0, 1) := by decide +kernel
theorem dX2_init_281 : decode cX2_init 281 = .ok (.bipush 50, 2) := by decide +kernel
theorem dX2_init_283 : decode cX2_init 283 = .ok (.putfield 25, 3) := by decide +kernel
theorem dX2_init_286 : decode cX2_init 286 = .ok (.aload_n 0, 1) := by decide +kernel
theorem dX2_init_287 : decode cX2_init 287 = .ok (.iconst 1, 1) := by decide +kernel
theorem dX2_init_288 : decode cX2_init 288 = .ok (.putfield 28, 3) := by decide +kernel
theorem dX2_init_291 : decode cX2_init 291 = .ok (.aload_n 0, 1) := by decide +kernel
theorem dX2_init_292 : decode cX2_init 292 = .ok (.iconst 0, 1) := by decide +kernel
theorem dX2_init_293 : decode cX2_init 293 = .ok (.anewarray 13, 3) := by decide +kernel
theorem dX2_init_296 : decode cX2_init 296 = .ok (.putfield 31, 3) := by decide +kernel
theorem dX2_init_299 : decode cX2_init 299 = .ok (.return_, 1) := by decide +kernel
theorem dX2_come_0 : decode cX2_come 0 = .ok (.aload_n 0, 1) := by decide +kernel
theorem dX2_come_1 : decode cX2_come 1 = .ok (.getfield 31, 3) := by decide +kernel
theorem dX2_come_4 : decode cX2_come 4 = .ok (.arraylength, 1) := by decide +kernel
theorem dX2_come_5 : decode cX2_come 5 = .ok (.iconst 1, 1) := by decide +kernel
theorem dX2_come_6 : decode cX2_come 6 = .ok (.iadd, 1) := by decide +kernel
theorem dX2_come_7 : decode cX2_come 7 = .ok (.anewarray 13, 3) := by decide +kernel
theorem dX2_come_10 : decode cX2_come 10 = .ok (.astore 4, 2) := by decide +kernel
theorem dX2_come_12 : decode cX2_come 12 = .ok (.iconst 0, 1) := by decide +kernel
theorem dX2_come_13 : decode cX2_come 13 = .ok (.istore 5, 2) := by decide +kernel
theorem dX2_come_15 : decode cX2_come 15 = .ok (.iload 5, 2) := by decide +kernel
theorem dX2_come_17 : decode cX2_come 17 = .ok (.aload_n 0, 1) := by decide +kernel
theorem dX2_come_18 : decode cX2_come 18 = .ok (.getfield 31, 3) := by decide +kernel
theorem dX2_come_21 : decode cX2_come 21 = .ok (.arraylength, 1) := by decide +kernel
theorem dX2_come_22 : decode cX2_come 22 = .ok (.if_icmp .ge 21, 3) := by decide +kernel
theorem dX2_come_25 : decode cX2_come 25 = .ok (.aload 4, 2) := by decide +kernel
theorem dX2_come_27 : decode cX2_come 27 = .ok (.iload 5, 2) := by decide +kernel
theorem dX2_come_29 : decode cX2_come 29 = .ok (.aload_n 0, 1) := by decide +kernel
theorem dX2_come_30 : decode cX2_come 30 = .ok (.getfield 31, 3) := by decide +kernel
theorem dX2_come_33 : decode cX2_come 33 = .ok (.iload 5, 2) := by decide +kernel
theorem dX2_come_35 : decode cX2_come 35 = .ok (.aaload, 1) := by decide +kernel
theorem dX2_come_36 : decode cX2_come 36 = .ok (.aastore, 1) := by decide +kernel
theorem dX2_come_37 : decode cX2_come 37 = .ok (.iinc 5 1, 3) := by decide +kernel
theorem dX2_come_40 : decode cX2_come 40 = .ok (.goto (-25), 3) := by decide +kernel
theorem dX2_come_43 : decode cX2_come 43 = .ok (.aload 4, 2) := by decide +kernel
theorem dX2_come_45 : decode cX2_come 45 = .ok (.aload_n 0, 1) := by decide +kernel
theorem dX2_come_46 : decode cX2_come 46 = .ok (.getfield 31, 3) := by decide +kernel
theorem dX2_come_49 : decode cX2_come 49 = .ok (.arraylength, 1) := by decide +kernel
theorem dX2_come_50 : decode cX2_come 50 = .ok (.iconst 4, 1) := by decide +kernel
theorem dX2_come_51 : decode cX2_come 51 = .ok (.newarray .int, 2) := by decide +kernel
theorem dX2_come_53 : decode cX2_come 53 = .ok (.dup, 1) := by decide +kernel
theorem dX2_come_54 : decode cX2_come 54 = .ok (.iconst 0, 1) := by decide +kernel
theorem dX2_come_55 : decode cX2_come 55 = .ok (.iload_n 1, 1) := by decide +kernel
theorem dX2_come_56 : decode cX2_come 56 = .ok (.iastore, 1) := by decide +kernel
theorem dX2_come_57 : decode cX2_come 57 = .ok (.dup, 1) := by decide +kernel
theorem dX2_come_58 : decode cX2_come 58 = .ok (.iconst 1, 1) := by decide +kernel
theorem dX2_come_59 : decode cX2_come 59 = .ok (.iload_n 2, 1) := by decide +kernel
theorem dX2_come_60 : decode cX2_come 60 = .ok (.iastore, 1) := by decide +kernel
theorem dX2_come_61 : decode cX2_come 61 = .ok (.dup, 1) := by decide +kernel
theorem dX2_come_62 : decode cX2_come 62 = .ok (.iconst 2, 1) := by decide +kernel
theorem dX2_come_63 : decode cX2_come 63 = .ok (.iload_n 3, 1) := by decide +kernel
theorem dX2_come_64 : decode cX2_come 64 = .ok (.iastore, 1) := by decide +kernel
theorem dX2_come_65 : decode cX2_come 65 = .ok (.dup, 1) := by decide +kernel
theorem dX2_come_66 : decode cX2_come 66 = .ok (.iconst 3, 1) := by decide +kernel
theorem dX2_come_67 : decode cX2_come 67 = .ok (.iconst 0, 1) := by decide +kernel
theorem dX2_come_68 : decode cX2_come 68 = .ok (.iastore, 1) := by decide +kernel
theorem dX2_come_69 : decode cX2_come 69 = .ok (.aastore, 1) := by decide +kernel
theorem dX2_come_70 : decode cX2_come 70 = .ok (.aload_n 0, 1) := by decide +kernel
theorem dX2_come_71 : decode cX2_come 71 = .ok (.aload 4, 2) := by decide +kernel
theorem dX2_come_73 : decode cX2_come 73 = .ok (.putfield 31, 3) := by decide +kernel
theorem dX2_come_76 : decode cX2_come 76 = .ok (.return_, 1) := by decide +kernel
set_option maxRecDepth 20000 in
theorem ggX2_into_X2_into : GoodIn wsX2_into wsX2_into := goodIn_r _ [0, 1, 2, 3, 4, 5, 6, 7, 8, 9, 10, 11, 12, 13, 14, 15, 16, 17] (by decide +kernel) (by decide +kernel)
set_option maxRecDepth 20000 in
theorem gX2_into_X2_into : GoodIn wsX2_into (wsV RX2 56 RX2 yX2_into wsX2_into) := goodIn_app (goodIn_of _ (by decide +kernel)) ggX2_into_X2_into
theorem dX2_into_0 : decode cX2_into 0 = .ok (.iload_n 1, 1) := by decide +kernel
theorem dX2_into_1 : decode cX2_into 1 = .ok (.ifCond .ge 14, 3) := by decide +kernel
theorem dX2_into_4 : decode cX2_into 4 = .ok (.aload_n 0, 1) := by decide +kernel
theorem dX2_into_5 : decode cX2_into 5 = .ok (.dup, 1) := by decide +kernel
theorem dX2_into_6 : decode cX2_into 6 = .ok (.getfield 46, 3) := by decide +kernel
theorem dX2_into_9 : decode cX2_into 9 = .ok (.iload_n 2, 1) := by decide +kernel
theorem dX2_into_10 : decode cX2_into 10 = .ok (.iadd, 1) := by decide +kernel
theorem dX2_into_11 : decode cX2_into 11 = .ok (.putfield 46, 3) := by decide +kernel
theorem dX2_into_14 : decode cX2_into 14 = .ok (.return_, 1) := by decide +kernel
theorem dX2_into_15 : decode cX2_into 15 = .ok (.aload_n 0, 1) := by decide +kernel
theorem dX2_into_16 : decode cX2_into 16 = .ok (.getfield 14, 3) := by decide +kernel
theorem dX2_into_19 : decode cX2_into 19 = .ok (.iload_n 1, 1) := by decide +kernel
theorem dX2_into_20 : decode cX2_into 20 = .ok (.aaload, 1) := by decide +kernel
theorem dX2_into_21 : decode cX2_into 21 = .ok (.astore_n 3, 1) := by decide +kernel
theorem dX2_into_22 : decode cX2_into 22 = .ok (.aload_n 3, 1) := by decide +kernel
theorem dX2_into_23 : decode cX2_into 23 = .ok (.iconst 0, 1) := by decide +kernel
theorem dX2_into_24 : decode cX2_into 24 = .ok (.dup2, 1) := by decide +kernel
theorem dX2_into_25 : decode cX2_into 25 = .ok (.iaload, 1) := by decide +kernel
theorem dX2_into_26 : decode cX2_into 26 = .ok (.iload_n 2, 1) := by decide +kernel
theorem dX2_into_27 : decode cX2_into 27 = .ok (.iadd, 1) := by decide +kernel
theorem dX2_into_28 : decode cX2_into 28 = .ok (.iastore, 1) := by decide +kernel
theorem dX2_into_29 : decode cX2_into 29 = .ok (.aload_n 3, 1) := by decide +kernel
theorem dX2_into_30 : decode cX2_into 30 = .ok (.iconst 0, 1) := by decide +kernel
theorem dX2_into_31 : decode cX2_into 31 = .ok (.iaload, 1) := by decide +kernel
theorem dX2_into_32 : decode cX2_into 32 = .ok (.bipush 100, 2) := by decide +kernel
theorem dX2_into_34 : decode cX2_into 34 = .ok (.if_icmp .gt 4, 3) := by decide +kernel
theorem dX2_into_37 : decode cX2_into 37 = .ok (.return_, 1) := by decide +kernel
theorem dX2_into_38 : decode cX2_into 38 = .ok (.aload_n 3, 1) := by decide +kernel
theorem dX2_into_39 : decode cX2_into 39 = .ok (.iconst 0, 1) := by decide +kernel
theorem dX2_into_40 : decode cX2_into 40 = .ok (.iaload, 1) := by decide +kernel
theorem dX2_into_41 : decode cX2_into 41 = .ok (.bipush 100, 2) := by decide +kernel
theorem dX2_into_43 : decode cX2_into 43 = .ok (.isub, 1) := by decide +kernel
theorem dX2_into_44 : decode cX2_into 44 = .ok (.istore 4, 2) := by decide +kernel
theorem dX2_into_46 : decode cX2_into 46 = .ok (.aload_n 3, 1) := by decide +kernel
theorem dX2_into_47 : decode cX2_into 47 = .ok (.iconst 0, 1) := by decide +kernel
theorem dX2_into_48 : decode cX2_into 48 = .ok (.bipush 100, 2) := by decide +kernel
theorem dX2_into_50 : decode cX2_into 50 = .ok (.iastore, 1) := by decide +kernel
theorem dX2_into_51 : decode cX2_into 51 = .ok (.aload_n 3, 1) := by decide +kernel
theorem dX2_into_52 : decode cX2_into 52 = .ok (.iconst 1, 1) := by decide +kernel
theorem dX2_into_53 : decode cX2_into 53 = .ok (.dup2, 1) := by decide +kernel
theorem dX2_into_54 : decode cX2_into 54 = .ok (.iaload, 1) := by decide +kernel
theorem dX2_into_55 : decode cX2_into 55 = .ok (.iload 4, 2) := by decide +kernel
theorem dX2_into_57 : decode cX2_into 57 = .ok (.iadd, 1) := by decide +kernel
theorem dX2_into_58 : decode cX2_into 58 = .ok (.iastore, 1) := by decide +kernel
theorem dX2_into_59 : decode cX2_into 59 = .ok (.aload_n 0, 1) := by decide +kernel
theorem dX2_into_60 : decode cX2_into 60 = .ok (.iload_n 1, 1) := by decide +kernel
theorem dX2_into_61 : decode cX2_into 61 = .ok (.iconst 1, 1) := by decide +kernel
theorem dX2_into_62 : decode cX2_into 62 = .ok (.isub, 1) := by decide +kernel
theorem dX2_into_63 : decode cX2_into 63 = .ok (.iload 4, 2) := by decide +kernel
theorem dX2_into_65 : decode cX2_into 65 = .ok (.invokevirtual 56, 3) := by decide +kernel
theorem dX2_into_68 : decode cX2_into 68 = .ok (.return_, 1) := by decide +kernel
set_option maxRecDepth 20000 in
theorem ggX2_turn_X2_into : GoodIn wsX2_turn wsX2_into := goodIn_r _ [7, 8, 2, 3, 4, 5, 6, 9, 10, 11, 12, 13, 14, 15, 16, 17, 18, 19] (by decide +kernel) (by decide +kernel)
set_option maxRecDepth 20000 in
theorem gX2_turn_X2_into : GoodIn wsX2_turn (wsV RX2 56 RX2 yX2_into wsX2_into) := goodIn_app (goodIn_of _ (by decide +kernel)) ggX2_turn_X2_into
theorem dX2_turn_0 : decode cX2_turn 0 = .ok (.aload_n 0, 1) := by decide +kernel
theorem dX2_turn_1 : decode cX2_turn 1 = .ok (.getfield 18, 3) := by decide +kernel
theorem dX2_turn_4 : decode cX2_turn 4 = .ok (.iload_n 1, 1) := by decide +kernel
theorem dX2_turn_5 : decode cX2_turn 5 = .ok (.aaload, 1) := by decide +kernel
theorem dX2_turn_6 : decode cX2_turn 6 = .ok (.astore_n 2, 1) := by decide +kernel
theorem dX2_turn_7 : decode cX2_turn 7 = .ok (.aload_n 2, 1) := by decide +kernel
theorem dX2_turn_8 : decode cX2_turn 8 = .ok (.iconst 0, 1) := by decide +kernel
theorem dX2_turn_9 : decode cX2_turn 9 = .ok (.iaload, 1) := by decide +kernel
theorem dX2_turn_10 : decode cX2_turn 10 = .ok (.iconst 1, 1) := by decide +kernel
theorem dX2_turn_11 : decode cX2_turn 11 = .ok (.if_icmp .ne 17, 3) := by decide +kernel
theorem dX2_turn_14 : decode cX2_turn 14 = .ok (.aload_n 2, 1) := by decide +kernel
theorem dX2_turn_15 : decode cX2_turn 15 = .ok (.iconst 0, 1) := by decide +kernel
theorem dX2_turn_16 : decode cX2_turn 16 = .ok (.iconst 0, 1) := by decide +kernel
theorem dX2_turn_17 : decode cX2_turn 17 = .ok (.iastore, 1) := by decide +kernel
theorem dX2_turn_18 : decode cX2_turn 18 = .ok (.aload_n 0, 1) := by decide +kernel
theorem dX2_turn_19 : decode cX2_turn 19 = .ok (.iload_n 1, 1) := by decide +kernel
theorem dX2_turn_20 : decode cX2_turn 20 = .ok (.bipush 12, 2) := by decide +kernel
theorem dX2_turn_22 : decode cX2_turn 22 = .ok (.invokevirtual 56, 3) := by decide +kernel
theorem dX2_turn_25 : decode cX2_turn 25 = .ok (.goto 30, 3) := by decide +kernel
theorem dX2_turn_28 : decode cX2_turn 28 = .ok (.aload_n 0, 1) := by decide +kernel
theorem dX2_turn_29 : decode cX2_turn 29 = .ok (.getfield 14, 3) := by decide +kernel
theorem dX2_turn_32 : decode cX2_turn 32 = .ok (.iload_n 1, 1) := by decide +kernel
theorem dX2_turn_33 : decode cX2_turn 33 = .ok (.iconst 1, 1) := by decide +kernel
theorem dX2_turn_34 : decode cX2_turn 34 = .ok (.iadd, 1) := by decide +kernel
theorem dX2_turn_35 : decode cX2_turn 35 = .ok (.aaload, 1) := by decide +kernel
theorem dX2_turn_36 : decode cX2_turn 36 = .ok (.iconst 0, 1) := by decide +kernel
theorem dX2_turn_37 : decode cX2_turn 37 = .ok (.dup2, 1) := by decide +kernel
theorem dX2_turn_38 : decode cX2_turn 38 = .ok (.iaload, 1) := by decide +kernel
theorem dX2_turn_39 : decode cX2_turn 39 = .ok (.bipush 12, 2) := by decide +kernel
theorem dX2_turn_41 : decode cX2_turn 41 = .ok (.isub, 1) := by decide +kernel
theorem dX2_turn_42 : decode cX2_turn 42 = .ok (.iastore, 1) := by decide +kernel
theorem dX2_turn_43 : decode cX2_turn 43 = .ok (.aload_n 2, 1) := by decide +kernel
theorem dX2_turn_44 : decode cX2_turn 44 = .ok (.iconst 0, 1) := by decide +kernel
theorem dX2_turn_45 : decode cX2_turn 45 = .ok (.iconst 1, 1) := by decide +kernel
theorem dX2_turn_46 : decode cX2_turn 46 = .ok (.iastore, 1) := by decide +kernel
theorem dX2_turn_47 : decode cX2_turn 47 = .ok (.aload_n 2, 1) := by decide +kernel
theorem dX2_turn_48 : decode cX2_turn 48 = .ok (.iconst 2, 1) := by decide +kernel
theorem dX2_turn_49 : decode cX2_turn 49 = .ok (.dup2, 1) := by decide +kernel
theorem dX2_turn_50 : decode cX2_turn 50 = .ok (.iaload, 1) := by decide +kernel
theorem dX2_turn_51 : decode cX2_turn 51 = .ok (.bipush 12, 2) := by decide +kernel
theorem dX2_turn_53 : decode cX2_turn 53 = .ok (.iadd, 1) := by decide +kernel
theorem dX2_turn_54 : decode cX2_turn 54 = .ok (.iastore, 1) := by decide +kernel
theorem dX2_turn_55 : decode cX2_turn 55 = .ok (.return_, 1) := by decide +kernel
theorem dX2_hasWater_0 : decode cX2_hasWater 0 = .ok (.aload_n 0, 1) := by decide +kernel
theorem dX2_hasWater_1 : decode cX2_hasWater 1 = .ok (.getfield 14, 3) := by decide +kernel
theorem dX2_hasWater_4 : decode cX2_hasWater 4 = .ok (.iload_n 1, 1) := by decide +kernel
theorem dX2_hasWater_5 : decode cX2_hasWater 5 = .ok (.iconst 1, 1) := by decide +kernel
theorem dX2_hasWater_6 : decode cX2_hasWater 6 = .ok (.iadd, 1) := by decide +kernel
theorem dX2_hasWater_7 : decode cX2_hasWater 7 = .ok (.aaload, 1) := by decide +kernel
theorem dX2_hasWater_8 : decode cX2_hasWater 8 = .ok (.iconst 0, 1) := by decide +kernel
theorem dX2_hasWater_9 : decode cX2_hasWater 9 = .ok (.iaload, 1) := by decide +kernel
theorem dX2_hasWater_10 : decode cX2_hasWater 10 = .ok (.bipush 12, 2) := by decide +kernel
theorem dX2_hasWater_12 : decode cX2_hasWater 12 = .ok (.isub, 1) := by decide +kernel
theorem dX2_hasWater_13 : decode cX2_hasWater 13 = .ok (.bipush 20, 2) := by decide +kernel
theorem dX2_hasWater_15 : decode cX2_hasWater 15 = .ok (.if_icmp .lt 7, 3) := by decide +kernel
theorem dX2_hasWater_18 : decode cX2_hasWater 18 = .ok (.iconst 1, 1) := by decide +kernel
theorem dX2_hasWater_19 : decode cX2_hasWater 19 = .ok (.goto 4, 3) := by decide +kernel
theorem dX2_hasWater_22 : decode cX2_hasWater 22 = .ok (.iconst 0, 1) := by decide +kernel
theorem dX2_hasWater_23 : decode cX2_hasWater 23 = .ok (.ireturn, 1) := by decide +kernel
theorem dX2_lockOf_0 : decode cX2_lockOf 0 = .ok (.aload_n 1, 1) := by decide +kernel
theorem dX2_lockOf_1 : decode cX2_lockOf 1 = .ok (.iconst 0, 1) := by decide +kernel
theorem dX2_lockOf_2 : decode cX2_lockOf 2 = .ok (.iaload, 1) := by decide +kernel
theorem dX2_lockOf_3 : decode cX2_lockOf 3 = .ok (.aload_n 1, 1) := by decide +kernel
theorem dX2_lockOf_4 : decode cX2_lockOf 4 = .ok (.iconst 1, 1) := by decide +kernel
theorem dX2_lockOf_5 : decode cX2_lockOf 5 = .ok (.iaload, 1) := by decide +kernel
theorem dX2_lockOf_6 : decode cX2_lockOf 6 = .ok (.if_icmp .ne 5, 3) := by decide +kernel
theorem dX2_lockOf_9 : decode cX2_lockOf 9 = .ok (.iconst (-1), 1) := by decide +kernel
theorem dX2_lockOf_10 : decode cX2_lockOf 10 = .ok (.ireturn, 1) := by decide +kernel
theorem dX2_lockOf_11 : decode cX2_lockOf 11 = .ok (.aload_n 1, 1) := by decide +kernel
theorem dX2_lockOf_12 : decode cX2_lockOf 12 = .ok (.iconst 1, 1) := by decide +kernel
theorem dX2_lockOf_13 : decode cX2_lockOf 13 = .ok (.iaload, 1) := by decide +kernel
theorem dX2_lockOf_14 : decode cX2_lockOf 14 = .ok (.aload_n 1, 1) := by decide +kernel
theorem dX2_lockOf_15 : decode cX2_lockOf 15 = .ok (.iconst 0, 1) := by decide +kernel
theorem dX2_lockOf_16 : decode cX2_lockOf 16 = .ok (.iaload, 1) := by decide +kernel
theorem dX2_lockOf_17 : decode cX2_lockOf 17 = .ok (.if_icmp .le 9, 3) := by decide +kernel
theorem dX2_lockOf_20 : decode cX2_lockOf 20 = .ok (.aload_n 1, 1) := by decide +kernel
theorem dX2_lockOf_21 : decode cX2_lockOf 21 = .ok (.iconst 0, 1) := by decide +kernel
theorem dX2_lockOf_22 : decode cX2_lockOf 22 = .ok (.iaload, 1) := by decide +kernel
theorem dX2_lockOf_23 : decode cX2_lockOf 23 = .ok (.goto 8, 3) := by decide +kernel
theorem dX2_lockOf_26 : decode cX2_lockOf 26 = .ok (.aload_n 1, 1) := by decide +kernel
theorem dX2_lockOf_27 : decode cX2_lockOf 27 = .ok (.iconst 0, 1) := by decide +kernel
theorem dX2_lockOf_28 : decode cX2_lockOf 28 = .ok (.iaload, 1) := by decide +kernel
theorem dX2_lockOf_29 : decode cX2_lockOf 29 = .ok (.iconst 1, 1) := by decide +kernel
theorem dX2_lockOf_30 : decode cX2_lockOf 30 = .ok (.isub, 1) := by decide +kernel
theorem dX2_lockOf_31 : decode cX2_lockOf 31 = .ok (.ireturn, 1) := by decide +kernel
set_option maxRecDepth 20000 in
theorem ggX2_rank_X2_lockOf : GoodIn wsX2_rank wsX2_lockOf := goodIn_r _ [8] (by decide +kernel) (by decide +kernel)
set_option maxRecDepth 20000 in
theorem gX2_rank_X2_lockOf : GoodIn wsX2_rank (wsV RX2 60 RX2 yX2_lockOf wsX2_lockOf) := goodIn_app (goodIn_of _ (by decide +kernel)) ggX2_rank_X2_lockOf
set_option maxRecDepth 20000 in
theorem ggX2_rank_X2_hasWater : GoodIn wsX2_rank wsX2_hasWater := goodIn_r _ [12, 13, 14, 15, 16, 17, 18, 19, 20, 21, 22, 23, 24] (by decide +kernel) (by decide +kernel)
set_option maxRecDepth 20000 in
theorem gX2_rank_X2_hasWater : GoodIn wsX2_rank (wsV RX2 64 RX2 yX2_hasWater wsX2_hasWater) := goodIn_app (goodIn_of _ (by decide +kernel)) ggX2_rank_X2_hasWater
theorem dX2_rank_0 : decode cX2_rank 0 = .ok (.aload_n 0, 1) := by decide +kernel
theorem dX2_rank_1 : decode cX2_rank 1 = .ok (.aload_n 1, 1) := by decide +kernel
theorem dX2_rank_2 : decode cX2_rank 2 = .ok (.invokevirtual 60, 3) := by decide +kernel
theorem dX2_rank_5 : decode cX2_rank 5 = .ok (.iload_n 2, 1) := by decide +kernel
theorem dX2_rank_6 : decode cX2_rank 6 = .ok (.if_icmp .ne 13, 3) := by decide +kernel
theorem dX2_rank_9 : decode cX2_rank 9 = .ok (.aload_n 1, 1) := by decide +kernel
theorem dX2_rank_10 : decode cX2_rank 10 = .ok (.iconst 2, 1) := by decide +kernel
theorem dX2_rank_11 : decode cX2_rank 11 = .ok (.iaload, 1) := by decide +kernel
theorem dX2_rank_12 : decode cX2_rank 12 = .ok (.aload_n 0, 1) := by decide +kernel
theorem dX2_rank_13 : decode cX2_rank 13 = .ok (.getfield 28, 3) := by decide +kernel
theorem dX2_rank_16 : decode cX2_rank 16 = .ok (.if_icmp .ge 5, 3) := by decide +kernel
theorem dX2_rank_19 : decode cX2_rank 19 = .ok (.iconst 0, 1) := by decide +kernel
theorem dX2_rank_20 : decode cX2_rank 20 = .ok (.ireturn, 1) := by decide +kernel
theorem dX2_rank_21 : decode cX2_rank 21 = .ok (.aload_n 1, 1) := by decide +kernel
theorem dX2_rank_22 : decode cX2_rank 22 = .ok (.iconst 1, 1) := by decide +kernel
theorem dX2_rank_23 : decode cX2_rank 23 = .ok (.iaload, 1) := by decide +kernel
theorem dX2_rank_24 : decode cX2_rank 24 = .ok (.aload_n 1, 1) := by decide +kernel
theorem dX2_rank_25 : decode cX2_rank 25 = .ok (.iconst 0, 1) := by decide +kernel
theorem dX2_rank_26 : decode cX2_rank 26 = .ok (.iaload, 1) := by decide +kernel
theorem dX2_rank_27 : decode cX2_rank 27 = .ok (.if_icmp .ge 7, 3) := by decide +kernel
theorem dX2_rank_30 : decode cX2_rank 30 = .ok (.iconst 1, 1) := by decide +kernel
theorem dX2_rank_31 : decode cX2_rank 31 = .ok (.goto 4, 3) := by decide +kernel
theorem dX2_rank_34 : decode cX2_rank 34 = .ok (.iconst 0, 1) := by decide +kernel
theorem dX2_rank_35 : decode cX2_rank 35 = .ok (.istore_n 3, 1) := by decide +kernel
theorem dX2_rank_36 : decode cX2_rank 36 = .ok (.aload_n 0, 1) := by decide +kernel
theorem dX2_rank_37 : decode cX2_rank 37 = .ok (.getfield 18, 3) := by decide +kernel
theorem dX2_rank_40 : decode cX2_rank 40 = .ok (.iload_n 2, 1) := by decide +kernel
theorem dX2_rank_41 : decode cX2_rank 41 = .ok (.aaload, 1) := by decide +kernel
theorem dX2_rank_42 : decode cX2_rank 42 = .ok (.iconst 0, 1) := by decide +kernel
theorem dX2_rank_43 : decode cX2_rank 43 = .ok (.iaload, 1) := by decide +kernel
theorem dX2_rank_44 : decode cX2_rank 44 = .ok (.iconst 1, 1) := by decide +kernel
theorem dX2_rank_45 : decode cX2_rank 45 = .ok (.if_icmp .ne 7, 3) := by decide +kernel
theorem dX2_rank_48 : decode cX2_rank 48 = .ok (.iconst 1, 1) := by decide +kernel
theorem dX2_rank_49 : decode cX2_rank 49 = .ok (.goto 4, 3) := by decide +kernel
theorem dX2_rank_52 : decode cX2_rank 52 = .ok (.iconst 0, 1) := by decide +kernel
theorem dX2_rank_53 : decode cX2_rank 53 = .ok (.istore 4, 2) := by decide +kernel
theorem dX2_rank_55 : decode cX2_rank 55 = .ok (.iload_n 3, 1) := by decide +kernel
theorem dX2_rank_56 : decode cX2_rank 56 = .ok (.ifCond .eq 10, 3) := by decide +kernel
theorem dX2_rank_59 : decode cX2_rank 59 = .ok (.iload 4, 2) := by decide +kernel
theorem dX2_rank_61 : decode cX2_rank 61 = .ok (.ifCond .eq 5, 3) := by decide +kernel
theorem dX2_rank_64 : decode cX2_rank 64 = .ok (.iconst 2, 1) := by decide +kernel
theorem dX2_rank_65 : decode cX2_rank 65 = .ok (.ireturn, 1) := by decide +kernel
theorem dX2_rank_66 : decode cX2_rank 66 = .ok (.aload_n 0, 1) := by decide +kernel
theorem dX2_rank_67 : decode cX2_rank 67 = .ok (.iload_n 2, 1) := by decide +kernel
theorem dX2_rank_68 : decode cX2_rank 68 = .ok (.invokevirtual 64, 3) := by decide +kernel
theorem dX2_rank_71 : decode cX2_rank 71 = .ok (.ifCond .ne 5, 3) := by decide +kernel
theorem dX2_rank_74 : decode cX2_rank 74 = .ok (.iconst 0, 1) := by decide +kernel
theorem dX2_rank_75 : decode cX2_rank 75 = .ok (.ireturn, 1) := by decide +kernel
theorem dX2_rank_76 : decode cX2_rank 76 = .ok (.iload_n 3, 1) := by decide +kernel
theorem dX2_rank_77 : decode cX2_rank 77 = .ok (.ifCond .ne 10, 3) := by decide +kernel
theorem dX2_rank_80 : decode cX2_rank 80 = .ok (.iload 4, 2) := by decide +kernel
theorem dX2_rank_82 : decode cX2_rank 82 = .ok (.ifCond .ne 5, 3) := by decide +kernel
theorem dX2_rank_85 : decode cX2_rank 85 = .ok (.iconst 2, 1) := by decide +kernel
theorem dX2_rank_86 : decode cX2_rank 86 = .ok (.ireturn, 1) := by decide +kernel
theorem dX2_rank_87 : decode cX2_rank 87 = .ok (.aload_n 0, 1) := by decide +kernel
theorem dX2_rank_88 : decode cX2_rank 88 = .ok (.getfield 49, 3) := by decide +kernel
theorem dX2_rank_91 : decode cX2_rank 91 = .ok (.ifCond .eq 7, 3) := by decide +kernel
theorem dX2_rank_94 : decode cX2_rank 94 = .ok (.iconst 0, 1) := by decide +kernel
theorem dX2_rank_95 : decode cX2_rank 95 = .ok (.goto 4, 3) := by decide +kernel
theorem dX2_rank_98 : decode cX2_rank 98 = .ok (.iconst 1, 1) := by decide +kernel
theorem dX2_rank_99 : decode cX2_rank 99 = .ok (.ireturn, 1) := by decide +kernel
set_option maxRecDepth 20000 in
theorem ggX2_next_X2_rank : GoodIn wsX2_next wsX2_rank := goodIn_r _ [6, 7, 8, 9, 10, 11, 12, 5, 13, 14, 15, 16, 17, 18, 19, 20, 21, 22, 23, 24, 25, 26, 27, 28, 29] (by decide +kernel) (by decide +kernel)
set_option maxRecDepth 20000 in
theorem gX2_next_X2_rank : GoodIn wsX2_next (wsV RX2 68 RX2 yX2_rank wsX2_rank) := goodIn_app (goodIn_of _ (by decide +kernel)) ggX2_next_X2_rank
theorem dX2_next_0 : decode cX2_next 0 = .ok (.iconst (-1), 1) := by decide +kernel
theorem dX2_next_1 : decode cX2_next 1 = .ok (.istore_n 3, 1) := by decide +kernel
theorem dX2_next_2 : decode cX2_next 2 = .ok (.iconst 0, 1) := by decide +kernel
theorem dX2_next_3 : decode cX2_next 3 = .ok (.istore 4, 2) := by decide +kernel
theorem dX2_next_5 : decode cX2_next 5 = .ok (.aload_n 0, 1) := by decide +kernel
theorem dX2_next_6 : decode cX2_next 6 = .ok (.getfield 31, 3) := by decide +kernel
theorem dX2_next_9 : decode cX2_next 9 = .ok (.arraylength, 1) := by decide +kernel
theorem dX2_next_10 : decode cX2_next 10 = .ok (.iconst 1, 1) := by decide +kernel
theorem dX2_next_11 : decode cX2_next 11 = .ok (.isub, 1) := by decide +kernel
theorem dX2_next_12 : decode cX2_next 12 = .ok (.istore 5, 2) := by decide +kernel
theorem dX2_next_14 : decode cX2_next 14 = .ok (.iload 5, 2) := by decide +kernel
theorem dX2_next_16 : decode cX2_next 16 = .ok (.ifCond .lt 56, 3) := by decide +kernel
theorem dX2_next_19 : decode cX2_next 19 = .ok (.aload_n 2, 1) := by decide +kernel
theorem dX2_next_20 : decode cX2_next 20 = .ok (.iload 5, 2) := by decide +kernel
theorem dX2_next_22 : decode cX2_next 22 = .ok (.baload, 1) := by decide +kernel
theorem dX2_next_23 : decode cX2_next 23 = .ok (.ifCond .eq 7, 3) := by decide +kernel
theorem dX2_next_26 : decode cX2_next 26 = .ok (.iconst 0, 1) := by decide +kernel
theorem dX2_next_27 : decode cX2_next 27 = .ok (.goto 15, 3) := by decide +kernel
theorem dX2_next_30 : decode cX2_next 30 = .ok (.aload_n 0, 1) := by decide +kernel
theorem dX2_next_31 : decode cX2_next 31 = .ok (.aload_n 0, 1) := by decide +kernel
theorem dX2_next_32 : decode cX2_next 32 = .ok (.getfield 31, 3) := by decide +kernel
theorem dX2_next_35 : decode cX2_next 35 = .ok (.iload 5, 2) := by decide +kernel
theorem dX2_next_37 : decode cX2_next 37 = .ok (.aaload, 1) := by decide +kernel
theorem dX2_next_38 : decode cX2_next 38 = .ok (.iload_n 1, 1) := by decide +kernel
theorem dX2_next_39 : decode cX2_next 39 = .ok (.invokevirtual 68, 3) := by decide +kernel
theorem dX2_next_42 : decode cX2_next 42 = .ok (.istore 6, 2) := by decide +kernel
theorem dX2_next_44 : decode cX2_next 44 = .ok (.iload 6, 2) := by decide +kernel
theorem dX2_next_46 : decode cX2_next 46 = .ok (.ifCond .eq 20, 3) := by decide +kernel
theorem dX2_next_49 : decode cX2_next 49 = .ok (.iload 6, 2) := by decide +kernel
theorem dX2_next_51 : decode cX2_next 51 = .ok (.iload 4, 2) := by decide +kernel
theorem dX2_next_53 : decode cX2_next 53 = .ok (.if_icmp .ge 6, 3) := by decide +kernel
theorem dX2_next_56 : decode cX2_next 56 = .ok (.goto 10, 3) := by decide +kernel
theorem dX2_next_59 : decode cX2_next 59 = .ok (.iload 5, 2) := by decide +kernel
theorem dX2_next_61 : decode cX2_next 61 = .ok (.istore_n 3, 1) := by decide +kernel
theorem dX2_next_62 : decode cX2_next 62 = .ok (.iload 6, 2) := by decide +kernel
theorem dX2_next_64 : decode cX2_next 64 = .ok (.istore 4, 2) := by decide +kernel
theorem dX2_next_66 : decode cX2_next 66 = .ok (.iinc 5 (-1), 3) := by decide +kernel
theorem dX2_next_69 : decode cX2_next 69 = .ok (.goto (-55), 3) := by decide +kernel
theorem dX2_next_72 : decode cX2_next 72 = .ok (.iload_n 3, 1) := by decide +kernel
theorem dX2_next_73 : decode cX2_next 73 = .ok (.ireturn, 1) := by decide +kernel
set_option maxRecDepth 20000 in
theorem ggX2_pass_X2_into : GoodIn wsX2_pass wsX2_into := goodIn_r _ [15, 16, 4, 11, 12, 13, 14, 38, 39, 40, 41, 42, 43, 44, 45, 46, 47, 48] (by decide +kernel) (by decide +kernel)
set_option maxRecDepth 20000 in
theorem gX2_pass_X2_into : GoodIn wsX2_pass (wsV RX2 56 RX2 yX2_into wsX2_into) := goodIn_app (goodIn_of _ (by decide +kernel)) ggX2_pass_X2_into
set_option maxRecDepth 20000 in
theorem ggX2_pass_X2_next : GoodIn wsX2_pass wsX2_next := goodIn_r _ [20, 7, 21, 22, 23, 14, 24, 10, 9, 25, 26, 27, 28, 29, 30, 31, 32, 33, 4, 38, 39, 40, 41, 42, 43, 44, 45, 46, 47, 48] (by decide +kernel) (by decide +kernel)
set_option maxRecDepth 20000 in
theorem gX2_pass_X2_next : GoodIn wsX2_pass (wsV RX2 72 RX2 yX2_next wsX2_next) := goodIn_app (goodIn_of _ (by decide +kernel)) ggX2_pass_X2_next
set_option maxRecDepth 20000 in
theorem ggX2_pass_X2_turn : GoodIn wsX2_pass wsX2_turn := goodIn_r _ [37, 9, 4, 11, 12, 13, 14, 15, 16, 38, 39, 40, 41, 42, 43, 44, 45, 46, 47, 48] (by decide +kernel) (by decide +kernel)
set_option maxRecDepth 20000 in
theorem gX2_pass_X2_turn : GoodIn wsX2_pass (wsV RX2 76 RX2 yX2_turn wsX2_turn) := goodIn_app (goodIn_of _ (by decide +kernel)) ggX2_pass_X2_turn
theorem dX2_pass_0 : decode cX2_pass 0 = .ok (.aload_n 0, 1) := by decide +kernel
theorem dX2_pass_1 : decode cX2_pass 1 = .ok (.iconst 5, 1) := by decide +kernel
theorem dX2_pass_2 : decode cX2_pass 2 = .ok (.aload_n 0, 1) := by decide +kernel
theorem dX2_pass_3 : decode cX2_pass 3 = .ok (.getfield 7, 3) := by decide +kernel
theorem dX2_pass_6 : decode cX2_pass 6 = .ok (.aload_n 0, 1) := by decide +kernel
theorem dX2_pass_7 : decode cX2_pass 7 = .ok (.getfield 39, 3) := by decide +kernel
theorem dX2_pass_10 : decode cX2_pass 10 = .ok (.bipush 8, 2) := by decide +kernel
theorem dX2_pass_12 : decode cX2_pass 12 = .ok (.irem, 1) := by decide +kernel
theorem dX2_pass_13 : decode cX2_pass 13 = .ok (.iaload, 1) := by decide +kernel
theorem dX2_pass_14 : decode cX2_pass 14 = .ok (.invokevirtual 56, 3) := by decide +kernel
theorem dX2_pass_17 : decode cX2_pass 17 = .ok (.aload_n 0, 1) := by decide +kernel
theorem dX2_pass_18 : decode cX2_pass 18 = .ok (.getfield 21, 3) := by decide +kernel
theorem dX2_pass_21 : decode cX2_pass 21 = .ok (.ifCond .lt 117, 3) := by decide +kernel
theorem dX2_pass_24 : decode cX2_pass 24 = .ok (.aload_n 0, 1) := by decide +kernel
theorem dX2_pass_25 : decode cX2_pass 25 = .ok (.getfield 14, 3) := by decide +kernel
theorem dX2_pass_28 : decode cX2_pass 28 = .ok (.aload_n 0, 1) := by decide +kernel
theorem dX2_pass_29 : decode cX2_pass 29 = .ok (.getfield 21, 3) := by decide +kernel
theorem dX2_pass_32 : decode cX2_pass 32 = .ok (.aaload, 1) := by decide +kernel
theorem dX2_pass_33 : decode cX2_pass 33 = .ok (.iconst 0, 1) := by decide +kernel
theorem dX2_pass_34 : decode cX2_pass 34 = .ok (.iaload, 1) := by decide +kernel
theorem dX2_pass_35 : decode cX2_pass 35 = .ok (.aload_n 0, 1) := by decide +kernel
theorem dX2_pass_36 : decode cX2_pass 36 = .ok (.getfield 25, 3) := by decide +kernel
theorem dX2_pass_39 : decode cX2_pass 39 = .ok (.if_icmp .le 99, 3) := by decide +kernel
theorem dX2_pass_42 : decode cX2_pass 42 = .ok (.aload_n 0, 1) := by decide +kernel
theorem dX2_pass_43 : decode cX2_pass 43 = .ok (.getfield 14, 3) := by decide +kernel
theorem dX2_pass_46 : decode cX2_pass 46 = .ok (.aload_n 0, 1) := by decide +kernel
theorem dX2_pass_47 : decode cX2_pass 47 = .ok (.getfield 21, 3) := by decide +kernel
theorem dX2_pass_50 : decode cX2_pass 50 = .ok (.aaload, 1) := by decide +kernel
theorem dX2_pass_51 : decode cX2_pass 51 = .ok (.iconst 0, 1) := by decide +kernel
theorem dX2_pass_52 : decode cX2_pass 52 = .ok (.iaload, 1) := by decide +kernel
theorem dX2_pass_53 : decode cX2_pass 53 = .ok (.aload_n 0, 1) := by decide +kernel
theorem dX2_pass_54 : decode cX2_pass 54 = .ok (.getfield 25, 3) := by decide +kernel
theorem dX2_pass_57 : decode cX2_pass 57 = .ok (.isub, 1) := by decide +kernel
theorem dX2_pass_58 : decode cX2_pass 58 = .ok (.bipush 10, 2) := by decide +kernel
theorem dX2_pass_60 : decode cX2_pass 60 = .ok (.if_icmp .le 8, 3) := by decide +kernel
theorem dX2_pass_63 : decode cX2_pass 63 = .ok (.bipush 10, 2) := by decide +kernel
theorem dX2_pass_65 : decode cX2_pass 65 = .ok (.goto 19, 3) := by decide +kernel
theorem dX2_pass_68 : decode cX2_pass 68 = .ok (.aload_n 0, 1) := by decide +kernel
theorem dX2_pass_69 : decode cX2_pass 69 = .ok (.getfield 14, 3) := by decide +kernel
theorem dX2_pass_72 : decode cX2_pass 72 = .ok (.aload_n 0, 1) := by decide +kernel
theorem dX2_pass_73 : decode cX2_pass 73 = .ok (.getfield 21, 3) := by decide +kernel
theorem dX2_pass_76 : decode cX2_pass 76 = .ok (.aaload, 1) := by decide +kernel
theorem dX2_pass_77 : decode cX2_pass 77 = .ok (.iconst 0, 1) := by decide +kernel
theorem dX2_pass_78 : decode cX2_pass 78 = .ok (.iaload, 1) := by decide +kernel
theorem dX2_pass_79 : decode cX2_pass 79 = .ok (.aload_n 0, 1) := by decide +kernel
theorem dX2_pass_80 : decode cX2_pass 80 = .ok (.getfield 25, 3) := by decide +kernel
theorem dX2_pass_83 : decode cX2_pass 83 = .ok (.isub, 1) := by decide +kernel
theorem dX2_pass_84 : decode cX2_pass 84 = .ok (.istore_n 1, 1) := by decide +kernel
theorem dX2_pass_85 : decode cX2_pass 85 = .ok (.aload_n 0, 1) := by decide +kernel
theorem dX2_pass_86 : decode cX2_pass 86 = .ok (.getfield 14, 3) := by decide +kernel
theorem dX2_pass_89 : decode cX2_pass 89 = .ok (.aload_n 0, 1) := by decide +kernel
theorem dX2_pass_90 : decode cX2_pass 90 = .ok (.getfield 21, 3) := by decide +kernel
theorem dX2_pass_93 : decode cX2_pass 93 = .ok (.aaload, 1) := by decide +kernel
theorem dX2_pass_94 : decode cX2_pass 94 = .ok (.iconst 0, 1) := by decide +kernel
theorem dX2_pass_95 : decode cX2_pass 95 = .ok (.dup2, 1) := by decide +kernel
theorem dX2_pass_96 : decode cX2_pass 96 = .ok (.iaload, 1) := by decide +kernel
theorem dX2_pass_97 : decode cX2_pass 97 = .ok (.iload_n 1, 1) := by decide +kernel
theorem dX2_pass_98 : decode cX2_pass 98 = .ok (.isub, 1) := by decide +kernel
theorem dX2_pass_99 : decode cX2_pass 99 = .ok (.iastore, 1) := by decide +kernel
theorem dX2_pass_100 : decode cX2_pass 100 = .ok (.aload_n 0, 1) := by decide +kernel
theorem dX2_pass_101 : decode cX2_pass 101 = .ok (.getfield 14, 3) := by decide +kernel
theorem dX2_pass_104 : decode cX2_pass 104 = .ok (.aload_n 0, 1) := by decide +kernel
theorem dX2_pass_105 : decode cX2_pass 105 = .ok (.getfield 21, 3) := by decide +kernel
theorem dX2_pass_108 : decode cX2_pass 108 = .ok (.aaload, 1) := by decide +kernel
theorem dX2_pass_109 : decode cX2_pass 109 = .ok (.iconst 2, 1) := by decide +kernel
theorem dX2_pass_110 : decode cX2_pass 110 = .ok (.dup2, 1) := by decide +kernel
theorem dX2_pass_111 : decode cX2_pass 111 = .ok (.iaload, 1) := by decide +kernel
theorem dX2_pass_112 : decode cX2_pass 112 = .ok (.iload_n 1, 1) := by decide +kernel
theorem dX2_pass_113 : decode cX2_pass 113 = .ok (.iadd, 1) := by decide +kernel
theorem dX2_pass_114 : decode cX2_pass 114 = .ok (.iastore, 1) := by decide +kernel
theorem dX2_pass_115 : decode cX2_pass 115 = .ok (.aload_n 0, 1) := by decide +kernel
theorem dX2_pass_116 : decode cX2_pass 116 = .ok (.dup, 1) := by decide +kernel
theorem dX2_pass_117 : decode cX2_pass 117 = .ok (.getfield 53, 3) := by decide +kernel
theorem dX2_pass_120 : decode cX2_pass 120 = .ok (.iload_n 1, 1) := by decide +kernel
theorem dX2_pass_121 : decode cX2_pass 121 = .ok (.iconst 5, 1) := by decide +kernel
theorem dX2_pass_122 : decode cX2_pass 122 = .ok (.idiv, 1) := by decide +kernel
theorem dX2_pass_123 : decode cX2_pass 123 = .ok (.iadd, 1) := by decide +kernel
theorem dX2_pass_124 : decode cX2_pass 124 = .ok (.putfield 53, 3) := by decide +kernel
theorem dX2_pass_127 : decode cX2_pass 127 = .ok (.aload_n 0, 1) := by decide +kernel
theorem dX2_pass_128 : decode cX2_pass 128 = .ok (.aload_n 0, 1) := by decide +kernel
theorem dX2_pass_129 : decode cX2_pass 129 = .ok (.getfield 21, 3) := by decide +kernel
theorem dX2_pass_132 : decode cX2_pass 132 = .ok (.iconst 1, 1) := by decide +kernel
theorem dX2_pass_133 : decode cX2_pass 133 = .ok (.isub, 1) := by decide +kernel
theorem dX2_pass_134 : decode cX2_pass 134 = .ok (.iload_n 1, 1) := by decide +kernel
theorem dX2_pass_135 : decode cX2_pass 135 = .ok (.invokevirtual 56, 3) := by decide +kernel
theorem dX2_pass_138 : decode cX2_pass 138 = .ok (.aload_n 0, 1) := by decide +kernel
theorem dX2_pass_139 : decode cX2_pass 139 = .ok (.getfield 31, 3) := by decide +kernel
theorem dX2_pass_142 : decode cX2_pass 142 = .ok (.arraylength, 1) := by decide +kernel
theorem dX2_pass_143 : decode cX2_pass 143 = .ok (.newarray .boolean, 2) := by decide +kernel
theorem dX2_pass_145 : decode cX2_pass 145 = .ok (.astore_n 1, 1) := by decide +kernel
theorem dX2_pass_146 : decode cX2_pass 146 = .ok (.iconst 0, 1) := by decide +kernel
theorem dX2_pass_147 : decode cX2_pass 147 = .ok (.istore_n 2, 1) := by decide +kernel
theorem dX2_pass_148 : decode cX2_pass 148 = .ok (.iconst 4, 1) := by decide +kernel
theorem dX2_pass_149 : decode cX2_pass 149 = .ok (.istore_n 3, 1) := by decide +kernel
theorem dX2_pass_150 : decode cX2_pass 150 = .ok (.iload_n 3, 1) := by decide +kernel
theorem dX2_pass_151 : decode cX2_pass 151 = .ok (.ifCond .lt 153, 3) := by decide +kernel
theorem dX2_pass_154 : decode cX2_pass 154 = .ok (.aload_n 0, 1) := by decide +kernel
theorem dX2_pass_155 : decode cX2_pass 155 = .ok (.iload_n 3, 1) := by decide +kernel
theorem dX2_pass_156 : decode cX2_pass 156 = .ok (.aload_n 1, 1) := by decide +kernel
theorem dX2_pass_157 : decode cX2_pass 157 = .ok (.invokevirtual 72, 3) := by decide +kernel
theorem dX2_pass_160 : decode cX2_pass 160 = .ok (.istore 4, 2) := by decide +kernel
theorem dX2_pass_162 : decode cX2_pass 162 = .ok (.iload 4, 2) := by decide +kernel
theorem dX2_pass_164 : decode cX2_pass 164 = .ok (.ifCond .ge 6, 3) := by decide +kernel
theorem dX2_pass_167 : decode cX2_pass 167 = .ok (.goto 131, 3) := by decide +kernel
theorem dX2_pass_170 : decode cX2_pass 170 = .ok (.aload_n 0, 1) := by decide +kernel
theorem dX2_pass_171 : decode cX2_pass 171 = .ok (.getfield 31, 3) := by decide +kernel
theorem dX2_pass_174 : decode cX2_pass 174 = .ok (.iload 4, 2) := by decide +kernel
theorem dX2_pass_176 : decode cX2_pass 176 = .ok (.aaload, 1) := by decide +kernel
theorem dX2_pass_177 : decode cX2_pass 177 = .ok (.astore 5, 2) := by decide +kernel
theorem dX2_pass_179 : decode cX2_pass 179 = .ok (.aload 5, 2) := by decide +kernel
theorem dX2_pass_181 : decode cX2_pass 181 = .ok (.iconst 1, 1) := by decide +kernel
theorem dX2_pass_182 : decode cX2_pass 182 = .ok (.iaload, 1) := by decide +kernel
theorem dX2_pass_183 : decode cX2_pass 183 = .ok (.aload 5, 2) := by decide +kernel
theorem dX2_pass_185 : decode cX2_pass 185 = .ok (.iconst 0, 1) := by decide +kernel
theorem dX2_pass_186 : decode cX2_pass 186 = .ok (.iaload, 1) := by decide +kernel
theorem dX2_pass_187 : decode cX2_pass 187 = .ok (.if_icmp .ge 7, 3) := by decide +kernel
theorem dX2_pass_190 : decode cX2_pass 190 = .ok (.iconst 1, 1) := by decide +kernel
theorem dX2_pass_191 : decode cX2_pass 191 = .ok (.goto 4, 3) := by decide +kernel
theorem dX2_pass_194 : decode cX2_pass 194 = .ok (.iconst 0, 1) := by decide +kernel
theorem dX2_pass_195 : decode cX2_pass 195 = .ok (.istore 6, 2) := by decide +kernel
theorem dX2_pass_197 : decode cX2_pass 197 = .ok (.aload_n 0, 1) := by decide +kernel
theorem dX2_pass_198 : decode cX2_pass 198 = .ok (.getfield 18, 3) := by decide +kernel
theorem dX2_pass_201 : decode cX2_pass 201 = .ok (.iload_n 3, 1) := by decide +kernel
theorem dX2_pass_202 : decode cX2_pass 202 = .ok (.aaload, 1) := by decide +kernel
theorem dX2_pass_203 : decode cX2_pass 203 = .ok (.iconst 0, 1) := by decide +kernel
theorem dX2_pass_204 : decode cX2_pass 204 = .ok (.iaload, 1) := by decide +kernel
theorem dX2_pass_205 : decode cX2_pass 205 = .ok (.iconst 1, 1) := by decide +kernel
theorem dX2_pass_206 : decode cX2_pass 206 = .ok (.if_icmp .ne 7, 3) := by decide +kernel
theorem dX2_pass_209 : decode cX2_pass 209 = .ok (.iconst 1, 1) := by decide +kernel
theorem dX2_pass_210 : decode cX2_pass 210 = .ok (.goto 4, 3) := by decide +kernel
theorem dX2_pass_213 : decode cX2_pass 213 = .ok (.iconst 0, 1) := by decide +kernel
theorem dX2_pass_214 : decode cX2_pass 214 = .ok (.iload 6, 2) := by decide +kernel
theorem dX2_pass_216 : decode cX2_pass 216 = .ok (.if_icmp .eq 8, 3) := by decide +kernel
theorem dX2_pass_219 : decode cX2_pass 219 = .ok (.aload_n 0, 1) := by decide +kernel
theorem dX2_pass_220 : decode cX2_pass 220 = .ok (.iload_n 3, 1) := by decide +kernel
theorem dX2_pass_221 : decode cX2_pass 221 = .ok (.invokevirtual 76, 3) := by decide +kernel
theorem dX2_pass_224 : decode cX2_pass 224 = .ok (.aload_n 0, 1) := by decide +kernel
theorem dX2_pass_225 : decode cX2_pass 225 = .ok (.iload_n 3, 1) := by decide +kernel
theorem dX2_pass_226 : decode cX2_pass 226 = .ok (.invokevirtual 76, 3) := by decide +kernel
theorem dX2_pass_229 : decode cX2_pass 229 = .ok (.aload 5, 2) := by decide +kernel
theorem dX2_pass_231 : decode cX2_pass 231 = .ok (.iconst 0, 1) := by decide +kernel
theorem dX2_pass_232 : decode cX2_pass 232 = .ok (.dup2, 1) := by decide +kernel
theorem dX2_pass_233 : decode cX2_pass 233 = .ok (.iaload, 1) := by decide +kernel
theorem dX2_pass_234 : decode cX2_pass 234 = .ok (.iload 6, 2) := by decide +kernel
theorem dX2_pass_236 : decode cX2_pass 236 = .ok (.ifCond .eq 7, 3) := by decide +kernel
theorem dX2_pass_239 : decode cX2_pass 239 = .ok (.iconst (-1), 1) := by decide +kernel
theorem dX2_pass_240 : decode cX2_pass 240 = .ok (.goto 4, 3) := by decide +kernel
theorem dX2_pass_243 : decode cX2_pass 243 = .ok (.iconst 1, 1) := by decide +kernel
theorem dX2_pass_244 : decode cX2_pass 244 = .ok (.iadd, 1) := by decide +kernel
theorem dX2_pass_245 : decode cX2_pass 245 = .ok (.iastore, 1) := by decide +kernel
theorem dX2_pass_246 : decode cX2_pass 246 = .ok (.aload 5, 2) := by decide +kernel
theorem dX2_pass_248 : decode cX2_pass 248 = .ok (.iconst 2, 1) := by decide +kernel
theorem dX2_pass_249 : decode cX2_pass 249 = .ok (.dup2, 1) := by decide +kernel
theorem dX2_pass_250 : decode cX2_pass 250 = .ok (.iaload, 1) := by decide +kernel
theorem dX2_pass_251 : decode cX2_pass 251 = .ok (.aload_n 0, 1) := by decide +kernel
theorem dX2_pass_252 : decode cX2_pass 252 = .ok (.getfield 28, 3) := by decide +kernel
theorem dX2_pass_255 : decode cX2_pass 255 = .ok (.isub, 1) := by decide +kernel
theorem dX2_pass_256 : decode cX2_pass 256 = .ok (.iastore, 1) := by decide +kernel
theorem dX2_pass_257 : decode cX2_pass 257 = .ok (.aload_n 0, 1) := by decide +kernel
theorem dX2_pass_258 : decode cX2_pass 258 = .ok (.dup, 1) := by decide +kernel
theorem dX2_pass_259 : decode cX2_pass 259 = .ok (.getfield 53, 3) := by decide +kernel
theorem dX2_pass_262 : decode cX2_pass 262 = .ok (.aload_n 0, 1) := by decide +kernel
theorem dX2_pass_263 : decode cX2_pass 263 = .ok (.getfield 28, 3) := by decide +kernel
theorem dX2_pass_266 : decode cX2_pass 266 = .ok (.iadd, 1) := by decide +kernel
theorem dX2_pass_267 : decode cX2_pass 267 = .ok (.putfield 53, 3) := by decide +kernel
theorem dX2_pass_270 : decode cX2_pass 270 = .ok (.aload 5, 2) := by decide +kernel
theorem dX2_pass_272 : decode cX2_pass 272 = .ok (.iconst 3, 1) := by decide +kernel
theorem dX2_pass_273 : decode cX2_pass 273 = .ok (.dup2, 1) := by decide +kernel
theorem dX2_pass_274 : decode cX2_pass 274 = .ok (.iaload, 1) := by decide +kernel
theorem dX2_pass_275 : decode cX2_pass 275 = .ok (.iconst 1, 1) := by decide +kernel
theorem dX2_pass_276 : decode cX2_pass 276 = .ok (.iadd, 1) := by decide +kernel
theorem dX2_pass_277 : decode cX2_pass 277 = .ok (.iastore, 1) := by decide +kernel
theorem dX2_pass_278 : decode cX2_pass 278 = .ok (.aload_n 0, 1) := by decide +kernel
theorem dX2_pass_279 : decode cX2_pass 279 = .ok (.getfield 18, 3) := by decide +kernel
theorem dX2_pass_282 : decode cX2_pass 282 = .ok (.iload_n 3, 1) := by decide +kernel
theorem dX2_pass_283 : decode cX2_pass 283 = .ok (.aaload, 1) := by decide +kernel
theorem dX2_pass_284 : decode cX2_pass 284 = .ok (.iconst 1, 1) := by decide +kernel
theorem dX2_pass_285 : decode cX2_pass 285 = .ok (.dup2, 1) := by decide +kernel
theorem dX2_pass_286 : decode cX2_pass 286 = .ok (.iaload, 1) := by decide +kernel
theorem dX2_pass_287 : decode cX2_pass 287 = .ok (.iconst 1, 1) := by decide +kernel
theorem dX2_pass_288 : decode cX2_pass 288 = .ok (.iadd, 1) := by decide +kernel
theorem dX2_pass_289 : decode cX2_pass 289 = .ok (.iastore, 1) := by decide +kernel
theorem dX2_pass_290 : decode cX2_pass 290 = .ok (.aload_n 1, 1) := by decide +kernel
theorem dX2_pass_291 : decode cX2_pass 291 = .ok (.iload 4, 2) := by decide +kernel
theorem dX2_pass_293 : decode cX2_pass 293 = .ok (.iconst 1, 1) := by decide +kernel
theorem dX2_pass_294 : decode cX2_pass 294 = .ok (.bastore, 1) := by decide +kernel
theorem dX2_pass_295 : decode cX2_pass 295 = .ok (.iinc 2 1, 3) := by decide +kernel
theorem dX2_pass_298 : decode cX2_pass 298 = .ok (.iinc 3 (-1), 3) := by decide +kernel
theorem dX2_pass_301 : decode cX2_pass 301 = .ok (.goto (-151), 3) := by decide +kernel
theorem dX2_pass_304 : decode cX2_pass 304 = .ok (.aload_n 0, 1) := by decide +kernel
theorem dX2_pass_305 : decode cX2_pass 305 = .ok (.dup, 1) := by decide +kernel
theorem dX2_pass_306 : decode cX2_pass 306 = .ok (.getfield 39, 3) := by decide +kernel
theorem dX2_pass_309 : decode cX2_pass 309 = .ok (.iconst 1, 1) := by decide +kernel
theorem dX2_pass_310 : decode cX2_pass 310 = .ok (.iadd, 1) := by decide +kernel
theorem dX2_pass_311 : decode cX2_pass 311 = .ok (.putfield 39, 3) := by decide +kernel
theorem dX2_pass_314 : decode cX2_pass 314 = .ok (.iload_n 2, 1) := by decide +kernel
theorem dX2_pass_315 : decode cX2_pass 315 = .ok (.ireturn, 1) := by decide +kernel
theorem dX2_counts_0 : decode cX2_counts 0 = .ok (.bipush 10, 2) := by decide +kernel
theorem dX2_counts_2 : decode cX2_counts 2 = .ok (.newarray .int, 2) := by decide +kernel
theorem dX2_counts_4 : decode cX2_counts 4 = .ok (.dup, 1) := by decide +kernel
theorem dX2_counts_5 : decode cX2_counts 5 = .ok (.iconst 0, 1) := by decide +kernel
theorem dX2_counts_6 : decode cX2_counts 6 = .ok (.aload_n 0, 1) := by decide +kernel
theorem dX2_counts_7 : decode cX2_counts 7 = .ok (.getfield 39, 3) := by decide +kernel
theorem dX2_counts_10 : decode cX2_counts 10 = .ok (.iastore, 1) := by decide +kernel
theorem dX2_counts_11 : decode cX2_counts 11 = .ok (.dup, 1) := by decide +kernel
theorem dX2_counts_12 : decode cX2_counts 12 = .ok (.iconst 1, 1) := by decide +kernel
theorem dX2_counts_13 : decode cX2_counts 13 = .ok (.aload_n 0, 1) := by decide +kernel
theorem dX2_counts_14 : decode cX2_counts 14 = .ok (.getfield 31, 3) := by decide +kernel
theorem dX2_counts_17 : decode cX2_counts 17 = .ok (.arraylength, 1) := by decide +kernel
theorem dX2_counts_18 : decode cX2_counts 18 = .ok (.iastore, 1) := by decide +kernel
theorem dX2_counts_19 : decode cX2_counts 19 = .ok (.dup, 1) := by decide +kernel
theorem dX2_counts_20 : decode cX2_counts 20 = .ok (.iconst 2, 1) := by decide +kernel
theorem dX2_counts_21 : decode cX2_counts 21 = .ok (.iconst 0, 1) := by decide +kernel
theorem dX2_counts_22 : decode cX2_counts 22 = .ok (.iastore, 1) := by decide +kernel
theorem dX2_counts_23 : decode cX2_counts 23 = .ok (.dup, 1) := by decide +kernel
theorem dX2_counts_24 : decode cX2_counts 24 = .ok (.iconst 3, 1) := by decide +kernel
theorem dX2_counts_25 : decode cX2_counts 25 = .ok (.aload_n 0, 1) := by decide +kernel
theorem dX2_counts_26 : decode cX2_counts 26 = .ok (.getfield 53, 3) := by decide +kernel
theorem dX2_counts_29 : decode cX2_counts 29 = .ok (.iastore, 1) := by decide +kernel
theorem dX2_counts_30 : decode cX2_counts 30 = .ok (.dup, 1) := by decide +kernel
theorem dX2_counts_31 : decode cX2_counts 31 = .ok (.iconst 4, 1) := by decide +kernel
theorem dX2_counts_32 : decode cX2_counts 32 = .ok (.iconst 0, 1) := by decide +kernel
theorem dX2_counts_33 : decode cX2_counts 33 = .ok (.iastore, 1) := by decide +kernel
theorem dX2_counts_34 : decode cX2_counts 34 = .ok (.dup, 1) := by decide +kernel
theorem dX2_counts_35 : decode cX2_counts 35 = .ok (.iconst 5, 1) := by decide +kernel
theorem dX2_counts_36 : decode cX2_counts 36 = .ok (.iconst 0, 1) := by decide +kernel
theorem dX2_counts_37 : decode cX2_counts 37 = .ok (.iastore, 1) := by decide +kernel
theorem dX2_counts_38 : decode cX2_counts 38 = .ok (.dup, 1) := by decide +kernel
theorem dX2_counts_39 : decode cX2_counts 39 = .ok (.bipush 6, 2) := by decide +kernel
theorem dX2_counts_41 : decode cX2_counts 41 = .ok (.aload_n 0, 1) := by decide +kernel
theorem dX2_counts_42 : decode cX2_counts 42 = .ok (.getfield 46, 3) := by decide +kernel
theorem dX2_counts_45 : decode cX2_counts 45 = .ok (.iastore, 1) := by decide +kernel
theorem dX2_counts_46 : decode cX2_counts 46 = .ok (.dup, 1) := by decide +kernel
theorem dX2_counts_47 : decode cX2_counts 47 = .ok (.bipush 7, 2) := by decide +kernel
theorem dX2_counts_49 : decode cX2_counts 49 = .ok (.aload_n 0, 1) := by decide +kernel
theorem dX2_counts_50 : decode cX2_counts 50 = .ok (.getfield 28, 3) := by decide +kernel
theorem dX2_counts_53 : decode cX2_counts 53 = .ok (.iastore, 1) := by decide +kernel
theorem dX2_counts_54 : decode cX2_counts 54 = .ok (.dup, 1) := by decide +kernel
theorem dX2_counts_55 : decode cX2_counts 55 = .ok (.bipush 8, 2) := by decide +kernel
theorem dX2_counts_57 : decode cX2_counts 57 = .ok (.aload_n 0, 1) := by decide +kernel
theorem dX2_counts_58 : decode cX2_counts 58 = .ok (.getfield 25, 3) := by decide +kernel
theorem dX2_counts_61 : decode cX2_counts 61 = .ok (.iastore, 1) := by decide +kernel
theorem dX2_counts_62 : decode cX2_counts 62 = .ok (.dup, 1) := by decide +kernel
theorem dX2_counts_63 : decode cX2_counts 63 = .ok (.bipush 9, 2) := by decide +kernel
theorem dX2_counts_65 : decode cX2_counts 65 = .ok (.aload_n 0, 1) := by decide +kernel
theorem dX2_counts_66 : decode cX2_counts 66 = .ok (.getfield 21, 3) := by decide +kernel
theorem dX2_counts_69 : decode cX2_counts 69 = .ok (.iastore, 1) := by decide +kernel
theorem dX2_counts_70 : decode cX2_counts 70 = .ok (.astore_n 1, 1) := by decide +kernel
theorem dX2_counts_71 : decode cX2_counts 71 = .ok (.aload_n 0, 1) := by decide +kernel
theorem dX2_counts_72 : decode cX2_counts 72 = .ok (.getfield 31, 3) := by decide +kernel
theorem dX2_counts_75 : decode cX2_counts 75 = .ok (.astore_n 2, 1) := by decide +kernel
theorem dX2_counts_76 : decode cX2_counts 76 = .ok (.aload_n 2, 1) := by decide +kernel
theorem dX2_counts_77 : decode cX2_counts 77 = .ok (.arraylength, 1) := by decide +kernel
theorem dX2_counts_78 : decode cX2_counts 78 = .ok (.istore_n 3, 1) := by decide +kernel
theorem dX2_counts_79 : decode cX2_counts 79 = .ok (.iconst 0, 1) := by decide +kernel
theorem dX2_counts_80 : decode cX2_counts 80 = .ok (.istore 4, 2) := by decide +kernel
theorem dX2_counts_82 : decode cX2_counts 82 = .ok (.iload 4, 2) := by decide +kernel
theorem dX2_counts_84 : decode cX2_counts 84 = .ok (.iload_n 3, 1) := by decide +kernel
theorem dX2_counts_85 : decode cX2_counts 85 = .ok (.if_icmp .ge 37, 3) := by decide +kernel
theorem dX2_counts_88 : decode cX2_counts 88 = .ok (.aload_n 2, 1) := by decide +kernel
theorem dX2_counts_89 : decode cX2_counts 89 = .ok (.iload 4, 2) := by decide +kernel
theorem dX2_counts_91 : decode cX2_counts 91 = .ok (.aaload, 1) := by decide +kernel
theorem dX2_counts_92 : decode cX2_counts 92 = .ok (.astore 5, 2) := by decide +kernel
theorem dX2_counts_94 : decode cX2_counts 94 = .ok (.aload_n 1, 1) := by decide +kernel
theorem dX2_counts_95 : decode cX2_counts 95 = .ok (.iconst 2, 1) := by decide +kernel
theorem dX2_counts_96 : decode cX2_counts 96 = .ok (.dup2, 1) := by decide +kernel
theorem dX2_counts_97 : decode cX2_counts 97 = .ok (.iaload, 1) := by decide +kernel
theorem dX2_counts_98 : decode cX2_counts 98 = .ok (.aload 5, 2) := by decide +kernel
theorem dX2_counts_100 : decode cX2_counts 100 = .ok (.iconst 0, 1) := by decide +kernel
theorem dX2_counts_101 : decode cX2_counts 101 = .ok (.iaload, 1) := by decide +kernel
theorem dX2_counts_102 : decode cX2_counts 102 = .ok (.aload 5, 2) := by decide +kernel
theorem dX2_counts_104 : decode cX2_counts 104 = .ok (.iconst 1, 1) := by decide +kernel
theorem dX2_counts_105 : decode cX2_counts 105 = .ok (.iaload, 1) := by decide +kernel
theorem dX2_counts_106 : decode cX2_counts 106 = .ok (.if_icmp .ne 7, 3) := by decide +kernel
theorem dX2_counts_109 : decode cX2_counts 109 = .ok (.iconst 1, 1) := by decide +kernel
theorem dX2_counts_110 : decode cX2_counts 110 = .ok (.goto 4, 3) := by decide +kernel
theorem dX2_counts_113 : decode cX2_counts 113 = .ok (.iconst 0, 1) := by decide +kernel
theorem dX2_counts_114 : decode cX2_counts 114 = .ok (.iadd, 1) := by decide +kernel
theorem dX2_counts_115 : decode cX2_counts 115 = .ok (.iastore, 1) := by decide +kernel
theorem dX2_counts_116 : decode cX2_counts 116 = .ok (.iinc 4 1, 3) := by decide +kernel
theorem dX2_counts_119 : decode cX2_counts 119 = .ok (.goto (-37), 3) := by decide +kernel
theorem dX2_counts_122 : decode cX2_counts 122 = .ok (.aload_n 0, 1) := by decide +kernel
theorem dX2_counts_123 : decode cX2_counts 123 = .ok (.getfield 14, 3) := by decide +kernel
theorem dX2_counts_126 : decode cX2_counts 126 = .ok (.astore_n 2, 1) := by decide +kernel
theorem dX2_counts_127 : decode cX2_counts 127 = .ok (.aload_n 2, 1) := by decide +kernel
theorem dX2_counts_128 : decode cX2_counts 128 = .ok (.arraylength, 1) := by decide +kernel
theorem dX2_counts_129 : decode cX2_counts 129 = .ok (.istore_n 3, 1) := by decide +kernel
theorem dX2_counts_130 : decode cX2_counts 130 = .ok (.iconst 0, 1) := by decide +kernel
theorem dX2_counts_131 : decode cX2_counts 131 = .ok (.istore 4, 2) := by decide +kernel
theorem dX2_counts_133 : decode cX2_counts 133 = .ok (.iload 4, 2) := by decide +kernel
theorem dX2_counts_135 : decode cX2_counts 135 = .ok (.iload_n 3, 1) := by decide +kernel
theorem dX2_counts_136 : decode cX2_counts 136 = .ok (.if_icmp .ge 25, 3) := by decide +kernel
theorem dX2_counts_139 : decode cX2_counts 139 = .ok (.aload_n 2, 1) := by decide +kernel
theorem dX2_counts_140 : decode cX2_counts 140 = .ok (.iload 4, 2) := by decide +kernel
theorem dX2_counts_142 : decode cX2_counts 142 = .ok (.aaload, 1) := by decide +kernel
theorem dX2_counts_143 : decode cX2_counts 143 = .ok (.astore 5, 2) := by decide +kernel
theorem dX2_counts_145 : decode cX2_counts 145 = .ok (.aload_n 1, 1) := by decide +kernel
theorem dX2_counts_146 : decode cX2_counts 146 = .ok (.iconst 4, 1) := by decide +kernel
theorem dX2_counts_147 : decode cX2_counts 147 = .ok (.dup2, 1) := by decide +kernel
theorem dX2_counts_148 : decode cX2_counts 148 = .ok (.iaload, 1) := by decide +kernel
theorem dX2_counts_149 : decode cX2_counts 149 = .ok (.aload 5, 2) := by decide +kernel
theorem dX2_counts_151 : decode cX2_counts 151 = .ok (.iconst 0, 1) := by decide +kernel
theorem dX2_counts_152 : decode cX2_counts 152 = .ok (.iaload, 1) := by decide +kernel
theorem dX2_counts_153 : decode cX2_counts 153 = .ok (.iadd, 1) := by decide +kernel
theorem dX2_counts_154 : decode cX2_counts 154 = .ok (.iastore, 1) := by decide +kernel
theorem dX2_counts_155 : decode cX2_counts 155 = .ok (.iinc 4 1, 3) := by decide +kernel
theorem dX2_counts_158 : decode cX2_counts 158 = .ok (.goto (-25), 3) := by decide +kernel
theorem dX2_counts_161 : decode cX2_counts 161 = .ok (.aload_n 0, 1) := by decide +kernel
theorem dX2_counts_162 : decode cX2_counts 162 = .ok (.getfield 18, 3) := by decide +kernel
theorem dX2_counts_165 : decode cX2_counts 165 = .ok (.astore_n 2, 1) := by decide +kernel
theorem dX2_counts_166 : decode cX2_counts 166 = .ok (.aload_n 2, 1) := by decide +kernel
theorem dX2_counts_167 : decode cX2_counts 167 = .ok (.arraylength, 1) := by decide +kernel
theorem dX2_counts_168 : decode cX2_counts 168 = .ok (.istore_n 3, 1) := by decide +kernel
theorem dX2_counts_169 : decode cX2_counts 169 = .ok (.iconst 0, 1) := by decide +kernel
theorem dX2_counts_170 : decode cX2_counts 170 = .ok (.istore 4, 2) := by decide +kernel
theorem dX2_counts_172 : decode cX2_counts 172 = .ok (.iload 4, 2) := by decide +kernel
theorem dX2_counts_174 : decode cX2_counts 174 = .ok (.iload_n 3, 1) := by decide +kernel
theorem dX2_counts_175 : decode cX2_counts 175 = .ok (.if_icmp .ge 25, 3) := by decide +kernel
theorem dX2_counts_178 : decode cX2_counts 178 = .ok (.aload_n 2, 1) := by decide +kernel
theorem dX2_counts_179 : decode cX2_counts 179 = .ok (.iload 4, 2) := by decide +kernel
theorem dX2_counts_181 : decode cX2_counts 181 = .ok (.aaload, 1) := by decide +kernel
theorem dX2_counts_182 : decode cX2_counts 182 = .ok (.astore 5, 2) := by decide +kernel
theorem dX2_counts_184 : decode cX2_counts 184 = .ok (.aload_n 1, 1) := by decide +kernel
theorem dX2_counts_185 : decode cX2_counts 185 = .ok (.iconst 5, 1) := by decide +kernel
theorem dX2_counts_186 : decode cX2_counts 186 = .ok (.dup2, 1) := by decide +kernel
theorem dX2_counts_187 : decode cX2_counts 187 = .ok (.iaload, 1) := by decide +kernel
theorem dX2_counts_188 : decode cX2_counts 188 = .ok (.aload 5, 2) := by decide +kernel
theorem dX2_counts_190 : decode cX2_counts 190 = .ok (.iconst 0, 1) := by decide +kernel
theorem dX2_counts_191 : decode cX2_counts 191 = .ok (.iaload, 1) := by decide +kernel
theorem dX2_counts_192 : decode cX2_counts 192 = .ok (.iadd, 1) := by decide +kernel
theorem dX2_counts_193 : decode cX2_counts 193 = .ok (.iastore, 1) := by decide +kernel
theorem dX2_counts_194 : decode cX2_counts 194 = .ok (.iinc 4 1, 3) := by decide +kernel
theorem dX2_counts_197 : decode cX2_counts 197 = .ok (.goto (-25), 3) := by decide +kernel
theorem dX2_counts_200 : decode cX2_counts 200 = .ok (.aload_n 1, 1) := by decide +kernel
theorem dX2_counts_201 : decode cX2_counts 201 = .ok (.areturn, 1) := by decide +kernel
set_option maxRecDepth 20000 in
theorem ggX2_isSame_X2_counts : GoodIn wsX2_isSame wsX2_counts := goodIn_r _ [10, 11, 12, 1, 13, 14, 15, 16, 17, 2, 4, 147, 148, 149, 150, 151, 152, 153, 154, 155, 156, 157] (by decide +kernel) (by decide +kernel)
set_option maxRecDepth 20000 in
theorem gX2_isSame_X2_counts : GoodIn wsX2_isSame (wsV RX2 84 RX2 yX2_counts wsX2_counts) := goodIn_app (goodIn_of _ (by decide +kernel)) ggX2_isSame_X2_counts
set_option maxRecDepth 20000 in
theorem ggX2_isSame_X1_count : GoodIn wsX2_isSame wsX1_count := goodIn_ca (goodIn_r _ [22, 23, 24, 25, 21, 26, 27, 28, 29, 30, 31, 32, 33, 34, 35, 36, 37, 38, 39, 40, 41, 42, 43, 44, 45, 46, 47, 48, 49, 50, 51, 52, 53, 54, 55, 56, 57, 58, 59, 60, 61, 158, 159, 160, 161, 162, 163, 164, 165, 166, 167, 168, 169, 170, 171, 172, 173, 174, 175, 176, 177] (by decide +kernel) (by decide +kernel)) (goodIn_sub (fun _ h => List.mem_cons_of_mem _ (List.mem_append_right _ h)) (by decide +kernel))
set_option maxRecDepth 20000 in
theorem gX2_isSame_X1_count : GoodIn wsX2_isSame (wsV RX2 88 RX1 yX1_count wsX1_count) := goodIn_app (goodIn_of _ (by decide +kernel)) ggX2_isSame_X1_count
set_option maxRecDepth 20000 in
theorem ggX2_isSame_X1_pound : GoodIn wsX2_isSame wsX1_pound := goodIn_ca (goodIn_r _ [65, 23, 24, 25, 21, 26, 27, 28, 66, 67, 68, 32, 69, 56, 37, 38, 70, 71, 72, 73, 35, 50, 158, 159, 160, 161, 162, 163, 164, 165, 166, 167, 168, 169, 170, 171, 172, 173, 174, 175, 176, 177] (by decide +kernel) (by decide +kernel)) (goodIn_sub (fun _ h => List.mem_cons_of_mem _ (List.mem_append_right _ h)) (by decide +kernel))
set_option maxRecDepth 20000 in
theorem gX2_isSame_X1_pound : GoodIn wsX2_isSame (wsV RX2 94 RX1 yX1_pound wsX1_pound) := goodIn_app (goodIn_of _ (by decide +kernel)) ggX2_isSame_X1_pound
set_option maxRecDepth 20000 in
theorem ggX2_isSame_X2_lockOf : GoodIn wsX2_isSame wsX2_lockOf := goodIn_r _ [77] (by decide +kernel) (by decide +kernel)
set_option maxRecDepth 20000 in
theorem gX2_isSame_X2_lockOf : GoodIn wsX2_isSame (wsV RX2 60 RX2 yX2_lockOf wsX2_lockOf) := goodIn_app (goodIn_of _ (by decide +kernel)) ggX2_isSame_X2_lockOf
set_option maxRecDepth 20000 in
theorem ggX2_isSame_X1_lock : GoodIn wsX2_isSame wsX1_lock := goodIn_ca (goodIn_r _ [81, 23, 24, 25, 21, 26, 27, 28, 82, 83, 84, 32, 85, 61, 86, 87, 88, 89, 90, 91, 35, 92, 93, 94, 95, 50, 46, 47, 48, 49, 51, 96, 97, 98, 99, 100, 101, 102, 103, 104, 105, 106, 107, 108, 39, 109, 110, 111, 112, 113, 114, 115, 116, 117, 56, 158, 159, 160, 161, 162, 163, 164, 165, 166, 167, 168, 169, 170, 171, 172, 173, 174, 175, 176, 177] (by decide +kernel) (by decide +kernel)) (goodIn_sub (fun _ h => List.mem_cons_of_mem _ (List.mem_append_right _ h)) (by decide +kernel))
set_option maxRecDepth 20000 in
theorem gX2_isSame_X1_lock : GoodIn wsX2_isSame (wsV RX2 98 RX1 yX1_lock wsX1_lock) := goodIn_app (goodIn_of _ (by decide +kernel)) ggX2_isSame_X1_lock
set_option maxRecDepth 20000 in
theorem ggX2_isSame_X2_next : GoodIn wsX2_isSame wsX2_next := goodIn_r _ [121, 1, 122, 123, 124, 9, 125, 15, 4, 126, 74, 75, 76, 77, 127, 128, 129, 130, 2, 147, 148, 149, 150, 151, 152, 153, 154, 155, 156, 157] (by decide +kernel) (by decide +kernel)
set_option maxRecDepth 20000 in
theorem gX2_isSame_X2_next : GoodIn wsX2_isSame (wsV RX2 72 RX2 yX2_next wsX2_next) := goodIn_app (goodIn_of _ (by decide +kernel)) ggX2_isSame_X2_next
set_option maxRecDepth 20000 in
theorem ggX2_isSame_X1_told : GoodIn wsX2_isSame wsX1_told := goodIn_ca (goodIn_r _ [134, 23, 135, 24, 25, 21, 26, 27, 28, 136, 137, 138, 32, 139, 50, 51, 108, 140, 92, 93, 94, 95, 46, 47, 48, 49, 96, 97, 98, 99, 158, 159, 160, 161, 162, 163, 164, 165, 166, 167, 168, 169, 170, 171, 172, 173, 174, 175, 176, 177] (by decide +kernel) (by decide +kernel)) (goodIn_sub (fun _ h => List.mem_cons_of_mem _ (List.mem_append_right _ h)) (by decide +kernel))
set_option maxRecDepth 20000 in
theorem gX2_isSame_X1_told : GoodIn wsX2_isSame (wsV RX2 101 RX1 yX1_told wsX1_told) := goodIn_app (goodIn_of _ (by decide +kernel)) ggX2_isSame_X1_told
set_option maxRecDepth 20000 in
theorem ggX2_isSame_X1_mean : GoodIn wsX2_isSame wsX1_mean := goodIn_r _ [144, 23, 145, 146, 53, 54, 32, 55, 56, 158, 159, 160, 161, 162, 163, 164, 165, 166, 167, 168, 169, 170, 171, 172, 173, 174, 175, 176, 177] (by decide +kernel) (by decide +kernel)
set_option maxRecDepth 20000 in
theorem gX2_isSame_X1_mean : GoodIn wsX2_isSame (wsV RX2 104 RX1 yX1_mean wsX1_mean) := goodIn_app (goodIn_of _ (by decide +kernel)) ggX2_isSame_X1_mean
theorem dX2_isSame_0 : decode cX2_isSame 0 = .ok (.aload_n 0, 1) := by decide +kernel
theorem dX2_isSame_1 : decode cX2_isSame 1 = .ok (.invokevirtual 84, 3) := by decide +kernel
theorem dX2_isSame_4 : decode cX2_isSame 4 = .ok (.astore_n 2, 1) := by decide +kernel
theorem dX2_isSame_5 : decode cX2_isSame 5 = .ok (.iconst 0, 1) := by decide +kernel
theorem dX2_isSame_6 : decode cX2_isSame 6 = .ok (.istore_n 3, 1) := by decide +kernel
theorem dX2_isSame_7 : decode cX2_isSame 7 = .ok (.iload_n 3, 1) := by decide +kernel
theorem dX2_isSame_8 : decode cX2_isSame 8 = .ok (.bipush 10, 2) := by decide +kernel
theorem dX2_isSame_10 : decode cX2_isSame 10 = .ok (.if_icmp .ge 22, 3) := by decide +kernel
theorem dX2_isSame_13 : decode cX2_isSame 13 = .ok (.aload_n 1, 1) := by decide +kernel
theorem dX2_isSame_14 : decode cX2_isSame 14 = .ok (.iload_n 3, 1) := by decide +kernel
theorem dX2_isSame_15 : decode cX2_isSame 15 = .ok (.invokevirtual 88, 3) := by decide +kernel
theorem dX2_isSame_18 : decode cX2_isSame 18 = .ok (.aload_n 2, 1) := by decide +kernel
theorem dX2_isSame_19 : decode cX2_isSame 19 = .ok (.iload_n 3, 1) := by decide +kernel
theorem dX2_isSame_20 : decode cX2_isSame 20 = .ok (.iaload, 1) := by decide +kernel
theorem dX2_isSame_21 : decode cX2_isSame 21 = .ok (.if_icmp .eq 5, 3) := by decide +kernel
theorem dX2_isSame_24 : decode cX2_isSame 24 = .ok (.iconst 0, 1) := by decide +kernel
theorem dX2_isSame_25 : decode cX2_isSame 25 = .ok (.ireturn, 1) := by decide +kernel
theorem dX2_isSame_26 : decode cX2_isSame 26 = .ok (.iinc 3 1, 3) := by decide +kernel
theorem dX2_isSame_29 : decode cX2_isSame 29 = .ok (.goto (-22), 3) := by decide +kernel
theorem dX2_isSame_32 : decode cX2_isSame 32 = .ok (.iconst 0, 1) := by decide +kernel
theorem dX2_isSame_33 : decode cX2_isSame 33 = .ok (.istore_n 3, 1) := by decide +kernel
theorem dX2_isSame_34 : decode cX2_isSame 34 = .ok (.iload_n 3, 1) := by decide +kernel
theorem dX2_isSame_35 : decode cX2_isSame 35 = .ok (.bipush 6, 2) := by decide +kernel
theorem dX2_isSame_37 : decode cX2_isSame 37 = .ok (.if_icmp .ge 128, 3) := by decide +kernel
theorem dX2_isSame_40 : decode cX2_isSame 40 = .ok (.iconst 0, 1) := by decide +kernel
theorem dX2_isSame_41 : decode cX2_isSame 41 = .ok (.istore 4, 2) := by decide +kernel
theorem dX2_isSame_43 : decode cX2_isSame 43 = .ok (.aload_n 0, 1) := by decide +kernel
theorem dX2_isSame_44 : decode cX2_isSame 44 = .ok (.getfield 31, 3) := by decide +kernel
theorem dX2_isSame_47 : decode cX2_isSame 47 = .ok (.astore 5, 2) := by decide +kernel
theorem dX2_isSame_49 : decode cX2_isSame 49 = .ok (.aload 5, 2) := by decide +kernel
theorem dX2_isSame_51 : decode cX2_isSame 51 = .ok (.arraylength, 1) := by decide +kernel
theorem dX2_isSame_52 : decode cX2_isSame 52 = .ok (.istore 6, 2) := by decide +kernel
theorem dX2_isSame_54 : decode cX2_isSame 54 = .ok (.iconst 0, 1) := by decide +kernel
theorem dX2_isSame_55 : decode cX2_isSame 55 = .ok (.istore 7, 2) := by decide +kernel
theorem dX2_isSame_57 : decode cX2_isSame 57 = .ok (.iload 7, 2) := by decide +kernel
theorem dX2_isSame_59 : decode cX2_isSame 59 = .ok (.iload 6, 2) := by decide +kernel
theorem dX2_isSame_61 : decode cX2_isSame 61 = .ok (.if_icmp .ge 34, 3) := by decide +kernel
theorem dX2_isSame_64 : decode cX2_isSame 64 = .ok (.aload 5, 2) := by decide +kernel
theorem dX2_isSame_66 : decode cX2_isSame 66 = .ok (.iload 7, 2) := by decide +kernel
theorem dX2_isSame_68 : decode cX2_isSame 68 = .ok (.aaload, 1) := by decide +kernel
theorem dX2_isSame_69 : decode cX2_isSame 69 = .ok (.astore 8, 2) := by decide +kernel
theorem dX2_isSame_71 : decode cX2_isSame 71 = .ok (.iload 4, 2) := by decide +kernel
theorem dX2_isSame_73 : decode cX2_isSame 73 = .ok (.aload 8, 2) := by decide +kernel
theorem dX2_isSame_75 : decode cX2_isSame 75 = .ok (.iconst 0, 1) := by decide +kernel
theorem dX2_isSame_76 : decode cX2_isSame 76 = .ok (.iaload, 1) := by decide +kernel
theorem dX2_isSame_77 : decode cX2_isSame 77 = .ok (.iload_n 3, 1) := by decide +kernel
theorem dX2_isSame_78 : decode cX2_isSame 78 = .ok (.if_icmp .ne 7, 3) := by decide +kernel
theorem dX2_isSame_81 : decode cX2_isSame 81 = .ok (.iconst 1, 1) := by decide +kernel
theorem dX2_isSame_82 : decode cX2_isSame 82 = .ok (.goto 4, 3) := by decide +kernel
theorem dX2_isSame_85 : decode cX2_isSame 85 = .ok (.iconst 0, 1) := by decide +kernel
theorem dX2_isSame_86 : decode cX2_isSame 86 = .ok (.iadd, 1) := by decide +kernel
theorem dX2_isSame_87 : decode cX2_isSame 87 = .ok (.istore 4, 2) := by decide +kernel
theorem dX2_isSame_89 : decode cX2_isSame 89 = .ok (.iinc 7 1, 3) := by decide +kernel
theorem dX2_isSame_92 : decode cX2_isSame 92 = .ok (.goto (-35), 3) := by decide +kernel
theorem dX2_isSame_95 : decode cX2_isSame 95 = .ok (.aload_n 1, 1) := by decide +kernel
theorem dX2_isSame_96 : decode cX2_isSame 96 = .ok (.iload_n 3, 1) := by decide +kernel
theorem dX2_isSame_97 : decode cX2_isSame 97 = .ok (.iconst 0, 1) := by decide +kernel
theorem dX2_isSame_98 : decode cX2_isSame 98 = .ok (.invokevirtual 94, 3) := by decide +kernel
theorem dX2_isSame_101 : decode cX2_isSame 101 = .ok (.aload_n 0, 1) := by decide +kernel
theorem dX2_isSame_102 : decode cX2_isSame 102 = .ok (.getfield 14, 3) := by decide +kernel
theorem dX2_isSame_105 : decode cX2_isSame 105 = .ok (.iload_n 3, 1) := by decide +kernel
theorem dX2_isSame_106 : decode cX2_isSame 106 = .ok (.aaload, 1) := by decide +kernel
theorem dX2_isSame_107 : decode cX2_isSame 107 = .ok (.iconst 0, 1) := by decide +kernel
theorem dX2_isSame_108 : decode cX2_isSame 108 = .ok (.iaload, 1) := by decide +kernel
theorem dX2_isSame_109 : decode cX2_isSame 109 = .ok (.if_icmp .ne 48, 3) := by decide +kernel
theorem dX2_isSame_112 : decode cX2_isSame 112 = .ok (.aload_n 1, 1) := by decide +kernel
theorem dX2_isSame_113 : decode cX2_isSame 113 = .ok (.iload_n 3, 1) := by decide +kernel
theorem dX2_isSame_114 : decode cX2_isSame 114 = .ok (.iconst 1, 1) := by decide +kernel
theorem dX2_isSame_115 : decode cX2_isSame 115 = .ok (.invokevirtual 94, 3) := by decide +kernel
theorem dX2_isSame_118 : decode cX2_isSame 118 = .ok (.iload 4, 2) := by decide +kernel
theorem dX2_isSame_120 : decode cX2_isSame 120 = .ok (.if_icmp .ne 37, 3) := by decide +kernel
theorem dX2_isSame_123 : decode cX2_isSame 123 = .ok (.aload_n 1, 1) := by decide +kernel
theorem dX2_isSame_124 : decode cX2_isSame 124 = .ok (.iload_n 3, 1) := by decide +kernel
theorem dX2_isSame_125 : decode cX2_isSame 125 = .ok (.iconst 2, 1) := by decide +kernel
theorem dX2_isSame_126 : decode cX2_isSame 126 = .ok (.invokevirtual 94, 3) := by decide +kernel
theorem dX2_isSame_129 : decode cX2_isSame 129 = .ok (.aload_n 0, 1) := by decide +kernel
theorem dX2_isSame_130 : decode cX2_isSame 130 = .ok (.getfield 14, 3) := by decide +kernel
theorem dX2_isSame_133 : decode cX2_isSame 133 = .ok (.iload_n 3, 1) := by decide +kernel
theorem dX2_isSame_134 : decode cX2_isSame 134 = .ok (.aaload, 1) := by decide +kernel
theorem dX2_isSame_135 : decode cX2_isSame 135 = .ok (.iconst 1, 1) := by decide +kernel
theorem dX2_isSame_136 : decode cX2_isSame 136 = .ok (.iaload, 1) := by decide +kernel
theorem dX2_isSame_137 : decode cX2_isSame 137 = .ok (.if_icmp .ne 20, 3) := by decide +kernel
theorem dX2_isSame_140 : decode cX2_isSame 140 = .ok (.aload_n 1, 1) := by decide +kernel
theorem dX2_isSame_141 : decode cX2_isSame 141 = .ok (.iload_n 3, 1) := by decide +kernel
theorem dX2_isSame_142 : decode cX2_isSame 142 = .ok (.iconst 3, 1) := by decide +kernel
theorem dX2_isSame_143 : decode cX2_isSame 143 = .ok (.invokevirtual 94, 3) := by decide +kernel
theorem dX2_isSame_146 : decode cX2_isSame 146 = .ok (.aload_n 0, 1) := by decide +kernel
theorem dX2_isSame_147 : decode cX2_isSame 147 = .ok (.getfield 14, 3) := by decide +kernel
theorem dX2_isSame_150 : decode cX2_isSame 150 = .ok (.iload_n 3, 1) := by decide +kernel
theorem dX2_isSame_151 : decode cX2_isSame 151 = .ok (.aaload, 1) := by decide +kernel
theorem dX2_isSame_152 : decode cX2_isSame 152 = .ok (.iconst 2, 1) := by decide +kernel
theorem dX2_isSame_153 : decode cX2_isSame 153 = .ok (.iaload, 1) := by decide +kernel
theorem dX2_isSame_154 : decode cX2_isSame 154 = .ok (.if_icmp .eq 5, 3) := by decide +kernel
theorem dX2_isSame_157 : decode cX2_isSame 157 = .ok (.iconst 0, 1) := by decide +kernel
theorem dX2_isSame_158 : decode cX2_isSame 158 = .ok (.ireturn, 1) := by decide +kernel
theorem dX2_isSame_159 : decode cX2_isSame 159 = .ok (.iinc 3 1, 3) := by decide +kernel
theorem dX2_isSame_162 : decode cX2_isSame 162 = .ok (.goto (-128), 3) := by decide +kernel
theorem dX2_isSame_165 : decode cX2_isSame 165 = .ok (.aload_n 0, 1) := by decide +kernel
theorem dX2_isSame_166 : decode cX2_isSame 166 = .ok (.getfield 31, 3) := by decide +kernel
theorem dX2_isSame_169 : decode cX2_isSame 169 = .ok (.arraylength, 1) := by decide +kernel
theorem dX2_isSame_170 : decode cX2_isSame 170 = .ok (.newarray .boolean, 2) := by decide +kernel
theorem dX2_isSame_172 : decode cX2_isSame 172 = .ok (.astore_n 3, 1) := by decide +kernel
theorem dX2_isSame_173 : decode cX2_isSame 173 = .ok (.iconst 0, 1) := by decide +kernel
theorem dX2_isSame_174 : decode cX2_isSame 174 = .ok (.istore 4, 2) := by decide +kernel
theorem dX2_isSame_176 : decode cX2_isSame 176 = .ok (.iload 4, 2) := by decide +kernel
theorem dX2_isSame_178 : decode cX2_isSame 178 = .ok (.iconst 5, 1) := by decide +kernel
theorem dX2_isSame_179 : decode cX2_isSame 179 = .ok (.if_icmp .ge 155, 3) := by decide +kernel
theorem dX2_isSame_182 : decode cX2_isSame 182 = .ok (.iconst 0, 1) := by decide +kernel
theorem dX2_isSame_183 : decode cX2_isSame 183 = .ok (.istore 5, 2) := by decide +kernel
theorem dX2_isSame_185 : decode cX2_isSame 185 = .ok (.aload_n 0, 1) := by decide +kernel
theorem dX2_isSame_186 : decode cX2_isSame 186 = .ok (.getfield 31, 3) := by decide +kernel
theorem dX2_isSame_189 : decode cX2_isSame 189 = .ok (.astore 6, 2) := by decide +kernel
theorem dX2_isSame_191 : decode cX2_isSame 191 = .ok (.aload 6, 2) := by decide +kernel
theorem dX2_isSame_193 : decode cX2_isSame 193 = .ok (.arraylength, 1) := by decide +kernel
theorem dX2_isSame_194 : decode cX2_isSame 194 = .ok (.istore 7, 2) := by decide +kernel
theorem dX2_isSame_196 : decode cX2_isSame 196 = .ok (.iconst 0, 1) := by decide +kernel
theorem dX2_isSame_197 : decode cX2_isSame 197 = .ok (.istore 8, 2) := by decide +kernel
theorem dX2_isSame_199 : decode cX2_isSame 199 = .ok (.iload 8, 2) := by decide +kernel
theorem dX2_isSame_201 : decode cX2_isSame 201 = .ok (.iload 7, 2) := by decide +kernel
theorem dX2_isSame_203 : decode cX2_isSame 203 = .ok (.if_icmp .ge 37, 3) := by decide +kernel
theorem dX2_isSame_206 : decode cX2_isSame 206 = .ok (.aload 6, 2) := by decide +kernel
theorem dX2_isSame_208 : decode cX2_isSame 208 = .ok (.iload 8, 2) := by decide +kernel
theorem dX2_isSame_210 : decode cX2_isSame 210 = .ok (.aaload, 1) := by decide +kernel
theorem dX2_isSame_211 : decode cX2_isSame 211 = .ok (.astore 9, 2) := by decide +kernel
theorem dX2_isSame_213 : decode cX2_isSame 213 = .ok (.iload 5, 2) := by decide +kernel
theorem dX2_isSame_215 : decode cX2_isSame 215 = .ok (.aload_n 0, 1) := by decide +kernel
theorem dX2_isSame_216 : decode cX2_isSame 216 = .ok (.aload 9, 2) := by decide +kernel
theorem dX2_isSame_218 : decode cX2_isSame 218 = .ok (.invokevirtual 60, 3) := by decide +kernel
theorem dX2_isSame_221 : decode cX2_isSame 221 = .ok (.iload 4, 2) := by decide +kernel
theorem dX2_isSame_223 : decode cX2_isSame 223 = .ok (.if_icmp .ne 7, 3) := by decide +kernel
theorem dX2_isSame_226 : decode cX2_isSame 226 = .ok (.iconst 1, 1) := by decide +kernel
theorem dX2_isSame_227 : decode cX2_isSame 227 = .ok (.goto 4, 3) := by decide +kernel
theorem dX2_isSame_230 : decode cX2_isSame 230 = .ok (.iconst 0, 1) := by decide +kernel
theorem dX2_isSame_231 : decode cX2_isSame 231 = .ok (.iadd, 1) := by decide +kernel
theorem dX2_isSame_232 : decode cX2_isSame 232 = .ok (.istore 5, 2) := by decide +kernel
theorem dX2_isSame_234 : decode cX2_isSame 234 = .ok (.iinc 8 1, 3) := by decide +kernel
theorem dX2_isSame_237 : decode cX2_isSame 237 = .ok (.goto (-38), 3) := by decide +kernel
theorem dX2_isSame_240 : decode cX2_isSame 240 = .ok (.aload_n 1, 1) := by decide +kernel
theorem dX2_isSame_241 : decode cX2_isSame 241 = .ok (.iload 4, 2) := by decide +kernel
theorem dX2_isSame_243 : decode cX2_isSame 243 = .ok (.iconst 0, 1) := by decide +kernel
theorem dX2_isSame_244 : decode cX2_isSame 244 = .ok (.invokevirtual 98, 3) := by decide +kernel
theorem dX2_isSame_247 : decode cX2_isSame 247 = .ok (.aload_n 0, 1) := by decide +kernel
theorem dX2_isSame_248 : decode cX2_isSame 248 = .ok (.getfield 18, 3) := by decide +kernel
theorem dX2_isSame_251 : decode cX2_isSame 251 = .ok (.iload 4, 2) := by decide +kernel
theorem dX2_isSame_253 : decode cX2_isSame 253 = .ok (.aaload, 1) := by decide +kernel
theorem dX2_isSame_254 : decode cX2_isSame 254 = .ok (.iconst 0, 1) := by decide +kernel
theorem dX2_isSame_255 : decode cX2_isSame 255 = .ok (.iaload, 1) := by decide +kernel
theorem dX2_isSame_256 : decode cX2_isSame 256 = .ok (.if_icmp .ne 70, 3) := by decide +kernel
theorem dX2_isSame_259 : decode cX2_isSame 259 = .ok (.aload_n 1, 1) := by decide +kernel
theorem dX2_isSame_260 : decode cX2_isSame 260 = .ok (.iload 4, 2) := by decide +kernel
theorem dX2_isSame_262 : decode cX2_isSame 262 = .ok (.iconst 1, 1) := by decide +kernel
theorem dX2_isSame_263 : decode cX2_isSame 263 = .ok (.invokevirtual 98, 3) := by decide +kernel
theorem dX2_isSame_266 : decode cX2_isSame 266 = .ok (.iload 5, 2) := by decide +kernel
theorem dX2_isSame_268 : decode cX2_isSame 268 = .ok (.if_icmp .ne 58, 3) := by decide +kernel
theorem dX2_isSame_271 : decode cX2_isSame 271 = .ok (.aload_n 1, 1) := by decide +kernel
theorem dX2_isSame_272 : decode cX2_isSame 272 = .ok (.iload 4, 2) := by decide +kernel
theorem dX2_isSame_274 : decode cX2_isSame 274 = .ok (.iconst 2, 1) := by decide +kernel
theorem dX2_isSame_275 : decode cX2_isSame 275 = .ok (.invokevirtual 98, 3) := by decide +kernel
theorem dX2_isSame_278 : decode cX2_isSame 278 = .ok (.aload_n 0, 1) := by decide +kernel
theorem dX2_isSame_279 : decode cX2_isSame 279 = .ok (.getfield 18, 3) := by decide +kernel
theorem dX2_isSame_282 : decode cX2_isSame 282 = .ok (.iload 4, 2) := by decide +kernel
theorem dX2_isSame_284 : decode cX2_isSame 284 = .ok (.aaload, 1) := by decide +kernel
theorem dX2_isSame_285 : decode cX2_isSame 285 = .ok (.iconst 1, 1) := by decide +kernel
theorem dX2_isSame_286 : decode cX2_isSame 286 = .ok (.iaload, 1) := by decide +kernel
theorem dX2_isSame_287 : decode cX2_isSame 287 = .ok (.if_icmp .ne 39, 3) := by decide +kernel
theorem dX2_isSame_290 : decode cX2_isSame 290 = .ok (.aload_n 1, 1) := by decide +kernel
theorem dX2_isSame_291 : decode cX2_isSame 291 = .ok (.iload 4, 2) := by decide +kernel
theorem dX2_isSame_293 : decode cX2_isSame 293 = .ok (.iconst 3, 1) := by decide +kernel
theorem dX2_isSame_294 : decode cX2_isSame 294 = .ok (.invokevirtual 98, 3) := by decide +kernel
theorem dX2_isSame_297 : decode cX2_isSame 297 = .ok (.aload_n 0, 1) := by decide +kernel
theorem dX2_isSame_298 : decode cX2_isSame 298 = .ok (.getfield 18, 3) := by decide +kernel
theorem dX2_isSame_301 : decode cX2_isSame 301 = .ok (.iload 4, 2) := by decide +kernel
theorem dX2_isSame_303 : decode cX2_isSame 303 = .ok (.aaload, 1) := by decide +kernel
theorem dX2_isSame_304 : decode cX2_isSame 304 = .ok (.iconst 2, 1) := by decide +kernel
theorem dX2_isSame_305 : decode cX2_isSame 305 = .ok (.iaload, 1) := by decide +kernel
theorem dX2_isSame_306 : decode cX2_isSame 306 = .ok (.if_icmp .ne 20, 3) := by decide +kernel
theorem dX2_isSame_309 : decode cX2_isSame 309 = .ok (.aload_n 1, 1) := by decide +kernel
theorem dX2_isSame_310 : decode cX2_isSame 310 = .ok (.iload 4, 2) := by decide +kernel
theorem dX2_isSame_312 : decode cX2_isSame 312 = .ok (.iconst 4, 1) := by decide +kernel
theorem dX2_isSame_313 : decode cX2_isSame 313 = .ok (.invokevirtual 98, 3) := by decide +kernel
theorem dX2_isSame_316 : decode cX2_isSame 316 = .ok (.aload_n 0, 1) := by decide +kernel
theorem dX2_isSame_317 : decode cX2_isSame 317 = .ok (.iload 4, 2) := by decide +kernel
theorem dX2_isSame_319 : decode cX2_isSame 319 = .ok (.aload_n 3, 1) := by decide +kernel
theorem dX2_isSame_320 : decode cX2_isSame 320 = .ok (.invokevirtual 72, 3) := by decide +kernel
theorem dX2_isSame_323 : decode cX2_isSame 323 = .ok (.if_icmp .eq 5, 3) := by decide +kernel
theorem dX2_isSame_326 : decode cX2_isSame 326 = .ok (.iconst 0, 1) := by decide +kernel
theorem dX2_isSame_327 : decode cX2_isSame 327 = .ok (.ireturn, 1) := by decide +kernel
theorem dX2_isSame_328 : decode cX2_isSame 328 = .ok (.iinc 4 1, 3) := by decide +kernel
theorem dX2_isSame_331 : decode cX2_isSame 331 = .ok (.goto (-155), 3) := by decide +kernel
theorem dX2_isSame_334 : decode cX2_isSame 334 = .ok (.iconst 0, 1) := by decide +kernel
theorem dX2_isSame_335 : decode cX2_isSame 335 = .ok (.istore 4, 2) := by decide +kernel
theorem dX2_isSame_337 : decode cX2_isSame 337 = .ok (.iload 4, 2) := by decide +kernel
theorem dX2_isSame_339 : decode cX2_isSame 339 = .ok (.aload_n 0, 1) := by decide +kernel
theorem dX2_isSame_340 : decode cX2_isSame 340 = .ok (.getfield 31, 3) := by decide +kernel
theorem dX2_isSame_343 : decode cX2_isSame 343 = .ok (.arraylength, 1) := by decide +kernel
theorem dX2_isSame_344 : decode cX2_isSame 344 = .ok (.if_icmp .ge 70, 3) := by decide +kernel
theorem dX2_isSame_347 : decode cX2_isSame 347 = .ok (.iconst 0, 1) := by decide +kernel
theorem dX2_isSame_348 : decode cX2_isSame 348 = .ok (.istore 5, 2) := by decide +kernel
theorem dX2_isSame_350 : decode cX2_isSame 350 = .ok (.iload 5, 2) := by decide +kernel
theorem dX2_isSame_352 : decode cX2_isSame 352 = .ok (.iconst 4, 1) := by decide +kernel
theorem dX2_isSame_353 : decode cX2_isSame 353 = .ok (.if_icmp .ge 32, 3) := by decide +kernel
theorem dX2_isSame_356 : decode cX2_isSame 356 = .ok (.aload_n 1, 1) := by decide +kernel
theorem dX2_isSame_357 : decode cX2_isSame 357 = .ok (.iload 4, 2) := by decide +kernel
theorem dX2_isSame_359 : decode cX2_isSame 359 = .ok (.iload 5, 2) := by decide +kernel
theorem dX2_isSame_361 : decode cX2_isSame 361 = .ok (.invokevirtual 101, 3) := by decide +kernel
theorem dX2_isSame_364 : decode cX2_isSame 364 = .ok (.aload_n 0, 1) := by decide +kernel
theorem dX2_isSame_365 : decode cX2_isSame 365 = .ok (.getfield 31, 3) := by decide +kernel
theorem dX2_isSame_368 : decode cX2_isSame 368 = .ok (.iload 4, 2) := by decide +kernel
theorem dX2_isSame_370 : decode cX2_isSame 370 = .ok (.aaload, 1) := by decide +kernel
theorem dX2_isSame_371 : decode cX2_isSame 371 = .ok (.iload 5, 2) := by decide +kernel
theorem dX2_isSame_373 : decode cX2_isSame 373 = .ok (.iaload, 1) := by decide +kernel
theorem dX2_isSame_374 : decode cX2_isSame 374 = .ok (.if_icmp .eq 5, 3) := by decide +kernel
theorem dX2_isSame_377 : decode cX2_isSame 377 = .ok (.iconst 0, 1) := by decide +kernel
theorem dX2_isSame_378 : decode cX2_isSame 378 = .ok (.ireturn, 1) := by decide +kernel
theorem dX2_isSame_379 : decode cX2_isSame 379 = .ok (.iinc 5 1, 3) := by decide +kernel
theorem dX2_isSame_382 : decode cX2_isSame 382 = .ok (.goto (-32), 3) := by decide +kernel
theorem dX2_isSame_385 : decode cX2_isSame 385 = .ok (.aload_n 1, 1) := by decide +kernel
theorem dX2_isSame_386 : decode cX2_isSame 386 = .ok (.iload 4, 2) := by decide +kernel
theorem dX2_isSame_388 : decode cX2_isSame 388 = .ok (.iconst 4, 1) := by decide +kernel
theorem dX2_isSame_389 : decode cX2_isSame 389 = .ok (.invokevirtual 101, 3) := by decide +kernel
theorem dX2_isSame_392 : decode cX2_isSame 392 = .ok (.aload_n 0, 1) := by decide +kernel
theorem dX2_isSame_393 : decode cX2_isSame 393 = .ok (.aload_n 0, 1) := by decide +kernel
theorem dX2_isSame_394 : decode cX2_isSame 394 = .ok (.getfield 31, 3) := by decide +kernel
theorem dX2_isSame_397 : decode cX2_isSame 397 = .ok (.iload 4, 2) := by decide +kernel
theorem dX2_isSame_399 : decode cX2_isSame 399 = .ok (.aaload, 1) := by decide +kernel
theorem dX2_isSame_400 : decode cX2_isSame 400 = .ok (.invokevirtual 60, 3) := by decide +kernel
theorem dX2_isSame_403 : decode cX2_isSame 403 = .ok (.if_icmp .eq 5, 3) := by decide +kernel
theorem dX2_isSame_406 : decode cX2_isSame 406 = .ok (.iconst 0, 1) := by decide +kernel
theorem dX2_isSame_407 : decode cX2_isSame 407 = .ok (.ireturn, 1) := by decide +kernel
theorem dX2_isSame_408 : decode cX2_isSame 408 = .ok (.iinc 4 1, 3) := by decide +kernel
theorem dX2_isSame_411 : decode cX2_isSame 411 = .ok (.goto (-74), 3) := by decide +kernel
theorem dX2_isSame_414 : decode cX2_isSame 414 = .ok (.aload_n 1, 1) := by decide +kernel
theorem dX2_isSame_415 : decode cX2_isSame 415 = .ok (.invokevirtual 104, 3) := by decide +kernel
theorem dX2_isSame_418 : decode cX2_isSame 418 = .ok (.aload_n 2, 1) := by decide +kernel
theorem dX2_isSame_419 : decode cX2_isSame 419 = .ok (.iconst 4, 1) := by decide +kernel
theorem dX2_isSame_420 : decode cX2_isSame 420 = .ok (.iaload, 1) := by decide +kernel
theorem dX2_isSame_421 : decode cX2_isSame 421 = .ok (.i2d, 1) := by decide +kernel
theorem dX2_isSame_422 : decode cX2_isSame 422 = .ok (.ldc2_w 108, 3) := by decide +kernel
theorem dX2_isSame_425 : decode cX2_isSame 425 = .ok (.ddiv, 1) := by decide +kernel
theorem dX2_isSame_426 : decode cX2_isSame 426 = .ok (.dcmp .l, 1) := by decide +kernel
theorem dX2_isSame_427 : decode cX2_isSame 427 = .ok (.ifCond .ne 7, 3) := by decide +kernel
theorem dX2_isSame_430 : decode cX2_isSame 430 = .ok (.iconst 1, 1) := by decide +kernel
theorem dX2_isSame_431 : decode cX2_isSame 431 = .ok (.goto 4, 3) := by decide +kernel
theorem dX2_isSame_434 : decode cX2_isSame 434 = .ok (.iconst 0, 1) := by decide +kernel
theorem dX2_isSame_435 : decode cX2_isSame 435 = .ok (.ireturn, 1) := by decide +kernel
end
section
theorem dJ9_floorMod_7cf53_0 : decode cJ9_floorMod_7cf53 0 = .ok (.iload_n 0, 1) := by decide +kernel
theorem dJ9_floorMod_7cf53_1 : decode cJ9_floorMod_7cf53 1 = .ok (.iload_n 1, 1) := by decide +kernel
theorem dJ9_floorMod_7cf53_2 : decode cJ9_floorMod_7cf53 2 = .ok (.irem, 1) := by decide +kernel
theorem dJ9_floorMod_7cf53_3 : decode cJ9_floorMod_7cf53 3 = .ok (.istore_n 2, 1) := by decide +kernel
theorem dJ9_floorMod_7cf53_4 : decode cJ9_floorMod_7cf53 4 = .ok (.iload_n 0, 1) := by decide +kernel
theorem dJ9_floorMod_7cf53_5 : decode cJ9_floorMod_7cf53 5 = .ok (.iload_n 1, 1) := by decide +kernel
theorem dJ9_floorMod_7cf53_6 : decode cJ9_floorMod_7cf53 6 = .ok (.ixor, 1) := by decide +kernel
theorem dJ9_floorMod_7cf53_7 : decode cJ9_floorMod_7cf53 7 = .ok (.ifCond .ge 11, 3) := by decide +kernel
theorem dJ9_floorMod_7cf53_10 : decode cJ9_floorMod_7cf53 10 = .ok (.iload_n 2, 1) := by decide +kernel
theorem dJ9_floorMod_7cf53_11 : decode cJ9_floorMod_7cf53 11 = .ok (.ifCond .eq 7, 3) := by decide +kernel
theorem dJ9_floorMod_7cf53_14 : decode cJ9_floorMod_7cf53 14 = .ok (.iload_n 2, 1) := by decide +kernel
theorem dJ9_floorMod_7cf53_15 : decode cJ9_floorMod_7cf53 15 = .ok (.iload_n 1, 1) := by decide +kernel
theorem dJ9_floorMod_7cf53_16 : decode cJ9_floorMod_7cf53 16 = .ok (.iadd, 1) := by decide +kernel
theorem dJ9_floorMod_7cf53_17 : decode cJ9_floorMod_7cf53 17 = .ok (.ireturn, 1) := by decide +kernel
theorem dJ9_floorMod_7cf53_18 : decode cJ9_floorMod_7cf53 18 = .ok (.iload_n 2, 1) := by decide +kernel
theorem dJ9_floorMod_7cf53_19 : decode cJ9_floorMod_7cf53 19 = .ok (.ireturn, 1) := by decide +kernel
theorem dJ9_min_7cf53_0 : decode cJ9_min_7cf53 0 = .ok (.iload_n 0, 1) := by decide +kernel
theorem dJ9_min_7cf53_1 : decode cJ9_min_7cf53 1 = .ok (.iload_n 1, 1) := by decide +kernel
theorem dJ9_min_7cf53_2 : decode cJ9_min_7cf53 2 = .ok (.if_icmp .gt 7, 3) := by decide +kernel
theorem dJ9_min_7cf53_5 : decode cJ9_min_7cf53 5 = .ok (.iload_n 0, 1) := by decide +kernel
theorem dJ9_min_7cf53_6 : decode cJ9_min_7cf53 6 = .ok (.goto 4, 3) := by decide +kernel
theorem dJ9_min_7cf53_9 : decode cJ9_min_7cf53 9 = .ok (.iload_n 1, 1) := by decide +kernel
theorem dJ9_min_7cf53_10 : decode cJ9_min_7cf53 10 = .ok (.ireturn, 1) := by decide +kernel
theorem dL_below_0 : decode cL_below 0 = .ok (.iload_n 0, 1) := by decide +kernel
theorem dL_below_1 : decode cL_below 1 = .ok (.ldc 7, 2) := by decide +kernel
theorem dL_below_3 : decode cL_below 3 = .ok (.iand, 1) := by decide +kernel
theorem dL_below_4 : decode cL_below 4 = .ok (.iload_n 1, 1) := by decide +kernel
theorem dL_below_5 : decode cL_below 5 = .ok (.irem, 1) := by decide +kernel
theorem dL_below_6 : decode cL_below 6 = .ok (.ireturn, 1) := by decide +kernel
theorem dL_cell_0 : decode cL_cell 0 = .ok (.iload_n 1, 1) := by decide +kernel
theorem dL_cell_1 : decode cL_cell 1 = .ok (.aload_n 0, 1) := by decide +kernel
theorem dL_cell_2 : decode cL_cell 2 = .ok (.arraylength, 1) := by decide +kernel
theorem dL_cell_3 : decode cL_cell 3 = .ok (.if_icmp .ge 9, 3) := by decide +kernel
theorem dL_cell_6 : decode cL_cell 6 = .ok (.aload_n 0, 1) := by decide +kernel
theorem dL_cell_7 : decode cL_cell 7 = .ok (.iload_n 1, 1) := by decide +kernel
theorem dL_cell_8 : decode cL_cell 8 = .ok (.iaload, 1) := by decide +kernel
theorem dL_cell_9 : decode cL_cell 9 = .ok (.goto 9, 3) := by decide +kernel
theorem dL_cell_12 : decode cL_cell 12 = .ok (.ldc 8, 2) := by decide +kernel
theorem dL_cell_14 : decode cL_cell 14 = .ok (.iload_n 1, 1) := by decide +kernel
theorem dL_cell_15 : decode cL_cell 15 = .ok (.iconst 3, 1) := by decide +kernel
theorem dL_cell_16 : decode cL_cell 16 = .ok (.iadd, 1) := by decide +kernel
theorem dL_cell_17 : decode cL_cell 17 = .ok (.imul, 1) := by decide +kernel
theorem dL_cell_18 : decode cL_cell 18 = .ok (.ireturn, 1) := by decide +kernel
set_option maxRecDepth 20000 in
theorem ggL_act_L_below : GoodIn wsL_act wsL_below := goodIn_r _ [13, 14] (by decide +kernel) (by decide +kernel)
set_option maxRecDepth 20000 in
theorem gL_act_L_below : GoodIn wsL_act (va_wsS RL 15 yL_below wsL_below) := goodIn_app (goodIn_of _ (by decide +kernel)) ggL_act_L_below
set_option maxRecDepth 20000 in
theorem ggL_act_X1_setSpring : GoodIn wsL_act wsX1_setSpring := goodIn_ca (goodIn_ca (goodIn_r _ [19, 20, 21, 22, 23, 18, 24, 25, 26, 27, 28, 29, 30, 31, 129, 130, 131, 132, 133, 134, 135, 136, 137, 138, 139, 140, 141, 142, 143, 144, 145, 146, 147, 148] (by decide +kernel) (by decide +kernel)) (goodIn_sub (fun _ h => List.mem_cons_of_mem _ (List.mem_append_left _ (List.mem_append_left _ (List.mem_append_right _ h)))) (by decide +kernel))) (goodIn_sub (fun _ h => List.mem_cons_of_mem _ (List.mem_append_left _ (List.mem_append_right _ h))) (by decide +kernel))
set_option maxRecDepth 20000 in
theorem gL_act_X1_setSpring : GoodIn wsL_act (wsV RL 25 RX1 yX1_setSpring wsX1_setSpring) := goodIn_app (goodIn_of _ (by decide +kernel)) ggL_act_X1_setSpring
set_option maxRecDepth 20000 in
theorem ggL_act_X1_setMill : GoodIn wsL_act wsX1_setMill := goodIn_ca (goodIn_ca (goodIn_r _ [35, 20, 36, 37, 22, 23, 18, 24, 25, 26, 27, 28, 29, 30, 31, 129, 130, 131, 132, 133, 134, 135, 136, 137, 138, 139, 140, 141, 142, 143, 144, 145, 146, 147, 148] (by decide +kernel) (by decide +kernel)) (goodIn_sub (fun _ h => List.mem_cons_of_mem _ (List.mem_append_left _ (List.mem_append_left _ (List.mem_append_right _ h)))) (by decide +kernel))) (goodIn_sub (fun _ h => List.mem_cons_of_mem _ (List.mem_append_left _ (List.mem_append_right _ h))) (by decide +kernel))
set_option maxRecDepth 20000 in
theorem gL_act_X1_setMill : GoodIn wsL_act (wsV RL 37 RX1 yX1_setMill wsX1_setMill) := goodIn_app (goodIn_of _ (by decide +kernel)) ggL_act_X1_setMill
set_option maxRecDepth 20000 in
theorem ggL_act_X1_setDrought : GoodIn wsL_act wsX1_setDrought := goodIn_r _ [41, 20, 42, 129, 130, 131, 132, 133, 134, 135, 136, 137, 138, 139, 140, 141, 142, 143, 144, 145, 146, 147, 148] (by decide +kernel) (by decide +kernel)
set_option maxRecDepth 20000 in
theorem gL_act_X1_setDrought : GoodIn wsL_act (wsV RL 44 RX1 yX1_setDrought wsX1_setDrought) := goodIn_app (goodIn_of _ (by decide +kernel)) ggL_act_X1_setDrought
set_option maxRecDepth 20000 in
theorem ggL_act_X1_setFee : GoodIn wsL_act wsX1_setFee := goodIn_ca (goodIn_r _ [46, 20, 47, 27, 28, 18, 29, 30, 31, 129, 130, 131, 132, 133, 134, 135, 136, 137, 138, 139, 140, 141, 142, 143, 144, 145, 146, 147, 148] (by decide +kernel) (by decide +kernel)) (goodIn_sub (fun _ h => List.mem_cons_of_mem _ (List.mem_append_left _ (List.mem_append_right _ h))) (by decide +kernel))
set_option maxRecDepth 20000 in
theorem gL_act_X1_setFee : GoodIn wsL_act (wsV RL 51 RX1 yX1_setFee wsX1_setFee) := goodIn_app (goodIn_of _ (by decide +kernel)) ggL_act_X1_setFee
set_option maxRecDepth 20000 in
theorem ggL_act_X2_into : GoodIn wsL_act wsX2_into := goodIn_r _ [52, 53, 54, 55, 49, 50, 51, 118, 119, 120, 121, 122, 123, 124, 125, 126, 127, 128] (by decide +kernel) (by decide +kernel)
set_option maxRecDepth 20000 in
theorem gL_act_X2_into : GoodIn wsL_act (wsV RL 58 RX2 yX2_into wsX2_into) := goodIn_app (goodIn_of _ (by decide +kernel)) ggL_act_X2_into
set_option maxRecDepth 20000 in
theorem ggL_act_X1_water : GoodIn wsL_act wsX1_water := goodIn_ca (goodIn_ca (goodIn_ca (goodIn_r _ [59, 60, 61, 20, 62, 22, 23, 18, 24, 25, 26, 27, 28, 29, 30, 31, 63, 64, 65, 66, 67, 68, 69, 70, 71, 72, 73, 129, 130, 131, 132, 133, 134, 135, 136, 137, 138, 139, 140, 141, 142, 143, 144, 145, 146, 147, 148] (by decide +kernel) (by decide +kernel)) (goodIn_sub (fun _ h => List.mem_cons_of_mem _ (List.mem_append_right _ h)) (by decide +kernel))) (goodIn_sub (fun _ h => List.mem_cons_of_mem _ (List.mem_append_left _ (List.mem_append_left _ (List.mem_append_right _ h)))) (by decide +kernel))) (goodIn_sub (fun _ h => List.mem_cons_of_mem _ (List.mem_append_left _ (List.mem_append_right _ h))) (by decide +kernel))
set_option maxRecDepth 20000 in
theorem gL_act_X1_water : GoodIn wsL_act (wsV RL 62 RX1 yX1_water wsX1_water) := goodIn_app (goodIn_of _ (by decide +kernel)) ggL_act_X1_water
set_option maxRecDepth 20000 in
theorem ggL_act_X2_hasWater : GoodIn wsL_act wsX2_hasWater := goodIn_r _ [77, 54, 118, 119, 120, 121, 122, 123, 124, 125, 126, 127, 128] (by decide +kernel) (by decide +kernel)
set_option maxRecDepth 20000 in
theorem gL_act_X2_hasWater : GoodIn wsL_act (wsV RL 70 RX2 yX2_hasWater wsX2_hasWater) := goodIn_app (goodIn_of _ (by decide +kernel)) ggL_act_X2_hasWater
set_option maxRecDepth 20000 in
theorem ggL_act_X2_turn : GoodIn wsL_act wsX2_turn := goodIn_r _ [81, 82, 54, 55, 49, 50, 51, 52, 53, 118, 119, 120, 121, 122, 123, 124, 125, 126, 127, 128] (by decide +kernel) (by decide +kernel)
set_option maxRecDepth 20000 in
theorem gL_act_X2_turn : GoodIn wsL_act (wsV RL 74 RX2 yX2_turn wsX2_turn) := goodIn_app (goodIn_of _ (by decide +kernel)) ggL_act_X2_turn
set_option maxRecDepth 20000 in
theorem ggL_act_X1_work : GoodIn wsL_act wsX1_work := goodIn_ca (goodIn_ca (goodIn_r _ [86, 60, 61, 20, 87, 22, 23, 18, 24, 25, 26, 88, 89, 90, 66, 91, 68, 92, 93, 94, 95, 96, 97, 98, 64, 65, 67, 69, 70, 71, 72, 73, 129, 130, 131, 132, 133, 134, 135, 136, 137, 138, 139, 140, 141, 142, 143, 144, 145, 146, 147, 148] (by decide +kernel) (by decide +kernel)) (goodIn_sub (fun _ h => List.mem_cons_of_mem _ (List.mem_append_right _ h)) (by decide +kernel))) (goodIn_sub (fun _ h => List.mem_cons_of_mem _ (List.mem_append_left _ (List.mem_append_left _ (List.mem_append_right _ h)))) (by decide +kernel))
set_option maxRecDepth 20000 in
theorem gL_act_X1_work : GoodIn wsL_act (wsV RL 78 RX1 yX1_work wsX1_work) := goodIn_app (goodIn_of _ (by decide +kernel)) ggL_act_X1_work
set_option maxRecDepth 20000 in
theorem ggL_act_X1_send : GoodIn wsL_act wsX1_send := goodIn_ca (goodIn_r _ [102, 20, 103, 104, 22, 23, 18, 24, 25, 26, 129, 130, 131, 132, 133, 134, 135, 136, 137, 138, 139, 140, 141, 142, 143, 144, 145, 146, 147, 148] (by decide +kernel) (by decide +kernel)) (goodIn_sub (fun _ h => List.mem_cons_of_mem _ (List.mem_append_left _ (List.mem_append_left _ (List.mem_append_right _ h)))) (by decide +kernel))
set_option maxRecDepth 20000 in
theorem gL_act_X1_send : GoodIn wsL_act (wsV RL 81 RX1 yX1_send wsX1_send) := goodIn_app (goodIn_of _ (by decide +kernel)) ggL_act_X1_send
set_option maxRecDepth 20000 in
theorem ggL_act_X2_come : GoodIn wsL_act wsX2_come := goodIn_r _ [108, 109, 110, 111, 118, 119, 120, 121, 122, 123, 124, 125, 126, 127, 128] (by decide +kernel) (by decide +kernel)
set_option maxRecDepth 20000 in
theorem gL_act_X2_come : GoodIn wsL_act (wsV RL 84 RX2 yX2_come wsX2_come) := goodIn_app (goodIn_of _ (by decide +kernel)) ggL_act_X2_come
set_option maxRecDepth 20000 in
theorem ggL_act_X1_barge : GoodIn wsL_act wsX1_barge := goodIn_ca (goodIn_ca (goodIn_ca (goodIn_r _ [115, 60, 61, 20, 103, 116, 104, 117, 22, 23, 18, 24, 25, 26, 27, 28, 29, 30, 31, 129, 130, 131, 132, 133, 134, 135, 136, 137, 138, 139, 140, 141, 142, 143, 144, 145, 146, 147, 148] (by decide +kernel) (by decide +kernel)) (goodIn_sub (fun _ h => List.mem_cons_of_mem _ (List.mem_append_right _ h)) (by decide +kernel))) (goodIn_sub (fun _ h => List.mem_cons_of_mem _ (List.mem_append_left _ (List.mem_append_left _ (List.mem_append_right _ h)))) (by decide +kernel))) (goodIn_sub (fun _ h => List.mem_cons_of_mem _ (List.mem_append_left _ (List.mem_append_right _ h))) (by decide +kernel))
set_option maxRecDepth 20000 in
theorem gL_act_X1_barge : GoodIn wsL_act (wsV RL 88 RX1 yX1_barge wsX1_barge) := goodIn_app (goodIn_of _ (by decide +kernel)) ggL_act_X1_barge
theorem dL_act_0 : decode cL_act 0 = .ok (.aload_n 1, 1) := by decide +kernel
theorem dL_act_1 : decode cL_act 1 = .ok (.getfield 9, 3) := by decide +kernel
theorem dL_act_4 : decode cL_act 4 = .ok (.arraylength, 1) := by decide +kernel
theorem dL_act_5 : decode cL_act 5 = .ok (.istore_n 3, 1) := by decide +kernel
theorem dL_act_6 : decode cL_act 6 = .ok (.iload_n 2, 1) := by decide +kernel
theorem dL_act_7 : decode cL_act 7 = .ok (.bipush 14, 2) := by decide +kernel
theorem dL_act_9 : decode cL_act 9 = .ok (.invokestatic 15, 3) := by decide +kernel
theorem dL_act_12 : decode cL_act 12 = .ok (.tableswitch 556 0 8 #[52, 111, 167, 211, 263, 263, 379, 379, 486], 52) := by decide +kernel
theorem dL_act_64 : decode cL_act 64 = .ok (.iload_n 2, 1) := by decide +kernel
theorem dL_act_65 : decode cL_act 65 = .ok (.iconst 4, 1) := by decide +kernel
theorem dL_act_66 : decode cL_act 66 = .ok (.ishr, 1) := by decide +kernel
theorem dL_act_67 : decode cL_act 67 = .ok (.bipush 8, 2) := by decide +kernel
theorem dL_act_69 : decode cL_act 69 = .ok (.invokestatic 15, 3) := by decide +kernel
theorem dL_act_72 : decode cL_act 72 = .ok (.istore 5, 2) := by decide +kernel
theorem dL_act_74 : decode cL_act 74 = .ok (.aload_n 1, 1) := by decide +kernel
theorem dL_act_75 : decode cL_act 75 = .ok (.getfield 21, 3) := by decide +kernel
theorem dL_act_78 : decode cL_act 78 = .ok (.iload 5, 2) := by decide +kernel
theorem dL_act_80 : decode cL_act 80 = .ok (.iaload, 1) := by decide +kernel
theorem dL_act_81 : decode cL_act 81 = .ok (.istore 6, 2) := by decide +kernel
theorem dL_act_83 : decode cL_act 83 = .ok (.aload_n 1, 1) := by decide +kernel
theorem dL_act_84 : decode cL_act 84 = .ok (.getfield 21, 3) := by decide +kernel
theorem dL_act_87 : decode cL_act 87 = .ok (.iload 5, 2) := by decide +kernel
theorem dL_act_89 : decode cL_act 89 = .ok (.iload_n 2, 1) := by decide +kernel
theorem dL_act_90 : decode cL_act 90 = .ok (.bipush 6, 2) := by decide +kernel
theorem dL_act_92 : decode cL_act 92 = .ok (.ishr, 1) := by decide +kernel
theorem dL_act_93 : decode cL_act 93 = .ok (.bipush 31, 2) := by decide +kernel
theorem dL_act_95 : decode cL_act 95 = .ok (.invokestatic 15, 3) := by decide +kernel
theorem dL_act_98 : decode cL_act 98 = .ok (.iastore, 1) := by decide +kernel
theorem dL_act_99 : decode cL_act 99 = .ok (.aload_n 0, 1) := by decide +kernel
theorem dL_act_100 : decode cL_act 100 = .ok (.iload 5, 2) := by decide +kernel
theorem dL_act_102 : decode cL_act 102 = .ok (.aload_n 1, 1) := by decide +kernel
theorem dL_act_103 : decode cL_act 103 = .ok (.getfield 21, 3) := by decide +kernel
theorem dL_act_106 : decode cL_act 106 = .ok (.iload 5, 2) := by decide +kernel
theorem dL_act_108 : decode cL_act 108 = .ok (.iaload, 1) := by decide +kernel
theorem dL_act_109 : decode cL_act 109 = .ok (.invokevirtual 25, 3) := by decide +kernel
theorem dL_act_112 : decode cL_act 112 = .ok (.iload 6, 2) := by decide +kernel
theorem dL_act_114 : decode cL_act 114 = .ok (.if_icmp .ne 7, 3) := by decide +kernel
theorem dL_act_117 : decode cL_act 117 = .ok (.iconst 1, 1) := by decide +kernel
theorem dL_act_118 : decode cL_act 118 = .ok (.goto 4, 3) := by decide +kernel
theorem dL_act_121 : decode cL_act 121 = .ok (.iconst 0, 1) := by decide +kernel
theorem dL_act_122 : decode cL_act 122 = .ok (.ireturn, 1) := by decide +kernel
theorem dL_act_123 : decode cL_act 123 = .ok (.aload_n 1, 1) := by decide +kernel
theorem dL_act_124 : decode cL_act 124 = .ok (.getfield 30, 3) := by decide +kernel
theorem dL_act_127 : decode cL_act 127 = .ok (.istore 5, 2) := by decide +kernel
theorem dL_act_129 : decode cL_act 129 = .ok (.aload_n 1, 1) := by decide +kernel
theorem dL_act_130 : decode cL_act 130 = .ok (.iload_n 2, 1) := by decide +kernel
theorem dL_act_131 : decode cL_act 131 = .ok (.iconst 4, 1) := by decide +kernel
theorem dL_act_132 : decode cL_act 132 = .ok (.ishr, 1) := by decide +kernel
theorem dL_act_133 : decode cL_act 133 = .ok (.bipush 7, 2) := by decide +kernel
theorem dL_act_135 : decode cL_act 135 = .ok (.invokestatic 15, 3) := by decide +kernel
theorem dL_act_138 : decode cL_act 138 = .ok (.iconst 1, 1) := by decide +kernel
theorem dL_act_139 : decode cL_act 139 = .ok (.isub, 1) := by decide +kernel
theorem dL_act_140 : decode cL_act 140 = .ok (.putfield 34, 3) := by decide +kernel
theorem dL_act_143 : decode cL_act 143 = .ok (.aload_n 1, 1) := by decide +kernel
theorem dL_act_144 : decode cL_act 144 = .ok (.iload_n 2, 1) := by decide +kernel
theorem dL_act_145 : decode cL_act 145 = .ok (.bipush 6, 2) := by decide +kernel
theorem dL_act_147 : decode cL_act 147 = .ok (.ishr, 1) := by decide +kernel
theorem dL_act_148 : decode cL_act 148 = .ok (.bipush 101, 2) := by decide +kernel
theorem dL_act_150 : decode cL_act 150 = .ok (.invokestatic 15, 3) := by decide +kernel
theorem dL_act_153 : decode cL_act 153 = .ok (.putfield 30, 3) := by decide +kernel
theorem dL_act_156 : decode cL_act 156 = .ok (.aload_n 0, 1) := by decide +kernel
theorem dL_act_157 : decode cL_act 157 = .ok (.aload_n 1, 1) := by decide +kernel
theorem dL_act_158 : decode cL_act 158 = .ok (.getfield 34, 3) := by decide +kernel
theorem dL_act_161 : decode cL_act 161 = .ok (.aload_n 1, 1) := by decide +kernel
theorem dL_act_162 : decode cL_act 162 = .ok (.getfield 30, 3) := by decide +kernel
theorem dL_act_165 : decode cL_act 165 = .ok (.invokevirtual 37, 3) := by decide +kernel
theorem dL_act_168 : decode cL_act 168 = .ok (.iload 5, 2) := by decide +kernel
theorem dL_act_170 : decode cL_act 170 = .ok (.if_icmp .ne 7, 3) := by decide +kernel
theorem dL_act_173 : decode cL_act 173 = .ok (.iconst 1, 1) := by decide +kernel
theorem dL_act_174 : decode cL_act 174 = .ok (.goto 4, 3) := by decide +kernel
theorem dL_act_177 : decode cL_act 177 = .ok (.iconst 0, 1) := by decide +kernel
theorem dL_act_178 : decode cL_act 178 = .ok (.ireturn, 1) := by decide +kernel
theorem dL_act_179 : decode cL_act 179 = .ok (.aload_n 1, 1) := by decide +kernel
theorem dL_act_180 : decode cL_act 180 = .ok (.getfield 40, 3) := by decide +kernel
theorem dL_act_183 : decode cL_act 183 = .ok (.istore 5, 2) := by decide +kernel
theorem dL_act_185 : decode cL_act 185 = .ok (.aload_n 1, 1) := by decide +kernel
theorem dL_act_186 : decode cL_act 186 = .ok (.iload_n 2, 1) := by decide +kernel
theorem dL_act_187 : decode cL_act 187 = .ok (.iconst 4, 1) := by decide +kernel
theorem dL_act_188 : decode cL_act 188 = .ok (.ishr, 1) := by decide +kernel
theorem dL_act_189 : decode cL_act 189 = .ok (.iconst 2, 1) := by decide +kernel
theorem dL_act_190 : decode cL_act 190 = .ok (.invokestatic 15, 3) := by decide +kernel
theorem dL_act_193 : decode cL_act 193 = .ok (.ifCond .ne 7, 3) := by decide +kernel
theorem dL_act_196 : decode cL_act 196 = .ok (.iconst 1, 1) := by decide +kernel
theorem dL_act_197 : decode cL_act 197 = .ok (.goto 4, 3) := by decide +kernel
theorem dL_act_200 : decode cL_act 200 = .ok (.iconst 0, 1) := by decide +kernel
theorem dL_act_201 : decode cL_act 201 = .ok (.putfield 40, 3) := by decide +kernel
theorem dL_act_204 : decode cL_act 204 = .ok (.aload_n 0, 1) := by decide +kernel
theorem dL_act_205 : decode cL_act 205 = .ok (.aload_n 1, 1) := by decide +kernel
theorem dL_act_206 : decode cL_act 206 = .ok (.getfield 40, 3) := by decide +kernel
theorem dL_act_209 : decode cL_act 209 = .ok (.invokevirtual 44, 3) := by decide +kernel
theorem dL_act_212 : decode cL_act 212 = .ok (.iload 5, 2) := by decide +kernel
theorem dL_act_214 : decode cL_act 214 = .ok (.if_icmp .ne 7, 3) := by decide +kernel
theorem dL_act_217 : decode cL_act 217 = .ok (.iconst 1, 1) := by decide +kernel
theorem dL_act_218 : decode cL_act 218 = .ok (.goto 4, 3) := by decide +kernel
theorem dL_act_221 : decode cL_act 221 = .ok (.iconst 0, 1) := by decide +kernel
theorem dL_act_222 : decode cL_act 222 = .ok (.ireturn, 1) := by decide +kernel
theorem dL_act_223 : decode cL_act 223 = .ok (.aload_n 1, 1) := by decide +kernel
theorem dL_act_224 : decode cL_act 224 = .ok (.getfield 48, 3) := by decide +kernel
theorem dL_act_227 : decode cL_act 227 = .ok (.istore 5, 2) := by decide +kernel
theorem dL_act_229 : decode cL_act 229 = .ok (.aload_n 1, 1) := by decide +kernel
theorem dL_act_230 : decode cL_act 230 = .ok (.iload_n 2, 1) := by decide +kernel
theorem dL_act_231 : decode cL_act 231 = .ok (.iconst 4, 1) := by decide +kernel
theorem dL_act_232 : decode cL_act 232 = .ok (.ishr, 1) := by decide +kernel
theorem dL_act_233 : decode cL_act 233 = .ok (.iload_n 2, 1) := by decide +kernel
theorem dL_act_234 : decode cL_act 234 = .ok (.bipush 7, 2) := by decide +kernel
theorem dL_act_236 : decode cL_act 236 = .ok (.ishr, 1) := by decide +kernel
theorem dL_act_237 : decode cL_act 237 = .ok (.iconst 2, 1) := by decide +kernel
theorem dL_act_238 : decode cL_act 238 = .ok (.invokestatic 15, 3) := by decide +kernel
theorem dL_act_241 : decode cL_act 241 = .ok (.ifCond .ne 8, 3) := by decide +kernel
theorem dL_act_244 : decode cL_act 244 = .ok (.bipush 21, 2) := by decide +kernel
theorem dL_act_246 : decode cL_act 246 = .ok (.goto 4, 3) := by decide +kernel
theorem dL_act_249 : decode cL_act 249 = .ok (.iconst 3, 1) := by decide +kernel
theorem dL_act_250 : decode cL_act 250 = .ok (.invokestatic 15, 3) := by decide +kernel
theorem dL_act_253 : decode cL_act 253 = .ok (.putfield 48, 3) := by decide +kernel
theorem dL_act_256 : decode cL_act 256 = .ok (.aload_n 0, 1) := by decide +kernel
theorem dL_act_257 : decode cL_act 257 = .ok (.aload_n 1, 1) := by decide +kernel
theorem dL_act_258 : decode cL_act 258 = .ok (.getfield 48, 3) := by decide +kernel
theorem dL_act_261 : decode cL_act 261 = .ok (.invokevirtual 51, 3) := by decide +kernel
theorem dL_act_264 : decode cL_act 264 = .ok (.iload 5, 2) := by decide +kernel
theorem dL_act_266 : decode cL_act 266 = .ok (.if_icmp .ne 7, 3) := by decide +kernel
theorem dL_act_269 : decode cL_act 269 = .ok (.iconst 1, 1) := by decide +kernel
theorem dL_act_270 : decode cL_act 270 = .ok (.goto 4, 3) := by decide +kernel
theorem dL_act_273 : decode cL_act 273 = .ok (.iconst 0, 1) := by decide +kernel
theorem dL_act_274 : decode cL_act 274 = .ok (.ireturn, 1) := by decide +kernel
theorem dL_act_275 : decode cL_act 275 = .ok (.iload_n 2, 1) := by decide +kernel
theorem dL_act_276 : decode cL_act 276 = .ok (.iconst 4, 1) := by decide +kernel
theorem dL_act_277 : decode cL_act 277 = .ok (.ishr, 1) := by decide +kernel
theorem dL_act_278 : decode cL_act 278 = .ok (.bipush 6, 2) := by decide +kernel
theorem dL_act_280 : decode cL_act 280 = .ok (.invokestatic 15, 3) := by decide +kernel
theorem dL_act_283 : decode cL_act 283 = .ok (.istore 5, 2) := by decide +kernel
theorem dL_act_285 : decode cL_act 285 = .ok (.iconst 1, 1) := by decide +kernel
theorem dL_act_286 : decode cL_act 286 = .ok (.iload_n 2, 1) := by decide +kernel
theorem dL_act_287 : decode cL_act 287 = .ok (.bipush 6, 2) := by decide +kernel
theorem dL_act_289 : decode cL_act 289 = .ok (.ishr, 1) := by decide +kernel
theorem dL_act_290 : decode cL_act 290 = .ok (.bipush 60, 2) := by decide +kernel
theorem dL_act_292 : decode cL_act 292 = .ok (.invokestatic 15, 3) := by decide +kernel
theorem dL_act_295 : decode cL_act 295 = .ok (.iadd, 1) := by decide +kernel
theorem dL_act_296 : decode cL_act 296 = .ok (.istore 6, 2) := by decide +kernel
theorem dL_act_298 : decode cL_act 298 = .ok (.iload 6, 2) := by decide +kernel
theorem dL_act_300 : decode cL_act 300 = .ok (.iconst 2, 1) := by decide +kernel
theorem dL_act_301 : decode cL_act 301 = .ok (.idiv, 1) := by decide +kernel
theorem dL_act_302 : decode cL_act 302 = .ok (.iload 6, 2) := by decide +kernel
theorem dL_act_304 : decode cL_act 304 = .ok (.iconst 2, 1) := by decide +kernel
theorem dL_act_305 : decode cL_act 305 = .ok (.irem, 1) := by decide +kernel
theorem dL_act_306 : decode cL_act 306 = .ok (.iadd, 1) := by decide +kernel
theorem dL_act_307 : decode cL_act 307 = .ok (.istore 7, 2) := by decide +kernel
theorem dL_act_309 : decode cL_act 309 = .ok (.aload_n 1, 1) := by decide +kernel
theorem dL_act_310 : decode cL_act 310 = .ok (.getfield 55, 3) := by decide +kernel
theorem dL_act_313 : decode cL_act 313 = .ok (.iload 7, 2) := by decide +kernel
theorem dL_act_315 : decode cL_act 315 = .ok (.if_icmp .lt 7, 3) := by decide +kernel
theorem dL_act_318 : decode cL_act 318 = .ok (.iconst 1, 1) := by decide +kernel
theorem dL_act_319 : decode cL_act 319 = .ok (.goto 4, 3) := by decide +kernel
theorem dL_act_322 : decode cL_act 322 = .ok (.iconst 0, 1) := by decide +kernel
theorem dL_act_323 : decode cL_act 323 = .ok (.istore 8, 2) := by decide +kernel
theorem dL_act_325 : decode cL_act 325 = .ok (.iload 8, 2) := by decide +kernel
theorem dL_act_327 : decode cL_act 327 = .ok (.ifCond .eq 22, 3) := by decide +kernel
theorem dL_act_330 : decode cL_act 330 = .ok (.aload_n 1, 1) := by decide +kernel
theorem dL_act_331 : decode cL_act 331 = .ok (.dup, 1) := by decide +kernel
theorem dL_act_332 : decode cL_act 332 = .ok (.getfield 55, 3) := by decide +kernel
theorem dL_act_335 : decode cL_act 335 = .ok (.iload 7, 2) := by decide +kernel
theorem dL_act_337 : decode cL_act 337 = .ok (.isub, 1) := by decide +kernel
theorem dL_act_338 : decode cL_act 338 = .ok (.putfield 55, 3) := by decide +kernel
theorem dL_act_341 : decode cL_act 341 = .ok (.aload_n 1, 1) := by decide +kernel
theorem dL_act_342 : decode cL_act 342 = .ok (.iload 5, 2) := by decide +kernel
theorem dL_act_344 : decode cL_act 344 = .ok (.iload 6, 2) := by decide +kernel
theorem dL_act_346 : decode cL_act 346 = .ok (.invokevirtual 58, 3) := by decide +kernel
theorem dL_act_349 : decode cL_act 349 = .ok (.aload_n 0, 1) := by decide +kernel
theorem dL_act_350 : decode cL_act 350 = .ok (.iload 5, 2) := by decide +kernel
theorem dL_act_352 : decode cL_act 352 = .ok (.iload 6, 2) := by decide +kernel
theorem dL_act_354 : decode cL_act 354 = .ok (.invokevirtual 62, 3) := by decide +kernel
theorem dL_act_357 : decode cL_act 357 = .ok (.istore 4, 2) := by decide +kernel
theorem dL_act_359 : decode cL_act 359 = .ok (.goto 8, 3) := by decide +kernel
theorem dL_act_362 : decode cL_act 362 = .ok (.astore 9, 2) := by decide +kernel
theorem dL_act_364 : decode cL_act 364 = .ok (.iconst (-1), 1) := by decide +kernel
theorem dL_act_365 : decode cL_act 365 = .ok (.istore 4, 2) := by decide +kernel
theorem dL_act_367 : decode cL_act 367 = .ok (.iload 4, 2) := by decide +kernel
theorem dL_act_369 : decode cL_act 369 = .ok (.iload 8, 2) := by decide +kernel
theorem dL_act_371 : decode cL_act 371 = .ok (.ifCond .eq 10, 3) := by decide +kernel
theorem dL_act_374 : decode cL_act 374 = .ok (.aload_n 1, 1) := by decide +kernel
theorem dL_act_375 : decode cL_act 375 = .ok (.getfield 55, 3) := by decide +kernel
theorem dL_act_378 : decode cL_act 378 = .ok (.goto 4, 3) := by decide +kernel
theorem dL_act_381 : decode cL_act 381 = .ok (.iconst (-1), 1) := by decide +kernel
theorem dL_act_382 : decode cL_act 382 = .ok (.if_icmp .ne 7, 3) := by decide +kernel
theorem dL_act_385 : decode cL_act 385 = .ok (.iconst 1, 1) := by decide +kernel
theorem dL_act_386 : decode cL_act 386 = .ok (.goto 4, 3) := by decide +kernel
theorem dL_act_389 : decode cL_act 389 = .ok (.iconst 0, 1) := by decide +kernel
theorem dL_act_390 : decode cL_act 390 = .ok (.ireturn, 1) := by decide +kernel
theorem dL_act_391 : decode cL_act 391 = .ok (.iload_n 2, 1) := by decide +kernel
theorem dL_act_392 : decode cL_act 392 = .ok (.iconst 4, 1) := by decide +kernel
theorem dL_act_393 : decode cL_act 393 = .ok (.ishr, 1) := by decide +kernel
theorem dL_act_394 : decode cL_act 394 = .ok (.iconst 5, 1) := by decide +kernel
theorem dL_act_395 : decode cL_act 395 = .ok (.invokestatic 15, 3) := by decide +kernel
theorem dL_act_398 : decode cL_act 398 = .ok (.istore 5, 2) := by decide +kernel
theorem dL_act_400 : decode cL_act 400 = .ok (.aload_n 1, 1) := by decide +kernel
theorem dL_act_401 : decode cL_act 401 = .ok (.getfield 67, 3) := by decide +kernel
theorem dL_act_404 : decode cL_act 404 = .ok (.iload 5, 2) := by decide +kernel
theorem dL_act_406 : decode cL_act 406 = .ok (.aaload, 1) := by decide +kernel
theorem dL_act_407 : decode cL_act 407 = .ok (.iconst 0, 1) := by decide +kernel
theorem dL_act_408 : decode cL_act 408 = .ok (.iaload, 1) := by decide +kernel
theorem dL_act_409 : decode cL_act 409 = .ok (.iconst 1, 1) := by decide +kernel
theorem dL_act_410 : decode cL_act 410 = .ok (.if_icmp .eq 12, 3) := by decide +kernel
theorem dL_act_413 : decode cL_act 413 = .ok (.aload_n 1, 1) := by decide +kernel
theorem dL_act_414 : decode cL_act 414 = .ok (.iload 5, 2) := by decide +kernel
theorem dL_act_416 : decode cL_act 416 = .ok (.invokevirtual 70, 3) := by decide +kernel
theorem dL_act_419 : decode cL_act 419 = .ok (.ifCond .eq 7, 3) := by decide +kernel
theorem dL_act_422 : decode cL_act 422 = .ok (.iconst 1, 1) := by decide +kernel
theorem dL_act_423 : decode cL_act 423 = .ok (.goto 4, 3) := by decide +kernel
theorem dL_act_426 : decode cL_act 426 = .ok (.iconst 0, 1) := by decide +kernel
theorem dL_act_427 : decode cL_act 427 = .ok (.istore 6, 2) := by decide +kernel
theorem dL_act_429 : decode cL_act 429 = .ok (.iload 6, 2) := by decide +kernel
theorem dL_act_431 : decode cL_act 431 = .ok (.ifCond .eq 9, 3) := by decide +kernel
theorem dL_act_434 : decode cL_act 434 = .ok (.aload_n 1, 1) := by decide +kernel
theorem dL_act_435 : decode cL_act 435 = .ok (.iload 5, 2) := by decide +kernel
theorem dL_act_437 : decode cL_act 437 = .ok (.invokevirtual 74, 3) := by decide +kernel
theorem dL_act_440 : decode cL_act 440 = .ok (.aload_n 0, 1) := by decide +kernel
theorem dL_act_441 : decode cL_act 441 = .ok (.iload 5, 2) := by decide +kernel
theorem dL_act_443 : decode cL_act 443 = .ok (.invokevirtual 78, 3) := by decide +kernel
theorem dL_act_446 : decode cL_act 446 = .ok (.istore 7, 2) := by decide +kernel
theorem dL_act_448 : decode cL_act 448 = .ok (.goto 16, 3) := by decide +kernel
theorem dL_act_451 : decode cL_act 451 = .ok (.astore 8, 2) := by decide +kernel
theorem dL_act_453 : decode cL_act 453 = .ok (.iload 6, 2) := by decide +kernel
theorem dL_act_455 : decode cL_act 455 = .ok (.ifCond .ne 7, 3) := by decide +kernel
theorem dL_act_458 : decode cL_act 458 = .ok (.iconst 1, 1) := by decide +kernel
theorem dL_act_459 : decode cL_act 459 = .ok (.goto 4, 3) := by decide +kernel
theorem dL_act_462 : decode cL_act 462 = .ok (.iconst 0, 1) := by decide +kernel
theorem dL_act_463 : decode cL_act 463 = .ok (.ireturn, 1) := by decide +kernel
theorem dL_act_464 : decode cL_act 464 = .ok (.iload 6, 2) := by decide +kernel
theorem dL_act_466 : decode cL_act 466 = .ok (.ifCond .eq 30, 3) := by decide +kernel
theorem dL_act_469 : decode cL_act 469 = .ok (.iload 7, 2) := by decide +kernel
theorem dL_act_471 : decode cL_act 471 = .ok (.aload_n 1, 1) := by decide +kernel
theorem dL_act_472 : decode cL_act 472 = .ok (.getfield 67, 3) := by decide +kernel
theorem dL_act_475 : decode cL_act 475 = .ok (.iload 5, 2) := by decide +kernel
theorem dL_act_477 : decode cL_act 477 = .ok (.aaload, 1) := by decide +kernel
theorem dL_act_478 : decode cL_act 478 = .ok (.iconst 0, 1) := by decide +kernel
theorem dL_act_479 : decode cL_act 479 = .ok (.iaload, 1) := by decide +kernel
theorem dL_act_480 : decode cL_act 480 = .ok (.iconst 1, 1) := by decide +kernel
theorem dL_act_481 : decode cL_act 481 = .ok (.if_icmp .ne 7, 3) := by decide +kernel
theorem dL_act_484 : decode cL_act 484 = .ok (.iconst 1, 1) := by decide +kernel
theorem dL_act_485 : decode cL_act 485 = .ok (.goto 4, 3) := by decide +kernel
theorem dL_act_488 : decode cL_act 488 = .ok (.iconst 0, 1) := by decide +kernel
theorem dL_act_489 : decode cL_act 489 = .ok (.if_icmp .ne 7, 3) := by decide +kernel
theorem dL_act_492 : decode cL_act 492 = .ok (.iconst 1, 1) := by decide +kernel
theorem dL_act_493 : decode cL_act 493 = .ok (.goto 4, 3) := by decide +kernel
theorem dL_act_496 : decode cL_act 496 = .ok (.iconst 0, 1) := by decide +kernel
theorem dL_act_497 : decode cL_act 497 = .ok (.ireturn, 1) := by decide +kernel
theorem dL_act_498 : decode cL_act 498 = .ok (.iload_n 3, 1) := by decide +kernel
theorem dL_act_499 : decode cL_act 499 = .ok (.ifCond .ne 5, 3) := by decide +kernel
theorem dL_act_502 : decode cL_act 502 = .ok (.iconst 1, 1) := by decide +kernel
theorem dL_act_503 : decode cL_act 503 = .ok (.ireturn, 1) := by decide +kernel
theorem dL_act_504 : decode cL_act 504 = .ok (.iload_n 2, 1) := by decide +kernel
theorem dL_act_505 : decode cL_act 505 = .ok (.iconst 4, 1) := by decide +kernel
theorem dL_act_506 : decode cL_act 506 = .ok (.ishr, 1) := by decide +kernel
theorem dL_act_507 : decode cL_act 507 = .ok (.iload_n 3, 1) := by decide +kernel
theorem dL_act_508 : decode cL_act 508 = .ok (.invokestatic 15, 3) := by decide +kernel
theorem dL_act_511 : decode cL_act 511 = .ok (.istore 5, 2) := by decide +kernel
theorem dL_act_513 : decode cL_act 513 = .ok (.aload_n 1, 1) := by decide +kernel
theorem dL_act_514 : decode cL_act 514 = .ok (.getfield 9, 3) := by decide +kernel
theorem dL_act_517 : decode cL_act 517 = .ok (.iload 5, 2) := by decide +kernel
theorem dL_act_519 : decode cL_act 519 = .ok (.aaload, 1) := by decide +kernel
theorem dL_act_520 : decode cL_act 520 = .ok (.iconst 1, 1) := by decide +kernel
theorem dL_act_521 : decode cL_act 521 = .ok (.iaload, 1) := by decide +kernel
theorem dL_act_522 : decode cL_act 522 = .ok (.istore 6, 2) := by decide +kernel
theorem dL_act_524 : decode cL_act 524 = .ok (.aload_n 1, 1) := by decide +kernel
theorem dL_act_525 : decode cL_act 525 = .ok (.getfield 9, 3) := by decide +kernel
theorem dL_act_528 : decode cL_act 528 = .ok (.iload 5, 2) := by decide +kernel
theorem dL_act_530 : decode cL_act 530 = .ok (.aaload, 1) := by decide +kernel
theorem dL_act_531 : decode cL_act 531 = .ok (.iconst 1, 1) := by decide +kernel
theorem dL_act_532 : decode cL_act 532 = .ok (.iload_n 2, 1) := by decide +kernel
theorem dL_act_533 : decode cL_act 533 = .ok (.bipush 6, 2) := by decide +kernel
theorem dL_act_535 : decode cL_act 535 = .ok (.ishr, 1) := by decide +kernel
theorem dL_act_536 : decode cL_act 536 = .ok (.bipush 6, 2) := by decide +kernel
theorem dL_act_538 : decode cL_act 538 = .ok (.invokestatic 15, 3) := by decide +kernel
theorem dL_act_541 : decode cL_act 541 = .ok (.iastore, 1) := by decide +kernel
theorem dL_act_542 : decode cL_act 542 = .ok (.aload_n 0, 1) := by decide +kernel
theorem dL_act_543 : decode cL_act 543 = .ok (.iload 5, 2) := by decide +kernel
theorem dL_act_545 : decode cL_act 545 = .ok (.aload_n 1, 1) := by decide +kernel
theorem dL_act_546 : decode cL_act 546 = .ok (.getfield 9, 3) := by decide +kernel
theorem dL_act_549 : decode cL_act 549 = .ok (.iload 5, 2) := by decide +kernel
theorem dL_act_551 : decode cL_act 551 = .ok (.aaload, 1) := by decide +kernel
theorem dL_act_552 : decode cL_act 552 = .ok (.iconst 1, 1) := by decide +kernel
theorem dL_act_553 : decode cL_act 553 = .ok (.iaload, 1) := by decide +kernel
theorem dL_act_554 : decode cL_act 554 = .ok (.invokevirtual 81, 3) := by decide +kernel
theorem dL_act_557 : decode cL_act 557 = .ok (.iload 6, 2) := by decide +kernel
theorem dL_act_559 : decode cL_act 559 = .ok (.if_icmp .ne 7, 3) := by decide +kernel
theorem dL_act_562 : decode cL_act 562 = .ok (.iconst 1, 1) := by decide +kernel
theorem dL_act_563 : decode cL_act 563 = .ok (.goto 4, 3) := by decide +kernel
theorem dL_act_566 : decode cL_act 566 = .ok (.iconst 0, 1) := by decide +kernel
theorem dL_act_567 : decode cL_act 567 = .ok (.ireturn, 1) := by decide +kernel
theorem dL_act_568 : decode cL_act 568 = .ok (.iload_n 2, 1) := by decide +kernel
theorem dL_act_569 : decode cL_act 569 = .ok (.iconst 4, 1) := by decide +kernel
theorem dL_act_570 : decode cL_act 570 = .ok (.ishr, 1) := by decide +kernel
theorem dL_act_571 : decode cL_act 571 = .ok (.bipush 6, 2) := by decide +kernel
theorem dL_act_573 : decode cL_act 573 = .ok (.invokestatic 15, 3) := by decide +kernel
theorem dL_act_576 : decode cL_act 576 = .ok (.istore 5, 2) := by decide +kernel
theorem dL_act_578 : decode cL_act 578 = .ok (.iload_n 2, 1) := by decide +kernel
theorem dL_act_579 : decode cL_act 579 = .ok (.bipush 6, 2) := by decide +kernel
theorem dL_act_581 : decode cL_act 581 = .ok (.ishr, 1) := by decide +kernel
theorem dL_act_582 : decode cL_act 582 = .ok (.bipush 6, 2) := by decide +kernel
theorem dL_act_584 : decode cL_act 584 = .ok (.invokestatic 15, 3) := by decide +kernel
theorem dL_act_587 : decode cL_act 587 = .ok (.istore 6, 2) := by decide +kernel
theorem dL_act_589 : decode cL_act 589 = .ok (.iload_n 2, 1) := by decide +kernel
theorem dL_act_590 : decode cL_act 590 = .ok (.iconst 5, 1) := by decide +kernel
theorem dL_act_591 : decode cL_act 591 = .ok (.ishr, 1) := by decide +kernel
theorem dL_act_592 : decode cL_act 592 = .ok (.iload_n 2, 1) := by decide +kernel
theorem dL_act_593 : decode cL_act 593 = .ok (.bipush 8, 2) := by decide +kernel
theorem dL_act_595 : decode cL_act 595 = .ok (.ishr, 1) := by decide +kernel
theorem dL_act_596 : decode cL_act 596 = .ok (.iconst 3, 1) := by decide +kernel
theorem dL_act_597 : decode cL_act 597 = .ok (.invokestatic 15, 3) := by decide +kernel
theorem dL_act_600 : decode cL_act 600 = .ok (.ifCond .ne 7, 3) := by decide +kernel
theorem dL_act_603 : decode cL_act 603 = .ok (.iconst 4, 1) := by decide +kernel
theorem dL_act_604 : decode cL_act 604 = .ok (.goto 5, 3) := by decide +kernel
theorem dL_act_607 : decode cL_act 607 = .ok (.bipush 100, 2) := by decide +kernel
theorem dL_act_609 : decode cL_act 609 = .ok (.invokestatic 15, 3) := by decide +kernel
theorem dL_act_612 : decode cL_act 612 = .ok (.istore 7, 2) := by decide +kernel
theorem dL_act_614 : decode cL_act 614 = .ok (.iload_n 3, 1) := by decide +kernel
theorem dL_act_615 : decode cL_act 615 = .ok (.bipush 10, 2) := by decide +kernel
theorem dL_act_617 : decode cL_act 617 = .ok (.if_icmp .ge 13, 3) := by decide +kernel
theorem dL_act_620 : decode cL_act 620 = .ok (.aload_n 1, 1) := by decide +kernel
theorem dL_act_621 : decode cL_act 621 = .ok (.iload 5, 2) := by decide +kernel
theorem dL_act_623 : decode cL_act 623 = .ok (.iload 6, 2) := by decide +kernel
theorem dL_act_625 : decode cL_act 625 = .ok (.iload 7, 2) := by decide +kernel
theorem dL_act_627 : decode cL_act 627 = .ok (.invokevirtual 84, 3) := by decide +kernel
theorem dL_act_630 : decode cL_act 630 = .ok (.aload_n 0, 1) := by decide +kernel
theorem dL_act_631 : decode cL_act 631 = .ok (.iload 5, 2) := by decide +kernel
theorem dL_act_633 : decode cL_act 633 = .ok (.iload 6, 2) := by decide +kernel
theorem dL_act_635 : decode cL_act 635 = .ok (.iload 7, 2) := by decide +kernel
theorem dL_act_637 : decode cL_act 637 = .ok (.invokevirtual 88, 3) := by decide +kernel
theorem dL_act_640 : decode cL_act 640 = .ok (.istore 4, 2) := by decide +kernel
theorem dL_act_642 : decode cL_act 642 = .ok (.goto 8, 3) := by decide +kernel
theorem dL_act_645 : decode cL_act 645 = .ok (.astore 8, 2) := by decide +kernel
theorem dL_act_647 : decode cL_act 647 = .ok (.iconst (-1), 1) := by decide +kernel
theorem dL_act_648 : decode cL_act 648 = .ok (.istore 4, 2) := by decide +kernel
theorem dL_act_650 : decode cL_act 650 = .ok (.iload 4, 2) := by decide +kernel
theorem dL_act_652 : decode cL_act 652 = .ok (.iload_n 3, 1) := by decide +kernel
theorem dL_act_653 : decode cL_act 653 = .ok (.bipush 10, 2) := by decide +kernel
theorem dL_act_655 : decode cL_act 655 = .ok (.if_icmp .ge 7, 3) := by decide +kernel
theorem dL_act_658 : decode cL_act 658 = .ok (.iload_n 3, 1) := by decide +kernel
theorem dL_act_659 : decode cL_act 659 = .ok (.goto 4, 3) := by decide +kernel
theorem dL_act_662 : decode cL_act 662 = .ok (.iconst (-1), 1) := by decide +kernel
theorem dL_act_663 : decode cL_act 663 = .ok (.if_icmp .ne 7, 3) := by decide +kernel
theorem dL_act_666 : decode cL_act 666 = .ok (.iconst 1, 1) := by decide +kernel
theorem dL_act_667 : decode cL_act 667 = .ok (.goto 4, 3) := by decide +kernel
theorem dL_act_670 : decode cL_act 670 = .ok (.iconst 0, 1) := by decide +kernel
theorem dL_act_671 : decode cL_act 671 = .ok (.ireturn, 1) := by decide +kernel
set_option maxRecDepth 20000 in
theorem ggL_build_X2_init : GoodIn wsL_build wsX2_init := goodIn_r _ [6, 7, 8, 9, 10, 11, 12, 13, 14, 15, 16, 17, 18, 223, 224, 225, 226, 227, 228, 229, 230, 231, 232, 233] (by decide +kernel) (by decide +kernel)
set_option maxRecDepth 20000 in
theorem gL_build_X2_init_n92 : GoodIn wsL_build (wsX2_init) := ggL_build_X2_init
set_option maxRecDepth 20000 in
theorem ggL_build_L_cell : GoodIn wsL_build wsL_cell := goodIn_r _ [22, 23] (by decide +kernel) (by decide +kernel)
set_option maxRecDepth 20000 in
theorem gL_build_L_cell : GoodIn wsL_build (va_wsS RL 93 yL_cell wsL_cell) := goodIn_app (goodIn_of _ (by decide +kernel)) ggL_build_L_cell
set_option maxRecDepth 20000 in
theorem ggL_build_L_below : GoodIn wsL_build wsL_below := goodIn_r _ [26, 27] (by decide +kernel) (by decide +kernel)
set_option maxRecDepth 20000 in
theorem gL_build_L_below : GoodIn wsL_build (va_wsS RL 15 yL_below wsL_below) := goodIn_app (goodIn_of _ (by decide +kernel)) ggL_build_L_below
set_option maxRecDepth 20000 in
theorem ggL_build_L_act : GoodIn wsL_build wsL_act := goodIn_ca (goodIn_ca (goodIn_ca (goodIn_r _ [30, 31, 32, 33, 34, 35, 36, 37, 38, 39, 24, 25, 21, 26, 27, 40, 41, 42, 43, 44, 45, 46, 47, 48, 49, 50, 51, 52, 53, 54, 55, 56, 57, 58, 59, 60, 61, 62, 63, 64, 65, 66, 67, 68, 69, 70, 71, 72, 73, 74, 75, 3, 76, 77, 13, 78, 79, 80, 81, 82, 83, 84, 85, 86, 87, 88, 89, 90, 91, 92, 93, 94, 95, 96, 97, 98, 99, 100, 101, 102, 103, 104, 14, 105, 106, 107, 108, 109, 110, 111, 112, 113, 114, 115, 116, 117, 118, 119, 120, 121, 122, 123, 124, 125, 126, 127, 128, 129, 130, 18, 12, 10, 131, 132, 133, 134, 135, 136, 223, 224, 225, 226, 227, 228, 229, 230, 231, 232, 233, 234, 235, 236, 237, 238, 239, 240, 241, 242, 243, 244, 245, 246, 247, 248, 249, 250, 251, 252, 253] (by decide +kernel) (by decide +kernel)) (goodIn_sub (fun _ h => List.mem_cons_of_mem _ (List.mem_append_left _ (List.mem_append_left _ (List.mem_append_right _ h)))) (by decide +kernel))) (goodIn_sub (fun _ h => List.mem_cons_of_mem _ (List.mem_append_left _ (List.mem_append_right _ h))) (by decide +kernel))) (goodIn_sub (fun _ h => List.mem_cons_of_mem _ (List.mem_append_right _ h)) (by decide +kernel))
set_option maxRecDepth 20000 in
theorem gL_build_L_act : GoodIn wsL_build (va_wsS RL 98 yL_act wsL_act) := goodIn_app (goodIn_of _ (by decide +kernel)) ggL_build_L_act
set_option maxRecDepth 20000 in
theorem ggL_build_X1_pass : GoodIn wsL_build wsX1_pass := goodIn_ca (goodIn_r _ [140, 45, 52, 53, 43, 54, 55, 56, 141, 142, 143, 89, 144, 145, 146, 147, 148, 149, 150, 151, 152, 153, 154, 120, 87, 88, 90, 91, 92, 93, 94, 95, 96, 155, 156, 157, 158, 159, 160, 161, 162, 163, 164, 165, 166, 167, 168, 169, 170, 171, 172, 173, 174, 175, 176, 177, 178, 179, 180, 181, 182, 183, 184, 185, 186, 187, 188, 118, 189, 190, 191, 192, 193, 111, 112, 113, 194, 195, 196, 197, 198, 199, 200, 115, 116, 117, 119, 234, 235, 236, 237, 238, 239, 240, 241, 242, 243, 244, 245, 246, 247, 248, 249, 250, 251, 252, 253] (by decide +kernel) (by decide +kernel)) (goodIn_sub (fun _ h => List.mem_cons_of_mem _ (List.mem_append_left _ (List.mem_append_right _ h))) (by decide +kernel))
set_option maxRecDepth 20000 in
theorem gL_build_X1_pass : GoodIn wsL_build (wsV RL 102 RX1 yX1_pass wsX1_pass) := goodIn_app (goodIn_of _ (by decide +kernel)) ggL_build_X1_pass
set_option maxRecDepth 20000 in
theorem ggL_build_X2_pass : GoodIn wsL_build wsX2_pass := goodIn_r _ [204, 11, 205, 15, 13, 16, 206, 18, 207, 14, 17, 78, 74, 75, 3, 76, 77, 208, 209, 210, 211, 212, 213, 214, 215, 216, 217, 218, 219, 220, 221, 98, 99, 100, 222, 102, 103, 104, 223, 224, 225, 226, 227, 228, 229, 230, 231, 232, 233] (by decide +kernel) (by decide +kernel)
set_option maxRecDepth 20000 in
theorem gL_build_X2_pass : GoodIn wsL_build (wsV RL 105 RX2 yX2_pass wsX2_pass) := goodIn_app (goodIn_of _ (by decide +kernel)) ggL_build_X2_pass
theorem dL_build_0 : decode cL_build 0 = .ok (.new 10, 3) := by decide +kernel
theorem dL_build_3 : decode cL_build 3 = .ok (.dup, 1) := by decide +kernel
theorem dL_build_4 : decode cL_build 4 = .ok (.invokespecial 92, 3) := by decide +kernel
theorem dL_build_7 : decode cL_build 7 = .ok (.astore_n 2, 1) := by decide +kernel
theorem dL_build_8 : decode cL_build 8 = .ok (.iconst 0, 1) := by decide +kernel
theorem dL_build_9 : decode cL_build 9 = .ok (.istore_n 3, 1) := by decide +kernel
theorem dL_build_10 : decode cL_build 10 = .ok (.iload_n 3, 1) := by decide +kernel
theorem dL_build_11 : decode cL_build 11 = .ok (.bipush 22, 2) := by decide +kernel
theorem dL_build_13 : decode cL_build 13 = .ok (.if_icmp .ge 86, 3) := by decide +kernel
theorem dL_build_16 : decode cL_build 16 = .ok (.aload_n 1, 1) := by decide +kernel
theorem dL_build_17 : decode cL_build 17 = .ok (.iload_n 3, 1) := by decide +kernel
theorem dL_build_18 : decode cL_build 18 = .ok (.bipush 16, 2) := by decide +kernel
theorem dL_build_20 : decode cL_build 20 = .ok (.irem, 1) := by decide +kernel
theorem dL_build_21 : decode cL_build 21 = .ok (.invokestatic 93, 3) := by decide +kernel
theorem dL_build_24 : decode cL_build 24 = .ok (.iload_n 3, 1) := by decide +kernel
theorem dL_build_25 : decode cL_build 25 = .ok (.bipush 16, 2) := by decide +kernel
theorem dL_build_27 : decode cL_build 27 = .ok (.idiv, 1) := by decide +kernel
theorem dL_build_28 : decode cL_build 28 = .ok (.iconst 4, 1) := by decide +kernel
theorem dL_build_29 : decode cL_build 29 = .ok (.imul, 1) := by decide +kernel
theorem dL_build_30 : decode cL_build 30 = .ok (.ishr, 1) := by decide +kernel
theorem dL_build_31 : decode cL_build 31 = .ok (.bipush 59, 2) := by decide +kernel
theorem dL_build_33 : decode cL_build 33 = .ok (.iload_n 3, 1) := by decide +kernel
theorem dL_build_34 : decode cL_build 34 = .ok (.imul, 1) := by decide +kernel
theorem dL_build_35 : decode cL_build 35 = .ok (.iadd, 1) := by decide +kernel
theorem dL_build_36 : decode cL_build 36 = .ok (.istore 4, 2) := by decide +kernel
theorem dL_build_38 : decode cL_build 38 = .ok (.iload_n 3, 1) := by decide +kernel
theorem dL_build_39 : decode cL_build 39 = .ok (.iconst 3, 1) := by decide +kernel
theorem dL_build_40 : decode cL_build 40 = .ok (.if_icmp .ge 18, 3) := by decide +kernel
theorem dL_build_43 : decode cL_build 43 = .ok (.iload 4, 2) := by decide +kernel
theorem dL_build_45 : decode cL_build 45 = .ok (.ldc 97, 2) := by decide +kernel
theorem dL_build_47 : decode cL_build 47 = .ok (.invokestatic 15, 3) := by decide +kernel
theorem dL_build_50 : decode cL_build 50 = .ok (.bipush 14, 2) := by decide +kernel
theorem dL_build_52 : decode cL_build 52 = .ok (.imul, 1) := by decide +kernel
theorem dL_build_53 : decode cL_build 53 = .ok (.bipush 9, 2) := by decide +kernel
theorem dL_build_55 : decode cL_build 55 = .ok (.iadd, 1) := by decide +kernel
theorem dL_build_56 : decode cL_build 56 = .ok (.istore 4, 2) := by decide +kernel
theorem dL_build_58 : decode cL_build 58 = .ok (.aload_n 0, 1) := by decide +kernel
theorem dL_build_59 : decode cL_build 59 = .ok (.aload_n 2, 1) := by decide +kernel
theorem dL_build_60 : decode cL_build 60 = .ok (.iload 4, 2) := by decide +kernel
theorem dL_build_62 : decode cL_build 62 = .ok (.invokestatic 98, 3) := by decide +kernel
theorem dL_build_65 : decode cL_build 65 = .ok (.ifCond .eq 26, 3) := by decide +kernel
theorem dL_build_68 : decode cL_build 68 = .ok (.iload_n 3, 1) := by decide +kernel
theorem dL_build_69 : decode cL_build 69 = .ok (.iconst 4, 1) := by decide +kernel
theorem dL_build_70 : decode cL_build 70 = .ok (.if_icmp .le 23, 3) := by decide +kernel
theorem dL_build_73 : decode cL_build 73 = .ok (.iload_n 3, 1) := by decide +kernel
theorem dL_build_74 : decode cL_build 74 = .ok (.iconst 3, 1) := by decide +kernel
theorem dL_build_75 : decode cL_build 75 = .ok (.irem, 1) := by decide +kernel
theorem dL_build_76 : decode cL_build 76 = .ok (.ifCond .ne 17, 3) := by decide +kernel
theorem dL_build_79 : decode cL_build 79 = .ok (.aload_n 0, 1) := by decide +kernel
theorem dL_build_80 : decode cL_build 80 = .ok (.iconst 1, 1) := by decide +kernel
theorem dL_build_81 : decode cL_build 81 = .ok (.invokevirtual 102, 3) := by decide +kernel
theorem dL_build_84 : decode cL_build 84 = .ok (.aload_n 2, 1) := by decide +kernel
theorem dL_build_85 : decode cL_build 85 = .ok (.invokevirtual 105, 3) := by decide +kernel
theorem dL_build_88 : decode cL_build 88 = .ok (.if_icmp .eq 5, 3) := by decide +kernel
theorem dL_build_91 : decode cL_build 91 = .ok (.aconst_null, 1) := by decide +kernel
theorem dL_build_92 : decode cL_build 92 = .ok (.areturn, 1) := by decide +kernel
theorem dL_build_93 : decode cL_build 93 = .ok (.iinc 3 1, 3) := by decide +kernel
theorem dL_build_96 : decode cL_build 96 = .ok (.goto (-86), 3) := by decide +kernel
theorem dL_build_99 : decode cL_build 99 = .ok (.aload_n 2, 1) := by decide +kernel
theorem dL_build_100 : decode cL_build 100 = .ok (.areturn, 1) := by decide +kernel
set_option maxRecDepth 20000 in
theorem ggL_law_X1_init : GoodIn wsL_law wsX1_init := goodIn_r _ [8, 9, 10, 11, 12, 13, 14, 15, 16, 17, 18, 19, 20, 21, 22, 23, 4, 24, 25, 26, 27, 28, 29, 30, 31, 32, 33, 34, 35, 358, 359, 360, 361, 362, 363, 364, 365, 366, 367, 368, 369, 370, 371, 372, 373, 374, 375, 345, 346] (by decide +kernel) (by decide +kernel)
set_option maxRecDepth 20000 in
theorem gL_law_X1_init : GoodIn wsL_law (wsX1_init) := ggL_law_X1_init
set_option maxRecDepth 20000 in
theorem ggL_law_L_build : GoodIn wsL_law wsL_build := goodIn_ca (goodIn_ca (goodIn_ca (goodIn_r _ [39, 40, 41, 42, 43, 44, 45, 46, 10, 11, 4, 47, 48, 49, 50, 51, 52, 53, 54, 55, 56, 38, 57, 58, 59, 60, 61, 62, 63, 64, 65, 66, 67, 5, 68, 69, 70, 71, 72, 73, 74, 75, 76, 2, 77, 15, 78, 79, 80, 81, 82, 83, 84, 85, 86, 87, 88, 89, 90, 91, 92, 93, 94, 95, 96, 97, 98, 99, 100, 101, 102, 103, 104, 105, 106, 107, 108, 109, 110, 111, 112, 113, 114, 115, 116, 117, 118, 119, 120, 14, 121, 25, 122, 123, 124, 125, 26, 126, 127, 128, 129, 130, 131, 132, 133, 134, 135, 136, 137, 138, 139, 140, 141, 142, 143, 144, 145, 146, 29, 31, 147, 148, 149, 150, 151, 152, 153, 154, 155, 156, 157, 158, 159, 160, 161, 162, 163, 164, 165, 166, 167, 168, 169, 170, 171, 172, 173, 174, 175, 24, 176, 177, 178, 179, 180, 181, 182, 183, 184, 22, 23, 27, 185, 186, 187, 188, 189, 190, 191, 192, 193, 194, 32, 195, 196, 197, 198, 33, 199, 200, 201, 202, 203, 204, 205, 206, 34, 21, 207, 208, 209, 210, 211, 212, 213, 214, 215, 216, 35, 30, 217, 218, 219, 220, 221, 222, 223, 28, 224, 225, 226, 227, 228, 229, 230, 231, 232, 233, 234, 235, 236, 237, 238, 347, 348, 349, 350, 351, 352, 353, 354, 355, 356, 357, 345, 346, 358, 359, 360, 361, 362, 363, 364, 365, 366, 367, 368, 369, 370, 371, 372, 373, 374, 375] (by decide +kernel) (by decide +kernel)) (goodIn_sub (fun _ h => List.mem_append_left _ (List.mem_append_left _ (List.mem_append_right _ h))) (by decide +kernel))) (goodIn_sub (fun _ h => List.mem_append_left _ (List.mem_append_right _ h)) (by decide +kernel))) (goodIn_sub (fun _ h => List.mem_append_right _ h) (by decide +kernel))
set_option maxRecDepth 20000 in
theorem gL_law_L_build : GoodIn wsL_law (va_wsS RL 109 yL_build wsL_build) := goodIn_app (goodIn_of _ (by decide +kernel)) ggL_law_L_build
set_option maxRecDepth 20000 in
theorem ggL_law_L_cell : GoodIn wsL_law wsL_cell := goodIn_r _ [57, 58] (by decide +kernel) (by decide +kernel)
set_option maxRecDepth 20000 in
theorem gL_law_L_cell : GoodIn wsL_law (va_wsS RL 93 yL_cell wsL_cell) := goodIn_app (goodIn_of _ (by decide +kernel)) ggL_law_L_cell
set_option maxRecDepth 20000 in
theorem ggL_law_L_below : GoodIn wsL_law wsL_below := goodIn_r _ [61, 62] (by decide +kernel) (by decide +kernel)
set_option maxRecDepth 20000 in
theorem gL_law_L_below : GoodIn wsL_law (va_wsS RL 15 yL_below wsL_below) := goodIn_app (goodIn_of _ (by decide +kernel)) ggL_law_L_below
set_option maxRecDepth 20000 in
theorem ggL_law_L_act : GoodIn wsL_law wsL_act := goodIn_ca (goodIn_ca (goodIn_ca (goodIn_r _ [65, 66, 67, 5, 68, 69, 70, 71, 72, 73, 59, 60, 38, 61, 62, 74, 75, 76, 2, 77, 15, 78, 79, 80, 81, 82, 83, 84, 85, 86, 87, 88, 89, 90, 91, 92, 93, 94, 95, 96, 97, 98, 99, 100, 101, 102, 103, 104, 105, 106, 107, 42, 108, 109, 49, 110, 111, 112, 113, 114, 115, 116, 117, 118, 119, 120, 14, 121, 25, 122, 123, 124, 125, 26, 126, 127, 128, 129, 130, 131, 132, 133, 50, 134, 135, 136, 137, 138, 139, 140, 141, 142, 143, 144, 145, 146, 29, 31, 147, 148, 149, 150, 151, 152, 153, 154, 155, 156, 157, 54, 48, 4, 158, 159, 160, 161, 162, 163, 347, 348, 349, 350, 351, 352, 353, 354, 355, 356, 357, 345, 346, 358, 359, 360, 361, 362, 363, 364, 365, 366, 367, 368, 369, 370, 371, 372, 373, 374, 375] (by decide +kernel) (by decide +kernel)) (goodIn_sub (fun _ h => List.mem_append_left _ (List.mem_append_left _ (List.mem_append_right _ h))) (by decide +kernel))) (goodIn_sub (fun _ h => List.mem_append_left _ (List.mem_append_right _ h)) (by decide +kernel))) (goodIn_sub (fun _ h => List.mem_append_right _ h) (by decide +kernel))
set_option maxRecDepth 20000 in
theorem gL_law_L_act : GoodIn wsL_law (va_wsS RL 98 yL_act wsL_act) := goodIn_app (goodIn_of _ (by decide +kernel)) ggL_law_L_act
set_option maxRecDepth 20000 in
theorem ggL_law_X1_count : GoodIn wsL_law wsX1_count := goodIn_ca (goodIn_r _ [242, 15, 79, 80, 2, 81, 82, 83, 243, 244, 245, 14, 246, 176, 190, 185, 26, 27, 21, 23, 22, 247, 248, 249, 250, 195, 196, 197, 198, 32, 33, 251, 252, 253, 254, 25, 255, 256, 257, 258, 29, 345, 346, 358, 359, 360, 361, 362, 363, 364, 365, 366, 367, 368, 369, 370, 371, 372, 373, 374, 375] (by decide +kernel) (by decide +kernel)) (goodIn_sub (fun _ h => List.mem_append_left _ (List.mem_append_left _ (List.mem_append_right _ h))) (by decide +kernel))
set_option maxRecDepth 20000 in
theorem gL_law_X1_count : GoodIn wsL_law (wsV RL 113 RX1 yX1_count wsX1_count) := goodIn_app (goodIn_of _ (by decide +kernel)) ggL_law_X1_count
set_option maxRecDepth 20000 in
theorem ggL_law_X1_told : GoodIn wsL_law wsX1_told := goodIn_ca (goodIn_r _ [262, 15, 152, 79, 80, 2, 81, 82, 83, 263, 264, 265, 14, 266, 32, 33, 34, 35, 191, 192, 193, 194, 195, 196, 197, 198, 199, 200, 201, 202, 345, 346, 358, 359, 360, 361, 362, 363, 364, 365, 366, 367, 368, 369, 370, 371, 372, 373, 374, 375] (by decide +kernel) (by decide +kernel)) (goodIn_sub (fun _ h => List.mem_append_left _ (List.mem_append_left _ (List.mem_append_right _ h))) (by decide +kernel))
set_option maxRecDepth 20000 in
theorem gL_law_X1_told : GoodIn wsL_law (wsV RL 117 RX1 yX1_told wsX1_told) := goodIn_app (goodIn_of _ (by decide +kernel)) ggL_law_X1_told
set_option maxRecDepth 20000 in
theorem ggL_law_X1_pound : GoodIn wsL_law wsX1_pound := goodIn_ca (goodIn_r _ [270, 15, 79, 80, 2, 81, 82, 83, 271, 272, 273, 14, 274, 25, 26, 27, 275, 276, 277, 278, 190, 32, 345, 346, 358, 359, 360, 361, 362, 363, 364, 365, 366, 367, 368, 369, 370, 371, 372, 373, 374, 375] (by decide +kernel) (by decide +kernel)) (goodIn_sub (fun _ h => List.mem_append_left _ (List.mem_append_left _ (List.mem_append_right _ h))) (by decide +kernel))
set_option maxRecDepth 20000 in
theorem gL_law_X1_pound : GoodIn wsL_law (wsV RL 120 RX1 yX1_pound wsX1_pound) := goodIn_app (goodIn_of _ (by decide +kernel)) ggL_law_X1_pound
set_option maxRecDepth 20000 in
theorem ggL_law_X1_lock : GoodIn wsL_law wsX1_lock := goodIn_ca (goodIn_r _ [282, 15, 79, 80, 2, 81, 82, 83, 283, 284, 285, 14, 286, 29, 30, 31, 287, 288, 289, 290, 190, 191, 192, 193, 194, 32, 195, 196, 197, 198, 33, 199, 200, 201, 202, 186, 187, 188, 189, 203, 204, 205, 206, 34, 21, 207, 208, 209, 210, 211, 212, 140, 141, 142, 25, 345, 346, 358, 359, 360, 361, 362, 363, 364, 365, 366, 367, 368, 369, 370, 371, 372, 373, 374, 375] (by decide +kernel) (by decide +kernel)) (goodIn_sub (fun _ h => List.mem_append_left _ (List.mem_append_left _ (List.mem_append_right _ h))) (by decide +kernel))
set_option maxRecDepth 20000 in
theorem gL_law_X1_lock : GoodIn wsL_law (wsV RL 123 RX1 yX1_lock wsX1_lock) := goodIn_app (goodIn_of _ (by decide +kernel)) ggL_law_X1_lock
set_option maxRecDepth 20000 in
theorem ggL_law_X1_digest : GoodIn wsL_law wsX1_digest := goodIn_r _ [294, 295, 15, 99, 78, 152, 243, 244, 245, 14, 246, 176, 190, 185, 26, 27, 21, 23, 22, 247, 248, 249, 250, 195, 196, 197, 198, 32, 33, 251, 252, 253, 254, 25, 255, 256, 257, 258, 29, 296, 297, 2, 298, 299, 271, 272, 273, 274, 275, 276, 277, 278, 283, 284, 285, 286, 30, 31, 287, 288, 289, 290, 191, 192, 193, 194, 199, 200, 201, 202, 186, 187, 188, 189, 203, 204, 205, 206, 34, 207, 208, 209, 210, 211, 212, 140, 141, 142, 263, 264, 265, 266, 35, 345, 346, 358, 359, 360, 361, 362, 363, 364, 365, 366, 367, 368, 369, 370, 371, 372, 373, 374, 375] (by decide +kernel) (by decide +kernel)
set_option maxRecDepth 20000 in
theorem gL_law_X1_digest : GoodIn wsL_law (wsV RL 126 RX1 yX1_digest wsX1_digest) := goodIn_app (goodIn_of _ (by decide +kernel)) ggL_law_X1_digest
set_option maxRecDepth 20000 in
theorem ggL_law_X1_foresee : GoodIn wsL_law wsX1_foresee := goodIn_ca (goodIn_ca (goodIn_r _ [303, 16, 15, 84, 85, 2, 86, 87, 88, 79, 80, 81, 82, 83, 304, 305, 306, 14, 307, 176, 185, 21, 207, 22, 23, 24, 308, 309, 310, 311, 25, 26, 27, 29, 30, 31, 190, 32, 33, 34, 35, 168, 169, 170, 171, 172, 173, 174, 175, 177, 178, 179, 180, 147, 119, 120, 121, 122, 123, 124, 125, 181, 182, 183, 184, 186, 187, 188, 189, 191, 192, 193, 194, 195, 196, 197, 198, 199, 200, 201, 202, 203, 204, 205, 206, 208, 209, 210, 211, 212, 140, 141, 142, 213, 214, 215, 216, 217, 144, 145, 146, 243, 244, 245, 246, 247, 248, 249, 250, 251, 252, 253, 254, 255, 256, 257, 258, 345, 346, 358, 359, 360, 361, 362, 363, 364, 365, 366, 367, 368, 369, 370, 371, 372, 373, 374, 375] (by decide +kernel) (by decide +kernel)) (goodIn_sub (fun _ h => List.mem_append_left _ (List.mem_append_right _ h)) (by decide +kernel))) (goodIn_sub (fun _ h => List.mem_append_left _ (List.mem_append_left _ (List.mem_append_right _ h))) (by decide +kernel))
set_option maxRecDepth 20000 in
theorem gL_law_X1_foresee : GoodIn wsL_law (wsV RL 130 RX1 yX1_foresee wsX1_foresee) := goodIn_app (goodIn_of _ (by decide +kernel)) ggL_law_X1_foresee
set_option maxRecDepth 20000 in
theorem ggL_law_X1_arrives : GoodIn wsL_law wsX1_arrives := goodIn_ca (goodIn_r _ [315, 15, 152, 16, 79, 80, 2, 81, 82, 83, 304, 305, 306, 14, 307, 176, 185, 21, 207, 22, 23, 24, 308, 309, 310, 311, 25, 26, 27, 29, 30, 31, 190, 32, 33, 34, 35, 316, 196, 197, 198, 317, 173, 174, 175, 177, 178, 179, 180, 147, 119, 120, 121, 122, 123, 124, 125, 181, 182, 183, 184, 186, 187, 188, 189, 191, 192, 193, 194, 195, 199, 200, 201, 202, 203, 204, 205, 206, 208, 209, 210, 211, 212, 140, 141, 142, 213, 214, 215, 216, 217, 144, 145, 146, 345, 346, 358, 359, 360, 361, 362, 363, 364, 365, 366, 367, 368, 369, 370, 371, 372, 373, 374, 375] (by decide +kernel) (by decide +kernel)) (goodIn_sub (fun _ h => List.mem_append_left _ (List.mem_append_left _ (List.mem_append_right _ h))) (by decide +kernel))
set_option maxRecDepth 20000 in
theorem gL_law_X1_arrives : GoodIn wsL_law (wsV RL 133 RX1 yX1_arrives wsX1_arrives) := goodIn_app (goodIn_of _ (by decide +kernel)) ggL_law_X1_arrives
set_option maxRecDepth 20000 in
theorem ggL_law_X1_advise : GoodIn wsL_law wsX1_advise := goodIn_ca (goodIn_r _ [321, 16, 15, 93, 117, 84, 85, 2, 86, 87, 88, 304, 305, 306, 14, 307, 176, 185, 21, 207, 22, 23, 24, 308, 309, 310, 311, 25, 26, 27, 29, 30, 31, 190, 32, 33, 34, 35, 168, 169, 170, 171, 172, 173, 174, 175, 177, 178, 179, 180, 147, 119, 120, 121, 122, 123, 124, 125, 181, 182, 183, 184, 186, 187, 188, 189, 191, 192, 193, 194, 195, 196, 197, 198, 199, 200, 201, 202, 203, 204, 205, 206, 208, 209, 210, 211, 212, 140, 141, 142, 213, 214, 215, 216, 217, 144, 145, 146, 345, 346, 358, 359, 360, 361, 362, 363, 364, 365, 366, 367, 368, 369, 370, 371, 372, 373, 374, 375] (by decide +kernel) (by decide +kernel)) (goodIn_sub (fun _ h => List.mem_append_left _ (List.mem_append_right _ h)) (by decide +kernel))
set_option maxRecDepth 20000 in
theorem gL_law_X1_advise : GoodIn wsL_law (wsV RL 136 RX1 yX1_advise wsX1_advise) := goodIn_app (goodIn_of _ (by decide +kernel)) ggL_law_X1_advise
set_option maxRecDepth 20000 in
theorem ggL_law_X1_stops : GoodIn wsL_law wsX1_stops := goodIn_r _ [325, 16, 15, 304, 305, 306, 14, 307, 176, 185, 21, 207, 22, 23, 24, 308, 309, 310, 311, 25, 26, 27, 29, 30, 31, 190, 32, 33, 34, 35, 317, 173, 174, 175, 177, 178, 179, 180, 147, 119, 120, 121, 122, 123, 124, 125, 181, 182, 183, 184, 186, 187, 188, 189, 191, 192, 193, 194, 195, 196, 197, 198, 199, 200, 201, 202, 203, 204, 205, 206, 208, 209, 210, 211, 212, 140, 141, 142, 213, 214, 215, 216, 217, 144, 145, 146, 345, 346, 358, 359, 360, 361, 362, 363, 364, 365, 366, 367, 368, 369, 370, 371, 372, 373, 374, 375] (by decide +kernel) (by decide +kernel)
set_option maxRecDepth 20000 in
theorem gL_law_X1_stops : GoodIn wsL_law (wsV RL 139 RX1 yX1_stops wsX1_stops) := goodIn_app (goodIn_of _ (by decide +kernel)) ggL_law_X1_stops
set_option maxRecDepth 20000 in
theorem ggL_law_X1_pass : GoodIn wsL_law wsX1_pass := goodIn_ca (goodIn_r _ [167, 15, 84, 85, 2, 86, 87, 88, 168, 169, 170, 14, 171, 172, 173, 174, 175, 24, 176, 177, 178, 179, 180, 147, 119, 120, 121, 25, 122, 123, 124, 125, 26, 181, 182, 183, 184, 22, 23, 27, 185, 186, 187, 188, 189, 190, 191, 192, 193, 194, 32, 195, 196, 197, 198, 33, 199, 200, 201, 202, 203, 204, 205, 206, 34, 21, 207, 29, 208, 209, 210, 211, 212, 140, 141, 142, 213, 214, 215, 216, 35, 30, 217, 144, 145, 146, 31, 345, 346, 358, 359, 360, 361, 362, 363, 364, 365, 366, 367, 368, 369, 370, 371, 372, 373, 374, 375] (by decide +kernel) (by decide +kernel)) (goodIn_sub (fun _ h => List.mem_append_left _ (List.mem_append_right _ h)) (by decide +kernel))
set_option maxRecDepth 20000 in
theorem gL_law_X1_pass : GoodIn wsL_law (wsV RL 102 RX1 yX1_pass wsX1_pass) := goodIn_app (goodIn_of _ (by decide +kernel)) ggL_law_X1_pass
set_option maxRecDepth 20000 in
theorem ggL_law_X2_pass : GoodIn wsL_law wsX2_pass := goodIn_r _ [221, 47, 222, 51, 49, 52, 223, 54, 28, 50, 53, 110, 106, 107, 42, 108, 109, 224, 225, 226, 227, 228, 229, 230, 231, 232, 233, 234, 235, 236, 237, 127, 128, 129, 238, 131, 132, 133, 347, 348, 349, 350, 351, 352, 353, 354, 355, 356, 357] (by decide +kernel) (by decide +kernel)
set_option maxRecDepth 20000 in
theorem gL_law_X2_pass : GoodIn wsL_law (wsV RL 105 RX2 yX2_pass wsX2_pass) := goodIn_app (goodIn_of _ (by decide +kernel)) ggL_law_X2_pass
set_option maxRecDepth 20000 in
theorem ggL_law_X2_isSame : GoodIn wsL_law wsX2_isSame := goodIn_ca (goodIn_r _ [329, 54, 49, 28, 50, 330, 331, 332, 333, 42, 334, 4, 222, 223, 109, 53, 52, 51, 335, 240, 241, 2, 242, 15, 79, 80, 81, 82, 83, 243, 244, 245, 14, 246, 176, 190, 185, 26, 27, 21, 23, 22, 247, 248, 249, 250, 195, 196, 197, 198, 32, 33, 251, 252, 253, 254, 25, 255, 256, 257, 258, 29, 336, 268, 269, 270, 271, 272, 273, 274, 275, 276, 277, 278, 233, 234, 235, 236, 337, 280, 281, 282, 283, 284, 285, 286, 30, 31, 287, 288, 289, 290, 191, 192, 193, 194, 199, 200, 201, 202, 186, 187, 188, 189, 203, 204, 205, 206, 34, 207, 208, 209, 210, 211, 212, 140, 141, 142, 224, 225, 226, 227, 228, 229, 230, 231, 232, 237, 127, 128, 129, 338, 260, 261, 262, 152, 263, 264, 265, 266, 35, 339, 340, 341, 342, 343, 344, 347, 348, 349, 350, 351, 352, 353, 354, 355, 356, 357, 345, 346, 358, 359, 360, 361, 362, 363, 364, 365, 366, 367, 368, 369, 370, 371, 372, 373, 374, 375] (by decide +kernel) (by decide +kernel)) (goodIn_sub (fun _ h => List.mem_append_left _ (List.mem_append_left _ (List.mem_append_right _ h))) (by decide +kernel))
set_option maxRecDepth 20000 in
theorem gL_law_X2_isSame : GoodIn wsL_law (wsV RL 142 RX2 yX2_isSame wsX2_isSame) := goodIn_app (goodIn_of _ (by decide +kernel)) ggL_law_X2_isSame
theorem dL_law_0 : decode cL_law 0 = .ok (.new 26, 3) := by decide +kernel
theorem dL_law_3 : decode cL_law 3 = .ok (.dup, 1) := by decide +kernel
theorem dL_law_4 : decode cL_law 4 = .ok (.invokespecial 108, 3) := by decide +kernel
theorem dL_law_7 : decode cL_law 7 = .ok (.astore_n 1, 1) := by decide +kernel
theorem dL_law_8 : decode cL_law 8 = .ok (.aload_n 1, 1) := by decide +kernel
theorem dL_law_9 : decode cL_law 9 = .ok (.aload_n 0, 1) := by decide +kernel
theorem dL_law_10 : decode cL_law 10 = .ok (.invokestatic 109, 3) := by decide +kernel
theorem dL_law_13 : decode cL_law 13 = .ok (.astore_n 2, 1) := by decide +kernel
theorem dL_law_14 : decode cL_law 14 = .ok (.aload_n 2, 1) := by decide +kernel
theorem dL_law_15 : decode cL_law 15 = .ok (.ifnonnull 5, 3) := by decide +kernel
theorem dL_law_18 : decode cL_law 18 = .ok (.iconst 0, 1) := by decide +kernel
theorem dL_law_19 : decode cL_law 19 = .ok (.ireturn, 1) := by decide +kernel
theorem dL_law_20 : decode cL_law 20 = .ok (.iconst 0, 1) := by decide +kernel
theorem dL_law_21 : decode cL_law 21 = .ok (.istore_n 3, 1) := by decide +kernel
theorem dL_law_22 : decode cL_law 22 = .ok (.iload_n 3, 1) := by decide +kernel
theorem dL_law_23 : decode cL_law 23 = .ok (.bipush 45, 2) := by decide +kernel
theorem dL_law_25 : decode cL_law 25 = .ok (.if_icmp .ge 1328, 3) := by decide +kernel
theorem dL_law_28 : decode cL_law 28 = .ok (.aload_n 0, 1) := by decide +kernel
theorem dL_law_29 : decode cL_law 29 = .ok (.iload_n 3, 1) := by decide +kernel
theorem dL_law_30 : decode cL_law 30 = .ok (.bipush 16, 2) := by decide +kernel
theorem dL_law_32 : decode cL_law 32 = .ok (.irem, 1) := by decide +kernel
theorem dL_law_33 : decode cL_law 33 = .ok (.invokestatic 93, 3) := by decide +kernel
theorem dL_law_36 : decode cL_law 36 = .ok (.iload_n 3, 1) := by decide +kernel
theorem dL_law_37 : decode cL_law 37 = .ok (.bipush 16, 2) := by decide +kernel
theorem dL_law_39 : decode cL_law 39 = .ok (.idiv, 1) := by decide +kernel
theorem dL_law_40 : decode cL_law 40 = .ok (.iconst 5, 1) := by decide +kernel
theorem dL_law_41 : decode cL_law 41 = .ok (.imul, 1) := by decide +kernel
theorem dL_law_42 : decode cL_law 42 = .ok (.ishr, 1) := by decide +kernel
theorem dL_law_43 : decode cL_law 43 = .ok (.bipush 53, 2) := by decide +kernel
theorem dL_law_45 : decode cL_law 45 = .ok (.iload_n 3, 1) := by decide +kernel
theorem dL_law_46 : decode cL_law 46 = .ok (.imul, 1) := by decide +kernel
theorem dL_law_47 : decode cL_law 47 = .ok (.iadd, 1) := by decide +kernel
theorem dL_law_48 : decode cL_law 48 = .ok (.istore 4, 2) := by decide +kernel
theorem dL_law_50 : decode cL_law 50 = .ok (.iload 4, 2) := by decide +kernel
theorem dL_law_52 : decode cL_law 52 = .ok (.iconst 3, 1) := by decide +kernel
theorem dL_law_53 : decode cL_law 53 = .ok (.invokestatic 15, 3) := by decide +kernel
theorem dL_law_56 : decode cL_law 56 = .ok (.ifCond .le 17, 3) := by decide +kernel
theorem dL_law_59 : decode cL_law 59 = .ok (.aload_n 1, 1) := by decide +kernel
theorem dL_law_60 : decode cL_law 60 = .ok (.aload_n 2, 1) := by decide +kernel
theorem dL_law_61 : decode cL_law 61 = .ok (.iload 4, 2) := by decide +kernel
theorem dL_law_63 : decode cL_law 63 = .ok (.iconst 3, 1) := by decide +kernel
theorem dL_law_64 : decode cL_law 64 = .ok (.idiv, 1) := by decide +kernel
theorem dL_law_65 : decode cL_law 65 = .ok (.invokestatic 98, 3) := by decide +kernel
theorem dL_law_68 : decode cL_law 68 = .ok (.ifCond .ne 5, 3) := by decide +kernel
theorem dL_law_71 : decode cL_law 71 = .ok (.iconst 0, 1) := by decide +kernel
theorem dL_law_72 : decode cL_law 72 = .ok (.ireturn, 1) := by decide +kernel
theorem dL_law_73 : decode cL_law 73 = .ok (.aload_n 1, 1) := by decide +kernel
theorem dL_law_74 : decode cL_law 74 = .ok (.iconst 1, 1) := by decide +kernel
theorem dL_law_75 : decode cL_law 75 = .ok (.invokevirtual 113, 3) := by decide +kernel
theorem dL_law_78 : decode cL_law 78 = .ok (.istore 5, 2) := by decide +kernel
theorem dL_law_80 : decode cL_law 80 = .ok (.aload_n 1, 1) := by decide +kernel
theorem dL_law_81 : decode cL_law 81 = .ok (.iconst 4, 1) := by decide +kernel
theorem dL_law_82 : decode cL_law 82 = .ok (.invokevirtual 113, 3) := by decide +kernel
theorem dL_law_85 : decode cL_law 85 = .ok (.bipush 12, 2) := by decide +kernel
theorem dL_law_87 : decode cL_law 87 = .ok (.aload_n 1, 1) := by decide +kernel
theorem dL_law_88 : decode cL_law 88 = .ok (.iconst 5, 1) := by decide +kernel
theorem dL_law_89 : decode cL_law 89 = .ok (.invokevirtual 113, 3) := by decide +kernel
theorem dL_law_92 : decode cL_law 92 = .ok (.imul, 1) := by decide +kernel
theorem dL_law_93 : decode cL_law 93 = .ok (.iadd, 1) := by decide +kernel
theorem dL_law_94 : decode cL_law 94 = .ok (.aload_n 1, 1) := by decide +kernel
theorem dL_law_95 : decode cL_law 95 = .ok (.bipush 6, 2) := by decide +kernel
theorem dL_law_97 : decode cL_law 97 = .ok (.invokevirtual 113, 3) := by decide +kernel
theorem dL_law_100 : decode cL_law 100 = .ok (.iadd, 1) := by decide +kernel
theorem dL_law_101 : decode cL_law 101 = .ok (.istore 6, 2) := by decide +kernel
theorem dL_law_103 : decode cL_law 103 = .ok (.iload 5, 2) := by decide +kernel
theorem dL_law_105 : decode cL_law 105 = .ok (.iconst 5, 1) := by decide +kernel
theorem dL_law_106 : decode cL_law 106 = .ok (.multianewarray 116 2, 4) := by decide +kernel
theorem dL_law_110 : decode cL_law 110 = .ok (.astore 7, 2) := by decide +kernel
theorem dL_law_112 : decode cL_law 112 = .ok (.iconst 5, 1) := by decide +kernel
theorem dL_law_113 : decode cL_law 113 = .ok (.iconst 5, 1) := by decide +kernel
theorem dL_law_114 : decode cL_law 114 = .ok (.multianewarray 116 2, 4) := by decide +kernel
theorem dL_law_118 : decode cL_law 118 = .ok (.astore 8, 2) := by decide +kernel
theorem dL_law_120 : decode cL_law 120 = .ok (.iconst 5, 1) := by decide +kernel
theorem dL_law_121 : decode cL_law 121 = .ok (.newarray .int, 2) := by decide +kernel
theorem dL_law_123 : decode cL_law 123 = .ok (.dup, 1) := by decide +kernel
theorem dL_law_124 : decode cL_law 124 = .ok (.iconst 0, 1) := by decide +kernel
theorem dL_law_125 : decode cL_law 125 = .ok (.iconst (-1), 1) := by decide +kernel
theorem dL_law_126 : decode cL_law 126 = .ok (.iastore, 1) := by decide +kernel
theorem dL_law_127 : decode cL_law 127 = .ok (.dup, 1) := by decide +kernel
theorem dL_law_128 : decode cL_law 128 = .ok (.iconst 1, 1) := by decide +kernel
theorem dL_law_129 : decode cL_law 129 = .ok (.iconst (-1), 1) := by decide +kernel
theorem dL_law_130 : decode cL_law 130 = .ok (.iastore, 1) := by decide +kernel
theorem dL_law_131 : decode cL_law 131 = .ok (.dup, 1) := by decide +kernel
theorem dL_law_132 : decode cL_law 132 = .ok (.iconst 2, 1) := by decide +kernel
theorem dL_law_133 : decode cL_law 133 = .ok (.iconst (-1), 1) := by decide +kernel
theorem dL_law_134 : decode cL_law 134 = .ok (.iastore, 1) := by decide +kernel
theorem dL_law_135 : decode cL_law 135 = .ok (.dup, 1) := by decide +kernel
theorem dL_law_136 : decode cL_law 136 = .ok (.iconst 3, 1) := by decide +kernel
theorem dL_law_137 : decode cL_law 137 = .ok (.iconst (-1), 1) := by decide +kernel
theorem dL_law_138 : decode cL_law 138 = .ok (.iastore, 1) := by decide +kernel
theorem dL_law_139 : decode cL_law 139 = .ok (.dup, 1) := by decide +kernel
theorem dL_law_140 : decode cL_law 140 = .ok (.iconst 4, 1) := by decide +kernel
theorem dL_law_141 : decode cL_law 141 = .ok (.iconst (-1), 1) := by decide +kernel
theorem dL_law_142 : decode cL_law 142 = .ok (.iastore, 1) := by decide +kernel
theorem dL_law_143 : decode cL_law 143 = .ok (.astore 9, 2) := by decide +kernel
theorem dL_law_145 : decode cL_law 145 = .ok (.iconst 0, 1) := by decide +kernel
theorem dL_law_146 : decode cL_law 146 = .ok (.istore 10, 2) := by decide +kernel
theorem dL_law_148 : decode cL_law 148 = .ok (.iconst 0, 1) := by decide +kernel
theorem dL_law_149 : decode cL_law 149 = .ok (.istore 11, 2) := by decide +kernel
theorem dL_law_151 : decode cL_law 151 = .ok (.iload 11, 2) := by decide +kernel
theorem dL_law_153 : decode cL_law 153 = .ok (.iload 5, 2) := by decide +kernel
theorem dL_law_155 : decode cL_law 155 = .ok (.if_icmp .ge 173, 3) := by decide +kernel
theorem dL_law_158 : decode cL_law 158 = .ok (.iconst 0, 1) := by decide +kernel
theorem dL_law_159 : decode cL_law 159 = .ok (.istore 12, 2) := by decide +kernel
theorem dL_law_161 : decode cL_law 161 = .ok (.iload 12, 2) := by decide +kernel
theorem dL_law_163 : decode cL_law 163 = .ok (.iconst 5, 1) := by decide +kernel
theorem dL_law_164 : decode cL_law 164 = .ok (.if_icmp .ge 25, 3) := by decide +kernel
theorem dL_law_167 : decode cL_law 167 = .ok (.aload 7, 2) := by decide +kernel
theorem dL_law_169 : decode cL_law 169 = .ok (.iload 11, 2) := by decide +kernel
theorem dL_law_171 : decode cL_law 171 = .ok (.aaload, 1) := by decide +kernel
theorem dL_law_172 : decode cL_law 172 = .ok (.iload 12, 2) := by decide +kernel
theorem dL_law_174 : decode cL_law 174 = .ok (.aload_n 1, 1) := by decide +kernel
theorem dL_law_175 : decode cL_law 175 = .ok (.iload 11, 2) := by decide +kernel
theorem dL_law_177 : decode cL_law 177 = .ok (.iload 12, 2) := by decide +kernel
theorem dL_law_179 : decode cL_law 179 = .ok (.invokevirtual 117, 3) := by decide +kernel
theorem dL_law_182 : decode cL_law 182 = .ok (.iastore, 1) := by decide +kernel
theorem dL_law_183 : decode cL_law 183 = .ok (.iinc 12 1, 3) := by decide +kernel
theorem dL_law_186 : decode cL_law 186 = .ok (.goto (-25), 3) := by decide +kernel
theorem dL_law_189 : decode cL_law 189 = .ok (.aload 7, 2) := by decide +kernel
theorem dL_law_191 : decode cL_law 191 = .ok (.iload 11, 2) := by decide +kernel
theorem dL_law_193 : decode cL_law 193 = .ok (.aaload, 1) := by decide +kernel
theorem dL_law_194 : decode cL_law 194 = .ok (.astore 12, 2) := by decide +kernel
theorem dL_law_196 : decode cL_law 196 = .ok (.aload 12, 2) := by decide +kernel
theorem dL_law_198 : decode cL_law 198 = .ok (.iconst 0, 1) := by decide +kernel
theorem dL_law_199 : decode cL_law 199 = .ok (.iaload, 1) := by decide +kernel
theorem dL_law_200 : decode cL_law 200 = .ok (.ifCond .lt 103, 3) := by decide +kernel
theorem dL_law_203 : decode cL_law 203 = .ok (.aload 12, 2) := by decide +kernel
theorem dL_law_205 : decode cL_law 205 = .ok (.iconst 0, 1) := by decide +kernel
theorem dL_law_206 : decode cL_law 206 = .ok (.iaload, 1) := by decide +kernel
theorem dL_law_207 : decode cL_law 207 = .ok (.iconst 5, 1) := by decide +kernel
theorem dL_law_208 : decode cL_law 208 = .ok (.if_icmp .gt 95, 3) := by decide +kernel
theorem dL_law_211 : decode cL_law 211 = .ok (.aload 12, 2) := by decide +kernel
theorem dL_law_213 : decode cL_law 213 = .ok (.iconst 1, 1) := by decide +kernel
theorem dL_law_214 : decode cL_law 214 = .ok (.iaload, 1) := by decide +kernel
theorem dL_law_215 : decode cL_law 215 = .ok (.ifCond .lt 88, 3) := by decide +kernel
theorem dL_law_218 : decode cL_law 218 = .ok (.aload 12, 2) := by decide +kernel
theorem dL_law_220 : decode cL_law 220 = .ok (.iconst 1, 1) := by decide +kernel
theorem dL_law_221 : decode cL_law 221 = .ok (.iaload, 1) := by decide +kernel
theorem dL_law_222 : decode cL_law 222 = .ok (.iconst 5, 1) := by decide +kernel
theorem dL_law_223 : decode cL_law 223 = .ok (.if_icmp .gt 80, 3) := by decide +kernel
theorem dL_law_226 : decode cL_law 226 = .ok (.aload 12, 2) := by decide +kernel
theorem dL_law_228 : decode cL_law 228 = .ok (.iconst 2, 1) := by decide +kernel
theorem dL_law_229 : decode cL_law 229 = .ok (.iaload, 1) := by decide +kernel
theorem dL_law_230 : decode cL_law 230 = .ok (.ifCond .lt 73, 3) := by decide +kernel
theorem dL_law_233 : decode cL_law 233 = .ok (.aload 12, 2) := by decide +kernel
theorem dL_law_235 : decode cL_law 235 = .ok (.iconst 4, 1) := by decide +kernel
theorem dL_law_236 : decode cL_law 236 = .ok (.iaload, 1) := by decide +kernel
theorem dL_law_237 : decode cL_law 237 = .ok (.ifCond .ge 7, 3) := by decide +kernel
theorem dL_law_240 : decode cL_law 240 = .ok (.iconst 1, 1) := by decide +kernel
theorem dL_law_241 : decode cL_law 241 = .ok (.goto 4, 3) := by decide +kernel
theorem dL_law_244 : decode cL_law 244 = .ok (.iconst 0, 1) := by decide +kernel
theorem dL_law_245 : decode cL_law 245 = .ok (.aload 12, 2) := by decide +kernel
theorem dL_law_247 : decode cL_law 247 = .ok (.iconst 0, 1) := by decide +kernel
theorem dL_law_248 : decode cL_law 248 = .ok (.iaload, 1) := by decide +kernel
theorem dL_law_249 : decode cL_law 249 = .ok (.aload 12, 2) := by decide +kernel
theorem dL_law_251 : decode cL_law 251 = .ok (.iconst 1, 1) := by decide +kernel
theorem dL_law_252 : decode cL_law 252 = .ok (.iaload, 1) := by decide +kernel
theorem dL_law_253 : decode cL_law 253 = .ok (.if_icmp .ne 7, 3) := by decide +kernel
theorem dL_law_256 : decode cL_law 256 = .ok (.iconst 1, 1) := by decide +kernel
theorem dL_law_257 : decode cL_law 257 = .ok (.goto 4, 3) := by decide +kernel
theorem dL_law_260 : decode cL_law 260 = .ok (.iconst 0, 1) := by decide +kernel
theorem dL_law_261 : decode cL_law 261 = .ok (.if_icmp .ne 42, 3) := by decide +kernel
theorem dL_law_264 : decode cL_law 264 = .ok (.aload 12, 2) := by decide +kernel
theorem dL_law_266 : decode cL_law 266 = .ok (.iconst 4, 1) := by decide +kernel
theorem dL_law_267 : decode cL_law 267 = .ok (.iaload, 1) := by decide +kernel
theorem dL_law_268 : decode cL_law 268 = .ok (.iconst 4, 1) := by decide +kernel
theorem dL_law_269 : decode cL_law 269 = .ok (.if_icmp .gt 34, 3) := by decide +kernel
theorem dL_law_272 : decode cL_law 272 = .ok (.aload 12, 2) := by decide +kernel
theorem dL_law_274 : decode cL_law 274 = .ok (.iconst 4, 1) := by decide +kernel
theorem dL_law_275 : decode cL_law 275 = .ok (.iaload, 1) := by decide +kernel
theorem dL_law_276 : decode cL_law 276 = .ok (.ifCond .lt 29, 3) := by decide +kernel
theorem dL_law_279 : decode cL_law 279 = .ok (.aload 12, 2) := by decide +kernel
theorem dL_law_281 : decode cL_law 281 = .ok (.iconst 4, 1) := by decide +kernel
theorem dL_law_282 : decode cL_law 282 = .ok (.iaload, 1) := by decide +kernel
theorem dL_law_283 : decode cL_law 283 = .ok (.aload 12, 2) := by decide +kernel
theorem dL_law_285 : decode cL_law 285 = .ok (.iconst 0, 1) := by decide +kernel
theorem dL_law_286 : decode cL_law 286 = .ok (.iaload, 1) := by decide +kernel
theorem dL_law_287 : decode cL_law 287 = .ok (.if_icmp .eq 18, 3) := by decide +kernel
theorem dL_law_290 : decode cL_law 290 = .ok (.aload 12, 2) := by decide +kernel
theorem dL_law_292 : decode cL_law 292 = .ok (.iconst 4, 1) := by decide +kernel
theorem dL_law_293 : decode cL_law 293 = .ok (.iaload, 1) := by decide +kernel
theorem dL_law_294 : decode cL_law 294 = .ok (.aload 12, 2) := by decide +kernel
theorem dL_law_296 : decode cL_law 296 = .ok (.iconst 0, 1) := by decide +kernel
theorem dL_law_297 : decode cL_law 297 = .ok (.iaload, 1) := by decide +kernel
theorem dL_law_298 : decode cL_law 298 = .ok (.iconst 1, 1) := by decide +kernel
theorem dL_law_299 : decode cL_law 299 = .ok (.isub, 1) := by decide +kernel
theorem dL_law_300 : decode cL_law 300 = .ok (.if_icmp .eq 5, 3) := by decide +kernel
theorem dL_law_303 : decode cL_law 303 = .ok (.iconst 0, 1) := by decide +kernel
theorem dL_law_304 : decode cL_law 304 = .ok (.ireturn, 1) := by decide +kernel
theorem dL_law_305 : decode cL_law 305 = .ok (.iload 10, 2) := by decide +kernel
theorem dL_law_307 : decode cL_law 307 = .ok (.aload 12, 2) := by decide +kernel
theorem dL_law_309 : decode cL_law 309 = .ok (.iconst 4, 1) := by decide +kernel
theorem dL_law_310 : decode cL_law 310 = .ok (.iaload, 1) := by decide +kernel
theorem dL_law_311 : decode cL_law 311 = .ok (.ifCond .ge 7, 3) := by decide +kernel
theorem dL_law_314 : decode cL_law 314 = .ok (.iconst 1, 1) := by decide +kernel
theorem dL_law_315 : decode cL_law 315 = .ok (.goto 4, 3) := by decide +kernel
theorem dL_law_318 : decode cL_law 318 = .ok (.iconst 0, 1) := by decide +kernel
theorem dL_law_319 : decode cL_law 319 = .ok (.iadd, 1) := by decide +kernel
theorem dL_law_320 : decode cL_law 320 = .ok (.istore 10, 2) := by decide +kernel
theorem dL_law_322 : decode cL_law 322 = .ok (.iinc 11 1, 3) := by decide +kernel
theorem dL_law_325 : decode cL_law 325 = .ok (.goto (-174), 3) := by decide +kernel
theorem dL_law_328 : decode cL_law 328 = .ok (.iconst 0, 1) := by decide +kernel
theorem dL_law_329 : decode cL_law 329 = .ok (.istore 11, 2) := by decide +kernel
theorem dL_law_331 : decode cL_law 331 = .ok (.iconst 0, 1) := by decide +kernel
theorem dL_law_332 : decode cL_law 332 = .ok (.istore 12, 2) := by decide +kernel
theorem dL_law_334 : decode cL_law 334 = .ok (.iconst 0, 1) := by decide +kernel
theorem dL_law_335 : decode cL_law 335 = .ok (.istore 13, 2) := by decide +kernel
theorem dL_law_337 : decode cL_law 337 = .ok (.iload 13, 2) := by decide +kernel
theorem dL_law_339 : decode cL_law 339 = .ok (.bipush 6, 2) := by decide +kernel
theorem dL_law_341 : decode cL_law 341 = .ok (.if_icmp .ge 71, 3) := by decide +kernel
theorem dL_law_344 : decode cL_law 344 = .ok (.aload_n 1, 1) := by decide +kernel
theorem dL_law_345 : decode cL_law 345 = .ok (.iload 13, 2) := by decide +kernel
theorem dL_law_347 : decode cL_law 347 = .ok (.iconst 0, 1) := by decide +kernel
theorem dL_law_348 : decode cL_law 348 = .ok (.invokevirtual 120, 3) := by decide +kernel
theorem dL_law_351 : decode cL_law 351 = .ok (.istore 14, 2) := by decide +kernel
theorem dL_law_353 : decode cL_law 353 = .ok (.iload 11, 2) := by decide +kernel
theorem dL_law_355 : decode cL_law 355 = .ok (.iload 14, 2) := by decide +kernel
theorem dL_law_357 : decode cL_law 357 = .ok (.iadd, 1) := by decide +kernel
theorem dL_law_358 : decode cL_law 358 = .ok (.istore 11, 2) := by decide +kernel
theorem dL_law_360 : decode cL_law 360 = .ok (.iload 12, 2) := by decide +kernel
theorem dL_law_362 : decode cL_law 362 = .ok (.aload_n 1, 1) := by decide +kernel
theorem dL_law_363 : decode cL_law 363 = .ok (.iload 13, 2) := by decide +kernel
theorem dL_law_365 : decode cL_law 365 = .ok (.iconst 1, 1) := by decide +kernel
theorem dL_law_366 : decode cL_law 366 = .ok (.invokevirtual 120, 3) := by decide +kernel
theorem dL_law_369 : decode cL_law 369 = .ok (.iadd, 1) := by decide +kernel
theorem dL_law_370 : decode cL_law 370 = .ok (.istore 12, 2) := by decide +kernel
theorem dL_law_372 : decode cL_law 372 = .ok (.iload 14, 2) := by decide +kernel
theorem dL_law_374 : decode cL_law 374 = .ok (.ifCond .lt 30, 3) := by decide +kernel
theorem dL_law_377 : decode cL_law 377 = .ok (.iload 14, 2) := by decide +kernel
theorem dL_law_379 : decode cL_law 379 = .ok (.bipush 100, 2) := by decide +kernel
theorem dL_law_381 : decode cL_law 381 = .ok (.if_icmp .gt 23, 3) := by decide +kernel
theorem dL_law_384 : decode cL_law 384 = .ok (.aload_n 1, 1) := by decide +kernel
theorem dL_law_385 : decode cL_law 385 = .ok (.iload 13, 2) := by decide +kernel
theorem dL_law_387 : decode cL_law 387 = .ok (.iconst 2, 1) := by decide +kernel
theorem dL_law_388 : decode cL_law 388 = .ok (.invokevirtual 120, 3) := by decide +kernel
theorem dL_law_391 : decode cL_law 391 = .ok (.ifCond .lt 13, 3) := by decide +kernel
theorem dL_law_394 : decode cL_law 394 = .ok (.aload_n 1, 1) := by decide +kernel
theorem dL_law_395 : decode cL_law 395 = .ok (.iload 13, 2) := by decide +kernel
theorem dL_law_397 : decode cL_law 397 = .ok (.iconst 3, 1) := by decide +kernel
theorem dL_law_398 : decode cL_law 398 = .ok (.invokevirtual 120, 3) := by decide +kernel
theorem dL_law_401 : decode cL_law 401 = .ok (.ifCond .ge 5, 3) := by decide +kernel
theorem dL_law_404 : decode cL_law 404 = .ok (.iconst 0, 1) := by decide +kernel
theorem dL_law_405 : decode cL_law 405 = .ok (.ireturn, 1) := by decide +kernel
theorem dL_law_406 : decode cL_law 406 = .ok (.iinc 13 1, 3) := by decide +kernel
theorem dL_law_409 : decode cL_law 409 = .ok (.goto (-72), 3) := by decide +kernel
theorem dL_law_412 : decode cL_law 412 = .ok (.iconst 0, 1) := by decide +kernel
theorem dL_law_413 : decode cL_law 413 = .ok (.istore 13, 2) := by decide +kernel
theorem dL_law_415 : decode cL_law 415 = .ok (.iconst 0, 1) := by decide +kernel
theorem dL_law_416 : decode cL_law 416 = .ok (.istore 14, 2) := by decide +kernel
theorem dL_law_418 : decode cL_law 418 = .ok (.iconst 0, 1) := by decide +kernel
theorem dL_law_419 : decode cL_law 419 = .ok (.istore 15, 2) := by decide +kernel
theorem dL_law_421 : decode cL_law 421 = .ok (.iload 15, 2) := by decide +kernel
theorem dL_law_423 : decode cL_law 423 = .ok (.iconst 5, 1) := by decide +kernel
theorem dL_law_424 : decode cL_law 424 = .ok (.if_icmp .ge 154, 3) := by decide +kernel
theorem dL_law_427 : decode cL_law 427 = .ok (.iconst 0, 1) := by decide +kernel
theorem dL_law_428 : decode cL_law 428 = .ok (.istore 16, 2) := by decide +kernel
theorem dL_law_430 : decode cL_law 430 = .ok (.iload 16, 2) := by decide +kernel
theorem dL_law_432 : decode cL_law 432 = .ok (.iconst 5, 1) := by decide +kernel
theorem dL_law_433 : decode cL_law 433 = .ok (.if_icmp .ge 25, 3) := by decide +kernel
theorem dL_law_436 : decode cL_law 436 = .ok (.aload 8, 2) := by decide +kernel
theorem dL_law_438 : decode cL_law 438 = .ok (.iload 15, 2) := by decide +kernel
theorem dL_law_440 : decode cL_law 440 = .ok (.aaload, 1) := by decide +kernel
theorem dL_law_441 : decode cL_law 441 = .ok (.iload 16, 2) := by decide +kernel
theorem dL_law_443 : decode cL_law 443 = .ok (.aload_n 1, 1) := by decide +kernel
theorem dL_law_444 : decode cL_law 444 = .ok (.iload 15, 2) := by decide +kernel
theorem dL_law_446 : decode cL_law 446 = .ok (.iload 16, 2) := by decide +kernel
theorem dL_law_448 : decode cL_law 448 = .ok (.invokevirtual 123, 3) := by decide +kernel
theorem dL_law_451 : decode cL_law 451 = .ok (.iastore, 1) := by decide +kernel
theorem dL_law_452 : decode cL_law 452 = .ok (.iinc 16 1, 3) := by decide +kernel
theorem dL_law_455 : decode cL_law 455 = .ok (.goto (-25), 3) := by decide +kernel
theorem dL_law_458 : decode cL_law 458 = .ok (.iload 13, 2) := by decide +kernel
theorem dL_law_460 : decode cL_law 460 = .ok (.aload 8, 2) := by decide +kernel
theorem dL_law_462 : decode cL_law 462 = .ok (.iload 15, 2) := by decide +kernel
theorem dL_law_464 : decode cL_law 464 = .ok (.aaload, 1) := by decide +kernel
theorem dL_law_465 : decode cL_law 465 = .ok (.iconst 0, 1) := by decide +kernel
theorem dL_law_466 : decode cL_law 466 = .ok (.iaload, 1) := by decide +kernel
theorem dL_law_467 : decode cL_law 467 = .ok (.iadd, 1) := by decide +kernel
theorem dL_law_468 : decode cL_law 468 = .ok (.istore 13, 2) := by decide +kernel
theorem dL_law_470 : decode cL_law 470 = .ok (.iload 14, 2) := by decide +kernel
theorem dL_law_472 : decode cL_law 472 = .ok (.aload 8, 2) := by decide +kernel
theorem dL_law_474 : decode cL_law 474 = .ok (.iload 15, 2) := by decide +kernel
theorem dL_law_476 : decode cL_law 476 = .ok (.aaload, 1) := by decide +kernel
theorem dL_law_477 : decode cL_law 477 = .ok (.iconst 1, 1) := by decide +kernel
theorem dL_law_478 : decode cL_law 478 = .ok (.iaload, 1) := by decide +kernel
theorem dL_law_479 : decode cL_law 479 = .ok (.iadd, 1) := by decide +kernel
theorem dL_law_480 : decode cL_law 480 = .ok (.istore 14, 2) := by decide +kernel
theorem dL_law_482 : decode cL_law 482 = .ok (.aload 9, 2) := by decide +kernel
theorem dL_law_484 : decode cL_law 484 = .ok (.iload 15, 2) := by decide +kernel
theorem dL_law_486 : decode cL_law 486 = .ok (.aload 8, 2) := by decide +kernel
theorem dL_law_488 : decode cL_law 488 = .ok (.iload 15, 2) := by decide +kernel
theorem dL_law_490 : decode cL_law 490 = .ok (.aaload, 1) := by decide +kernel
theorem dL_law_491 : decode cL_law 491 = .ok (.iconst 4, 1) := by decide +kernel
theorem dL_law_492 : decode cL_law 492 = .ok (.iaload, 1) := by decide +kernel
theorem dL_law_493 : decode cL_law 493 = .ok (.iastore, 1) := by decide +kernel
theorem dL_law_494 : decode cL_law 494 = .ok (.aload 8, 2) := by decide +kernel
theorem dL_law_496 : decode cL_law 496 = .ok (.iload 15, 2) := by decide +kernel
theorem dL_law_498 : decode cL_law 498 = .ok (.aaload, 1) := by decide +kernel
theorem dL_law_499 : decode cL_law 499 = .ok (.iconst 0, 1) := by decide +kernel
theorem dL_law_500 : decode cL_law 500 = .ok (.iaload, 1) := by decide +kernel
theorem dL_law_501 : decode cL_law 501 = .ok (.ifCond .lt 69, 3) := by decide +kernel
theorem dL_law_504 : decode cL_law 504 = .ok (.aload 8, 2) := by decide +kernel
theorem dL_law_506 : decode cL_law 506 = .ok (.iload 15, 2) := by decide +kernel
theorem dL_law_508 : decode cL_law 508 = .ok (.aaload, 1) := by decide +kernel
theorem dL_law_509 : decode cL_law 509 = .ok (.iconst 0, 1) := by decide +kernel
theorem dL_law_510 : decode cL_law 510 = .ok (.iaload, 1) := by decide +kernel
theorem dL_law_511 : decode cL_law 511 = .ok (.iconst 1, 1) := by decide +kernel
theorem dL_law_512 : decode cL_law 512 = .ok (.if_icmp .gt 58, 3) := by decide +kernel
theorem dL_law_515 : decode cL_law 515 = .ok (.aload 8, 2) := by decide +kernel
theorem dL_law_517 : decode cL_law 517 = .ok (.iload 15, 2) := by decide +kernel
theorem dL_law_519 : decode cL_law 519 = .ok (.aaload, 1) := by decide +kernel
theorem dL_law_520 : decode cL_law 520 = .ok (.iconst 3, 1) := by decide +kernel
theorem dL_law_521 : decode cL_law 521 = .ok (.iaload, 1) := by decide +kernel
theorem dL_law_522 : decode cL_law 522 = .ok (.bipush 12, 2) := by decide +kernel
theorem dL_law_524 : decode cL_law 524 = .ok (.irem, 1) := by decide +kernel
theorem dL_law_525 : decode cL_law 525 = .ok (.ifCond .ne 45, 3) := by decide +kernel
theorem dL_law_528 : decode cL_law 528 = .ok (.aload 9, 2) := by decide +kernel
theorem dL_law_530 : decode cL_law 530 = .ok (.iload 15, 2) := by decide +kernel
theorem dL_law_532 : decode cL_law 532 = .ok (.iaload, 1) := by decide +kernel
theorem dL_law_533 : decode cL_law 533 = .ok (.ifCond .lt 39, 3) := by decide +kernel
theorem dL_law_536 : decode cL_law 536 = .ok (.aload 7, 2) := by decide +kernel
theorem dL_law_538 : decode cL_law 538 = .ok (.aload 9, 2) := by decide +kernel
theorem dL_law_540 : decode cL_law 540 = .ok (.iload 15, 2) := by decide +kernel
theorem dL_law_542 : decode cL_law 542 = .ok (.iaload, 1) := by decide +kernel
theorem dL_law_543 : decode cL_law 543 = .ok (.aaload, 1) := by decide +kernel
theorem dL_law_544 : decode cL_law 544 = .ok (.iconst 4, 1) := by decide +kernel
theorem dL_law_545 : decode cL_law 545 = .ok (.iaload, 1) := by decide +kernel
theorem dL_law_546 : decode cL_law 546 = .ok (.iload 15, 2) := by decide +kernel
theorem dL_law_548 : decode cL_law 548 = .ok (.if_icmp .ne 22, 3) := by decide +kernel
theorem dL_law_551 : decode cL_law 551 = .ok (.aload 7, 2) := by decide +kernel
theorem dL_law_553 : decode cL_law 553 = .ok (.aload 9, 2) := by decide +kernel
theorem dL_law_555 : decode cL_law 555 = .ok (.iload 15, 2) := by decide +kernel
theorem dL_law_557 : decode cL_law 557 = .ok (.iaload, 1) := by decide +kernel
theorem dL_law_558 : decode cL_law 558 = .ok (.aaload, 1) := by decide +kernel
theorem dL_law_559 : decode cL_law 559 = .ok (.iconst 2, 1) := by decide +kernel
theorem dL_law_560 : decode cL_law 560 = .ok (.iaload, 1) := by decide +kernel
theorem dL_law_561 : decode cL_law 561 = .ok (.aload_n 1, 1) := by decide +kernel
theorem dL_law_562 : decode cL_law 562 = .ok (.bipush 7, 2) := by decide +kernel
theorem dL_law_564 : decode cL_law 564 = .ok (.invokevirtual 113, 3) := by decide +kernel
theorem dL_law_567 : decode cL_law 567 = .ok (.if_icmp .ge 5, 3) := by decide +kernel
theorem dL_law_570 : decode cL_law 570 = .ok (.iconst 0, 1) := by decide +kernel
theorem dL_law_571 : decode cL_law 571 = .ok (.ireturn, 1) := by decide +kernel
theorem dL_law_572 : decode cL_law 572 = .ok (.iinc 15 1, 3) := by decide +kernel
theorem dL_law_575 : decode cL_law 575 = .ok (.goto (-154), 3) := by decide +kernel
theorem dL_law_578 : decode cL_law 578 = .ok (.iload 11, 2) := by decide +kernel
theorem dL_law_580 : decode cL_law 580 = .ok (.aload_n 1, 1) := by decide +kernel
theorem dL_law_581 : decode cL_law 581 = .ok (.iconst 4, 1) := by decide +kernel
theorem dL_law_582 : decode cL_law 582 = .ok (.invokevirtual 113, 3) := by decide +kernel
theorem dL_law_585 : decode cL_law 585 = .ok (.if_icmp .ne 40, 3) := by decide +kernel
theorem dL_law_588 : decode cL_law 588 = .ok (.iload 12, 2) := by decide +kernel
theorem dL_law_590 : decode cL_law 590 = .ok (.iload 5, 2) := by decide +kernel
theorem dL_law_592 : decode cL_law 592 = .ok (.if_icmp .ne 33, 3) := by decide +kernel
theorem dL_law_595 : decode cL_law 595 = .ok (.iload 13, 2) := by decide +kernel
theorem dL_law_597 : decode cL_law 597 = .ok (.aload_n 1, 1) := by decide +kernel
theorem dL_law_598 : decode cL_law 598 = .ok (.iconst 5, 1) := by decide +kernel
theorem dL_law_599 : decode cL_law 599 = .ok (.invokevirtual 113, 3) := by decide +kernel
theorem dL_law_602 : decode cL_law 602 = .ok (.if_icmp .ne 23, 3) := by decide +kernel
theorem dL_law_605 : decode cL_law 605 = .ok (.iload 10, 2) := by decide +kernel
theorem dL_law_607 : decode cL_law 607 = .ok (.aload_n 1, 1) := by decide +kernel
theorem dL_law_608 : decode cL_law 608 = .ok (.iconst 2, 1) := by decide +kernel
theorem dL_law_609 : decode cL_law 609 = .ok (.invokevirtual 113, 3) := by decide +kernel
theorem dL_law_612 : decode cL_law 612 = .ok (.if_icmp .ne 13, 3) := by decide +kernel
theorem dL_law_615 : decode cL_law 615 = .ok (.iload 14, 2) := by decide +kernel
theorem dL_law_617 : decode cL_law 617 = .ok (.iload 5, 2) := by decide +kernel
theorem dL_law_619 : decode cL_law 619 = .ok (.iload 10, 2) := by decide +kernel
theorem dL_law_621 : decode cL_law 621 = .ok (.isub, 1) := by decide +kernel
theorem dL_law_622 : decode cL_law 622 = .ok (.if_icmp .eq 5, 3) := by decide +kernel
theorem dL_law_625 : decode cL_law 625 = .ok (.iconst 0, 1) := by decide +kernel
theorem dL_law_626 : decode cL_law 626 = .ok (.ireturn, 1) := by decide +kernel
theorem dL_law_627 : decode cL_law 627 = .ok (.aload_n 1, 1) := by decide +kernel
theorem dL_law_628 : decode cL_law 628 = .ok (.invokevirtual 126, 3) := by decide +kernel
theorem dL_law_631 : decode cL_law 631 = .ok (.lstore 15, 2) := by decide +kernel
theorem dL_law_633 : decode cL_law 633 = .ok (.bipush 7, 2) := by decide +kernel
theorem dL_law_635 : decode cL_law 635 = .ok (.newarray .int, 2) := by decide +kernel
theorem dL_law_637 : decode cL_law 637 = .ok (.astore 17, 2) := by decide +kernel
theorem dL_law_639 : decode cL_law 639 = .ok (.iconst 2, 1) := by decide +kernel
theorem dL_law_640 : decode cL_law 640 = .ok (.istore 18, 2) := by decide +kernel
theorem dL_law_642 : decode cL_law 642 = .ok (.iload 18, 2) := by decide +kernel
theorem dL_law_644 : decode cL_law 644 = .ok (.bipush 7, 2) := by decide +kernel
theorem dL_law_646 : decode cL_law 646 = .ok (.if_icmp .ge 21, 3) := by decide +kernel
theorem dL_law_649 : decode cL_law 649 = .ok (.aload 17, 2) := by decide +kernel
theorem dL_law_651 : decode cL_law 651 = .ok (.iload 18, 2) := by decide +kernel
theorem dL_law_653 : decode cL_law 653 = .ok (.aload_n 1, 1) := by decide +kernel
theorem dL_law_654 : decode cL_law 654 = .ok (.iconst 1, 1) := by decide +kernel
theorem dL_law_655 : decode cL_law 655 = .ok (.iload 18, 2) := by decide +kernel
theorem dL_law_657 : decode cL_law 657 = .ok (.invokevirtual 130, 3) := by decide +kernel
theorem dL_law_660 : decode cL_law 660 = .ok (.iastore, 1) := by decide +kernel
theorem dL_law_661 : decode cL_law 661 = .ok (.iinc 18 1, 3) := by decide +kernel
theorem dL_law_664 : decode cL_law 664 = .ok (.goto (-22), 3) := by decide +kernel
theorem dL_law_667 : decode cL_law 667 = .ok (.iload 5, 2) := by decide +kernel
theorem dL_law_669 : decode cL_law 669 = .ok (.ifCond .ne 7, 3) := by decide +kernel
theorem dL_law_672 : decode cL_law 672 = .ok (.iconst (-1), 1) := by decide +kernel
theorem dL_law_673 : decode cL_law 673 = .ok (.goto 12, 3) := by decide +kernel
theorem dL_law_676 : decode cL_law 676 = .ok (.iload 4, 2) := by decide +kernel
theorem dL_law_678 : decode cL_law 678 = .ok (.iconst 4, 1) := by decide +kernel
theorem dL_law_679 : decode cL_law 679 = .ok (.ishr, 1) := by decide +kernel
theorem dL_law_680 : decode cL_law 680 = .ok (.iload 5, 2) := by decide +kernel
theorem dL_law_682 : decode cL_law 682 = .ok (.invokestatic 15, 3) := by decide +kernel
theorem dL_law_685 : decode cL_law 685 = .ok (.istore 18, 2) := by decide +kernel
theorem dL_law_687 : decode cL_law 687 = .ok (.iload 18, 2) := by decide +kernel
theorem dL_law_689 : decode cL_law 689 = .ok (.ifCond .ge 7, 3) := by decide +kernel
theorem dL_law_692 : decode cL_law 692 = .ok (.iconst (-1), 1) := by decide +kernel
theorem dL_law_693 : decode cL_law 693 = .ok (.goto 9, 3) := by decide +kernel
theorem dL_law_696 : decode cL_law 696 = .ok (.aload_n 1, 1) := by decide +kernel
theorem dL_law_697 : decode cL_law 697 = .ok (.iload 18, 2) := by decide +kernel
theorem dL_law_699 : decode cL_law 699 = .ok (.invokevirtual 133, 3) := by decide +kernel
theorem dL_law_702 : decode cL_law 702 = .ok (.istore 19, 2) := by decide +kernel
theorem dL_law_704 : decode cL_law 704 = .ok (.iload_n 3, 1) := by decide +kernel
theorem dL_law_705 : decode cL_law 705 = .ok (.iconst 5, 1) := by decide +kernel
theorem dL_law_706 : decode cL_law 706 = .ok (.irem, 1) := by decide +kernel
theorem dL_law_707 : decode cL_law 707 = .ok (.ifCond .ne 22, 3) := by decide +kernel
theorem dL_law_710 : decode cL_law 710 = .ok (.aload_n 1, 1) := by decide +kernel
theorem dL_law_711 : decode cL_law 711 = .ok (.iconst 1, 1) := by decide +kernel
theorem dL_law_712 : decode cL_law 712 = .ok (.iload 4, 2) := by decide +kernel
theorem dL_law_714 : decode cL_law 714 = .ok (.bipush 6, 2) := by decide +kernel
theorem dL_law_716 : decode cL_law 716 = .ok (.ishr, 1) := by decide +kernel
theorem dL_law_717 : decode cL_law 717 = .ok (.bipush 10, 2) := by decide +kernel
theorem dL_law_719 : decode cL_law 719 = .ok (.invokestatic 15, 3) := by decide +kernel
theorem dL_law_722 : decode cL_law 722 = .ok (.iadd, 1) := by decide +kernel
theorem dL_law_723 : decode cL_law 723 = .ok (.invokevirtual 136, 3) := by decide +kernel
theorem dL_law_726 : decode cL_law 726 = .ok (.goto 4, 3) := by decide +kernel
theorem dL_law_729 : decode cL_law 729 = .ok (.iconst 0, 1) := by decide +kernel
theorem dL_law_730 : decode cL_law 730 = .ok (.istore 20, 2) := by decide +kernel
theorem dL_law_732 : decode cL_law 732 = .ok (.aload_n 1, 1) := by decide +kernel
theorem dL_law_733 : decode cL_law 733 = .ok (.invokevirtual 139, 3) := by decide +kernel
theorem dL_law_736 : decode cL_law 736 = .ok (.istore 21, 2) := by decide +kernel
theorem dL_law_738 : decode cL_law 738 = .ok (.aload_n 1, 1) := by decide +kernel
theorem dL_law_739 : decode cL_law 739 = .ok (.invokevirtual 126, 3) := by decide +kernel
theorem dL_law_742 : decode cL_law 742 = .ok (.lload 15, 2) := by decide +kernel
theorem dL_law_744 : decode cL_law 744 = .ok (.lcmp, 1) := by decide +kernel
theorem dL_law_745 : decode cL_law 745 = .ok (.ifCond .ne 69, 3) := by decide +kernel
theorem dL_law_748 : decode cL_law 748 = .ok (.iload 20, 2) := by decide +kernel
theorem dL_law_750 : decode cL_law 750 = .ok (.ifCond .lt 64, 3) := by decide +kernel
theorem dL_law_753 : decode cL_law 753 = .ok (.iload 20, 2) := by decide +kernel
theorem dL_law_755 : decode cL_law 755 = .ok (.bipush 100, 2) := by decide +kernel
theorem dL_law_757 : decode cL_law 757 = .ok (.if_icmp .gt 57, 3) := by decide +kernel
theorem dL_law_760 : decode cL_law 760 = .ok (.iload 20, 2) := by decide +kernel
theorem dL_law_762 : decode cL_law 762 = .ok (.bipush 10, 2) := by decide +kernel
theorem dL_law_764 : decode cL_law 764 = .ok (.irem, 1) := by decide +kernel
theorem dL_law_765 : decode cL_law 765 = .ok (.ifCond .ne 49, 3) := by decide +kernel
theorem dL_law_768 : decode cL_law 768 = .ok (.iload 21, 2) := by decide +kernel
theorem dL_law_770 : decode cL_law 770 = .ok (.iconst (-1), 1) := by decide +kernel
theorem dL_law_771 : decode cL_law 771 = .ok (.if_icmp .lt 43, 3) := by decide +kernel
theorem dL_law_774 : decode cL_law 774 = .ok (.iload 21, 2) := by decide +kernel
theorem dL_law_776 : decode cL_law 776 = .ok (.bipush 59, 2) := by decide +kernel
theorem dL_law_778 : decode cL_law 778 = .ok (.if_icmp .gt 36, 3) := by decide +kernel
theorem dL_law_781 : decode cL_law 781 = .ok (.iload 18, 2) := by decide +kernel
theorem dL_law_783 : decode cL_law 783 = .ok (.ifCond .lt 33, 3) := by decide +kernel
theorem dL_law_786 : decode cL_law 786 = .ok (.iload 19, 2) := by decide +kernel
theorem dL_law_788 : decode cL_law 788 = .ok (.ifCond .ne 7, 3) := by decide +kernel
theorem dL_law_791 : decode cL_law 791 = .ok (.iconst 1, 1) := by decide +kernel
theorem dL_law_792 : decode cL_law 792 = .ok (.goto 4, 3) := by decide +kernel
theorem dL_law_795 : decode cL_law 795 = .ok (.iconst 0, 1) := by decide +kernel
theorem dL_law_796 : decode cL_law 796 = .ok (.aload 7, 2) := by decide +kernel
theorem dL_law_798 : decode cL_law 798 = .ok (.iload 18, 2) := by decide +kernel
theorem dL_law_800 : decode cL_law 800 = .ok (.aaload, 1) := by decide +kernel
theorem dL_law_801 : decode cL_law 801 = .ok (.iconst 4, 1) := by decide +kernel
theorem dL_law_802 : decode cL_law 802 = .ok (.iaload, 1) := by decide +kernel
theorem dL_law_803 : decode cL_law 803 = .ok (.ifCond .ge 7, 3) := by decide +kernel
theorem dL_law_806 : decode cL_law 806 = .ok (.iconst 1, 1) := by decide +kernel
theorem dL_law_807 : decode cL_law 807 = .ok (.goto 4, 3) := by decide +kernel
theorem dL_law_810 : decode cL_law 810 = .ok (.iconst 0, 1) := by decide +kernel
theorem dL_law_811 : decode cL_law 811 = .ok (.if_icmp .eq 5, 3) := by decide +kernel
theorem dL_law_814 : decode cL_law 814 = .ok (.iconst 0, 1) := by decide +kernel
theorem dL_law_815 : decode cL_law 815 = .ok (.ireturn, 1) := by decide +kernel
theorem dL_law_816 : decode cL_law 816 = .ok (.aload_n 2, 1) := by decide +kernel
theorem dL_law_817 : decode cL_law 817 = .ok (.getfield 21, 3) := by decide +kernel
theorem dL_law_820 : decode cL_law 820 = .ok (.aload_n 1, 1) := by decide +kernel
theorem dL_law_821 : decode cL_law 821 = .ok (.iconst 0, 1) := by decide +kernel
theorem dL_law_822 : decode cL_law 822 = .ok (.invokevirtual 113, 3) := by decide +kernel
theorem dL_law_825 : decode cL_law 825 = .ok (.bipush 8, 2) := by decide +kernel
theorem dL_law_827 : decode cL_law 827 = .ok (.irem, 1) := by decide +kernel
theorem dL_law_828 : decode cL_law 828 = .ok (.iaload, 1) := by decide +kernel
theorem dL_law_829 : decode cL_law 829 = .ok (.istore 22, 2) := by decide +kernel
theorem dL_law_831 : decode cL_law 831 = .ok (.aload_n 1, 1) := by decide +kernel
theorem dL_law_832 : decode cL_law 832 = .ok (.iconst 3, 1) := by decide +kernel
theorem dL_law_833 : decode cL_law 833 = .ok (.invokevirtual 113, 3) := by decide +kernel
theorem dL_law_836 : decode cL_law 836 = .ok (.istore 23, 2) := by decide +kernel
theorem dL_law_838 : decode cL_law 838 = .ok (.aload_n 1, 1) := by decide +kernel
theorem dL_law_839 : decode cL_law 839 = .ok (.bipush 7, 2) := by decide +kernel
theorem dL_law_841 : decode cL_law 841 = .ok (.invokevirtual 113, 3) := by decide +kernel
theorem dL_law_844 : decode cL_law 844 = .ok (.istore 24, 2) := by decide +kernel
theorem dL_law_846 : decode cL_law 846 = .ok (.aload_n 1, 1) := by decide +kernel
theorem dL_law_847 : decode cL_law 847 = .ok (.iconst 1, 1) := by decide +kernel
theorem dL_law_848 : decode cL_law 848 = .ok (.invokevirtual 102, 3) := by decide +kernel
theorem dL_law_851 : decode cL_law 851 = .ok (.istore 25, 2) := by decide +kernel
theorem dL_law_853 : decode cL_law 853 = .ok (.aload_n 2, 1) := by decide +kernel
theorem dL_law_854 : decode cL_law 854 = .ok (.invokevirtual 105, 3) := by decide +kernel
theorem dL_law_857 : decode cL_law 857 = .ok (.iload 25, 2) := by decide +kernel
theorem dL_law_859 : decode cL_law 859 = .ok (.if_icmp .ne 61, 3) := by decide +kernel
theorem dL_law_862 : decode cL_law 862 = .ok (.iload 25, 2) := by decide +kernel
theorem dL_law_864 : decode cL_law 864 = .ok (.iconst 5, 1) := by decide +kernel
theorem dL_law_865 : decode cL_law 865 = .ok (.if_icmp .gt 55, 3) := by decide +kernel
theorem dL_law_868 : decode cL_law 868 = .ok (.iload 21, 2) := by decide +kernel
theorem dL_law_870 : decode cL_law 870 = .ok (.ifCond .ne 7, 3) := by decide +kernel
theorem dL_law_873 : decode cL_law 873 = .ok (.iconst 1, 1) := by decide +kernel
theorem dL_law_874 : decode cL_law 874 = .ok (.goto 4, 3) := by decide +kernel
theorem dL_law_877 : decode cL_law 877 = .ok (.iconst 0, 1) := by decide +kernel
theorem dL_law_878 : decode cL_law 878 = .ok (.iload 25, 2) := by decide +kernel
theorem dL_law_880 : decode cL_law 880 = .ok (.ifCond .ne 7, 3) := by decide +kernel
theorem dL_law_883 : decode cL_law 883 = .ok (.iconst 1, 1) := by decide +kernel
theorem dL_law_884 : decode cL_law 884 = .ok (.goto 4, 3) := by decide +kernel
theorem dL_law_887 : decode cL_law 887 = .ok (.iconst 0, 1) := by decide +kernel
theorem dL_law_888 : decode cL_law 888 = .ok (.if_icmp .ne 32, 3) := by decide +kernel
theorem dL_law_891 : decode cL_law 891 = .ok (.aload_n 1, 1) := by decide +kernel
theorem dL_law_892 : decode cL_law 892 = .ok (.iconst 4, 1) := by decide +kernel
theorem dL_law_893 : decode cL_law 893 = .ok (.invokevirtual 113, 3) := by decide +kernel
theorem dL_law_896 : decode cL_law 896 = .ok (.bipush 12, 2) := by decide +kernel
theorem dL_law_898 : decode cL_law 898 = .ok (.aload_n 1, 1) := by decide +kernel
theorem dL_law_899 : decode cL_law 899 = .ok (.iconst 5, 1) := by decide +kernel
theorem dL_law_900 : decode cL_law 900 = .ok (.invokevirtual 113, 3) := by decide +kernel
theorem dL_law_903 : decode cL_law 903 = .ok (.imul, 1) := by decide +kernel
theorem dL_law_904 : decode cL_law 904 = .ok (.iadd, 1) := by decide +kernel
theorem dL_law_905 : decode cL_law 905 = .ok (.aload_n 1, 1) := by decide +kernel
theorem dL_law_906 : decode cL_law 906 = .ok (.bipush 6, 2) := by decide +kernel
theorem dL_law_908 : decode cL_law 908 = .ok (.invokevirtual 113, 3) := by decide +kernel
theorem dL_law_911 : decode cL_law 911 = .ok (.iadd, 1) := by decide +kernel
theorem dL_law_912 : decode cL_law 912 = .ok (.iload 6, 2) := by decide +kernel
theorem dL_law_914 : decode cL_law 914 = .ok (.iload 22, 2) := by decide +kernel
theorem dL_law_916 : decode cL_law 916 = .ok (.iadd, 1) := by decide +kernel
theorem dL_law_917 : decode cL_law 917 = .ok (.if_icmp .eq 5, 3) := by decide +kernel
theorem dL_law_920 : decode cL_law 920 = .ok (.iconst 0, 1) := by decide +kernel
theorem dL_law_921 : decode cL_law 921 = .ok (.ireturn, 1) := by decide +kernel
theorem dL_law_922 : decode cL_law 922 = .ok (.iconst 2, 1) := by decide +kernel
theorem dL_law_923 : decode cL_law 923 = .ok (.istore 26, 2) := by decide +kernel
theorem dL_law_925 : decode cL_law 925 = .ok (.iload 26, 2) := by decide +kernel
theorem dL_law_927 : decode cL_law 927 = .ok (.bipush 7, 2) := by decide +kernel
theorem dL_law_929 : decode cL_law 929 = .ok (.if_icmp .ge 25, 3) := by decide +kernel
theorem dL_law_932 : decode cL_law 932 = .ok (.aload_n 1, 1) := by decide +kernel
theorem dL_law_933 : decode cL_law 933 = .ok (.iload 26, 2) := by decide +kernel
theorem dL_law_935 : decode cL_law 935 = .ok (.invokevirtual 113, 3) := by decide +kernel
theorem dL_law_938 : decode cL_law 938 = .ok (.aload 17, 2) := by decide +kernel
theorem dL_law_940 : decode cL_law 940 = .ok (.iload 26, 2) := by decide +kernel
theorem dL_law_942 : decode cL_law 942 = .ok (.iaload, 1) := by decide +kernel
theorem dL_law_943 : decode cL_law 943 = .ok (.if_icmp .eq 5, 3) := by decide +kernel
theorem dL_law_946 : decode cL_law 946 = .ok (.iconst 0, 1) := by decide +kernel
theorem dL_law_947 : decode cL_law 947 = .ok (.ireturn, 1) := by decide +kernel
theorem dL_law_948 : decode cL_law 948 = .ok (.iinc 26 1, 3) := by decide +kernel
theorem dL_law_951 : decode cL_law 951 = .ok (.goto (-26), 3) := by decide +kernel
theorem dL_law_954 : decode cL_law 954 = .ok (.iload 19, 2) := by decide +kernel
theorem dL_law_956 : decode cL_law 956 = .ok (.ifCond .le 18, 3) := by decide +kernel
theorem dL_law_959 : decode cL_law 959 = .ok (.aload_n 1, 1) := by decide +kernel
theorem dL_law_960 : decode cL_law 960 = .ok (.iload 18, 2) := by decide +kernel
theorem dL_law_962 : decode cL_law 962 = .ok (.invokevirtual 133, 3) := by decide +kernel
theorem dL_law_965 : decode cL_law 965 = .ok (.iload 19, 2) := by decide +kernel
theorem dL_law_967 : decode cL_law 967 = .ok (.iconst 1, 1) := by decide +kernel
theorem dL_law_968 : decode cL_law 968 = .ok (.isub, 1) := by decide +kernel
theorem dL_law_969 : decode cL_law 969 = .ok (.if_icmp .eq 5, 3) := by decide +kernel
theorem dL_law_972 : decode cL_law 972 = .ok (.iconst 0, 1) := by decide +kernel
theorem dL_law_973 : decode cL_law 973 = .ok (.ireturn, 1) := by decide +kernel
theorem dL_law_974 : decode cL_law 974 = .ok (.iconst 0, 1) := by decide +kernel
theorem dL_law_975 : decode cL_law 975 = .ok (.istore 26, 2) := by decide +kernel
theorem dL_law_977 : decode cL_law 977 = .ok (.iconst 0, 1) := by decide +kernel
theorem dL_law_978 : decode cL_law 978 = .ok (.istore 27, 2) := by decide +kernel
theorem dL_law_980 : decode cL_law 980 = .ok (.iconst 0, 1) := by decide +kernel
theorem dL_law_981 : decode cL_law 981 = .ok (.istore 28, 2) := by decide +kernel
theorem dL_law_983 : decode cL_law 983 = .ok (.iload 28, 2) := by decide +kernel
theorem dL_law_985 : decode cL_law 985 = .ok (.iload 5, 2) := by decide +kernel
theorem dL_law_987 : decode cL_law 987 = .ok (.if_icmp .ge 185, 3) := by decide +kernel
theorem dL_law_990 : decode cL_law 990 = .ok (.aload 7, 2) := by decide +kernel
theorem dL_law_992 : decode cL_law 992 = .ok (.iload 28, 2) := by decide +kernel
theorem dL_law_994 : decode cL_law 994 = .ok (.aaload, 1) := by decide +kernel
theorem dL_law_995 : decode cL_law 995 = .ok (.astore 29, 2) := by decide +kernel
theorem dL_law_997 : decode cL_law 997 = .ok (.aload_n 1, 1) := by decide +kernel
theorem dL_law_998 : decode cL_law 998 = .ok (.iload 28, 2) := by decide +kernel
theorem dL_law_1000 : decode cL_law 1000 = .ok (.iconst 3, 1) := by decide +kernel
theorem dL_law_1001 : decode cL_law 1001 = .ok (.invokevirtual 117, 3) := by decide +kernel
theorem dL_law_1004 : decode cL_law 1004 = .ok (.aload 29, 2) := by decide +kernel
theorem dL_law_1006 : decode cL_law 1006 = .ok (.iconst 3, 1) := by decide +kernel
theorem dL_law_1007 : decode cL_law 1007 = .ok (.iaload, 1) := by decide +kernel
theorem dL_law_1008 : decode cL_law 1008 = .ok (.isub, 1) := by decide +kernel
theorem dL_law_1009 : decode cL_law 1009 = .ok (.istore 30, 2) := by decide +kernel
theorem dL_law_1011 : decode cL_law 1011 = .ok (.aload 29, 2) := by decide +kernel
theorem dL_law_1013 : decode cL_law 1013 = .ok (.iconst 0, 1) := by decide +kernel
theorem dL_law_1014 : decode cL_law 1014 = .ok (.iaload, 1) := by decide +kernel
theorem dL_law_1015 : decode cL_law 1015 = .ok (.iload 30, 2) := by decide +kernel
theorem dL_law_1017 : decode cL_law 1017 = .ok (.ifCond .ne 7, 3) := by decide +kernel
theorem dL_law_1020 : decode cL_law 1020 = .ok (.iconst 0, 1) := by decide +kernel
theorem dL_law_1021 : decode cL_law 1021 = .ok (.goto 19, 3) := by decide +kernel
theorem dL_law_1024 : decode cL_law 1024 = .ok (.aload 29, 2) := by decide +kernel
theorem dL_law_1026 : decode cL_law 1026 = .ok (.iconst 1, 1) := by decide +kernel
theorem dL_law_1027 : decode cL_law 1027 = .ok (.iaload, 1) := by decide +kernel
theorem dL_law_1028 : decode cL_law 1028 = .ok (.aload 29, 2) := by decide +kernel
theorem dL_law_1030 : decode cL_law 1030 = .ok (.iconst 0, 1) := by decide +kernel
theorem dL_law_1031 : decode cL_law 1031 = .ok (.iaload, 1) := by decide +kernel
theorem dL_law_1032 : decode cL_law 1032 = .ok (.if_icmp .ge 7, 3) := by decide +kernel
theorem dL_law_1035 : decode cL_law 1035 = .ok (.iconst (-1), 1) := by decide +kernel
theorem dL_law_1036 : decode cL_law 1036 = .ok (.goto 4, 3) := by decide +kernel
theorem dL_law_1039 : decode cL_law 1039 = .ok (.iconst 1, 1) := by decide +kernel
theorem dL_law_1040 : decode cL_law 1040 = .ok (.iadd, 1) := by decide +kernel
theorem dL_law_1041 : decode cL_law 1041 = .ok (.istore 31, 2) := by decide +kernel
theorem dL_law_1043 : decode cL_law 1043 = .ok (.iload 30, 2) := by decide +kernel
theorem dL_law_1045 : decode cL_law 1045 = .ok (.ifCond .lt 68, 3) := by decide +kernel
theorem dL_law_1048 : decode cL_law 1048 = .ok (.iload 30, 2) := by decide +kernel
theorem dL_law_1050 : decode cL_law 1050 = .ok (.iconst 1, 1) := by decide +kernel
theorem dL_law_1051 : decode cL_law 1051 = .ok (.if_icmp .gt 62, 3) := by decide +kernel
theorem dL_law_1054 : decode cL_law 1054 = .ok (.iload 30, 2) := by decide +kernel
theorem dL_law_1056 : decode cL_law 1056 = .ok (.iconst 1, 1) := by decide +kernel
theorem dL_law_1057 : decode cL_law 1057 = .ok (.if_icmp .ne 10, 3) := by decide +kernel
theorem dL_law_1060 : decode cL_law 1060 = .ok (.aload 29, 2) := by decide +kernel
theorem dL_law_1062 : decode cL_law 1062 = .ok (.iconst 4, 1) := by decide +kernel
theorem dL_law_1063 : decode cL_law 1063 = .ok (.iaload, 1) := by decide +kernel
theorem dL_law_1064 : decode cL_law 1064 = .ok (.ifCond .lt 49, 3) := by decide +kernel
theorem dL_law_1067 : decode cL_law 1067 = .ok (.aload_n 1, 1) := by decide +kernel
theorem dL_law_1068 : decode cL_law 1068 = .ok (.iload 28, 2) := by decide +kernel
theorem dL_law_1070 : decode cL_law 1070 = .ok (.iconst 0, 1) := by decide +kernel
theorem dL_law_1071 : decode cL_law 1071 = .ok (.invokevirtual 117, 3) := by decide +kernel
theorem dL_law_1074 : decode cL_law 1074 = .ok (.iload 31, 2) := by decide +kernel
theorem dL_law_1076 : decode cL_law 1076 = .ok (.if_icmp .ne 37, 3) := by decide +kernel
theorem dL_law_1079 : decode cL_law 1079 = .ok (.aload_n 1, 1) := by decide +kernel
theorem dL_law_1080 : decode cL_law 1080 = .ok (.iload 28, 2) := by decide +kernel
theorem dL_law_1082 : decode cL_law 1082 = .ok (.iconst 1, 1) := by decide +kernel
theorem dL_law_1083 : decode cL_law 1083 = .ok (.invokevirtual 117, 3) := by decide +kernel
theorem dL_law_1086 : decode cL_law 1086 = .ok (.aload 29, 2) := by decide +kernel
theorem dL_law_1088 : decode cL_law 1088 = .ok (.iconst 1, 1) := by decide +kernel
theorem dL_law_1089 : decode cL_law 1089 = .ok (.iaload, 1) := by decide +kernel
theorem dL_law_1090 : decode cL_law 1090 = .ok (.if_icmp .ne 23, 3) := by decide +kernel
theorem dL_law_1093 : decode cL_law 1093 = .ok (.aload_n 1, 1) := by decide +kernel
theorem dL_law_1094 : decode cL_law 1094 = .ok (.iload 28, 2) := by decide +kernel
theorem dL_law_1096 : decode cL_law 1096 = .ok (.iconst 2, 1) := by decide +kernel
theorem dL_law_1097 : decode cL_law 1097 = .ok (.invokevirtual 117, 3) := by decide +kernel
theorem dL_law_1100 : decode cL_law 1100 = .ok (.aload 29, 2) := by decide +kernel
theorem dL_law_1102 : decode cL_law 1102 = .ok (.iconst 2, 1) := by decide +kernel
theorem dL_law_1103 : decode cL_law 1103 = .ok (.iaload, 1) := by decide +kernel
theorem dL_law_1104 : decode cL_law 1104 = .ok (.iload 30, 2) := by decide +kernel
theorem dL_law_1106 : decode cL_law 1106 = .ok (.iload 24, 2) := by decide +kernel
theorem dL_law_1108 : decode cL_law 1108 = .ok (.imul, 1) := by decide +kernel
theorem dL_law_1109 : decode cL_law 1109 = .ok (.isub, 1) := by decide +kernel
theorem dL_law_1110 : decode cL_law 1110 = .ok (.if_icmp .eq 5, 3) := by decide +kernel
theorem dL_law_1113 : decode cL_law 1113 = .ok (.iconst 0, 1) := by decide +kernel
theorem dL_law_1114 : decode cL_law 1114 = .ok (.ireturn, 1) := by decide +kernel
theorem dL_law_1115 : decode cL_law 1115 = .ok (.iload 30, 2) := by decide +kernel
theorem dL_law_1117 : decode cL_law 1117 = .ok (.iconst 1, 1) := by decide +kernel
theorem dL_law_1118 : decode cL_law 1118 = .ok (.if_icmp .ne 31, 3) := by decide +kernel
theorem dL_law_1121 : decode cL_law 1121 = .ok (.aload_n 1, 1) := by decide +kernel
theorem dL_law_1122 : decode cL_law 1122 = .ok (.aload 29, 2) := by decide +kernel
theorem dL_law_1124 : decode cL_law 1124 = .ok (.iconst 4, 1) := by decide +kernel
theorem dL_law_1125 : decode cL_law 1125 = .ok (.iaload, 1) := by decide +kernel
theorem dL_law_1126 : decode cL_law 1126 = .ok (.iconst 0, 1) := by decide +kernel
theorem dL_law_1127 : decode cL_law 1127 = .ok (.invokevirtual 123, 3) := by decide +kernel
theorem dL_law_1130 : decode cL_law 1130 = .ok (.iload 31, 2) := by decide +kernel
theorem dL_law_1132 : decode cL_law 1132 = .ok (.aload 29, 2) := by decide +kernel
theorem dL_law_1134 : decode cL_law 1134 = .ok (.iconst 0, 1) := by decide +kernel
theorem dL_law_1135 : decode cL_law 1135 = .ok (.iaload, 1) := by decide +kernel
theorem dL_law_1136 : decode cL_law 1136 = .ok (.if_icmp .ge 7, 3) := by decide +kernel
theorem dL_law_1139 : decode cL_law 1139 = .ok (.iconst 0, 1) := by decide +kernel
theorem dL_law_1140 : decode cL_law 1140 = .ok (.goto 4, 3) := by decide +kernel
theorem dL_law_1143 : decode cL_law 1143 = .ok (.iconst 1, 1) := by decide +kernel
theorem dL_law_1144 : decode cL_law 1144 = .ok (.if_icmp .eq 5, 3) := by decide +kernel
theorem dL_law_1147 : decode cL_law 1147 = .ok (.iconst 0, 1) := by decide +kernel
theorem dL_law_1148 : decode cL_law 1148 = .ok (.ireturn, 1) := by decide +kernel
theorem dL_law_1149 : decode cL_law 1149 = .ok (.iload 26, 2) := by decide +kernel
theorem dL_law_1151 : decode cL_law 1151 = .ok (.iload 30, 2) := by decide +kernel
theorem dL_law_1153 : decode cL_law 1153 = .ok (.iadd, 1) := by decide +kernel
theorem dL_law_1154 : decode cL_law 1154 = .ok (.istore 26, 2) := by decide +kernel
theorem dL_law_1156 : decode cL_law 1156 = .ok (.iload 27, 2) := by decide +kernel
theorem dL_law_1158 : decode cL_law 1158 = .ok (.iload 30, 2) := by decide +kernel
theorem dL_law_1160 : decode cL_law 1160 = .ok (.iload 24, 2) := by decide +kernel
theorem dL_law_1162 : decode cL_law 1162 = .ok (.imul, 1) := by decide +kernel
theorem dL_law_1163 : decode cL_law 1163 = .ok (.iadd, 1) := by decide +kernel
theorem dL_law_1164 : decode cL_law 1164 = .ok (.istore 27, 2) := by decide +kernel
theorem dL_law_1166 : decode cL_law 1166 = .ok (.iinc 28 1, 3) := by decide +kernel
theorem dL_law_1169 : decode cL_law 1169 = .ok (.goto (-186), 3) := by decide +kernel
theorem dL_law_1172 : decode cL_law 1172 = .ok (.iconst 0, 1) := by decide +kernel
theorem dL_law_1173 : decode cL_law 1173 = .ok (.istore 28, 2) := by decide +kernel
theorem dL_law_1175 : decode cL_law 1175 = .ok (.iconst 0, 1) := by decide +kernel
theorem dL_law_1176 : decode cL_law 1176 = .ok (.istore 29, 2) := by decide +kernel
theorem dL_law_1178 : decode cL_law 1178 = .ok (.iload 29, 2) := by decide +kernel
theorem dL_law_1180 : decode cL_law 1180 = .ok (.iconst 5, 1) := by decide +kernel
theorem dL_law_1181 : decode cL_law 1181 = .ok (.if_icmp .ge 122, 3) := by decide +kernel
theorem dL_law_1184 : decode cL_law 1184 = .ok (.aload_n 1, 1) := by decide +kernel
theorem dL_law_1185 : decode cL_law 1185 = .ok (.iload 29, 2) := by decide +kernel
theorem dL_law_1187 : decode cL_law 1187 = .ok (.iconst 2, 1) := by decide +kernel
theorem dL_law_1188 : decode cL_law 1188 = .ok (.invokevirtual 123, 3) := by decide +kernel
theorem dL_law_1191 : decode cL_law 1191 = .ok (.aload 8, 2) := by decide +kernel
theorem dL_law_1193 : decode cL_law 1193 = .ok (.iload 29, 2) := by decide +kernel
theorem dL_law_1195 : decode cL_law 1195 = .ok (.aaload, 1) := by decide +kernel
theorem dL_law_1196 : decode cL_law 1196 = .ok (.iconst 2, 1) := by decide +kernel
theorem dL_law_1197 : decode cL_law 1197 = .ok (.iaload, 1) := by decide +kernel
theorem dL_law_1198 : decode cL_law 1198 = .ok (.isub, 1) := by decide +kernel
theorem dL_law_1199 : decode cL_law 1199 = .ok (.istore 30, 2) := by decide +kernel
theorem dL_law_1201 : decode cL_law 1201 = .ok (.iload 30, 2) := by decide +kernel
theorem dL_law_1203 : decode cL_law 1203 = .ok (.ifCond .lt 85, 3) := by decide +kernel
theorem dL_law_1206 : decode cL_law 1206 = .ok (.iload 30, 2) := by decide +kernel
theorem dL_law_1208 : decode cL_law 1208 = .ok (.iconst 1, 1) := by decide +kernel
theorem dL_law_1209 : decode cL_law 1209 = .ok (.if_icmp .gt 79, 3) := by decide +kernel
theorem dL_law_1212 : decode cL_law 1212 = .ok (.iload 30, 2) := by decide +kernel
theorem dL_law_1214 : decode cL_law 1214 = .ok (.ifCond .ne 37, 3) := by decide +kernel
theorem dL_law_1217 : decode cL_law 1217 = .ok (.aload_n 1, 1) := by decide +kernel
theorem dL_law_1218 : decode cL_law 1218 = .ok (.iload 29, 2) := by decide +kernel
theorem dL_law_1220 : decode cL_law 1220 = .ok (.iconst 0, 1) := by decide +kernel
theorem dL_law_1221 : decode cL_law 1221 = .ok (.invokevirtual 123, 3) := by decide +kernel
theorem dL_law_1224 : decode cL_law 1224 = .ok (.aload 8, 2) := by decide +kernel
theorem dL_law_1226 : decode cL_law 1226 = .ok (.iload 29, 2) := by decide +kernel
theorem dL_law_1228 : decode cL_law 1228 = .ok (.aaload, 1) := by decide +kernel
theorem dL_law_1229 : decode cL_law 1229 = .ok (.iconst 0, 1) := by decide +kernel
theorem dL_law_1230 : decode cL_law 1230 = .ok (.iaload, 1) := by decide +kernel
theorem dL_law_1231 : decode cL_law 1231 = .ok (.if_icmp .ne 57, 3) := by decide +kernel
theorem dL_law_1234 : decode cL_law 1234 = .ok (.aload_n 1, 1) := by decide +kernel
theorem dL_law_1235 : decode cL_law 1235 = .ok (.iload 29, 2) := by decide +kernel
theorem dL_law_1237 : decode cL_law 1237 = .ok (.iconst 3, 1) := by decide +kernel
theorem dL_law_1238 : decode cL_law 1238 = .ok (.invokevirtual 123, 3) := by decide +kernel
theorem dL_law_1241 : decode cL_law 1241 = .ok (.aload 8, 2) := by decide +kernel
theorem dL_law_1243 : decode cL_law 1243 = .ok (.iload 29, 2) := by decide +kernel
theorem dL_law_1245 : decode cL_law 1245 = .ok (.aaload, 1) := by decide +kernel
theorem dL_law_1246 : decode cL_law 1246 = .ok (.iconst 3, 1) := by decide +kernel
theorem dL_law_1247 : decode cL_law 1247 = .ok (.iaload, 1) := by decide +kernel
theorem dL_law_1248 : decode cL_law 1248 = .ok (.if_icmp .ne 40, 3) := by decide +kernel
theorem dL_law_1251 : decode cL_law 1251 = .ok (.aload_n 1, 1) := by decide +kernel
theorem dL_law_1252 : decode cL_law 1252 = .ok (.iload 29, 2) := by decide +kernel
theorem dL_law_1254 : decode cL_law 1254 = .ok (.iconst 3, 1) := by decide +kernel
theorem dL_law_1255 : decode cL_law 1255 = .ok (.invokevirtual 123, 3) := by decide +kernel
theorem dL_law_1258 : decode cL_law 1258 = .ok (.aload 8, 2) := by decide +kernel
theorem dL_law_1260 : decode cL_law 1260 = .ok (.iload 29, 2) := by decide +kernel
theorem dL_law_1262 : decode cL_law 1262 = .ok (.aaload, 1) := by decide +kernel
theorem dL_law_1263 : decode cL_law 1263 = .ok (.iconst 3, 1) := by decide +kernel
theorem dL_law_1264 : decode cL_law 1264 = .ok (.iaload, 1) := by decide +kernel
theorem dL_law_1265 : decode cL_law 1265 = .ok (.if_icmp .lt 23, 3) := by decide +kernel
theorem dL_law_1268 : decode cL_law 1268 = .ok (.aload_n 1, 1) := by decide +kernel
theorem dL_law_1269 : decode cL_law 1269 = .ok (.iload 29, 2) := by decide +kernel
theorem dL_law_1271 : decode cL_law 1271 = .ok (.iconst 3, 1) := by decide +kernel
theorem dL_law_1272 : decode cL_law 1272 = .ok (.invokevirtual 123, 3) := by decide +kernel
theorem dL_law_1275 : decode cL_law 1275 = .ok (.aload 8, 2) := by decide +kernel
theorem dL_law_1277 : decode cL_law 1277 = .ok (.iload 29, 2) := by decide +kernel
theorem dL_law_1279 : decode cL_law 1279 = .ok (.aaload, 1) := by decide +kernel
theorem dL_law_1280 : decode cL_law 1280 = .ok (.iconst 3, 1) := by decide +kernel
theorem dL_law_1281 : decode cL_law 1281 = .ok (.iaload, 1) := by decide +kernel
theorem dL_law_1282 : decode cL_law 1282 = .ok (.bipush 12, 2) := by decide +kernel
theorem dL_law_1284 : decode cL_law 1284 = .ok (.iadd, 1) := by decide +kernel
theorem dL_law_1285 : decode cL_law 1285 = .ok (.if_icmp .le 5, 3) := by decide +kernel
theorem dL_law_1288 : decode cL_law 1288 = .ok (.iconst 0, 1) := by decide +kernel
theorem dL_law_1289 : decode cL_law 1289 = .ok (.ireturn, 1) := by decide +kernel
theorem dL_law_1290 : decode cL_law 1290 = .ok (.iload 28, 2) := by decide +kernel
theorem dL_law_1292 : decode cL_law 1292 = .ok (.iload 30, 2) := by decide +kernel
theorem dL_law_1294 : decode cL_law 1294 = .ok (.iadd, 1) := by decide +kernel
theorem dL_law_1295 : decode cL_law 1295 = .ok (.istore 28, 2) := by decide +kernel
theorem dL_law_1297 : decode cL_law 1297 = .ok (.iinc 29 1, 3) := by decide +kernel
theorem dL_law_1300 : decode cL_law 1300 = .ok (.goto (-122), 3) := by decide +kernel
theorem dL_law_1303 : decode cL_law 1303 = .ok (.iload 26, 2) := by decide +kernel
theorem dL_law_1305 : decode cL_law 1305 = .ok (.iload 25, 2) := by decide +kernel
theorem dL_law_1307 : decode cL_law 1307 = .ok (.if_icmp .ne 38, 3) := by decide +kernel
theorem dL_law_1310 : decode cL_law 1310 = .ok (.iload 28, 2) := by decide +kernel
theorem dL_law_1312 : decode cL_law 1312 = .ok (.iload 25, 2) := by decide +kernel
theorem dL_law_1314 : decode cL_law 1314 = .ok (.if_icmp .ne 31, 3) := by decide +kernel
theorem dL_law_1317 : decode cL_law 1317 = .ok (.aload_n 1, 1) := by decide +kernel
theorem dL_law_1318 : decode cL_law 1318 = .ok (.iconst 3, 1) := by decide +kernel
theorem dL_law_1319 : decode cL_law 1319 = .ok (.invokevirtual 113, 3) := by decide +kernel
theorem dL_law_1322 : decode cL_law 1322 = .ok (.iload 23, 2) := by decide +kernel
theorem dL_law_1324 : decode cL_law 1324 = .ok (.isub, 1) := by decide +kernel
theorem dL_law_1325 : decode cL_law 1325 = .ok (.iload 27, 2) := by decide +kernel
theorem dL_law_1327 : decode cL_law 1327 = .ok (.if_icmp .lt 18, 3) := by decide +kernel
theorem dL_law_1330 : decode cL_law 1330 = .ok (.aload_n 1, 1) := by decide +kernel
theorem dL_law_1331 : decode cL_law 1331 = .ok (.iconst 3, 1) := by decide +kernel
theorem dL_law_1332 : decode cL_law 1332 = .ok (.invokevirtual 113, 3) := by decide +kernel
theorem dL_law_1335 : decode cL_law 1335 = .ok (.iload 23, 2) := by decide +kernel
theorem dL_law_1337 : decode cL_law 1337 = .ok (.isub, 1) := by decide +kernel
theorem dL_law_1338 : decode cL_law 1338 = .ok (.iload 27, 2) := by decide +kernel
theorem dL_law_1340 : decode cL_law 1340 = .ok (.iconst 2, 1) := by decide +kernel
theorem dL_law_1341 : decode cL_law 1341 = .ok (.iadd, 1) := by decide +kernel
theorem dL_law_1342 : decode cL_law 1342 = .ok (.if_icmp .le 5, 3) := by decide +kernel
theorem dL_law_1345 : decode cL_law 1345 = .ok (.iconst 0, 1) := by decide +kernel
theorem dL_law_1346 : decode cL_law 1346 = .ok (.ireturn, 1) := by decide +kernel
theorem dL_law_1347 : decode cL_law 1347 = .ok (.iinc 3 1, 3) := by decide +kernel
theorem dL_law_1350 : decode cL_law 1350 = .ok (.goto (-1328), 3) := by decide +kernel
theorem dL_law_1353 : decode cL_law 1353 = .ok (.aload_n 2, 1) := by decide +kernel
theorem dL_law_1354 : decode cL_law 1354 = .ok (.aload_n 1, 1) := by decide +kernel
theorem dL_law_1355 : decode cL_law 1355 = .ok (.invokevirtual 142, 3) := by decide +kernel
theorem dL_law_1358 : decode cL_law 1358 = .ok (.ireturn, 1) := by decide +kernel
end
section
/-- the words of nest mates: the law's link to the constructor of its Sim -/
def nwX : List Cond := [.methodLinkNest RL 92 yX2_init RL]
/-- what the tables say that no word list may hold -/
def xZ (U : State) : Prop := (∀ w ∈ nwX, va_Nw w U) ∧ va_AOA .int U
theorem nwX_on : ∀ w ∈ nwX, w.onTables = true := by decide +kernel
theorem xk_aoa {u U : State} (hvm : u.vm.Alike U.vm) (h : va_AOA .int u) : va_AOA .int U := over_moved hvm h
theorem xk_nsame {u U : State} (h : u.vm = U.vm) (hz : xZ u) : xZ U := ⟨fun w hw => va_Nw.same (nwX_on w hw) h (hz.1 w hw), xk_aoa (by rw [h]; exact Vm.Alike.refl U.vm) hz.2⟩
theorem xk_nwarm {s U : State} (hW : s.WarmedH U.vm) (hz : xZ s) : xZ U := by
  refine ⟨?_, xk_aoa hW.alike hz.2⟩
  have q : ∀ (i : Nat) (w : Cond), nwX[i]? = some w → va_Nw w s := fun i w h => hz.1 w (List.mem_of_getElem? h)
  show ∀ w ∈ nwX, va_Nw w U
  unfold nwX
  exact List.forall_mem_cons.mpr ⟨va_Nw.warmM hW (q 0 _ rfl), fun _ h => absurd h List.not_mem_nil⟩
theorem xk_psub {D : va_G} {cl : List vw_C} {ws ws' : va_W} {H : Heap} (h : va_P D cl ws H) (is : List Nat) (hs : is.map (fun i => ws[i]?) = ws'.map some) : va_P D cl ws' H := by
  intro k q hk
  have h1 : (is.map (fun i => ws[i]?))[k]? = some (some q) := by rw [hs, List.getElem?_map, hk]; rfl
  rw [List.getElem?_map] at h1
  cases hi : is[k]? with
  | none => rw [hi] at h1; cases h1
  | some i => rw [hi] at h1; exact h i q (Option.some.inj h1)
/-- the fixed facts of a walk: the machine, the code, the words, the classes, which cells may change -/
def XF (p : Program) (s : State) (m : MethodId) (args : Array Value) (c : Code) (cc : ByteArray) (nL : Nat) (Ts : List Cond) (own : String) (D : va_G) (tys : List (ClassId × FieldType)) (A : Nat → Prop) : Prop :=
  p.tables.exec = Jvm.exec ∧ c.code = cc ∧ c.maxLocals = nL ∧ s.vm.findClass own = some m.cls ∧ (∀ w ∈ Ts, w.before args s = true) ∧ va_K D vwCl tys s ∧ (∀ q : Nat, s.heap.size ≤ q → A q) ∧ xZ s
/-- the machine, in any heap that holds the world ws, with the locals lv, at pc, with the stack st, comes to Q -/
def AW (p : Program) (l : Launch) (e : Env) (R : Room) (s : State) (m : MethodId) (args : Array Value) (below : List Frame) (meth : Method) (c : Code) (nL : Nat) (D : va_G) (A : Nat → Prop) (cells slots : Nat) (Q : State → Prop) (ws : va_W) (lv : List (Nat × Value)) (pc : Nat) (st : List Value) : Prop :=
  ∀ (H : Heap) (locs : List Loc) (ls : Array Slot), va_P D vwCl ws H → va_D A ws → va_S A s.heap H locs → lv_has ls nL lv → W p l e R s m args below meth c H locs cells slots Q (F0 m pc ls st)

section XKIT
variable {p : Program} {l : Launch} {e : Env} {R : Room} {s : State} {m : MethodId} {args : Array Value} {below : List Frame} {meth : Method} {c : Code} {Q : State → Prop}
variable {cc : ByteArray} {nL : Nat} {Ts : List Cond} {own : String} {D : va_G} {tys : List (ClassId × FieldType)} {A : Nat → Prop} {cells slots : Nat}
variable {ws : va_W} {lv : List (Nat × Value)} {pc : Nat} {st rest : List Value}

theorem XF.fix (F : XF p s m args c cc nL Ts own D tys A) : CallFix p m c cc nL s args Ts own := ⟨F.1, F.2.1, F.2.2.1, F.2.2.2.1, F.2.2.2.2.1⟩
theorem XF.owns (F : XF p s m args c cc nL Ts own D tys A) : s.vm.findClass own = some m.cls := F.2.2.2.1
theorem XF.hts (F : XF p s m args c cc nL Ts own D tys A) : ∀ w ∈ Ts, w.before args s = true := F.2.2.2.2.1
theorem XF.hK (F : XF p s m args c cc nL Ts own D tys A) : va_K D vwCl tys s := F.2.2.2.2.2.1
theorem XF.hA (F : XF p s m args c cc nL Ts own D tys A) : ∀ q : Nat, s.heap.size ≤ q → A q := F.2.2.2.2.2.2.1
theorem XF.hZ (F : XF p s m args c cc nL Ts own D tys A) : xZ s := F.2.2.2.2.2.2.2
theorem xr_iconst (F : XF p s m args c cc nL Ts own D tys A) {n : Int} {v : Int32} (hdg : decode cc pc = .ok (.iconst n, 1)) (hv : Int32.ofInt n = v) (kk : AW p l e R s m args below meth c nL D A cells slots Q (ws) (lv) (pc + 1) (.int v :: rest)) : AW p l e R s m args below meth c nL D A cells slots Q (ws) (lv) (pc) (rest) :=
  fun H locs ls hP hD hS hl => lv_iconst F.1 F.2.1 hdg hv (kk H locs ls hP hD hS hl)
theorem xr_bipush (F : XF p s m args c cc nL Ts own D tys A) {n : Int} {v : Int32} (hdg : decode cc pc = .ok (.bipush n, 2)) (hv : (Int8.ofInt n).toInt32 = v) (kk : AW p l e R s m args below meth c nL D A cells slots Q (ws) (lv) (pc + 2) (.int v :: rest)) : AW p l e R s m args below meth c nL D A cells slots Q (ws) (lv) (pc) (rest) :=
  fun H locs ls hP hD hS hl => lv_bipush F.1 F.2.1 hdg hv (kk H locs ls hP hD hS hl)
theorem xr_sipush (F : XF p s m args c cc nL Ts own D tys A) {n : Int} {v : Int32} (hdg : decode cc pc = .ok (.sipush n, 3)) (hv : (Int16.ofInt n).toInt32 = v) (kk : AW p l e R s m args below meth c nL D A cells slots Q (ws) (lv) (pc + 3) (.int v :: rest)) : AW p l e R s m args below meth c nL D A cells slots Q (ws) (lv) (pc) (rest) :=
  fun H locs ls hP hD hS hl => lv_sipush F.1 F.2.1 hdg hv (kk H locs ls hP hD hS hl)
theorem xr_lconst (F : XF p s m args c cc nL Ts own D tys A) {n : Fin 2} {v : Int64} (hdg : decode cc pc = .ok (.lconst n, 1)) (hv : Int64.ofNat (n : Nat) = v) (kk : AW p l e R s m args below meth c nL D A cells slots Q (ws) (lv) (pc + 1) (.long v :: rest)) : AW p l e R s m args below meth c nL D A cells slots Q (ws) (lv) (pc) (rest) :=
  fun H locs ls hP hD hS hl => lv_lconst F.1 F.2.1 hdg hv (kk H locs ls hP hD hS hl)
theorem xr_ldc2 (F : XF p s m args c cc nL Ts own D tys A) {index : Nat} {v : Int64} (hdg : decode cc pc = .ok (.ldc2_w index, 3)) (hc : Cond.constantLong own index v ∈ Ts) (kk : AW p l e R s m args below meth c nL D A cells slots Q (ws) (lv) (pc + 3) (.long v :: rest)) : AW p l e R s m args below meth c nL D A cells slots Q (ws) (lv) (pc) (rest) :=
  fun H locs ls hP hD hS hl => lv_ldc2 F.1 F.2.1 F.owns (F.hts _ hc) hdg (kk H locs ls hP hD hS hl)
theorem xr_ldc2d (F : XF p s m args c cc nL Ts own D tys A) {index : Nat} {v : UInt64} (hdg : decode cc pc = .ok (.ldc2_w index, 3)) (hc : Cond.constantDouble own index v ∈ Ts) (kk : AW p l e R s m args below meth c nL D A cells slots Q (ws) (lv) (pc + 3) (.double v :: rest)) : AW p l e R s m args below meth c nL D A cells slots Q (ws) (lv) (pc) (rest) :=
  fun H locs ls hP hD hS hl => lv_ldc2d F.1 F.2.1 F.owns (F.hts _ hc) hdg (kk H locs ls hP hD hS hl)
theorem xr_iload_n (F : XF p s m args c cc nL Ts own D tys A) {k : Fin 4} {i : Nat} {x : Int32} (hdg : decode cc pc = .ok (.iload_n k, 1)) (hi : (k : Nat) = i) (j : Nat) (hj : lv[j]? = some (i, .int x)) (kk : AW p l e R s m args below meth c nL D A cells slots Q (ws) (lv) (pc + 1) (.int x :: rest)) : AW p l e R s m args below meth c nL D A cells slots Q (ws) (lv) (pc) (rest) :=
  fun H locs ls hP hD hS hl => lv_iload_n F.1 F.2.1 hdg hi (lv_at hl j hj) (kk H locs ls hP hD hS hl)
theorem xr_iload (F : XF p s m args c cc nL Ts own D tys A) {i : Nat} {x : Int32} (hdg : decode cc pc = .ok (.iload i, 2)) (j : Nat) (hj : lv[j]? = some (i, .int x)) (kk : AW p l e R s m args below meth c nL D A cells slots Q (ws) (lv) (pc + 2) (.int x :: rest)) : AW p l e R s m args below meth c nL D A cells slots Q (ws) (lv) (pc) (rest) :=
  fun H locs ls hP hD hS hl => lv_iload F.1 F.2.1 hdg (lv_at hl j hj) (kk H locs ls hP hD hS hl)
theorem xr_lload_n (F : XF p s m args c cc nL Ts own D tys A) {k : Fin 4} {i : Nat} {x : Int64} (hdg : decode cc pc = .ok (.lload_n k, 1)) (hi : (k : Nat) = i) (j : Nat) (hj : lv[j]? = some (i, .long x)) (kk : AW p l e R s m args below meth c nL D A cells slots Q (ws) (lv) (pc + 1) (.long x :: rest)) : AW p l e R s m args below meth c nL D A cells slots Q (ws) (lv) (pc) (rest) :=
  fun H locs ls hP hD hS hl => lv_lload_n F.1 F.2.1 hdg hi (lv_at hl j hj) (kk H locs ls hP hD hS hl)
theorem xr_lload (F : XF p s m args c cc nL Ts own D tys A) {i : Nat} {x : Int64} (hdg : decode cc pc = .ok (.lload i, 2)) (j : Nat) (hj : lv[j]? = some (i, .long x)) (kk : AW p l e R s m args below meth c nL D A cells slots Q (ws) (lv) (pc + 2) (.long x :: rest)) : AW p l e R s m args below meth c nL D A cells slots Q (ws) (lv) (pc) (rest) :=
  fun H locs ls hP hD hS hl => lv_lload F.1 F.2.1 hdg (lv_at hl j hj) (kk H locs ls hP hD hS hl)
theorem xr_aload_n (F : XF p s m args c cc nL Ts own D tys A) {k : Fin 4} {i : Nat} {x : Nat} (hdg : decode cc pc = .ok (.aload_n k, 1)) (hi : (k : Nat) = i) (j : Nat) (hj : lv[j]? = some (i, .ref x)) (kk : AW p l e R s m args below meth c nL D A cells slots Q (ws) (lv) (pc + 1) (.ref x :: rest)) : AW p l e R s m args below meth c nL D A cells slots Q (ws) (lv) (pc) (rest) :=
  fun H locs ls hP hD hS hl => lv_aload_n F.1 F.2.1 hdg hi (lv_at hl j hj) (kk H locs ls hP hD hS hl)
theorem xr_aload (F : XF p s m args c cc nL Ts own D tys A) {i : Nat} {x : Nat} (hdg : decode cc pc = .ok (.aload i, 2)) (j : Nat) (hj : lv[j]? = some (i, .ref x)) (kk : AW p l e R s m args below meth c nL D A cells slots Q (ws) (lv) (pc + 2) (.ref x :: rest)) : AW p l e R s m args below meth c nL D A cells slots Q (ws) (lv) (pc) (rest) :=
  fun H locs ls hP hD hS hl => lv_aload F.1 F.2.1 hdg (lv_at hl j hj) (kk H locs ls hP hD hS hl)
theorem xr_dload_n (F : XF p s m args c cc nL Ts own D tys A) {k : Fin 4} {i : Nat} {x : UInt64} (hdg : decode cc pc = .ok (.dload_n k, 1)) (hi : (k : Nat) = i) (j : Nat) (hj : lv[j]? = some (i, .double x)) (kk : AW p l e R s m args below meth c nL D A cells slots Q (ws) (lv) (pc + 1) (.double x :: rest)) : AW p l e R s m args below meth c nL D A cells slots Q (ws) (lv) (pc) (rest) :=
  fun H locs ls hP hD hS hl => lv_dload_n F.1 F.2.1 hdg hi (lv_at hl j hj) (kk H locs ls hP hD hS hl)
theorem xr_dload (F : XF p s m args c cc nL Ts own D tys A) {i : Nat} {x : UInt64} (hdg : decode cc pc = .ok (.dload i, 2)) (j : Nat) (hj : lv[j]? = some (i, .double x)) (kk : AW p l e R s m args below meth c nL D A cells slots Q (ws) (lv) (pc + 2) (.double x :: rest)) : AW p l e R s m args below meth c nL D A cells slots Q (ws) (lv) (pc) (rest) :=
  fun H locs ls hP hD hS hl => lv_dload F.1 F.2.1 hdg (lv_at hl j hj) (kk H locs ls hP hD hS hl)
theorem xr_istore_n (F : XF p s m args c cc nL Ts own D tys A) {k : Fin 4} {i : Nat} {x : Int32} (lv' : List (Nat × Value)) (hdg : decode cc pc = .ok (.istore_n k, 1)) (hi : (k : Nat) = i) (hn : i < nL) (hl : (i, Value.int x) :: lv.filter (fun q => !(q.1 == i) && !(q.1 + 1 == i && q.2.category == 2)) = lv') (kk : AW p l e R s m args below meth c nL D A cells slots Q (ws) (lv') (pc + 1) (rest)) : AW p l e R s m args below meth c nL D A cells slots Q (ws) (lv) (pc) (.int x :: rest) :=
  fun H locs ls hP hD hS h9 => lv_istore_n F.1 F.2.1 hdg hi h9 hn hl (fun ls' hl' => kk H locs ls' hP hD hS hl')
theorem xr_istore (F : XF p s m args c cc nL Ts own D tys A) {i : Nat} {x : Int32} (lv' : List (Nat × Value)) (hdg : decode cc pc = .ok (.istore i, 2)) (hn : i < nL) (hl : (i, Value.int x) :: lv.filter (fun q => !(q.1 == i) && !(q.1 + 1 == i && q.2.category == 2)) = lv') (kk : AW p l e R s m args below meth c nL D A cells slots Q (ws) (lv') (pc + 2) (rest)) : AW p l e R s m args below meth c nL D A cells slots Q (ws) (lv) (pc) (.int x :: rest) :=
  fun H locs ls hP hD hS h9 => lv_istore F.1 F.2.1 hdg h9 hn hl (fun ls' hl' => kk H locs ls' hP hD hS hl')
theorem xr_astore_n (F : XF p s m args c cc nL Ts own D tys A) {k : Fin 4} {i : Nat} {x : Nat} (lv' : List (Nat × Value)) (hdg : decode cc pc = .ok (.astore_n k, 1)) (hi : (k : Nat) = i) (hn : i < nL) (hl : (i, Value.ref x) :: lv.filter (fun q => !(q.1 == i) && !(q.1 + 1 == i && q.2.category == 2)) = lv') (kk : AW p l e R s m args below meth c nL D A cells slots Q (ws) (lv') (pc + 1) (rest)) : AW p l e R s m args below meth c nL D A cells slots Q (ws) (lv) (pc) (.ref x :: rest) :=
  fun H locs ls hP hD hS h9 => lv_astore_n F.1 F.2.1 hdg hi h9 hn hl (fun ls' hl' => kk H locs ls' hP hD hS hl')
theorem xr_astore (F : XF p s m args c cc nL Ts own D tys A) {i : Nat} {x : Nat} (lv' : List (Nat × Value)) (hdg : decode cc pc = .ok (.astore i, 2)) (hn : i < nL) (hl : (i, Value.ref x) :: lv.filter (fun q => !(q.1 == i) && !(q.1 + 1 == i && q.2.category == 2)) = lv') (kk : AW p l e R s m args below meth c nL D A cells slots Q (ws) (lv') (pc + 2) (rest)) : AW p l e R s m args below meth c nL D A cells slots Q (ws) (lv) (pc) (.ref x :: rest) :=
  fun H locs ls hP hD hS h9 => lv_astore F.1 F.2.1 hdg h9 hn hl (fun ls' hl' => kk H locs ls' hP hD hS hl')
theorem xr_lstore_n (F : XF p s m args c cc nL Ts own D tys A) {k : Fin 4} {i : Nat} {x : Int64} (lv' : List (Nat × Value)) (hdg : decode cc pc = .ok (.lstore_n k, 1)) (hi : (k : Nat) = i) (hn : i + 1 < nL) (hl : (i, Value.long x) :: lv.filter (fun q => !(q.1 == i) && (!(q.1 == i + 1) && !(q.1 + 1 == i && q.2.category == 2))) = lv') (kk : AW p l e R s m args below meth c nL D A cells slots Q (ws) (lv') (pc + 1) (rest)) : AW p l e R s m args below meth c nL D A cells slots Q (ws) (lv) (pc) (.long x :: rest) :=
  fun H locs ls hP hD hS h9 => lv_lstore_n F.1 F.2.1 hdg hi h9 hn hl (fun ls' hl' => kk H locs ls' hP hD hS hl')
theorem xr_lstore (F : XF p s m args c cc nL Ts own D tys A) {i : Nat} {x : Int64} (lv' : List (Nat × Value)) (hdg : decode cc pc = .ok (.lstore i, 2)) (hn : i + 1 < nL) (hl : (i, Value.long x) :: lv.filter (fun q => !(q.1 == i) && (!(q.1 == i + 1) && !(q.1 + 1 == i && q.2.category == 2))) = lv') (kk : AW p l e R s m args below meth c nL D A cells slots Q (ws) (lv') (pc + 2) (rest)) : AW p l e R s m args below meth c nL D A cells slots Q (ws) (lv) (pc) (.long x :: rest) :=
  fun H locs ls hP hD hS h9 => lv_lstore F.1 F.2.1 hdg h9 hn hl (fun ls' hl' => kk H locs ls' hP hD hS hl')
theorem xr_dstore_n (F : XF p s m args c cc nL Ts own D tys A) {k : Fin 4} {i : Nat} {x : UInt64} (lv' : List (Nat × Value)) (hdg : decode cc pc = .ok (.dstore_n k, 1)) (hi : (k : Nat) = i) (hn : i + 1 < nL) (hl : (i, Value.double x) :: lv.filter (fun q => !(q.1 == i) && (!(q.1 == i + 1) && !(q.1 + 1 == i && q.2.category == 2))) = lv') (kk : AW p l e R s m args below meth c nL D A cells slots Q (ws) (lv') (pc + 1) (rest)) : AW p l e R s m args below meth c nL D A cells slots Q (ws) (lv) (pc) (.double x :: rest) :=
  fun H locs ls hP hD hS h9 => lv_dstore_n F.1 F.2.1 hdg hi h9 hn hl (fun ls' hl' => kk H locs ls' hP hD hS hl')
theorem xr_dstore (F : XF p s m args c cc nL Ts own D tys A) {i : Nat} {x : UInt64} (lv' : List (Nat × Value)) (hdg : decode cc pc = .ok (.dstore i, 2)) (hn : i + 1 < nL) (hl : (i, Value.double x) :: lv.filter (fun q => !(q.1 == i) && (!(q.1 == i + 1) && !(q.1 + 1 == i && q.2.category == 2))) = lv') (kk : AW p l e R s m args below meth c nL D A cells slots Q (ws) (lv') (pc + 2) (rest)) : AW p l e R s m args below meth c nL D A cells slots Q (ws) (lv) (pc) (.double x :: rest) :=
  fun H locs ls hP hD hS h9 => lv_dstore F.1 F.2.1 hdg h9 hn hl (fun ls' hl' => kk H locs ls' hP hD hS hl')
theorem xr_iinc (F : XF p s m args c cc nL Ts own D tys A) {i : Nat} {n : Int} {x : Int32} (v : Int32) (lv' : List (Nat × Value)) (hdg : decode cc pc = .ok (.iinc i n, 3)) (j : Nat) (hj : lv[j]? = some (i, .int x)) (hv : x + Int32.ofInt n = v) (hn : i < nL) (hl : (i, Value.int v) :: lv.filter (fun q => !(q.1 == i) && !(q.1 + 1 == i && q.2.category == 2)) = lv') (kk : AW p l e R s m args below meth c nL D A cells slots Q (ws) (lv') (pc + 3) (rest)) : AW p l e R s m args below meth c nL D A cells slots Q (ws) (lv) (pc) (rest) :=
  fun H locs ls hP hD hS h9 => lv_iinc F.1 F.2.1 hdg h9 hj hv hn hl (fun ls' hl' => kk H locs ls' hP hD hS hl')
theorem xr_iadd (F : XF p s m args c cc nL Ts own D tys A) {x y : Int32} (v : Int32) (hdg : decode cc pc = .ok (.iadd, 1)) (hv : x + y = v) (kk : AW p l e R s m args below meth c nL D A cells slots Q (ws) (lv) (pc + 1) (.int v :: rest)) : AW p l e R s m args below meth c nL D A cells slots Q (ws) (lv) (pc) (.int y :: .int x :: rest) :=
  fun H locs ls hP hD hS hl => lv_iadd F.1 F.2.1 hdg (by rw [hv]; exact (kk H locs ls hP hD hS hl))
theorem xr_isub (F : XF p s m args c cc nL Ts own D tys A) {x y : Int32} (v : Int32) (hdg : decode cc pc = .ok (.isub, 1)) (hv : x - y = v) (kk : AW p l e R s m args below meth c nL D A cells slots Q (ws) (lv) (pc + 1) (.int v :: rest)) : AW p l e R s m args below meth c nL D A cells slots Q (ws) (lv) (pc) (.int y :: .int x :: rest) :=
  fun H locs ls hP hD hS hl => lv_isub F.1 F.2.1 hdg (by rw [hv]; exact (kk H locs ls hP hD hS hl))
theorem xr_imul (F : XF p s m args c cc nL Ts own D tys A) {x y : Int32} (v : Int32) (hdg : decode cc pc = .ok (.imul, 1)) (hv : x * y = v) (kk : AW p l e R s m args below meth c nL D A cells slots Q (ws) (lv) (pc + 1) (.int v :: rest)) : AW p l e R s m args below meth c nL D A cells slots Q (ws) (lv) (pc) (.int y :: .int x :: rest) :=
  fun H locs ls hP hD hS hl => lv_imul F.1 F.2.1 hdg (by rw [hv]; exact (kk H locs ls hP hD hS hl))
theorem xr_iand (F : XF p s m args c cc nL Ts own D tys A) {x y : Int32} (v : Int32) (hdg : decode cc pc = .ok (.iand, 1)) (hv : x &&& y = v) (kk : AW p l e R s m args below meth c nL D A cells slots Q (ws) (lv) (pc + 1) (.int v :: rest)) : AW p l e R s m args below meth c nL D A cells slots Q (ws) (lv) (pc) (.int y :: .int x :: rest) :=
  fun H locs ls hP hD hS hl => lv_iand F.1 F.2.1 hdg (by rw [hv]; exact (kk H locs ls hP hD hS hl))
theorem xr_ior (F : XF p s m args c cc nL Ts own D tys A) {x y : Int32} (v : Int32) (hdg : decode cc pc = .ok (.ior, 1)) (hv : x ||| y = v) (kk : AW p l e R s m args below meth c nL D A cells slots Q (ws) (lv) (pc + 1) (.int v :: rest)) : AW p l e R s m args below meth c nL D A cells slots Q (ws) (lv) (pc) (.int y :: .int x :: rest) :=
  fun H locs ls hP hD hS hl => lv_ior F.1 F.2.1 hdg (by rw [hv]; exact (kk H locs ls hP hD hS hl))
theorem xr_ixor (F : XF p s m args c cc nL Ts own D tys A) {x y : Int32} (v : Int32) (hdg : decode cc pc = .ok (.ixor, 1)) (hv : x ^^^ y = v) (kk : AW p l e R s m args below meth c nL D A cells slots Q (ws) (lv) (pc + 1) (.int v :: rest)) : AW p l e R s m args below meth c nL D A cells slots Q (ws) (lv) (pc) (.int y :: .int x :: rest) :=
  fun H locs ls hP hD hS hl => lv_ixor F.1 F.2.1 hdg (by rw [hv]; exact (kk H locs ls hP hD hS hl))
theorem xr_ishl (F : XF p s m args c cc nL Ts own D tys A) {x y : Int32} (v : Int32) (hdg : decode cc pc = .ok (.ishl, 1)) (hv : x <<< (y &&& 31) = v) (kk : AW p l e R s m args below meth c nL D A cells slots Q (ws) (lv) (pc + 1) (.int v :: rest)) : AW p l e R s m args below meth c nL D A cells slots Q (ws) (lv) (pc) (.int y :: .int x :: rest) :=
  fun H locs ls hP hD hS hl => lv_ishl F.1 F.2.1 hdg (by rw [hv]; exact (kk H locs ls hP hD hS hl))
theorem xr_ishr (F : XF p s m args c cc nL Ts own D tys A) {x y : Int32} (v : Int32) (hdg : decode cc pc = .ok (.ishr, 1)) (hv : x >>> (y &&& 31) = v) (kk : AW p l e R s m args below meth c nL D A cells slots Q (ws) (lv) (pc + 1) (.int v :: rest)) : AW p l e R s m args below meth c nL D A cells slots Q (ws) (lv) (pc) (.int y :: .int x :: rest) :=
  fun H locs ls hP hD hS hl => lv_ishr F.1 F.2.1 hdg (by rw [hv]; exact (kk H locs ls hP hD hS hl))
theorem xr_idiv (F : XF p s m args c cc nL Ts own D tys A) {x y : Int32} (v : Int32) (hdg : decode cc pc = .ok (.idiv, 1)) (hne : ¬ y = 0) (hv : x / y = v) (kk : AW p l e R s m args below meth c nL D A cells slots Q (ws) (lv) (pc + 1) (.int v :: rest)) : AW p l e R s m args below meth c nL D A cells slots Q (ws) (lv) (pc) (.int y :: .int x :: rest) :=
  fun H locs ls hP hD hS hl => lv_idiv F.1 F.2.1 hdg hne (by rw [hv]; exact (kk H locs ls hP hD hS hl))
theorem xr_irem (F : XF p s m args c cc nL Ts own D tys A) {x y : Int32} (v : Int32) (hdg : decode cc pc = .ok (.irem, 1)) (hne : ¬ y = 0) (hv : x - x / y * y = v) (kk : AW p l e R s m args below meth c nL D A cells slots Q (ws) (lv) (pc + 1) (.int v :: rest)) : AW p l e R s m args below meth c nL D A cells slots Q (ws) (lv) (pc) (.int y :: .int x :: rest) :=
  fun H locs ls hP hD hS hl => lv_irem F.1 F.2.1 hdg hne (by rw [hv]; exact (kk H locs ls hP hD hS hl))
theorem xr_ladd (F : XF p s m args c cc nL Ts own D tys A) {x y : Int64} (hdg : decode cc pc = .ok (.ladd, 1)) (kk : AW p l e R s m args below meth c nL D A cells slots Q (ws) (lv) (pc + 1) (.long (x + y) :: rest)) : AW p l e R s m args below meth c nL D A cells slots Q (ws) (lv) (pc) (.long y :: .long x :: rest) :=
  fun H locs ls hP hD hS hl => lv_ladd F.1 F.2.1 hdg (kk H locs ls hP hD hS hl)
theorem xr_lmul (F : XF p s m args c cc nL Ts own D tys A) {x y : Int64} (hdg : decode cc pc = .ok (.lmul, 1)) (kk : AW p l e R s m args below meth c nL D A cells slots Q (ws) (lv) (pc + 1) (.long (x * y) :: rest)) : AW p l e R s m args below meth c nL D A cells slots Q (ws) (lv) (pc) (.long y :: .long x :: rest) :=
  fun H locs ls hP hD hS hl => lv_lmul F.1 F.2.1 hdg (kk H locs ls hP hD hS hl)
theorem xr_i2l (F : XF p s m args c cc nL Ts own D tys A) {x : Int32} {v : Int64} (hdg : decode cc pc = .ok (.i2l, 1)) (hv : x.toInt64 = v) (kk : AW p l e R s m args below meth c nL D A cells slots Q (ws) (lv) (pc + 1) (.long v :: rest)) : AW p l e R s m args below meth c nL D A cells slots Q (ws) (lv) (pc) (.int x :: rest) :=
  fun H locs ls hP hD hS hl => lv_i2l F.1 F.2.1 hdg hv (kk H locs ls hP hD hS hl)
theorem xr_i2d (F : XF p s m args c cc nL Ts own D tys A) {x : Int32} (hdg : decode cc pc = .ok (.i2d, 1)) (kk : AW p l e R s m args below meth c nL D A cells slots Q (ws) (lv) (pc + 1) (.double (FP.i2d x) :: rest)) : AW p l e R s m args below meth c nL D A cells slots Q (ws) (lv) (pc) (.int x :: rest) :=
  fun H locs ls hP hD hS hl => lv_i2d F.1 F.2.1 hdg (kk H locs ls hP hD hS hl)
theorem xr_ddiv (F : XF p s m args c cc nL Ts own D tys A) {x y : UInt64} (hdg : decode cc pc = .ok (.ddiv, 1)) (hne : vf_n64 (FP.ddiv x y)) (kk : AW p l e R s m args below meth c nL D A cells slots Q (ws) (lv) (pc + 1) (.double (FP.ddiv x y) :: rest)) : AW p l e R s m args below meth c nL D A cells slots Q (ws) (lv) (pc) (.double y :: .double x :: rest) :=
  fun H locs ls hP hD hS hl => lv_ddiv F.1 F.2.1 hdg hne (kk H locs ls hP hD hS hl)
theorem xr_dcmp (F : XF p s m args c cc nL Ts own D tys A) {x y : UInt64} {op : CmpOp} (hdg : decode cc pc = .ok (.dcmp op, 1)) (kk : AW p l e R s m args below meth c nL D A cells slots Q (ws) (lv) (pc + 1) (.int (Op.cmpValue (FP.dcmp x y) op) :: rest)) : AW p l e R s m args below meth c nL D A cells slots Q (ws) (lv) (pc) (.double y :: .double x :: rest) :=
  fun H locs ls hP hD hS hl => lv_dcmp F.1 F.2.1 hdg (kk H locs ls hP hD hS hl)
theorem xr_lcmp (F : XF p s m args c cc nL Ts own D tys A) {x y : Int64} (hdg : decode cc pc = .ok (.lcmp, 1)) (kk : AW p l e R s m args below meth c nL D A cells slots Q (ws) (lv) (pc + 1) (.int (lg_cmp x y) :: rest)) : AW p l e R s m args below meth c nL D A cells slots Q (ws) (lv) (pc) (.long y :: .long x :: rest) :=
  fun H locs ls hP hD hS hl => W.lcmp F.1 F.2.1 hdg (kk H locs ls hP hD hS hl)
theorem xr_dup (F : XF p s m args c cc nL Ts own D tys A) {v : Value} (hdg : decode cc pc = .ok (.dup, 1)) (hv : v.category = 1) (kk : AW p l e R s m args below meth c nL D A cells slots Q (ws) (lv) (pc + 1) (v :: v :: rest)) : AW p l e R s m args below meth c nL D A cells slots Q (ws) (lv) (pc) (v :: rest) :=
  fun H locs ls hP hD hS hl => lv_dup F.1 F.2.1 hdg hv (kk H locs ls hP hD hS hl)
theorem xr_pop (F : XF p s m args c cc nL Ts own D tys A) {v : Value} (hdg : decode cc pc = .ok (.pop, 1)) (hv : v.category = 1) (kk : AW p l e R s m args below meth c nL D A cells slots Q (ws) (lv) (pc + 1) (rest)) : AW p l e R s m args below meth c nL D A cells slots Q (ws) (lv) (pc) (v :: rest) :=
  fun H locs ls hP hD hS hl => lv_pop F.1 F.2.1 hdg hv (kk H locs ls hP hD hS hl)
theorem xr_dup2 (F : XF p s m args c cc nL Ts own D tys A) {v u : Value} (hdg : decode cc pc = .ok (.dup2, 1)) (hv : v.category = 1) (hu : u.category = 1) (kk : AW p l e R s m args below meth c nL D A cells slots Q (ws) (lv) (pc + 1) (v :: u :: v :: u :: rest)) : AW p l e R s m args below meth c nL D A cells slots Q (ws) (lv) (pc) (v :: u :: rest) :=
  fun H locs ls hP hD hS hl => lv_dup2_11 F.1 F.2.1 hdg hv hu (kk H locs ls hP hD hS hl)
theorem xr_dup_x1 (F : XF p s m args c cc nL Ts own D tys A) {v u : Value} (hdg : decode cc pc = .ok (.dup_x1, 1)) (hv : v.category = 1) (hu : u.category = 1) (kk : AW p l e R s m args below meth c nL D A cells slots Q (ws) (lv) (pc + 1) (v :: u :: v :: rest)) : AW p l e R s m args below meth c nL D A cells slots Q (ws) (lv) (pc) (v :: u :: rest) :=
  fun H locs ls hP hD hS hl => lv_dup_x1 F.1 F.2.1 hdg hv hu (kk H locs ls hP hD hS hl)
theorem xr_if_eq (F : XF p s m args c cc nL Ts own D tys A) {x : Int32} {off : Int} (tgt : Nat) (hdg : decode cc pc = .ok (.ifCond .eq off, 3)) (ht : (pc : Int) + off = (tgt : Int)) (kt : x = 0 → AW p l e R s m args below meth c nL D A cells slots Q (ws) (lv) (tgt) (rest)) (kf : ¬ x = 0 → AW p l e R s m args below meth c nL D A cells slots Q (ws) (lv) (pc + 3) (rest)) : AW p l e R s m args below meth c nL D A cells slots Q (ws) (lv) (pc) (.int x :: rest) :=
  fun H locs ls hP hD hS hl => lv_if_eq F.1 F.2.1 hdg ht (fun h => kt h H locs ls hP hD hS hl) (fun h => kf h H locs ls hP hD hS hl)
theorem xr_icmp_eq (F : XF p s m args c cc nL Ts own D tys A) {x y : Int32} {off : Int} (tgt : Nat) (hdg : decode cc pc = .ok (.if_icmp .eq off, 3)) (ht : (pc : Int) + off = (tgt : Int)) (kt : x = y → AW p l e R s m args below meth c nL D A cells slots Q (ws) (lv) (tgt) (rest)) (kf : ¬ x = y → AW p l e R s m args below meth c nL D A cells slots Q (ws) (lv) (pc + 3) (rest)) : AW p l e R s m args below meth c nL D A cells slots Q (ws) (lv) (pc) (.int y :: .int x :: rest) :=
  fun H locs ls hP hD hS hl => lv_icmp_eq F.1 F.2.1 hdg ht (fun h => kt h H locs ls hP hD hS hl) (fun h => kf h H locs ls hP hD hS hl)
theorem xr_if_ne (F : XF p s m args c cc nL Ts own D tys A) {x : Int32} {off : Int} (tgt : Nat) (hdg : decode cc pc = .ok (.ifCond .ne off, 3)) (ht : (pc : Int) + off = (tgt : Int)) (kt : ¬ x = 0 → AW p l e R s m args below meth c nL D A cells slots Q (ws) (lv) (tgt) (rest)) (kf : x = 0 → AW p l e R s m args below meth c nL D A cells slots Q (ws) (lv) (pc + 3) (rest)) : AW p l e R s m args below meth c nL D A cells slots Q (ws) (lv) (pc) (.int x :: rest) :=
  fun H locs ls hP hD hS hl => lv_if_ne F.1 F.2.1 hdg ht (fun h => kt h H locs ls hP hD hS hl) (fun h => kf h H locs ls hP hD hS hl)
theorem xr_icmp_ne (F : XF p s m args c cc nL Ts own D tys A) {x y : Int32} {off : Int} (tgt : Nat) (hdg : decode cc pc = .ok (.if_icmp .ne off, 3)) (ht : (pc : Int) + off = (tgt : Int)) (kt : ¬ x = y → AW p l e R s m args below meth c nL D A cells slots Q (ws) (lv) (tgt) (rest)) (kf : x = y → AW p l e R s m args below meth c nL D A cells slots Q (ws) (lv) (pc + 3) (rest)) : AW p l e R s m args below meth c nL D A cells slots Q (ws) (lv) (pc) (.int y :: .int x :: rest) :=
  fun H locs ls hP hD hS hl => lv_icmp_ne F.1 F.2.1 hdg ht (fun h => kt h H locs ls hP hD hS hl) (fun h => kf h H locs ls hP hD hS hl)
theorem xr_if_lt (F : XF p s m args c cc nL Ts own D tys A) {x : Int32} {off : Int} (tgt : Nat) (hdg : decode cc pc = .ok (.ifCond .lt off, 3)) (ht : (pc : Int) + off = (tgt : Int)) (kt : x < 0 → AW p l e R s m args below meth c nL D A cells slots Q (ws) (lv) (tgt) (rest)) (kf : ¬ x < 0 → AW p l e R s m args below meth c nL D A cells slots Q (ws) (lv) (pc + 3) (rest)) : AW p l e R s m args below meth c nL D A cells slots Q (ws) (lv) (pc) (.int x :: rest) :=
  fun H locs ls hP hD hS hl => lv_if_lt F.1 F.2.1 hdg ht (fun h => kt h H locs ls hP hD hS hl) (fun h => kf h H locs ls hP hD hS hl)
theorem xr_icmp_lt (F : XF p s m args c cc nL Ts own D tys A) {x y : Int32} {off : Int} (tgt : Nat) (hdg : decode cc pc = .ok (.if_icmp .lt off, 3)) (ht : (pc : Int) + off = (tgt : Int)) (kt : x < y → AW p l e R s m args below meth c nL D A cells slots Q (ws) (lv) (tgt) (rest)) (kf : ¬ x < y → AW p l e R s m args below meth c nL D A cells slots Q (ws) (lv) (pc + 3) (rest)) : AW p l e R s m args below meth c nL D A cells slots Q (ws) (lv) (pc) (.int y :: .int x :: rest) :=
  fun H locs ls hP hD hS hl => lv_icmp_lt F.1 F.2.1 hdg ht (fun h => kt h H locs ls hP hD hS hl) (fun h => kf h H locs ls hP hD hS hl)
theorem xr_if_ge (F : XF p s m args c cc nL Ts own D tys A) {x : Int32} {off : Int} (tgt : Nat) (hdg : decode cc pc = .ok (.ifCond .ge off, 3)) (ht : (pc : Int) + off = (tgt : Int)) (kt : 0 ≤ x → AW p l e R s m args below meth c nL D A cells slots Q (ws) (lv) (tgt) (rest)) (kf : ¬ 0 ≤ x → AW p l e R s m args below meth c nL D A cells slots Q (ws) (lv) (pc + 3) (rest)) : AW p l e R s m args below meth c nL D A cells slots Q (ws) (lv) (pc) (.int x :: rest) :=
  fun H locs ls hP hD hS hl => lv_if_ge F.1 F.2.1 hdg ht (fun h => kt h H locs ls hP hD hS hl) (fun h => kf h H locs ls hP hD hS hl)
theorem xr_icmp_ge (F : XF p s m args c cc nL Ts own D tys A) {x y : Int32} {off : Int} (tgt : Nat) (hdg : decode cc pc = .ok (.if_icmp .ge off, 3)) (ht : (pc : Int) + off = (tgt : Int)) (kt : y ≤ x → AW p l e R s m args below meth c nL D A cells slots Q (ws) (lv) (tgt) (rest)) (kf : ¬ y ≤ x → AW p l e R s m args below meth c nL D A cells slots Q (ws) (lv) (pc + 3) (rest)) : AW p l e R s m args below meth c nL D A cells slots Q (ws) (lv) (pc) (.int y :: .int x :: rest) :=
  fun H locs ls hP hD hS hl => lv_icmp_ge F.1 F.2.1 hdg ht (fun h => kt h H locs ls hP hD hS hl) (fun h => kf h H locs ls hP hD hS hl)
theorem xr_if_gt (F : XF p s m args c cc nL Ts own D tys A) {x : Int32} {off : Int} (tgt : Nat) (hdg : decode cc pc = .ok (.ifCond .gt off, 3)) (ht : (pc : Int) + off = (tgt : Int)) (kt : 0 < x → AW p l e R s m args below meth c nL D A cells slots Q (ws) (lv) (tgt) (rest)) (kf : ¬ 0 < x → AW p l e R s m args below meth c nL D A cells slots Q (ws) (lv) (pc + 3) (rest)) : AW p l e R s m args below meth c nL D A cells slots Q (ws) (lv) (pc) (.int x :: rest) :=
  fun H locs ls hP hD hS hl => lv_if_gt F.1 F.2.1 hdg ht (fun h => kt h H locs ls hP hD hS hl) (fun h => kf h H locs ls hP hD hS hl)
theorem xr_icmp_gt (F : XF p s m args c cc nL Ts own D tys A) {x y : Int32} {off : Int} (tgt : Nat) (hdg : decode cc pc = .ok (.if_icmp .gt off, 3)) (ht : (pc : Int) + off = (tgt : Int)) (kt : y < x → AW p l e R s m args below meth c nL D A cells slots Q (ws) (lv) (tgt) (rest)) (kf : ¬ y < x → AW p l e R s m args below meth c nL D A cells slots Q (ws) (lv) (pc + 3) (rest)) : AW p l e R s m args below meth c nL D A cells slots Q (ws) (lv) (pc) (.int y :: .int x :: rest) :=
  fun H locs ls hP hD hS hl => lv_icmp_gt F.1 F.2.1 hdg ht (fun h => kt h H locs ls hP hD hS hl) (fun h => kf h H locs ls hP hD hS hl)
theorem xr_if_le (F : XF p s m args c cc nL Ts own D tys A) {x : Int32} {off : Int} (tgt : Nat) (hdg : decode cc pc = .ok (.ifCond .le off, 3)) (ht : (pc : Int) + off = (tgt : Int)) (kt : x ≤ 0 → AW p l e R s m args below meth c nL D A cells slots Q (ws) (lv) (tgt) (rest)) (kf : ¬ x ≤ 0 → AW p l e R s m args below meth c nL D A cells slots Q (ws) (lv) (pc + 3) (rest)) : AW p l e R s m args below meth c nL D A cells slots Q (ws) (lv) (pc) (.int x :: rest) :=
  fun H locs ls hP hD hS hl => lv_if_le F.1 F.2.1 hdg ht (fun h => kt h H locs ls hP hD hS hl) (fun h => kf h H locs ls hP hD hS hl)
theorem xr_icmp_le (F : XF p s m args c cc nL Ts own D tys A) {x y : Int32} {off : Int} (tgt : Nat) (hdg : decode cc pc = .ok (.if_icmp .le off, 3)) (ht : (pc : Int) + off = (tgt : Int)) (kt : x ≤ y → AW p l e R s m args below meth c nL D A cells slots Q (ws) (lv) (tgt) (rest)) (kf : ¬ x ≤ y → AW p l e R s m args below meth c nL D A cells slots Q (ws) (lv) (pc + 3) (rest)) : AW p l e R s m args below meth c nL D A cells slots Q (ws) (lv) (pc) (.int y :: .int x :: rest) :=
  fun H locs ls hP hD hS hl => lv_icmp_le F.1 F.2.1 hdg ht (fun h => kt h H locs ls hP hD hS hl) (fun h => kf h H locs ls hP hD hS hl)
theorem xr_goto (F : XF p s m args c cc nL Ts own D tys A) {off : Int} (tgt : Nat) (hdg : decode cc pc = .ok (.goto off, 3)) (ht : (pc : Int) + off = (tgt : Int)) (kk : AW p l e R s m args below meth c nL D A cells slots Q (ws) (lv) (tgt) (rest)) : AW p l e R s m args below meth c nL D A cells slots Q (ws) (lv) (pc) (rest) :=
  fun H locs ls hP hD hS hl => lv_goto F.1 F.2.1 hdg ht (kk H locs ls hP hD hS hl)
theorem xr_tableIn (F : XF p s m args c cc nL Ts own D tys A) {dflt lo hi : Int} {offs : Array Int} {len : Nat} {x : Int32} {off : Int} (tgt : Nat) (hdg : decode cc pc = .ok (.tableswitch dflt lo hi offs, len)) (h1 : ¬ x.toInt < lo) (h2 : ¬ hi < x.toInt) (ho : offs[(x.toInt - lo).toNat]? = some off) (ht : (pc : Int) + off = (tgt : Int)) (kk : AW p l e R s m args below meth c nL D A cells slots Q (ws) (lv) (tgt) (rest)) : AW p l e R s m args below meth c nL D A cells slots Q (ws) (lv) (pc) (.int x :: rest) :=
  fun H locs ls hP hD hS hl => lv_tableIn F.1 F.2.1 hdg h1 h2 ho ht (kk H locs ls hP hD hS hl)
theorem xr_tableOut (F : XF p s m args c cc nL Ts own D tys A) {dflt lo hi : Int} {offs : Array Int} {len : Nat} {x : Int32} (tgt : Nat) (hdg : decode cc pc = .ok (.tableswitch dflt lo hi offs, len)) (h : x.toInt < lo ∨ hi < x.toInt) (ht : (pc : Int) + dflt = (tgt : Int)) (kk : AW p l e R s m args below meth c nL D A cells slots Q (ws) (lv) (tgt) (rest)) : AW p l e R s m args below meth c nL D A cells slots Q (ws) (lv) (pc) (.int x :: rest) :=
  fun H locs ls hP hD hS hl => lv_tableOut F.1 F.2.1 hdg h ht (kk H locs ls hP hD hS hl)
theorem xr_top {x y : Int32} (h : x = y) (kk : AW p l e R s m args below meth c nL D A cells slots Q (ws) (lv) (pc) (.int y :: rest)) : AW p l e R s m args below meth c nL D A cells slots Q (ws) (lv) (pc) (.int x :: rest) := h ▸ kk
theorem xr_stk {st' : List Value} (h : st = st') (kk : AW p l e R s m args below meth c nL D A cells slots Q (ws) (lv) (pc) (st')) : AW p l e R s m args below meth c nL D A cells slots Q (ws) (lv) (pc) (st) := h ▸ kk
theorem xr_lv {lv' : List (Nat × Value)} (ks : List Nat) (h : lv_pick lv ks = lv') (kk : AW p l e R s m args below meth c nL D A cells slots Q (ws) (lv') (pc) (st)) : AW p l e R s m args below meth c nL D A cells slots Q (ws) (lv) (pc) (st) := fun H locs ls hP hD hS hl => kk H locs ls hP hD hS (lv_sub hl ks h)
theorem xr_lveq {lv' : List (Nat × Value)} (h : lv = lv') (kk : AW p l e R s m args below meth c nL D A cells slots Q (ws) (lv') (pc) (st)) : AW p l e R s m args below meth c nL D A cells slots Q (ws) (lv) (pc) (st) := h ▸ kk
theorem xr_ws {ws' : va_W} (h : ws = ws') (kk : AW p l e R s m args below meth c nL D A cells slots Q (ws') (lv) (pc) (st)) : AW p l e R s m args below meth c nL D A cells slots Q (ws) (lv) (pc) (st) := h ▸ kk
theorem xr_sub {ws' : va_W} (is : List Nat) (hn : va_nd is = true) (h : is.map (fun i => ws[i]?) = ws'.map some) (kk : AW p l e R s m args below meth c nL D A cells slots Q (ws') (lv) (pc) (st)) : AW p l e R s m args below meth c nL D A cells slots Q (ws) (lv) (pc) (st) := fun H locs ls hP hD hS hl => kk H locs ls (xk_psub hP is h) (hD.sub is hn h) hS hl
theorem xr_widen {k n : Nat} (h1 : cells ≤ k) (h2 : slots ≤ n) (kk : AW p l e R s m args below meth c nL D A k n Q (ws) (lv) (pc) (st)) : AW p l e R s m args below meth c nL D A cells slots Q (ws) (lv) (pc) (st) := fun H locs ls hP hD hS hl => W.widen h1 h2 (kk H locs ls hP hD hS hl)
theorem xr_get (F : XF p s m args c cc nL Ts own D tys A) {C : String} {T : u_T} {N ci index : Nat} (hin : ∀ w ∈ u_ws C T N, w ∈ Ts) (q0 : Nat) {fs : List Value} {a : Nat} (he : ws[q0]? = some (a, .inr (ci, fs))) (hc : vwCl[ci]? = some (C, T, N)) (k : Nat) (hk : k < N) (hlink : Cond.fieldLink own index (T k).1 (T k).2.1 (T k).2.2.1 ∈ Ts) {v : Value} (hv : fs[k]? = some v) (hdg : decode cc pc = .ok (.getfield index, 3)) (kk : AW p l e R s m args below meth c nL D A cells slots Q (ws) (lv) (pc + 3) (v :: rest)) : AW p l e R s m args below meth c nL D A cells slots Q (ws) (lv) (pc) (.ref a :: rest) :=
  fun H locs ls hP hD hS hl => va_get F.1 F.2.1 F.hts hin F.owns F.hK hP q0 he hc k hk (F.hts _ hlink) (fun _ h => h) hv hdg (kk H locs ls hP hD hS hl)
theorem xr_getN (F : XF p s m args c cc nL Ts own D tys A) {host : String} {C : String} {T : u_T} {N ci index : Nat} (hin : ∀ w ∈ u_ws C T N, w ∈ Ts) (q0 : Nat) {fs : List Value} {a : Nat} (he : ws[q0]? = some (a, .inr (ci, fs))) (hc : vwCl[ci]? = some (C, T, N)) (k : Nat) (hk : k < N) (hlink : (Cond.fieldLinkNest own index (T k).1 (T k).2.1 (T k).2.2.1 host) ∈ nwX) {v : Value} (hv : fs[k]? = some v) (hdg : decode cc pc = .ok (.getfield index, 3)) (kk : AW p l e R s m args below meth c nL D A cells slots Q (ws) (lv) (pc + 3) (v :: rest)) : AW p l e R s m args below meth c nL D A cells slots Q (ws) (lv) (pc) (.ref a :: rest) :=
  fun H locs ls hP hD hS hl => va_getN F.1 F.2.1 F.hts hin F.owns F.hK hP q0 he hc k hk (va_Nw.use rfl (F.hZ.1 _ hlink)) (fun _ h => h) hv hdg (kk H locs ls hP hD hS hl)
theorem xr_put (F : XF p s m args c cc nL Ts own D tys A) {C : String} {T : u_T} {N ci index : Nat} (hin : ∀ w ∈ u_ws C T N, w ∈ Ts) (q0 : Nat) {fs : List Value} {a : Nat} (he : ws[q0]? = some (a, .inr (ci, fs))) (hc : vwCl[ci]? = some (C, T, N)) (k : Nat) (hk : k < N) (ty0 : Nat → FieldType) (hty : ∀ k, k < N → parseFieldDescriptor (T k).2.2.1 = some (ty0 k)) (hnm : ∀ a, a < N → ∀ b, b < N → a ≠ b → (T a).2.1 ≠ (T b).2.1) (hlink : Cond.fieldLink own index (T k).1 (T k).2.1 (T k).2.2.1 ∈ Ts) (hfin : (T k).2.2.2 = false) {ty : FieldType} {v : Value} (hd : parseFieldDescriptor (T k).2.2.1 = some ty) (hn : narrow ty v = v) (hfit : fits ty v = true) (hl : k < fs.length) (ws' : va_W) (hw : ws.set q0 (a, .inr (ci, fs.set k v)) = ws') (hdg : decode cc pc = .ok (.putfield index, 3)) (kk : AW p l e R s m args below meth c nL D A cells slots Q (ws') (lv) (pc + 3) (rest)) : AW p l e R s m args below meth c nL D A cells slots Q (ws) (lv) (pc) (v :: .ref a :: rest) :=
  fun H locs ls hP hD hS h9 => va_put F.1 F.2.1 F.hts hin ty0 hty hnm F.owns F.hK hP hD hS q0 he hc k hk (F.hts _ hlink) (fun _ h => h) hfin hd hn hfit hl hdg (fun H1 locs1 hP1 hD1 hS1 => kk H1 locs1 ls (hw ▸ hP1) (hw ▸ hD1) hS1 h9)
theorem xr_putN (F : XF p s m args c cc nL Ts own D tys A) {host : String} {C : String} {T : u_T} {N ci index : Nat} (hin : ∀ w ∈ u_ws C T N, w ∈ Ts) (q0 : Nat) {fs : List Value} {a : Nat} (he : ws[q0]? = some (a, .inr (ci, fs))) (hc : vwCl[ci]? = some (C, T, N)) (k : Nat) (hk : k < N) (ty0 : Nat → FieldType) (hty : ∀ k, k < N → parseFieldDescriptor (T k).2.2.1 = some (ty0 k)) (hnm : ∀ a, a < N → ∀ b, b < N → a ≠ b → (T a).2.1 ≠ (T b).2.1) (hlink : Cond.fieldLinkNest own index (T k).1 (T k).2.1 (T k).2.2.1 host ∈ nwX) (hfin : (T k).2.2.2 = false) {ty : FieldType} {v : Value} (hd : parseFieldDescriptor (T k).2.2.1 = some ty) (hn : narrow ty v = v) (hfit : fits ty v = true) (hl : k < fs.length) (ws' : va_W) (hw : ws.set q0 (a, .inr (ci, fs.set k v)) = ws') (hdg : decode cc pc = .ok (.putfield index, 3)) (kk : AW p l e R s m args below meth c nL D A cells slots Q (ws') (lv) (pc + 3) (rest)) : AW p l e R s m args below meth c nL D A cells slots Q (ws) (lv) (pc) (v :: .ref a :: rest) :=
  fun H locs ls hP hD hS h9 => va_putN F.1 F.2.1 F.hts hin ty0 hty hnm F.owns F.hK hP hD hS q0 he hc k hk (va_Nw.use rfl (F.hZ.1 _ hlink)) (fun _ h => h) hfin hd hn hfit hl hdg (fun H1 locs1 hP1 hD1 hS1 => kk H1 locs1 ls (hw ▸ hP1) (hw ▸ hD1) hS1 h9)
theorem xr_putF (F : XF p s m args c cc nL Ts own D tys A) {C : String} {T : u_T} {N ci index : Nat} (hin : ∀ w ∈ u_ws C T N, w ∈ Ts) (q0 : Nat) {fs : List Value} {a : Nat} (he : ws[q0]? = some (a, .inr (ci, fs))) (hc : vwCl[ci]? = some (C, T, N)) (k : Nat) (hk : k < N) (ty0 : Nat → FieldType) (hty : ∀ k, k < N → parseFieldDescriptor (T k).2.2.1 = some (ty0 k)) (hnm : ∀ a, a < N → ∀ b, b < N → a ≠ b → (T a).2.1 ≠ (T b).2.1) (hlink : Cond.fieldLink own index (T k).1 (T k).2.1 (T k).2.2.1 ∈ Ts) (hfin : (T k).2.2.2 = true) (hin2 : meth.name = "<init>") (hdecl : (T k).1 = own) {ty : FieldType} {v : Value} (hd : parseFieldDescriptor (T k).2.2.1 = some ty) (hn : narrow ty v = v) (hfit : fits ty v = true) (hl : k < fs.length) (ws' : va_W) (hw : ws.set q0 (a, .inr (ci, fs.set k v)) = ws') (hdg : decode cc pc = .ok (.putfield index, 3)) (kk : AW p l e R s m args below meth c nL D A cells slots Q (ws') (lv) (pc + 3) (rest)) : AW p l e R s m args below meth c nL D A cells slots Q (ws) (lv) (pc) (v :: .ref a :: rest) :=
  fun H locs ls hP hD hS h9 => va_putF F.1 F.2.1 F.hts hin ty0 hty hnm F.owns F.hK hP hD hS q0 he hc k hk (F.hts _ hlink) (fun _ h => h) hfin hin2 hdecl hd hn hfit hl hdg (fun H1 locs1 hP1 hD1 hS1 => kk H1 locs1 ls (hw ▸ hP1) (hw ▸ hD1) hS1 h9)
theorem xr_iald (F : XF p s m args c cc nL Ts own D tys A) (q0 t0 : Nat) {cA : ClassId} {n a : Nat} {f : Nat → Int32} (ha : ws[q0]? = some (a, .inl (cA, n, .inl f))) (ht : tys[t0]? = some (cA, .int)) {i : Int32} (k : Nat) (hi : i = nI k) (hk : k < n) (hn : n < 2147483648) (hdg : decode cc pc = .ok (.iaload, 1)) (kk : AW p l e R s m args below meth c nL D A cells slots Q (ws) (lv) (pc + 1) (.int (f k) :: rest)) : AW p l e R s m args below meth c nL D A cells slots Q (ws) (lv) (pc) (.int i :: .ref a :: rest) :=
  fun H locs ls hP hD hS hl => va_iald F.1 F.2.1 F.hK hP q0 t0 ha ht (by rw [hi]; exact vp_in_nI hk hn) hdg (by rw [hi, nI_clamp (Nat.lt_trans hk hn)]; exact (kk H locs ls hP hD hS hl))
theorem xr_zald (F : XF p s m args c cc nL Ts own D tys A) (q0 t0 : Nat) {cA : ClassId} {n a : Nat} {f : Nat → Int32} (ha : ws[q0]? = some (a, .inl (cA, n, .inl f))) (ht : tys[t0]? = some (cA, .boolean)) {i : Int32} (k : Nat) (hi : i = nI k) (hk : k < n) (hn : n < 2147483648) (hdg : decode cc pc = .ok (.baload, 1)) (kk : AW p l e R s m args below meth c nL D A cells slots Q (ws) (lv) (pc + 1) (.int (f k) :: rest)) : AW p l e R s m args below meth c nL D A cells slots Q (ws) (lv) (pc) (.int i :: .ref a :: rest) :=
  fun H locs ls hP hD hS hl => va_zald F.1 F.2.1 F.hK hP q0 t0 ha ht (by rw [hi]; exact vp_in_nI hk hn) hdg (by rw [hi, nI_clamp (Nat.lt_trans hk hn)]; exact (kk H locs ls hP hD hS hl))
theorem xr_iast (F : XF p s m args c cc nL Ts own D tys A) (q0 t0 : Nat) {cA : ClassId} {n a : Nat} {f : Nat → Int32} (ha : ws[q0]? = some (a, .inl (cA, n, .inl f))) (ht : tys[t0]? = some (cA, .int)) {i x : Int32} (k : Nat) (hi : i = nI k) (hk : k < n) (hn : n < 2147483648) (ws' : va_W) (hw : ws.set q0 (a, .inl (cA, n, .inl (upd f k x))) = ws') (hdg : decode cc pc = .ok (.iastore, 1)) (kk : AW p l e R s m args below meth c nL D A cells slots Q (ws') (lv) (pc + 1) (rest)) : AW p l e R s m args below meth c nL D A cells slots Q (ws) (lv) (pc) (.int x :: .int i :: .ref a :: rest) :=
  by
  subst hi
  subst hw
  intro H locs ls hP hD hS h9
  refine va_iast F.1 F.2.1 F.hK hP hD hS q0 t0 ha ht (vp_in_nI hk hn) hdg (fun H1 locs1 hP1 hD1 hS1 => ?_)
  rw [nI_clamp (Nat.lt_trans hk hn)] at hP1 hD1
  exact kk H1 locs1 ls hP1 hD1 hS1 h9
theorem xr_zast (F : XF p s m args c cc nL Ts own D tys A) (q0 t0 : Nat) {cA : ClassId} {n a : Nat} {f : Nat → Int32} (ha : ws[q0]? = some (a, .inl (cA, n, .inl f))) (ht : tys[t0]? = some (cA, .boolean)) {i x : Int32} (k : Nat) (hi : i = nI k) (hk : k < n) (hn : n < 2147483648) (ws' : va_W) (hw : ws.set q0 (a, .inl (cA, n, .inl (upd f k (vp_nar .boolean x)))) = ws') (hdg : decode cc pc = .ok (.bastore, 1)) (kk : AW p l e R s m args below meth c nL D A cells slots Q (ws') (lv) (pc + 1) (rest)) : AW p l e R s m args below meth c nL D A cells slots Q (ws) (lv) (pc) (.int x :: .int i :: .ref a :: rest) :=
  by
  subst hi
  subst hw
  intro H locs ls hP hD hS h9
  refine va_zast F.1 F.2.1 F.hK hP hD hS q0 t0 ha ht (vp_in_nI hk hn) hdg (fun H1 locs1 hP1 hD1 hS1 => ?_)
  rw [nI_clamp (Nat.lt_trans hk hn)] at hP1 hD1
  exact kk H1 locs1 ls hP1 hD1 hS1 h9
theorem xr_lald (F : XF p s m args c cc nL Ts own D tys A) (q0 t0 : Nat) {cA : ClassId} {n a : Nat} {f : Nat → Int64} (ha : ws[q0]? = some (a, .inl (cA, n, .inr (.inl f)))) (ht : tys[t0]? = some (cA, .long)) {i : Int32} (k : Nat) (hi : i = nI k) (hk : k < n) (hn : n < 2147483648) (hdg : decode cc pc = .ok (.laload, 1)) (kk : AW p l e R s m args below meth c nL D A cells slots Q (ws) (lv) (pc + 1) (.long (f k) :: rest)) : AW p l e R s m args below meth c nL D A cells slots Q (ws) (lv) (pc) (.int i :: .ref a :: rest) :=
  fun H locs ls hP hD hS hl => va_lald F.1 F.2.1 F.hK hP q0 t0 ha ht (by rw [hi]; exact vp_in_nI hk hn) hdg (by rw [hi, nI_clamp (Nat.lt_trans hk hn)]; exact (kk H locs ls hP hD hS hl))
theorem xr_last (F : XF p s m args c cc nL Ts own D tys A) (q0 t0 : Nat) {cA : ClassId} {n a : Nat} {f : Nat → Int64} (ha : ws[q0]? = some (a, .inl (cA, n, .inr (.inl f)))) (ht : tys[t0]? = some (cA, .long)) {i : Int32} {x : Int64} (k : Nat) (hi : i = nI k) (hk : k < n) (hn : n < 2147483648) (ws' : va_W) (hw : ws.set q0 (a, .inl (cA, n, .inr (.inl (vp_updL f k x)))) = ws') (hdg : decode cc pc = .ok (.lastore, 1)) (kk : AW p l e R s m args below meth c nL D A cells slots Q (ws') (lv) (pc + 1) (rest)) : AW p l e R s m args below meth c nL D A cells slots Q (ws) (lv) (pc) (.long x :: .int i :: .ref a :: rest) :=
  by
  subst hi
  subst hw
  intro H locs ls hP hD hS h9
  refine va_last F.1 F.2.1 F.hK hP hD hS q0 t0 ha ht (vp_in_nI hk hn) hdg (fun H1 locs1 hP1 hD1 hS1 => ?_)
  rw [nI_clamp (Nat.lt_trans hk hn)] at hP1 hD1
  exact kk H1 locs1 ls hP1 hD1 hS1 h9
theorem xr_alen (F : XF p s m args c cc nL Ts own D tys A) (q0 t0 : Nat) {cA : ClassId} {a : Nat} {x : vp_A} (ha : ws[q0]? = some (a, .inl (cA, x))) {ty : FieldType} (ht : tys[t0]? = some (cA, ty)) {v : Int32} (hv : Int32.ofNat x.1 = v) (hdg : decode cc pc = .ok (.arraylength, 1)) (kk : AW p l e R s m args below meth c nL D A cells slots Q (ws) (lv) (pc + 1) (.int v :: rest)) : AW p l e R s m args below meth c nL D A cells slots Q (ws) (lv) (pc) (.ref a :: rest) :=
  fun H locs ls hP hD hS hl => va_alen F.1 F.2.1 F.hK hP q0 t0 ha ht hv hdg (kk H locs ls hP hD hS hl)
theorem xr_mmin (F : XF p s m args c cc nL Ts own D tys A) {index : Nat} (hlink : Cond.methodLink own index Lib.Math.min.name ∈ Ts) (hstat : Cond.static Lib.Math.min.name ∈ Ts) (hini : Cond.initialized "java/lang/Math" ∈ Ts) (hcode : Cond.code Lib.Math.min.name Lib.Math.min.code 2 (some .int) ∈ Ts) (hframes : 1 ≤ R.frames) (hlocals : (rest.map fun v => v.category).sum + 13 ≤ R.locals) (hc : cells ≤ R.cells) (hs : slots ≤ R.slots) {x y : Int32} (hdg : decode cc pc = .ok (.invokestatic index, 3)) (kk : AW p l e R s m args below meth c nL D A cells slots Q (ws) (lv) (pc + 3) (.int (if y < x then y else x) :: rest)) : AW p l e R s m args below meth c nL D A cells slots Q (ws) (lv) (pc) (.int y :: .int x :: rest) :=
  fun H locs ls hP hD hS hl => va_mmin F.1 F.2.1 (F.2.2.1.trans hl.1.symm) F.owns (F.hts _ hlink) (F.hts _ hstat) (F.hts _ hini) (F.hts _ hcode) hframes hlocals hc hs hdg (kk H locs ls hP hD hS hl)
theorem xr_mmax (F : XF p s m args c cc nL Ts own D tys A) {index : Nat} (hlink : Cond.methodLink own index Lib.Math.max.name ∈ Ts) (hstat : Cond.static Lib.Math.max.name ∈ Ts) (hini : Cond.initialized "java/lang/Math" ∈ Ts) (hcode : Cond.code Lib.Math.max.name Lib.Math.max.code 2 (some .int) ∈ Ts) (hframes : 1 ≤ R.frames) (hlocals : (rest.map fun v => v.category).sum + 13 ≤ R.locals) (hc : cells ≤ R.cells) (hs : slots ≤ R.slots) {x y : Int32} (hdg : decode cc pc = .ok (.invokestatic index, 3)) (kk : AW p l e R s m args below meth c nL D A cells slots Q (ws) (lv) (pc + 3) (.int (if x < y then y else x) :: rest)) : AW p l e R s m args below meth c nL D A cells slots Q (ws) (lv) (pc) (.int y :: .int x :: rest) :=
  fun H locs ls hP hD hS hl => va_mmax F.1 F.2.1 (F.2.2.1.trans hl.1.symm) F.owns (F.hts _ hlink) (F.hts _ hstat) (F.hts _ hini) (F.hts _ hcode) hframes hlocals hc hs hdg (kk H locs ls hP hD hS hl)
end XKIT
end
section
/-- a method's start: its arguments, its world, the tables -/
abbrev xPre (D : va_G) (tys : List (ClassId × FieldType)) (W0 : va_W) (sz : Nat) (av : List Value) : Array Value → State → Prop := va_Pc av (fun U => U.heap.size = sz ∧ va_P D vwCl W0 U.heap ∧ va_K D vwCl tys U ∧ va_D (fun _ => True) W0 ∧ xZ U)
/-- the world behind it -/
abbrev xPst (D : va_G) (W0 : va_W) (sz : Nat) : va_W → State → Prop := fun W1 t => va_P D vwCl W1 t.heap ∧ va_D (va_A W0 sz) W1
theorem xk_blind {D : va_G} {tys : List (ClassId × FieldType)} {W0 : va_W} {sz : Nat} {av : List Value} : FrameBlind (xPre D tys W0 sz av) := fun a U g mk q => by
  obtain ⟨q0, q1, qP, qK, qD, qZ⟩ := q
  exact ⟨q0, q1, qP, va_K.moved (u := U) (U := U.calling g mk a) (Vm.Alike.refl U.vm) qK, qD, xk_nsame (u := U) (U := U.calling g mk a) rfl qZ⟩

def xMi (l : Launch) (y : MethodName) (wsC : List Cond) (rm : Room) (D : va_G) (tys : List (ClassId × FieldType)) (W0 : va_W) (av : List Value) (mc ms : Nat) (post : Int32 → va_W → Prop) : Prop := ∀ sz : Nat, Met l y wsC rm (xPre D tys W0 sz av) (va_Qi post (xPst D W0 sz) (va_A W0 sz)) mc ms (va_A W0 sz)
def xMl (l : Launch) (y : MethodName) (wsC : List Cond) (rm : Room) (D : va_G) (tys : List (ClassId × FieldType)) (W0 : va_W) (av : List Value) (mc ms : Nat) (post : Int64 → va_W → Prop) : Prop := ∀ sz : Nat, Met l y wsC rm (xPre D tys W0 sz av) (va_Ql post (xPst D W0 sz) (va_A W0 sz)) mc ms (va_A W0 sz)
def xMd (l : Launch) (y : MethodName) (wsC : List Cond) (rm : Room) (D : va_G) (tys : List (ClassId × FieldType)) (W0 : va_W) (av : List Value) (mc ms : Nat) (post : UInt64 → va_W → Prop) : Prop := ∀ sz : Nat, Met l y wsC rm (xPre D tys W0 sz av) (va_Qd post (xPst D W0 sz) (va_A W0 sz)) mc ms (va_A W0 sz)
def xMv (l : Launch) (y : MethodName) (wsC : List Cond) (rm : Room) (D : va_G) (tys : List (ClassId × FieldType)) (W0 : va_W) (av : List Value) (mc ms : Nat) (post : va_W → Prop) : Prop := ∀ sz : Nat, Met l y wsC rm (xPre D tys W0 sz av) (va_Qv post (xPst D W0 sz) (va_A W0 sz)) mc ms (va_A W0 sz)
def xMr (l : Launch) (y : MethodName) (wsC : List Cond) (rm : Room) (D : va_G) (tys : List (ClassId × FieldType)) (W0 : va_W) (av : List Value) (mc ms : Nat) (post : Nat → va_W → Prop) : Prop := ∀ sz : Nat, Met l y wsC rm (xPre D tys W0 sz av) (va_Qr (fun u : Nat × va_W => post u.1 u.2) (fun u a t => a = u.1 ∧ xPst D W0 sz u.2 t) (va_A W0 sz)) mc ms (va_A W0 sz)
theorem xk_ofWF {l : Launch} {y : MethodName} {ws ws' : List Cond} {rm : Room} {Pc : Array Value → State → Prop} {Qc : Array Value → State → Outcome → State → Prop} {mc ms : Nat} {free : Addr → Prop} {cc : ByteArray} {maxL : Nat} {ret : Option FieldType}
    (hy : plainFor y = true) (hw : ws = Cond.code y cc maxL ret :: ws')
    (body : ∀ p e s m args below meth c s₁, BodyLoose p l y (headSpec ws rm) cc maxL ret e s m args below meth c s₁ → c.maxLocals = maxL → Pc args s →
      W p l e (headSpec ws rm).room s m args below meth c s.heap [] 0 0 (MQ below Qc args s mc ms free) (entryFrame m args maxL)) : Met l y ws rm Pc Qc mc ms free := by
  refine MetFree.of_bodySF (code := cc) (maxLocals := maxL) (ret := ret) hy ?_ ?_
  · intro args s m h hn
    obtain ⟨meth, c, h1, h2, h3, h4, h5, h6, -, -⟩ := Cond.code_spec hn (atoms_spec (ws := ws) h _ (by rw [hw]; exact List.mem_cons_self))
    exact ⟨meth, c, h1, h2, h3, h4, h5, h6⟩
  · intro p e s m args below meth c s₁ B hml hP _
    have hh0 : s₁.heap = s.heap := by rw [B.state]; rfl
    obtain ⟨t, a1, o, b1, b2, b3⟩ := body p e s m args below meth c s₁ B hml hP s₁ hh0 (Stand.of_body B)
    exact ⟨t, o, a1, b1, b2, ⟨b3.1, b3.2⟩⟩
section XMET
variable {l : Launch} {y : MethodName} {wsC ws' : List Cond} {rm : Room} {D : va_G} {tys : List (ClassId × FieldType)} {W0 : va_W} {av : List Value} {mc ms nL : Nat} {cc : ByteArray}
theorem xE_i {post : Int32 → va_W → Prop} (hy : plainName y.cls = true) (hw : wsC = Cond.code y cc nL (some .int) :: ws') (hav : (lg_sl av).length ≤ nL)
    (body : ∀ (p : Program) (e : Env) (s : State) (m : MethodId) (args : Array Value) (below : List Frame) (meth : Method) (c : Code) (A : Nat → Prop) (Q : State → Prop), XF p s m args c cc nL wsC y.cls D tys A → meth.name = y.name → (∀ (pc : Nat) (r : Int32) (W1 : va_W) (lv : List (Nat × Value)), decode cc pc = .ok (.ireturn, 1) → post r W1 → AW p l e rm s m args below meth c nL D A mc ms Q W1 lv pc [.int r]) → AW p l e rm s m args below meth c nL D A 0 0 Q W0 (lv_args 0 av) 0 []) : xMi l y wsC rm D tys W0 av mc ms post := by
  intro sz
  refine Met.ofW (cc := cc) (maxL := nL) (ret := some .int) hy hw ?_
  intro p e s m args below meth c s₁ B hml hv
  obtain ⟨rfl, hsz, hP, hK, hD0, hZ⟩ := hv
  subst hsz
  have hown : s.vm.findClass y.cls = some m.cls := findClass_of_methodNamed B.named
  rw [lg_entry_eq]
  refine body p e s m _ below meth c (va_A W0 s.heap.size) _ ⟨B.exec, B.bytes, hml, hown, atoms_spec (ws := wsC) B.pre, hK, fun q h => Or.inr h, hZ⟩ (name_of_methodNamed B.named B.method).1 ?_ s.heap [] _ hP (hD0.self (sz := s.heap.size)) va_S.rf (lv_entry av (n := nL) hav)
  intro pc r W1 lv hdg hpost H locs ls hP hD hS hl
  exact W.iret B.exec B.bytes B.returns (fun t ht hW => ⟨⟨r, W1, rfl, hpost, by rw [ht]; exact hP, hD⟩, hS.F ht⟩) hS.2.2 hdg B.notSynchronized
theorem xE_z {post : Int32 → va_W → Prop} (hy : plainName y.cls = true) (hw : wsC = Cond.code y cc nL (some .boolean) :: ws') (hav : (lg_sl av).length ≤ nL)
    (body : ∀ (p : Program) (e : Env) (s : State) (m : MethodId) (args : Array Value) (below : List Frame) (meth : Method) (c : Code) (A : Nat → Prop) (Q : State → Prop), XF p s m args c cc nL wsC y.cls D tys A → meth.name = y.name → (∀ (pc : Nat) (r : Int32) (W1 : va_W) (lv : List (Nat × Value)), decode cc pc = .ok (.ireturn, 1) → narrow .boolean (.int r) = .int r → post r W1 → AW p l e rm s m args below meth c nL D A mc ms Q W1 lv pc [.int r]) → AW p l e rm s m args below meth c nL D A 0 0 Q W0 (lv_args 0 av) 0 []) : xMi l y wsC rm D tys W0 av mc ms post := by
  intro sz
  refine Met.ofW (cc := cc) (maxL := nL) (ret := some .boolean) hy hw ?_
  intro p e s m args below meth c s₁ B hml hv
  obtain ⟨rfl, hsz, hP, hK, hD0, hZ⟩ := hv
  subst hsz
  have hown : s.vm.findClass y.cls = some m.cls := findClass_of_methodNamed B.named
  rw [lg_entry_eq]
  refine body p e s m _ below meth c (va_A W0 s.heap.size) _ ⟨B.exec, B.bytes, hml, hown, atoms_spec (ws := wsC) B.pre, hK, fun q h => Or.inr h, hZ⟩ (name_of_methodNamed B.named B.method).1 ?_ s.heap [] _ hP (hD0.self (sz := s.heap.size)) va_S.rf (lv_entry av (n := nL) hav)
  intro pc r W1 lv hdg hnr hpost H locs ls hP hD hS hl
  exact W.zret B.exec B.bytes B.returns hnr (fun t ht hW => ⟨⟨r, W1, rfl, hpost, by rw [ht]; exact hP, hD⟩, hS.F ht⟩) hS.2.2 hdg B.notSynchronized
theorem xE_l {post : Int64 → va_W → Prop} (hy : plainName y.cls = true) (hw : wsC = Cond.code y cc nL (some .long) :: ws') (hav : (lg_sl av).length ≤ nL)
    (body : ∀ (p : Program) (e : Env) (s : State) (m : MethodId) (args : Array Value) (below : List Frame) (meth : Method) (c : Code) (A : Nat → Prop) (Q : State → Prop), XF p s m args c cc nL wsC y.cls D tys A → meth.name = y.name → (∀ (pc : Nat) (r : Int64) (W1 : va_W) (lv : List (Nat × Value)), decode cc pc = .ok (.lreturn, 1) → post r W1 → AW p l e rm s m args below meth c nL D A mc ms Q W1 lv pc [.long r]) → AW p l e rm s m args below meth c nL D A 0 0 Q W0 (lv_args 0 av) 0 []) : xMl l y wsC rm D tys W0 av mc ms post := by
  intro sz
  refine Met.ofW (cc := cc) (maxL := nL) (ret := some .long) hy hw ?_
  intro p e s m args below meth c s₁ B hml hv
  obtain ⟨rfl, hsz, hP, hK, hD0, hZ⟩ := hv
  subst hsz
  have hown : s.vm.findClass y.cls = some m.cls := findClass_of_methodNamed B.named
  rw [lg_entry_eq]
  refine body p e s m _ below meth c (va_A W0 s.heap.size) _ ⟨B.exec, B.bytes, hml, hown, atoms_spec (ws := wsC) B.pre, hK, fun q h => Or.inr h, hZ⟩ (name_of_methodNamed B.named B.method).1 ?_ s.heap [] _ hP (hD0.self (sz := s.heap.size)) va_S.rf (lv_entry av (n := nL) hav)
  intro pc r W1 lv hdg hpost H locs ls hP hD hS hl
  exact W.lret B.exec B.bytes B.returns (fun t ht hW => ⟨⟨r, W1, rfl, hpost, by rw [ht]; exact hP, hD⟩, hS.F ht⟩) hS.2.2 hdg B.notSynchronized
theorem xE_d {post : UInt64 → va_W → Prop} (hy : plainName y.cls = true) (hw : wsC = Cond.code y cc nL (some .double) :: ws') (hav : (lg_sl av).length ≤ nL)
    (body : ∀ (p : Program) (e : Env) (s : State) (m : MethodId) (args : Array Value) (below : List Frame) (meth : Method) (c : Code) (A : Nat → Prop) (Q : State → Prop), XF p s m args c cc nL wsC y.cls D tys A → meth.name = y.name → (∀ (pc : Nat) (r : UInt64) (W1 : va_W) (lv : List (Nat × Value)), decode cc pc = .ok (.dreturn, 1) → post r W1 → AW p l e rm s m args below meth c nL D A mc ms Q W1 lv pc [.double r]) → AW p l e rm s m args below meth c nL D A 0 0 Q W0 (lv_args 0 av) 0 []) : xMd l y wsC rm D tys W0 av mc ms post := by
  intro sz
  refine Met.ofW (cc := cc) (maxL := nL) (ret := some .double) hy hw ?_
  intro p e s m args below meth c s₁ B hml hv
  obtain ⟨rfl, hsz, hP, hK, hD0, hZ⟩ := hv
  subst hsz
  have hown : s.vm.findClass y.cls = some m.cls := findClass_of_methodNamed B.named
  rw [lg_entry_eq]
  refine body p e s m _ below meth c (va_A W0 s.heap.size) _ ⟨B.exec, B.bytes, hml, hown, atoms_spec (ws := wsC) B.pre, hK, fun q h => Or.inr h, hZ⟩ (name_of_methodNamed B.named B.method).1 ?_ s.heap [] _ hP (hD0.self (sz := s.heap.size)) va_S.rf (lv_entry av (n := nL) hav)
  intro pc r W1 lv hdg hpost H locs ls hP hD hS hl
  exact W.dret B.exec B.bytes B.returns (fun t ht hW => ⟨⟨r, W1, rfl, hpost, by rw [ht]; exact hP, hD⟩, hS.F ht⟩) hS.2.2 hdg B.notSynchronized
theorem xE_v {post : va_W → Prop} (hy : plainName y.cls = true) (hw : wsC = Cond.code y cc nL (none) :: ws') (hav : (lg_sl av).length ≤ nL)
    (body : ∀ (p : Program) (e : Env) (s : State) (m : MethodId) (args : Array Value) (below : List Frame) (meth : Method) (c : Code) (A : Nat → Prop) (Q : State → Prop), XF p s m args c cc nL wsC y.cls D tys A → meth.name = y.name → (∀ (pc : Nat) (W1 : va_W) (lv : List (Nat × Value)), decode cc pc = .ok (.return_, 1) → post W1 → AW p l e rm s m args below meth c nL D A mc ms Q W1 lv pc []) → AW p l e rm s m args below meth c nL D A 0 0 Q W0 (lv_args 0 av) 0 []) : xMv l y wsC rm D tys W0 av mc ms post := by
  intro sz
  refine Met.ofW (cc := cc) (maxL := nL) (ret := none) hy hw ?_
  intro p e s m args below meth c s₁ B hml hv
  obtain ⟨rfl, hsz, hP, hK, hD0, hZ⟩ := hv
  subst hsz
  have hown : s.vm.findClass y.cls = some m.cls := findClass_of_methodNamed B.named
  rw [lg_entry_eq]
  refine body p e s m _ below meth c (va_A W0 s.heap.size) _ ⟨B.exec, B.bytes, hml, hown, atoms_spec (ws := wsC) B.pre, hK, fun q h => Or.inr h, hZ⟩ (name_of_methodNamed B.named B.method).1 ?_ s.heap [] _ hP (hD0.self (sz := s.heap.size)) va_S.rf (lv_entry av (n := nL) hav)
  intro pc W1 lv hdg hpost H locs ls hP hD hS hl
  exact W.vret B.exec B.bytes B.returns (fun t ht hW => ⟨⟨W1, rfl, hpost, by rw [ht]; exact hP, hD⟩, hS.F ht⟩) hS.2.2 hdg B.notSynchronized
theorem xE_iF {post : Int32 → va_W → Prop} (hy : plainFor y = true) (hw : wsC = Cond.code y cc nL (some .int) :: ws') (hav : (lg_sl av).length ≤ nL)
    (body : ∀ (p : Program) (e : Env) (s : State) (m : MethodId) (args : Array Value) (below : List Frame) (meth : Method) (c : Code) (A : Nat → Prop) (Q : State → Prop), XF p s m args c cc nL wsC y.cls D tys A → meth.name = y.name → (∀ (pc : Nat) (r : Int32) (W1 : va_W) (lv : List (Nat × Value)), decode cc pc = .ok (.ireturn, 1) → post r W1 → AW p l e rm s m args below meth c nL D A mc ms Q W1 lv pc [.int r]) → AW p l e rm s m args below meth c nL D A 0 0 Q W0 (lv_args 0 av) 0 []) : xMi l y wsC rm D tys W0 av mc ms post := by
  intro sz
  refine xk_ofWF (cc := cc) (maxL := nL) (ret := some .int) hy hw ?_
  intro p e s m args below meth c s₁ B hml hv
  obtain ⟨rfl, hsz, hP, hK, hD0, hZ⟩ := hv
  subst hsz
  have hown : s.vm.findClass y.cls = some m.cls := findClass_of_methodNamed B.named
  rw [lg_entry_eq]
  refine body p e s m _ below meth c (va_A W0 s.heap.size) _ ⟨B.exec, B.bytes, hml, hown, atoms_spec (ws := wsC) B.pre, hK, fun q h => Or.inr h, hZ⟩ (name_of_methodNamed B.named B.method).1 ?_ s.heap [] _ hP (hD0.self (sz := s.heap.size)) va_S.rf (lv_entry av (n := nL) hav)
  intro pc r W1 lv hdg hpost H locs ls hP hD hS hl
  exact W.iret B.exec B.bytes B.returns (fun t ht hW => ⟨⟨r, W1, rfl, hpost, by rw [ht]; exact hP, hD⟩, hS.F ht⟩) hS.2.2 hdg B.notSynchronized
theorem xE_r {rt : FieldType} {post : Nat → va_W → Prop} (hy : plainName y.cls = true) (hw : wsC = Cond.code y cc nL (some rt) :: ws') (hav : (lg_sl av).length ≤ nL) (hrt : (∃ n, rt = .object n) ∨ ∃ t, rt = .array t)
    (body : ∀ (p : Program) (e : Env) (s : State) (m : MethodId) (args : Array Value) (below : List Frame) (meth : Method) (c : Code) (A : Nat → Prop) (Q : State → Prop), XF p s m args c cc nL wsC y.cls D tys A → meth.name = y.name → (∀ (pc : Nat) (r : Nat) (W1 : va_W) (lv : List (Nat × Value)), decode cc pc = .ok (.areturn, 1) → post r W1 → AW p l e rm s m args below meth c nL D A mc ms Q W1 lv pc [.ref r]) → AW p l e rm s m args below meth c nL D A 0 0 Q W0 (lv_args 0 av) 0 []) : xMr l y wsC rm D tys W0 av mc ms post := by
  intro sz
  refine Met.ofW (cc := cc) (maxL := nL) (ret := some rt) hy hw ?_
  intro p e s m args below meth c s₁ B hml hv
  obtain ⟨rfl, hsz, hP, hK, hD0, hZ⟩ := hv
  subst hsz
  have hown : s.vm.findClass y.cls = some m.cls := findClass_of_methodNamed B.named
  rw [lg_entry_eq]
  refine body p e s m _ below meth c (va_A W0 s.heap.size) _ ⟨B.exec, B.bytes, hml, hown, atoms_spec (ws := wsC) B.pre, hK, fun q h => Or.inr h, hZ⟩ (name_of_methodNamed B.named B.method).1 ?_ s.heap [] _ hP (hD0.self (sz := s.heap.size)) va_S.rf (lv_entry av (n := nL) hav)
  intro pc r W1 lv hdg hpost H locs ls hP hD hS hl
  exact W.aret (v := .ref r) B.exec B.bytes B.returns hrt (Or.inr ⟨r, rfl⟩) (fun t ht hW => ⟨⟨(r, W1), r, rfl, hpost, rfl, by rw [ht]; exact hP, hD⟩, hS.F ht⟩) hS.2.2 hdg B.notSynchronized
end XMET
section XCALL
variable {p : Program} {l : Launch} {e : Env} {R : Room} {s : State} {m : MethodId} {args : Array Value} {below : List Frame} {meth : Method} {c : Code} {Q : State → Prop}
variable {cc : ByteArray} {nL : Nat} {Ts : List Cond} {own : String} {D : va_G} {tys : List (ClassId × FieldType)} {A : Nat → Prop} {cells slots : Nat}
variable {ws wr Wc : va_W} {lv : List (Nat × Value)} {pc : Nat} {st rest : List Value}
variable {y : MethodName} {C host : String} {T : u_T} {N ci q0 b index n maxL mc ms : Nat} {fs : List Value} {bytes : ByteArray} {wsC : List Cond} {rm : Room} {As : List Value}

theorem xr_callVi {post : Int32 → va_W → Prop} (F : XF p s m args c cc nL Ts own D tys A) (hM : xMi l y wsC rm D tys Wc (.ref b :: As) mc ms post) (cw : CallW R s args own C index y bytes maxL (some .int) wsC rm mc ms n) (hrc : Wc[q0]? = some (b, .inr (ci, fs))) (hci : vwCl[ci]? = some (C, T, N)) (isC isR : List Nat) (hC : isC.map (fun i => ws[i]?) = Wc.map some) (hR : isR.map (fun i => ws[i]?) = wr.map some) (hnC : va_nd isC = true) (hnR : va_nd isR = true) (hdis : ∀ i ∈ isR, i ∉ isC) (hn : As.length = n) (hst : st = As.reverse ++ .ref b :: rest) (hW : (rest.map fun v => v.category).sum ≤ 8) (hdg : decode cc pc = .ok (.invokevirtual index, 3)) (hf : cells + mc ≤ R.cells ∧ slots + ms ≤ R.slots)
    (kk : ∀ (r : Int32) (W1 : va_W), post r W1 → AW p l e R s m args below meth c nL D A (cells + mc) (slots + ms) Q (wr ++ W1) lv (pc + 3) (.int r :: rest)) : AW p l e R s m args below meth c nL D A (cells) (slots) Q (ws) lv (pc) (st) := by
  intro H locs ls hP hD hS hl
  subst hst
  have hPc := xk_psub hP isC hC
  have hDc := hD.sub isC hnC hC
  have hFc := va_free hD hS F.hA isC hC
  refine va_calli (va_runV (As := As) (rest := rest) F.fix (hM H.size) cw ⟨xk_blind, va_recv F.hK hPc hci hrc, fun U hU hW => ⟨rfl, by rw [hU], by rw [hU]; exact hPc, va_K.moved hW.alike F.hK, hDc.weaken (fun _ _ _ _ => trivial), xk_nwarm hW F.hZ⟩⟩ rfl hn hl.1 rfl (lv_room hW) hdg hf) hS (fun q _ h => hFc q h) hFc (fun r W1 t H1 locs1 ht hvm hw hB hz1 hk1 hS1 => ?_)
  obtain ⟨hP1, hD1⟩ := hB
  rw [ht] at hP1
  obtain ⟨hP2, hD2⟩ := va_join hP hD isC isR hC hR hnR hdis hk1 hFc hP1 hD1
  exact kk r W1 hw H1 locs1 ls hP2 hD2 hS1 hl
theorem xr_callVl {post : Int64 → va_W → Prop} (F : XF p s m args c cc nL Ts own D tys A) (hM : xMl l y wsC rm D tys Wc (.ref b :: As) mc ms post) (cw : CallW R s args own C index y bytes maxL (some .long) wsC rm mc ms n) (hrc : Wc[q0]? = some (b, .inr (ci, fs))) (hci : vwCl[ci]? = some (C, T, N)) (isC isR : List Nat) (hC : isC.map (fun i => ws[i]?) = Wc.map some) (hR : isR.map (fun i => ws[i]?) = wr.map some) (hnC : va_nd isC = true) (hnR : va_nd isR = true) (hdis : ∀ i ∈ isR, i ∉ isC) (hn : As.length = n) (hst : st = As.reverse ++ .ref b :: rest) (hW : (rest.map fun v => v.category).sum ≤ 8) (hdg : decode cc pc = .ok (.invokevirtual index, 3)) (hf : cells + mc ≤ R.cells ∧ slots + ms ≤ R.slots)
    (kk : ∀ (r : Int64) (W1 : va_W), post r W1 → AW p l e R s m args below meth c nL D A (cells + mc) (slots + ms) Q (wr ++ W1) lv (pc + 3) (.long r :: rest)) : AW p l e R s m args below meth c nL D A (cells) (slots) Q (ws) lv (pc) (st) := by
  intro H locs ls hP hD hS hl
  subst hst
  have hPc := xk_psub hP isC hC
  have hDc := hD.sub isC hnC hC
  have hFc := va_free hD hS F.hA isC hC
  refine va_calll (va_runV (As := As) (rest := rest) F.fix (hM H.size) cw ⟨xk_blind, va_recv F.hK hPc hci hrc, fun U hU hW => ⟨rfl, by rw [hU], by rw [hU]; exact hPc, va_K.moved hW.alike F.hK, hDc.weaken (fun _ _ _ _ => trivial), xk_nwarm hW F.hZ⟩⟩ rfl hn hl.1 rfl (lv_room hW) hdg hf) hS (fun q _ h => hFc q h) hFc (fun r W1 t H1 locs1 ht hvm hw hB hz1 hk1 hS1 => ?_)
  obtain ⟨hP1, hD1⟩ := hB
  rw [ht] at hP1
  obtain ⟨hP2, hD2⟩ := va_join hP hD isC isR hC hR hnR hdis hk1 hFc hP1 hD1
  exact kk r W1 hw H1 locs1 ls hP2 hD2 hS1 hl
theorem xr_callVd {post : UInt64 → va_W → Prop} (F : XF p s m args c cc nL Ts own D tys A) (hM : xMd l y wsC rm D tys Wc (.ref b :: As) mc ms post) (cw : CallW R s args own C index y bytes maxL (some .double) wsC rm mc ms n) (hrc : Wc[q0]? = some (b, .inr (ci, fs))) (hci : vwCl[ci]? = some (C, T, N)) (isC isR : List Nat) (hC : isC.map (fun i => ws[i]?) = Wc.map some) (hR : isR.map (fun i => ws[i]?) = wr.map some) (hnC : va_nd isC = true) (hnR : va_nd isR = true) (hdis : ∀ i ∈ isR, i ∉ isC) (hn : As.length = n) (hst : st = As.reverse ++ .ref b :: rest) (hW : (rest.map fun v => v.category).sum ≤ 8) (hdg : decode cc pc = .ok (.invokevirtual index, 3)) (hf : cells + mc ≤ R.cells ∧ slots + ms ≤ R.slots)
    (kk : ∀ (r : UInt64) (W1 : va_W), post r W1 → AW p l e R s m args below meth c nL D A (cells + mc) (slots + ms) Q (wr ++ W1) lv (pc + 3) (.double r :: rest)) : AW p l e R s m args below meth c nL D A (cells) (slots) Q (ws) lv (pc) (st) := by
  intro H locs ls hP hD hS hl
  subst hst
  have hPc := xk_psub hP isC hC
  have hDc := hD.sub isC hnC hC
  have hFc := va_free hD hS F.hA isC hC
  refine va_calld (va_runV (As := As) (rest := rest) F.fix (hM H.size) cw ⟨xk_blind, va_recv F.hK hPc hci hrc, fun U hU hW => ⟨rfl, by rw [hU], by rw [hU]; exact hPc, va_K.moved hW.alike F.hK, hDc.weaken (fun _ _ _ _ => trivial), xk_nwarm hW F.hZ⟩⟩ rfl hn hl.1 rfl (lv_room hW) hdg hf) hS (fun q _ h => hFc q h) hFc (fun r W1 t H1 locs1 ht hvm hw hB hz1 hk1 hS1 => ?_)
  obtain ⟨hP1, hD1⟩ := hB
  rw [ht] at hP1
  obtain ⟨hP2, hD2⟩ := va_join hP hD isC isR hC hR hnR hdis hk1 hFc hP1 hD1
  exact kk r W1 hw H1 locs1 ls hP2 hD2 hS1 hl
theorem xr_callVz {post : Int32 → va_W → Prop} (F : XF p s m args c cc nL Ts own D tys A) (hM : xMi l y wsC rm D tys Wc (.ref b :: As) mc ms post) (cw : CallW R s args own C index y bytes maxL (some .boolean) wsC rm mc ms n) (hrc : Wc[q0]? = some (b, .inr (ci, fs))) (hci : vwCl[ci]? = some (C, T, N)) (isC isR : List Nat) (hC : isC.map (fun i => ws[i]?) = Wc.map some) (hR : isR.map (fun i => ws[i]?) = wr.map some) (hnC : va_nd isC = true) (hnR : va_nd isR = true) (hdis : ∀ i ∈ isR, i ∉ isC) (hn : As.length = n) (hst : st = As.reverse ++ .ref b :: rest) (hW : (rest.map fun v => v.category).sum ≤ 8) (hdg : decode cc pc = .ok (.invokevirtual index, 3)) (hf : cells + mc ≤ R.cells ∧ slots + ms ≤ R.slots)
    (kk : ∀ (r : Int32) (W1 : va_W), post r W1 → AW p l e R s m args below meth c nL D A (cells + mc) (slots + ms) Q (wr ++ W1) lv (pc + 3) (.int r :: rest)) : AW p l e R s m args below meth c nL D A (cells) (slots) Q (ws) lv (pc) (st) := by
  intro H locs ls hP hD hS hl
  subst hst
  have hPc := xk_psub hP isC hC
  have hDc := hD.sub isC hnC hC
  have hFc := va_free hD hS F.hA isC hC
  refine va_calli (va_runV (As := As) (rest := rest) F.fix (hM H.size) cw ⟨xk_blind, va_recv F.hK hPc hci hrc, fun U hU hW => ⟨rfl, by rw [hU], by rw [hU]; exact hPc, va_K.moved hW.alike F.hK, hDc.weaken (fun _ _ _ _ => trivial), xk_nwarm hW F.hZ⟩⟩ rfl hn hl.1 rfl (lv_room hW) hdg hf) hS (fun q _ h => hFc q h) hFc (fun r W1 t H1 locs1 ht hvm hw hB hz1 hk1 hS1 => ?_)
  obtain ⟨hP1, hD1⟩ := hB
  rw [ht] at hP1
  obtain ⟨hP2, hD2⟩ := va_join hP hD isC isR hC hR hnR hdis hk1 hFc hP1 hD1
  exact kk r W1 hw H1 locs1 ls hP2 hD2 hS1 hl
theorem xr_callVv {post : va_W → Prop} (F : XF p s m args c cc nL Ts own D tys A) (hM : xMv l y wsC rm D tys Wc (.ref b :: As) mc ms post) (cw : CallW R s args own C index y bytes maxL (none) wsC rm mc ms n) (hrc : Wc[q0]? = some (b, .inr (ci, fs))) (hci : vwCl[ci]? = some (C, T, N)) (isC isR : List Nat) (hC : isC.map (fun i => ws[i]?) = Wc.map some) (hR : isR.map (fun i => ws[i]?) = wr.map some) (hnC : va_nd isC = true) (hnR : va_nd isR = true) (hdis : ∀ i ∈ isR, i ∉ isC) (hn : As.length = n) (hst : st = As.reverse ++ .ref b :: rest) (hW : (rest.map fun v => v.category).sum ≤ 8) (hdg : decode cc pc = .ok (.invokevirtual index, 3)) (hf : cells + mc ≤ R.cells ∧ slots + ms ≤ R.slots)
    (kk : ∀ W1 : va_W, post W1 → AW p l e R s m args below meth c nL D A (cells + mc) (slots + ms) Q (wr ++ W1) lv (pc + 3) (rest)) : AW p l e R s m args below meth c nL D A (cells) (slots) Q (ws) lv (pc) (st) := by
  intro H locs ls hP hD hS hl
  subst hst
  have hPc := xk_psub hP isC hC
  have hDc := hD.sub isC hnC hC
  have hFc := va_free hD hS F.hA isC hC
  refine va_callv (va_runV (As := As) (rest := rest) F.fix (hM H.size) cw ⟨xk_blind, va_recv F.hK hPc hci hrc, fun U hU hW => ⟨rfl, by rw [hU], by rw [hU]; exact hPc, va_K.moved hW.alike F.hK, hDc.weaken (fun _ _ _ _ => trivial), xk_nwarm hW F.hZ⟩⟩ rfl hn hl.1 rfl (lv_room hW) hdg hf) hS (fun q _ h => hFc q h) hFc (fun W1 t H1 locs1 ht hvm hw hB hz1 hk1 hS1 => ?_)
  obtain ⟨hP1, hD1⟩ := hB
  rw [ht] at hP1
  obtain ⟨hP2, hD2⟩ := va_join hP hD isC isR hC hR hnR hdis hk1 hFc hP1 hD1
  exact kk W1 hw H1 locs1 ls hP2 hD2 hS1 hl
theorem xr_callSi {post : Int32 → va_W → Prop} (F : XF p s m args c cc nL Ts own D tys A) (hM : xMi l y wsC rm D tys Wc As mc ms post) (cw : CallB R s args own index y bytes maxL (some .int) wsC rm mc ms n ∧ (Cond.static y).before args s = true) (isC isR : List Nat) (hC : isC.map (fun i => ws[i]?) = Wc.map some) (hR : isR.map (fun i => ws[i]?) = wr.map some) (hnC : va_nd isC = true) (hnR : va_nd isR = true) (hdis : ∀ i ∈ isR, i ∉ isC) (hn : As.length = n) (hst : st = As.reverse ++ rest) (hW : (rest.map fun v => v.category).sum ≤ 8) (hdg : decode cc pc = .ok (.invokestatic index, 3)) (hf : cells + mc ≤ R.cells ∧ slots + ms ≤ R.slots)
    (kk : ∀ (r : Int32) (W1 : va_W), post r W1 → AW p l e R s m args below meth c nL D A (cells + mc) (slots + ms) Q (wr ++ W1) lv (pc + 3) (.int r :: rest)) : AW p l e R s m args below meth c nL D A (cells) (slots) Q (ws) lv (pc) (st) := by
  intro H locs ls hP hD hS hl
  subst hst
  have hPc := xk_psub hP isC hC
  have hDc := hD.sub isC hnC hC
  have hFc := va_free hD hS F.hA isC hC
  refine va_calli (va_runS (As := As) (rest := rest) F.fix (hM H.size) cw ⟨xk_blind, fun U hU hW => ⟨rfl, by rw [hU], by rw [hU]; exact hPc, va_K.moved hW.alike F.hK, hDc.weaken (fun _ _ _ _ => trivial), xk_nwarm hW F.hZ⟩⟩ rfl hn hl.1 rfl (lv_room hW) hdg hf) hS (fun q _ h => hFc q h) hFc (fun r W1 t H1 locs1 ht hvm hw hB hz1 hk1 hS1 => ?_)
  obtain ⟨hP1, hD1⟩ := hB
  rw [ht] at hP1
  obtain ⟨hP2, hD2⟩ := va_join hP hD isC isR hC hR hnR hdis hk1 hFc hP1 hD1
  exact kk r W1 hw H1 locs1 ls hP2 hD2 hS1 hl
theorem xr_callSl {post : Int64 → va_W → Prop} (F : XF p s m args c cc nL Ts own D tys A) (hM : xMl l y wsC rm D tys Wc As mc ms post) (cw : CallB R s args own index y bytes maxL (some .long) wsC rm mc ms n ∧ (Cond.static y).before args s = true) (isC isR : List Nat) (hC : isC.map (fun i => ws[i]?) = Wc.map some) (hR : isR.map (fun i => ws[i]?) = wr.map some) (hnC : va_nd isC = true) (hnR : va_nd isR = true) (hdis : ∀ i ∈ isR, i ∉ isC) (hn : As.length = n) (hst : st = As.reverse ++ rest) (hW : (rest.map fun v => v.category).sum ≤ 8) (hdg : decode cc pc = .ok (.invokestatic index, 3)) (hf : cells + mc ≤ R.cells ∧ slots + ms ≤ R.slots)
    (kk : ∀ (r : Int64) (W1 : va_W), post r W1 → AW p l e R s m args below meth c nL D A (cells + mc) (slots + ms) Q (wr ++ W1) lv (pc + 3) (.long r :: rest)) : AW p l e R s m args below meth c nL D A (cells) (slots) Q (ws) lv (pc) (st) := by
  intro H locs ls hP hD hS hl
  subst hst
  have hPc := xk_psub hP isC hC
  have hDc := hD.sub isC hnC hC
  have hFc := va_free hD hS F.hA isC hC
  refine va_calll (va_runS (As := As) (rest := rest) F.fix (hM H.size) cw ⟨xk_blind, fun U hU hW => ⟨rfl, by rw [hU], by rw [hU]; exact hPc, va_K.moved hW.alike F.hK, hDc.weaken (fun _ _ _ _ => trivial), xk_nwarm hW F.hZ⟩⟩ rfl hn hl.1 rfl (lv_room hW) hdg hf) hS (fun q _ h => hFc q h) hFc (fun r W1 t H1 locs1 ht hvm hw hB hz1 hk1 hS1 => ?_)
  obtain ⟨hP1, hD1⟩ := hB
  rw [ht] at hP1
  obtain ⟨hP2, hD2⟩ := va_join hP hD isC isR hC hR hnR hdis hk1 hFc hP1 hD1
  exact kk r W1 hw H1 locs1 ls hP2 hD2 hS1 hl
theorem xr_callSd {post : UInt64 → va_W → Prop} (F : XF p s m args c cc nL Ts own D tys A) (hM : xMd l y wsC rm D tys Wc As mc ms post) (cw : CallB R s args own index y bytes maxL (some .double) wsC rm mc ms n ∧ (Cond.static y).before args s = true) (isC isR : List Nat) (hC : isC.map (fun i => ws[i]?) = Wc.map some) (hR : isR.map (fun i => ws[i]?) = wr.map some) (hnC : va_nd isC = true) (hnR : va_nd isR = true) (hdis : ∀ i ∈ isR, i ∉ isC) (hn : As.length = n) (hst : st = As.reverse ++ rest) (hW : (rest.map fun v => v.category).sum ≤ 8) (hdg : decode cc pc = .ok (.invokestatic index, 3)) (hf : cells + mc ≤ R.cells ∧ slots + ms ≤ R.slots)
    (kk : ∀ (r : UInt64) (W1 : va_W), post r W1 → AW p l e R s m args below meth c nL D A (cells + mc) (slots + ms) Q (wr ++ W1) lv (pc + 3) (.double r :: rest)) : AW p l e R s m args below meth c nL D A (cells) (slots) Q (ws) lv (pc) (st) := by
  intro H locs ls hP hD hS hl
  subst hst
  have hPc := xk_psub hP isC hC
  have hDc := hD.sub isC hnC hC
  have hFc := va_free hD hS F.hA isC hC
  refine va_calld (va_runS (As := As) (rest := rest) F.fix (hM H.size) cw ⟨xk_blind, fun U hU hW => ⟨rfl, by rw [hU], by rw [hU]; exact hPc, va_K.moved hW.alike F.hK, hDc.weaken (fun _ _ _ _ => trivial), xk_nwarm hW F.hZ⟩⟩ rfl hn hl.1 rfl (lv_room hW) hdg hf) hS (fun q _ h => hFc q h) hFc (fun r W1 t H1 locs1 ht hvm hw hB hz1 hk1 hS1 => ?_)
  obtain ⟨hP1, hD1⟩ := hB
  rw [ht] at hP1
  obtain ⟨hP2, hD2⟩ := va_join hP hD isC isR hC hR hnR hdis hk1 hFc hP1 hD1
  exact kk r W1 hw H1 locs1 ls hP2 hD2 hS1 hl
theorem xr_callSz {post : Int32 → va_W → Prop} (F : XF p s m args c cc nL Ts own D tys A) (hM : xMi l y wsC rm D tys Wc As mc ms post) (cw : CallB R s args own index y bytes maxL (some .boolean) wsC rm mc ms n ∧ (Cond.static y).before args s = true) (isC isR : List Nat) (hC : isC.map (fun i => ws[i]?) = Wc.map some) (hR : isR.map (fun i => ws[i]?) = wr.map some) (hnC : va_nd isC = true) (hnR : va_nd isR = true) (hdis : ∀ i ∈ isR, i ∉ isC) (hn : As.length = n) (hst : st = As.reverse ++ rest) (hW : (rest.map fun v => v.category).sum ≤ 8) (hdg : decode cc pc = .ok (.invokestatic index, 3)) (hf : cells + mc ≤ R.cells ∧ slots + ms ≤ R.slots)
    (kk : ∀ (r : Int32) (W1 : va_W), post r W1 → AW p l e R s m args below meth c nL D A (cells + mc) (slots + ms) Q (wr ++ W1) lv (pc + 3) (.int r :: rest)) : AW p l e R s m args below meth c nL D A (cells) (slots) Q (ws) lv (pc) (st) := by
  intro H locs ls hP hD hS hl
  subst hst
  have hPc := xk_psub hP isC hC
  have hDc := hD.sub isC hnC hC
  have hFc := va_free hD hS F.hA isC hC
  refine va_calli (va_runS (As := As) (rest := rest) F.fix (hM H.size) cw ⟨xk_blind, fun U hU hW => ⟨rfl, by rw [hU], by rw [hU]; exact hPc, va_K.moved hW.alike F.hK, hDc.weaken (fun _ _ _ _ => trivial), xk_nwarm hW F.hZ⟩⟩ rfl hn hl.1 rfl (lv_room hW) hdg hf) hS (fun q _ h => hFc q h) hFc (fun r W1 t H1 locs1 ht hvm hw hB hz1 hk1 hS1 => ?_)
  obtain ⟨hP1, hD1⟩ := hB
  rw [ht] at hP1
  obtain ⟨hP2, hD2⟩ := va_join hP hD isC isR hC hR hnR hdis hk1 hFc hP1 hD1
  exact kk r W1 hw H1 locs1 ls hP2 hD2 hS1 hl
theorem xr_callSv {post : va_W → Prop} (F : XF p s m args c cc nL Ts own D tys A) (hM : xMv l y wsC rm D tys Wc As mc ms post) (cw : CallB R s args own index y bytes maxL (none) wsC rm mc ms n ∧ (Cond.static y).before args s = true) (isC isR : List Nat) (hC : isC.map (fun i => ws[i]?) = Wc.map some) (hR : isR.map (fun i => ws[i]?) = wr.map some) (hnC : va_nd isC = true) (hnR : va_nd isR = true) (hdis : ∀ i ∈ isR, i ∉ isC) (hn : As.length = n) (hst : st = As.reverse ++ rest) (hW : (rest.map fun v => v.category).sum ≤ 8) (hdg : decode cc pc = .ok (.invokestatic index, 3)) (hf : cells + mc ≤ R.cells ∧ slots + ms ≤ R.slots)
    (kk : ∀ W1 : va_W, post W1 → AW p l e R s m args below meth c nL D A (cells + mc) (slots + ms) Q (wr ++ W1) lv (pc + 3) (rest)) : AW p l e R s m args below meth c nL D A (cells) (slots) Q (ws) lv (pc) (st) := by
  intro H locs ls hP hD hS hl
  subst hst
  have hPc := xk_psub hP isC hC
  have hDc := hD.sub isC hnC hC
  have hFc := va_free hD hS F.hA isC hC
  refine va_callv (va_runS (As := As) (rest := rest) F.fix (hM H.size) cw ⟨xk_blind, fun U hU hW => ⟨rfl, by rw [hU], by rw [hU]; exact hPc, va_K.moved hW.alike F.hK, hDc.weaken (fun _ _ _ _ => trivial), xk_nwarm hW F.hZ⟩⟩ rfl hn hl.1 rfl (lv_room hW) hdg hf) hS (fun q _ h => hFc q h) hFc (fun W1 t H1 locs1 ht hvm hw hB hz1 hk1 hS1 => ?_)
  obtain ⟨hP1, hD1⟩ := hB
  rw [ht] at hP1
  obtain ⟨hP2, hD2⟩ := va_join hP hD isC isR hC hR hnR hdis hk1 hFc hP1 hD1
  exact kk W1 hw H1 locs1 ls hP2 hD2 hS1 hl
theorem xr_callIv {post : va_W → Prop} (F : XF p s m args c cc nL Ts own D tys A) (hM : xMv l y wsC rm D tys Wc (.ref b :: As) mc ms post) (cw : CallB R s args own index y bytes maxL none wsC rm mc ms n ∧ y.name = "<init>" ∧ (Cond.instanceMethod y).before args s = true) (isC isR : List Nat) (hC : isC.map (fun i => ws[i]?) = Wc.map some) (hR : isR.map (fun i => ws[i]?) = wr.map some) (hnC : va_nd isC = true) (hnR : va_nd isR = true) (hdis : ∀ i ∈ isR, i ∉ isC) (hn : As.length = n) (hst : st = As.reverse ++ .ref b :: rest) (hW : (rest.map fun v => v.category).sum ≤ 8) (hdg : decode cc pc = .ok (.invokespecial index, 3)) (hf : cells + mc ≤ R.cells ∧ slots + ms ≤ R.slots)
    (kk : ∀ W1 : va_W, post W1 → AW p l e R s m args below meth c nL D A (cells + mc) (slots + ms) Q (wr ++ W1) lv (pc + 3) (rest)) : AW p l e R s m args below meth c nL D A (cells) (slots) Q (ws) lv (pc) (st) := by
  intro H locs ls hP hD hS hl
  subst hst
  have hPc := xk_psub hP isC hC
  have hDc := hD.sub isC hnC hC
  have hFc := va_free hD hS F.hA isC hC
  refine va_callv (va_runI (As := As) (rest := rest) F.fix (hM H.size) cw ⟨xk_blind, fun U hU hW => ⟨rfl, by rw [hU], by rw [hU]; exact hPc, va_K.moved hW.alike F.hK, hDc.weaken (fun _ _ _ _ => trivial), xk_nwarm hW F.hZ⟩⟩ rfl hn hl.1 rfl (lv_room hW) hdg hf) hS (fun q _ h => hFc q h) hFc (fun W1 t H1 locs1 ht hvm hw hB hz1 hk1 hS1 => ?_)
  obtain ⟨hP1, hD1⟩ := hB
  rw [ht] at hP1
  obtain ⟨hP2, hD2⟩ := va_join hP hD isC isR hC hR hnR hdis hk1 hFc hP1 hD1
  exact kk W1 hw H1 locs1 ls hP2 hD2 hS1 hl
theorem xr_callVNi {post : Int32 → va_W → Prop} (F : XF p s m args c cc nL Ts own D tys A) (hM : xMi l y wsC rm D tys Wc (.ref b :: As) mc ms post) (cw : va_CN R s args own index y host bytes maxL (some .int) wsC rm mc ms n ∧ (Cond.instanceMethod y).before args s = true ∧ (Cond.selects C y y).before args s = true) (hrc : Wc[q0]? = some (b, .inr (ci, fs))) (hci : vwCl[ci]? = some (C, T, N)) (isC isR : List Nat) (hC : isC.map (fun i => ws[i]?) = Wc.map some) (hR : isR.map (fun i => ws[i]?) = wr.map some) (hnC : va_nd isC = true) (hnR : va_nd isR = true) (hdis : ∀ i ∈ isR, i ∉ isC) (hn : As.length = n) (hst : st = As.reverse ++ .ref b :: rest) (hW : (rest.map fun v => v.category).sum ≤ 8) (hdg : decode cc pc = .ok (.invokevirtual index, 3)) (hf : cells + mc ≤ R.cells ∧ slots + ms ≤ R.slots)
    (kk : ∀ (r : Int32) (W1 : va_W), post r W1 → AW p l e R s m args below meth c nL D A (cells + mc) (slots + ms) Q (wr ++ W1) lv (pc + 3) (.int r :: rest)) : AW p l e R s m args below meth c nL D A (cells) (slots) Q (ws) lv (pc) (st) := by
  intro H locs ls hP hD hS hl
  subst hst
  have hPc := xk_psub hP isC hC
  have hDc := hD.sub isC hnC hC
  have hFc := va_free hD hS F.hA isC hC
  refine va_calli (va_runVN (As := As) (rest := rest) F.fix (hM H.size) cw ⟨xk_blind, va_recv F.hK hPc hci hrc, fun U hU hW => ⟨rfl, by rw [hU], by rw [hU]; exact hPc, va_K.moved hW.alike F.hK, hDc.weaken (fun _ _ _ _ => trivial), xk_nwarm hW F.hZ⟩⟩ rfl hn hl.1 rfl (lv_room hW) hdg hf) hS (fun q _ h => hFc q h) hFc (fun r W1 t H1 locs1 ht hvm hw hB hz1 hk1 hS1 => ?_)
  obtain ⟨hP1, hD1⟩ := hB
  rw [ht] at hP1
  obtain ⟨hP2, hD2⟩ := va_join hP hD isC isR hC hR hnR hdis hk1 hFc hP1 hD1
  exact kk r W1 hw H1 locs1 ls hP2 hD2 hS1 hl
theorem xr_callVNz {post : Int32 → va_W → Prop} (F : XF p s m args c cc nL Ts own D tys A) (hM : xMi l y wsC rm D tys Wc (.ref b :: As) mc ms post) (cw : va_CN R s args own index y host bytes maxL (some .boolean) wsC rm mc ms n ∧ (Cond.instanceMethod y).before args s = true ∧ (Cond.selects C y y).before args s = true) (hrc : Wc[q0]? = some (b, .inr (ci, fs))) (hci : vwCl[ci]? = some (C, T, N)) (isC isR : List Nat) (hC : isC.map (fun i => ws[i]?) = Wc.map some) (hR : isR.map (fun i => ws[i]?) = wr.map some) (hnC : va_nd isC = true) (hnR : va_nd isR = true) (hdis : ∀ i ∈ isR, i ∉ isC) (hn : As.length = n) (hst : st = As.reverse ++ .ref b :: rest) (hW : (rest.map fun v => v.category).sum ≤ 8) (hdg : decode cc pc = .ok (.invokevirtual index, 3)) (hf : cells + mc ≤ R.cells ∧ slots + ms ≤ R.slots)
    (kk : ∀ (r : Int32) (W1 : va_W), post r W1 → AW p l e R s m args below meth c nL D A (cells + mc) (slots + ms) Q (wr ++ W1) lv (pc + 3) (.int r :: rest)) : AW p l e R s m args below meth c nL D A (cells) (slots) Q (ws) lv (pc) (st) := by
  intro H locs ls hP hD hS hl
  subst hst
  have hPc := xk_psub hP isC hC
  have hDc := hD.sub isC hnC hC
  have hFc := va_free hD hS F.hA isC hC
  refine va_calli (va_runVN (As := As) (rest := rest) F.fix (hM H.size) cw ⟨xk_blind, va_recv F.hK hPc hci hrc, fun U hU hW => ⟨rfl, by rw [hU], by rw [hU]; exact hPc, va_K.moved hW.alike F.hK, hDc.weaken (fun _ _ _ _ => trivial), xk_nwarm hW F.hZ⟩⟩ rfl hn hl.1 rfl (lv_room hW) hdg hf) hS (fun q _ h => hFc q h) hFc (fun r W1 t H1 locs1 ht hvm hw hB hz1 hk1 hS1 => ?_)
  obtain ⟨hP1, hD1⟩ := hB
  rw [ht] at hP1
  obtain ⟨hP2, hD2⟩ := va_join hP hD isC isR hC hR hnR hdis hk1 hFc hP1 hD1
  exact kk r W1 hw H1 locs1 ls hP2 hD2 hS1 hl
theorem xr_callVNv {post : va_W → Prop} (F : XF p s m args c cc nL Ts own D tys A) (hM : xMv l y wsC rm D tys Wc (.ref b :: As) mc ms post) (cw : va_CN R s args own index y host bytes maxL (none) wsC rm mc ms n ∧ (Cond.instanceMethod y).before args s = true ∧ (Cond.selects C y y).before args s = true) (hrc : Wc[q0]? = some (b, .inr (ci, fs))) (hci : vwCl[ci]? = some (C, T, N)) (isC isR : List Nat) (hC : isC.map (fun i => ws[i]?) = Wc.map some) (hR : isR.map (fun i => ws[i]?) = wr.map some) (hnC : va_nd isC = true) (hnR : va_nd isR = true) (hdis : ∀ i ∈ isR, i ∉ isC) (hn : As.length = n) (hst : st = As.reverse ++ .ref b :: rest) (hW : (rest.map fun v => v.category).sum ≤ 8) (hdg : decode cc pc = .ok (.invokevirtual index, 3)) (hf : cells + mc ≤ R.cells ∧ slots + ms ≤ R.slots)
    (kk : ∀ W1 : va_W, post W1 → AW p l e R s m args below meth c nL D A (cells + mc) (slots + ms) Q (wr ++ W1) lv (pc + 3) (rest)) : AW p l e R s m args below meth c nL D A (cells) (slots) Q (ws) lv (pc) (st) := by
  intro H locs ls hP hD hS hl
  subst hst
  have hPc := xk_psub hP isC hC
  have hDc := hD.sub isC hnC hC
  have hFc := va_free hD hS F.hA isC hC
  refine va_callv (va_runVN (As := As) (rest := rest) F.fix (hM H.size) cw ⟨xk_blind, va_recv F.hK hPc hci hrc, fun U hU hW => ⟨rfl, by rw [hU], by rw [hU]; exact hPc, va_K.moved hW.alike F.hK, hDc.weaken (fun _ _ _ _ => trivial), xk_nwarm hW F.hZ⟩⟩ rfl hn hl.1 rfl (lv_room hW) hdg hf) hS (fun q _ h => hFc q h) hFc (fun W1 t H1 locs1 ht hvm hw hB hz1 hk1 hS1 => ?_)
  obtain ⟨hP1, hD1⟩ := hB
  rw [ht] at hP1
  obtain ⟨hP2, hD2⟩ := va_join hP hD isC isR hC hR hnR hdis hk1 hFc hP1 hD1
  exact kk W1 hw H1 locs1 ls hP2 hD2 hS1 hl
theorem xr_callSNi {post : Int32 → va_W → Prop} (F : XF p s m args c cc nL Ts own D tys A) (hM : xMi l y wsC rm D tys Wc As mc ms post) (cw : va_CN R s args own index y host bytes maxL (some .int) wsC rm mc ms n ∧ (Cond.static y).before args s = true ∧ True) (isC isR : List Nat) (hC : isC.map (fun i => ws[i]?) = Wc.map some) (hR : isR.map (fun i => ws[i]?) = wr.map some) (hnC : va_nd isC = true) (hnR : va_nd isR = true) (hdis : ∀ i ∈ isR, i ∉ isC) (hn : As.length = n) (hst : st = As.reverse ++ rest) (hW : (rest.map fun v => v.category).sum ≤ 8) (hdg : decode cc pc = .ok (.invokestatic index, 3)) (hf : cells + mc ≤ R.cells ∧ slots + ms ≤ R.slots)
    (kk : ∀ (r : Int32) (W1 : va_W), post r W1 → AW p l e R s m args below meth c nL D A (cells + mc) (slots + ms) Q (wr ++ W1) lv (pc + 3) (.int r :: rest)) : AW p l e R s m args below meth c nL D A (cells) (slots) Q (ws) lv (pc) (st) := by
  intro H locs ls hP hD hS hl
  subst hst
  have hPc := xk_psub hP isC hC
  have hDc := hD.sub isC hnC hC
  have hFc := va_free hD hS F.hA isC hC
  refine va_calli (va_runSN (As := As) (rest := rest) F.fix (hM H.size) cw ⟨xk_blind, fun U hU hW => ⟨rfl, by rw [hU], by rw [hU]; exact hPc, va_K.moved hW.alike F.hK, hDc.weaken (fun _ _ _ _ => trivial), xk_nwarm hW F.hZ⟩⟩ rfl hn hl.1 rfl (lv_room hW) hdg hf) hS (fun q _ h => hFc q h) hFc (fun r W1 t H1 locs1 ht hvm hw hB hz1 hk1 hS1 => ?_)
  obtain ⟨hP1, hD1⟩ := hB
  rw [ht] at hP1
  obtain ⟨hP2, hD2⟩ := va_join hP hD isC isR hC hR hnR hdis hk1 hFc hP1 hD1
  exact kk r W1 hw H1 locs1 ls hP2 hD2 hS1 hl
theorem xr_callSNz {post : Int32 → va_W → Prop} (F : XF p s m args c cc nL Ts own D tys A) (hM : xMi l y wsC rm D tys Wc As mc ms post) (cw : va_CN R s args own index y host bytes maxL (some .boolean) wsC rm mc ms n ∧ (Cond.static y).before args s = true ∧ True) (isC isR : List Nat) (hC : isC.map (fun i => ws[i]?) = Wc.map some) (hR : isR.map (fun i => ws[i]?) = wr.map some) (hnC : va_nd isC = true) (hnR : va_nd isR = true) (hdis : ∀ i ∈ isR, i ∉ isC) (hn : As.length = n) (hst : st = As.reverse ++ rest) (hW : (rest.map fun v => v.category).sum ≤ 8) (hdg : decode cc pc = .ok (.invokestatic index, 3)) (hf : cells + mc ≤ R.cells ∧ slots + ms ≤ R.slots)
    (kk : ∀ (r : Int32) (W1 : va_W), post r W1 → AW p l e R s m args below meth c nL D A (cells + mc) (slots + ms) Q (wr ++ W1) lv (pc + 3) (.int r :: rest)) : AW p l e R s m args below meth c nL D A (cells) (slots) Q (ws) lv (pc) (st) := by
  intro H locs ls hP hD hS hl
  subst hst
  have hPc := xk_psub hP isC hC
  have hDc := hD.sub isC hnC hC
  have hFc := va_free hD hS F.hA isC hC
  refine va_calli (va_runSN (As := As) (rest := rest) F.fix (hM H.size) cw ⟨xk_blind, fun U hU hW => ⟨rfl, by rw [hU], by rw [hU]; exact hPc, va_K.moved hW.alike F.hK, hDc.weaken (fun _ _ _ _ => trivial), xk_nwarm hW F.hZ⟩⟩ rfl hn hl.1 rfl (lv_room hW) hdg hf) hS (fun q _ h => hFc q h) hFc (fun r W1 t H1 locs1 ht hvm hw hB hz1 hk1 hS1 => ?_)
  obtain ⟨hP1, hD1⟩ := hB
  rw [ht] at hP1
  obtain ⟨hP2, hD2⟩ := va_join hP hD isC isR hC hR hnR hdis hk1 hFc hP1 hD1
  exact kk r W1 hw H1 locs1 ls hP2 hD2 hS1 hl
theorem xr_callSNv {post : va_W → Prop} (F : XF p s m args c cc nL Ts own D tys A) (hM : xMv l y wsC rm D tys Wc As mc ms post) (cw : va_CN R s args own index y host bytes maxL (none) wsC rm mc ms n ∧ (Cond.static y).before args s = true ∧ True) (isC isR : List Nat) (hC : isC.map (fun i => ws[i]?) = Wc.map some) (hR : isR.map (fun i => ws[i]?) = wr.map some) (hnC : va_nd isC = true) (hnR : va_nd isR = true) (hdis : ∀ i ∈ isR, i ∉ isC) (hn : As.length = n) (hst : st = As.reverse ++ rest) (hW : (rest.map fun v => v.category).sum ≤ 8) (hdg : decode cc pc = .ok (.invokestatic index, 3)) (hf : cells + mc ≤ R.cells ∧ slots + ms ≤ R.slots)
    (kk : ∀ W1 : va_W, post W1 → AW p l e R s m args below meth c nL D A (cells + mc) (slots + ms) Q (wr ++ W1) lv (pc + 3) (rest)) : AW p l e R s m args below meth c nL D A (cells) (slots) Q (ws) lv (pc) (st) := by
  intro H locs ls hP hD hS hl
  subst hst
  have hPc := xk_psub hP isC hC
  have hDc := hD.sub isC hnC hC
  have hFc := va_free hD hS F.hA isC hC
  refine va_callv (va_runSN (As := As) (rest := rest) F.fix (hM H.size) cw ⟨xk_blind, fun U hU hW => ⟨rfl, by rw [hU], by rw [hU]; exact hPc, va_K.moved hW.alike F.hK, hDc.weaken (fun _ _ _ _ => trivial), xk_nwarm hW F.hZ⟩⟩ rfl hn hl.1 rfl (lv_room hW) hdg hf) hS (fun q _ h => hFc q h) hFc (fun W1 t H1 locs1 ht hvm hw hB hz1 hk1 hS1 => ?_)
  obtain ⟨hP1, hD1⟩ := hB
  rw [ht] at hP1
  obtain ⟨hP2, hD2⟩ := va_join hP hD isC isR hC hR hnR hdis hk1 hFc hP1 hD1
  exact kk W1 hw H1 locs1 ls hP2 hD2 hS1 hl
theorem xr_callINv {post : va_W → Prop} (F : XF p s m args c cc nL Ts own D tys A) (hM : xMv l y wsC rm D tys Wc (.ref b :: As) mc ms post) (cw : va_CN R s args own index y host bytes maxL none wsC rm mc ms n ∧ y.name = "<init>" ∧ (Cond.instanceMethod y).before args s = true) (isC isR : List Nat) (hC : isC.map (fun i => ws[i]?) = Wc.map some) (hR : isR.map (fun i => ws[i]?) = wr.map some) (hnC : va_nd isC = true) (hnR : va_nd isR = true) (hdis : ∀ i ∈ isR, i ∉ isC) (hn : As.length = n) (hst : st = As.reverse ++ .ref b :: rest) (hW : (rest.map fun v => v.category).sum ≤ 8) (hdg : decode cc pc = .ok (.invokespecial index, 3)) (hf : cells + mc ≤ R.cells ∧ slots + ms ≤ R.slots)
    (kk : ∀ W1 : va_W, post W1 → AW p l e R s m args below meth c nL D A (cells + mc) (slots + ms) Q (wr ++ W1) lv (pc + 3) (rest)) : AW p l e R s m args below meth c nL D A (cells) (slots) Q (ws) lv (pc) (st) := by
  intro H locs ls hP hD hS hl
  subst hst
  have hPc := xk_psub hP isC hC
  have hDc := hD.sub isC hnC hC
  have hFc := va_free hD hS F.hA isC hC
  refine va_callv (va_runIN (As := As) (rest := rest) F.fix (hM H.size) cw ⟨xk_blind, fun U hU hW => ⟨rfl, by rw [hU], by rw [hU]; exact hPc, va_K.moved hW.alike F.hK, hDc.weaken (fun _ _ _ _ => trivial), xk_nwarm hW F.hZ⟩⟩ rfl hn hl.1 rfl (lv_room hW) hdg hf) hS (fun q _ h => hFc q h) hFc (fun W1 t H1 locs1 ht hvm hw hB hz1 hk1 hS1 => ?_)
  obtain ⟨hP1, hD1⟩ := hB
  rw [ht] at hP1
  obtain ⟨hP2, hD2⟩ := va_join hP hD isC isR hC hR hnR hdis hk1 hFc hP1 hD1
  exact kk W1 hw H1 locs1 ls hP2 hD2 hS1 hl
end XCALL
end
