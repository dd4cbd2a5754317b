theorem xk_cell (c : ClassId) (n : Nat) {f g : Nat → Int32} (e : ∀ j, j < n → g j = f j) : vp_cell c (n, .inl g) = vp_cell c (n, .inl f) := by
  rw [vp_cell_i, vp_cell_i]
  unfold arrV
  congr 2
  funext j
  show Value.int (g j.val) = Value.int (f j.val)
  rw [e j.val j.isLt]
theorem xk_cellcong {D : va_G} {cl : List vw_C} {ws : va_W} {H : Heap} {q1 a n : Nat} {c : ClassId} {f g : Nat → Int32} (h : va_P D cl (ws.set q1 (a, .inl (c, n, .inl g))) H) (e : ∀ j, j < n → g j = f j) : va_P D cl (ws.set q1 (a, .inl (c, n, .inl f))) H := by
  intro k q hk
  by_cases hkq : k = q1
  · subst hkq
    have hl : k < ws.length := by
      have := (List.getElem?_eq_some_iff.mp hk).1
      rwa [List.length_set] at this
    rw [List.getElem?_set_self hl] at hk
    cases hk
    have h1 : H[a]? = some (vp_cell c (n, .inl g)) := h k _ (List.getElem?_set_self hl)
    show H[a]? = some (vp_cell c (n, .inl f))
    rw [h1, xk_cell c n e]
  · rw [List.getElem?_set_ne (Ne.symm hkq)] at hk
    exact h k q (by rw [List.getElem?_set_ne (Ne.symm hkq)]; exact hk)
section XKIT2
variable {p : Program} {l : Launch} {e : Env} {R : Room} {s : State} {m : MethodId} {args : Array Value} {below : List Frame} {meth : Method} {c : Code} {Q : State → Prop}
variable {cc : ByteArray} {nL : Nat} {Ts : List Cond} {own : String} {D : va_G} {tys : List (ClassId × FieldType)} {A : Nat → Prop} {cells slots : Nat}
variable {ws : va_W} {lv : List (Nat × Value)} {pc : Nat} {st rest : List Value}
/-- System.arraycopy of a whole row into one of the same length -/
theorem xr_copy (F : XF p s m args c cc nL Ts own D tys A) {index : Nat} (q0 q1 t0 : Nat) (hlink : Cond.methodLink own index arraycopyName ∈ Ts) (hnat : Cond.native arraycopyName ∈ Ts) (hstat : Cond.static arraycopyName ∈ Ts) (hini : Cond.initialized "java/lang/System" ∈ Ts)
    {c0 : ClassId} {a0 a : Nat} (len : Nat) {f g : Nat → Int32} {ty : FieldType} (ha0 : ws[q0]? = some (a0, .inl (c0, len, .inl f))) (ha1 : ws[q1]? = some (a, .inl (c0, len, .inl g))) (ht : tys[t0]? = some (c0, ty)) (hprim : refKind ty = false)
    {n : Int32} (hn : n = nI len) (hlen : len < 2147483648) (hfit : ∀ i, i < len → fits ty (.int (f i)) = true) (hframes : 1 ≤ R.frames) (hlocals : (rest.map fun v => v.category).sum + (nativeFrameWords "java/lang/System" "arraycopy" 5 + 11) ≤ R.locals)
    (ws' : va_W) (hw : ws.set q1 (a, .inl (c0, len, .inl f)) = ws') (hdg : decode cc pc = .ok (.invokestatic index, 3))
    (kk : AW p l e R s m args below meth c nL D A cells slots Q ws' lv (pc + 3) rest) : AW p l e R s m args below meth c nL D A cells slots Q ws lv pc (.int n :: .int 0 :: .ref a :: .int 0 :: .ref a0 :: rest) := by
  subst hn
  subst hw
  intro H locs ls hP hD hS hl
  have e0 : (0 : Int32).toNatClampNeg = 0 := by decide
  have en : (nI len).toNatClampNeg = len := nI_clamp hlen
  refine va_copyi F.1 F.2.1 (F.2.2.1.trans hl.1.symm) F.owns (F.hts _ hlink) (F.hts _ hnat) (F.hts _ hstat) (F.hts _ hini) F.hK hP hD hS q0 q1 t0 t0 ha0 ha1 ht ht hprim (by decide) (by decide) (nI_pos hlen) (by rw [e0, en]; omega) (by rw [e0, en]; omega) (fun i hi => by rw [e0, Nat.zero_add]; exact hfit i (by rw [en] at hi; exact hi)) hframes hlocals hdg (fun H1 locs1 hP1 hD1 hS1 => ?_)
  rw [e0, en] at hP1
  exact kk H1 locs1 ls (xk_cellcong hP1 (fun j hj => sb_cpy0 hj)) (hD.set ha1) hS1 hl
theorem xr_newa (F : XF p s m args c cc nL Ts own D tys A) (t0 : Nat) {cA : ClassId} {ty : FieldType} (ht : tys[t0]? = some (cA, ty)) (hra : ∀ c : ClassId, va_RA s c ty → s.vm.findClass ("[" ++ ty.toString) = some c) (harr : Cond.arrayClass ty ∈ Ts) {atype : ArrayType} (hty : newarray.typeOf atype = ty)
    (len : Nat) {n : Int32} (hn : n = nI len) (hlen : len < 2147483648) (a0 : vp_A) (ha : ∀ cA : ClassId, vp_cell cA a0 = arrV cA len (fun _ => defaultValue ty)) (hbytes : len * componentBytes ty ≤ 536870912) (hcells : cells + 1 ≤ R.cells) (hslots : slots + len ≤ R.slots) (hdg : decode cc pc = .ok (.newarray atype, 2))
    (kk : ∀ q : Nat, AW p l e R s m args below meth c nL D A (cells + 1) (slots + len) Q (ws ++ [(q, .inl (cA, a0))]) lv (pc + 2) (.ref q :: rest)) : AW p l e R s m args below meth c nL D A cells slots Q ws lv pc (.int n :: rest) := by
  subst hn
  intro H locs ls hP hD hS hl
  refine va_newa F.1 F.2.1 (by rw [hty]; exact F.hts _ harr) hty F.hK hP hD hS F.hA ha (nI_pos hlen) (nI_clamp hlen) hbytes hcells hslots hdg (fun q cA2 H1 hK1 hP1 hD1 hS1 => ?_)
  have h1 := hra _ (F.hK.2 t0 _ ht).2
  have h2 := hra _ (hK1.2 tys.length (cA2, ty) (by simp)).2
  have h3 : cA2 = cA := Option.some.inj (h2.symm.trans h1)
  subst h3
  exact kk q H1 locs ls hP1 hD1 hS1 hl
theorem xr_new (F : XF p s m args c cc nL Ts own D tys A) {C : String} {T : u_T} {N ci index : Nat} (hin : ∀ w ∈ u_ws C T N, w ∈ Ts) (ty : Nat → FieldType) (hty : ∀ k, k < N → parseFieldDescriptor (T k).2.2.1 = some (ty k)) (hcl : Cond.classLink own index C ∈ Ts) (hinst : Cond.instantiable C N ∈ Ts) (hini : Cond.initialized C ∈ Ts)
    (hc : vwCl[ci]? = some (C, T, N)) (fs : List Value) (hfs : ∀ j, j < N → defaultValue (ty j) = vp_V fs j) (hcells : cells + 1 ≤ R.cells) (hslots : slots + N ≤ R.slots) (hdg : decode cc pc = .ok (.new index, 3))
    (kk : ∀ q : Nat, AW p l e R s m args below meth c nL D A (cells + 1) (slots + N) Q (ws ++ [(q, .inr (ci, fs))]) lv (pc + 3) (.ref q :: rest)) : AW p l e R s m args below meth c nL D A cells slots Q ws lv pc rest := by
  intro H locs ls hP hD hS hl
  exact va_new F.1 F.2.1 F.hts hin ty hty F.owns (F.hts _ hcl) (F.hts _ hinst) (F.hts _ hini) F.hK hP hD hS F.hA hc hfs hcells hslots hdg (fun q H1 hP1 hD1 hS1 => kk q H1 locs ls hP1 hD1 hS1 hl)
/-- Object.<init>, by its bytes -/
theorem xr_objInit (F : XF p s m args c cc nL Ts own D tys A) {index a : Nat} (hlink : Cond.methodLink own index objectInit ∈ Ts) (hinst : Cond.instanceMethod objectInit ∈ Ts) (hcode : Cond.code objectInit ⟨#[0xb1]⟩ 1 none ∈ Ts) (hdg : decode cc pc = .ok (.invokespecial index, 3))
    (hframes : 1 ≤ R.frames) (hlocals : 12 ≤ R.locals)
    (kk : AW p l e R s m args below meth c nL D A cells slots Q ws lv (pc + 3) []) : AW p l e R s m args below meth c nL D A cells slots Q ws lv pc [.ref a] := by
  intro H locs ls hP hD hS hl
  refine W.objInit F.1 F.2.1 F.owns (F.hts _ hlink) (F.hts _ hinst) (F.hts _ hcode) rfl (by rw [F.2.2.1]; exact hl.1) rfl hdg hframes hlocals ?_
  exact kk H locs ls hP hD hS hl
/-- a call that answers a reference -/
theorem xr_callVr {y : MethodName} {C : String} {T : u_T} {N ci q0 b index n maxL mc ms : Nat} {fs : List Value} {bytes : ByteArray} {wsC : List Cond} {rm : Room} {As : List Value} {wr Wc : va_W} {rt : FieldType} {post : Nat → va_W → Prop} (F : XF p s m args c cc nL Ts own D tys A) (hM : xMr l y wsC rm D tys Wc (.ref b :: As) mc ms post) (cw : CallW R s args own C index y bytes maxL (some rt) wsC rm mc ms n) (hrc : Wc[q0]? = some (b, .inr (ci, fs))) (hci : vwCl[ci]? = some (C, T, N))
    (isC isR : List Nat) (hC : isC.map (fun i => ws[i]?) = Wc.map some) (hR : isR.map (fun i => ws[i]?) = wr.map some) (hnC : va_nd isC = true) (hnR : va_nd isR = true) (hdis : ∀ i ∈ isR, i ∉ isC) (hn : As.length = n) (hst : st = As.reverse ++ .ref b :: rest) (hW : (rest.map fun v => v.category).sum ≤ 8) (hdg : decode cc pc = .ok (.invokevirtual index, 3)) (hf : cells + mc ≤ R.cells ∧ slots + ms ≤ R.slots)
    (kk : ∀ (r : Nat) (W1 : va_W), post r W1 → AW p l e R s m args below meth c nL D A (cells + mc) (slots + ms) Q (wr ++ W1) lv (pc + 3) (.ref r :: rest)) : AW p l e R s m args below meth c nL D A cells slots Q ws lv pc st := by
  intro H locs ls hP hD hS hl
  subst hst
  have hPc := xk_psub hP isC hC
  have hDc := hD.sub isC hnC hC
  have hFc := va_free hD hS F.hA isC hC
  refine va_callr (va_runV (As := As) (rest := rest) F.fix (hM H.size) cw ⟨xk_blind, va_recv F.hK hPc hci hrc, fun U hU hW => ⟨rfl, by rw [hU], by rw [hU]; exact hPc, va_K.moved hW.alike F.hK, hDc.weaken (fun _ _ _ _ => trivial), xk_nwarm hW F.hZ⟩⟩ rfl hn hl.1 rfl (lv_room hW) hdg hf) hS (fun q _ h => hFc q h) hFc (fun u ra t H1 locs1 ht hvm hw hB hz1 hk1 hS1 => ?_)
  obtain ⟨rfl, hP1, hD1⟩ := hB
  rw [ht] at hP1
  obtain ⟨hP2, hD2⟩ := va_join hP hD isC isR hC hR hnR hdis hk1 hFc hP1 hD1
  exact kk u.1 u.2 hw H1 locs1 ls hP2 hD2 hS1 hl
end XKIT2
