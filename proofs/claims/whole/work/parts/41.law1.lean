-- ===== the start: what the tables say, as the walk wants it =====
theorem law_arr {args : Array Value} {s : State} {ty : FieldType} (h : (Cond.arrayClass ty).before args s = true) (hp : ∀ c, s.vm.findClass ("[" ++ ty.toString) = some c → va_RA s c ty) : ∃ c : ClassId, ArrOfT s c ty ∧ va_RA s c ty := by
  obtain ⟨c, k, comp, h1, h2, h3⟩ := Cond.arrayClass_spec (show (Cond.arrayClass ty).holds args s none s [] = true from h)
  exact ⟨c, fun n z => ⟨fun k h => (by cases h), k, h2, comp, h3⟩, hp c h1⟩
theorem law_arrs (ty : FieldType) (i : Nat) (h : lw_tbl[i]? = some (Cond.arrayClass ty)) : Cond.arrayClass ty ∈ lw_tbl := List.mem_of_getElem? h
theorem law_tyI : Cond.arrayClass .int ∈ lw_tbl := by decide +kernel
theorem law_tyZ : Cond.arrayClass .boolean ∈ lw_tbl := by decide +kernel
theorem law_tyL : Cond.arrayClass .long ∈ lw_tbl := by decide +kernel
theorem law_in0 : Cond.instantiable RX0 18 ∈ lw_tbl := by decide +kernel
theorem law_in1 : Cond.instantiable RX1 2 ∈ lw_tbl := by decide +kernel
theorem law_in2 : Cond.instantiable RX2 14 ∈ lw_tbl := by decide +kernel
theorem law_in3 : Cond.instantiable RX3 9 ∈ lw_tbl := by decide +kernel
theorem law_nwX : ∀ w ∈ nwX, w ∈ lw_tbl := by decide +kernel
theorem law_cs : ∀ E ∈ xTc, Cond.castable E E ∈ lw_tbl := by decide +kernel
theorem law_dc : ∀ x ∈ xTd, Cond.declares x ∈ lw_tbl := by decide +kernel
theorem law_st : ∀ q ∈ xTs, Cond.stringRef RX1 q.1 q.2 ∈ lw_tbl := by decide +kernel
theorem law_l1 : Cond.laysStatic Bundle.tN "UNASSIGNED_STACK" Bundle.steD ∈ lw_tbl := by decide +kernel
theorem law_l2 : Cond.laysStatic Bundle.tN "SUPPRESSED_SENTINEL" Bundle.listD ∈ lw_tbl := by decide +kernel
theorem law_it : Cond.initialized Bundle.tN ∈ lw_tbl := by decide +kernel
theorem law_g1 : Cond.isRef (.static Bundle.tN "UNASSIGNED_STACK" Bundle.steD) ∈ flatC (Jvm.Cond.and given_1 narrow_1) := by decide +kernel
theorem law_g2 : Cond.isRef (.static Bundle.tN "SUPPRESSED_SENTINEL" Bundle.listD) ∈ flatC (Jvm.Cond.and given_1 narrow_1) := by decide +kernel
theorem law_nc : ∀ q ∈ xTn, Cond.not (.castable q.1 q.2) ∈ flatC (Jvm.Cond.and given_1 narrow_1) := by decide +kernel
theorem law_flags {l : Launch} (h : l.flags = flags0) : l.stackTraces = false := by
  unfold Launch.stackTraces
  rw [h]
  decide +kernel
theorem law_fix {p : Program} {s : State} {m : MethodId} {meth : Method} {c : Code} {b L : Nat} {xs : Nat → Int32} (C0 : lw_At p s m meth c b L xs) : ∃ (D : va_G) (yI yZ yL : ClassId), XF p s m #[Value.ref b] c cL_law 9 wsL_law R_law D (tysG yI yZ yL) (fun q => s.heap.size ≤ q) ∧ xT s ∧ xQ (fun q => s.heap.size ≤ q) s s.heap := by
  obtain ⟨h1, h2, -, h4, h5, hts, -, -, -, hgv⟩ := C0
  have hfl := flat_of_before _ hgv
  obtain ⟨c0, i0, k0⟩ := u_known (C := RX0) (T := TX0) (N := 18) hts inX0 (hts _ law_in0)
  obtain ⟨c1, i1, k1⟩ := u_known (C := RX1) (T := TX1) (N := 2) hts inX1 (hts _ law_in1)
  obtain ⟨c2, i2, k2⟩ := u_known (C := RX2) (T := TX2) (N := 14) hts inX2 (hts _ law_in2)
  obtain ⟨c3, i3, k3⟩ := u_known (C := RX3) (T := TX3) (N := 9) hts inX3 (hts _ law_in3)
  obtain ⟨yI, a1, a2⟩ := law_arr (hts _ law_tyI) (fun c h => h)
  obtain ⟨yZ, b1, b2⟩ := law_arr (hts _ law_tyZ) (fun c h => h)
  obtain ⟨yL, d1, d2⟩ := law_arr (hts _ law_tyL) (fun c h => h)
  have hc1 : s.vm.findClass RX1 = some c1 := by obtain ⟨-, e⟩ := k1; exact e.1
  refine ⟨(fun k => match k with | 0 => c0 | 1 => c1 | 2 => c2 | _ => c3, fun k => match k with | 0 => i0 | 1 => i1 | 2 => i2 | _ => i3), yI, yZ, yL, ⟨h1, h2, h4, h5, fun w hw => hts w (wsL_law_in w hw), ⟨?_, ?_⟩, fun q h => h, fun w hw => va_Nw.of (nwX_on w hw) (hts w (law_nwX w hw))⟩, ⟨fun E hE => va_Nw.of rfl (hts _ (law_cs E hE)), fun q hq => va_Nc.of (hfl _ (law_nc q hq)), fun q hq => ?_, fun x hx => va_Nw.of rfl (hts _ (law_dc x hx))⟩, vx_Zqof (hts _ law_l1) (hts _ law_it) (hfl _ law_g1) (fun a h => Nat.not_le.mpr h), vx_Zqof (hts _ law_l2) (hts _ law_it) (hfl _ law_g2) (fun a h => Nat.not_le.mpr h)⟩
  · intro k q hk
    match k with
    | 0 => cases hk; exact k0
    | 1 => cases hk; exact k1
    | 2 => cases hk; exact k2
    | 3 => cases hk; exact k3
    | n + 4 => cases hk
  · intro k q hk
    match k with
    | 0 => cases hk; exact ⟨a1, a2⟩
    | 1 => cases hk; exact ⟨b1, b2⟩
    | 2 => cases hk; exact ⟨d1, d2⟩
    | n + 3 => cases hk
  · obtain ⟨k, cf, i, a, -, -, -, -, -, hev⟩ := Cond.stringRef_spec (args := #[]) (first := s) (o := none) (idx := []) hc1 (show (Cond.stringRef RX1 q.1 q.2).holds #[] s none s [] = true from hts _ (law_st q hq))
    exact ⟨a, hts _ (law_st q hq), hev⟩
section LAWROWS
variable {p : Program} {l : Launch} {e : Env} {R : Room} {s : State} {m : MethodId} {args : Array Value} {below : List Frame} {meth : Method} {c : Code} {Q : State → Prop}
variable {cc : ByteArray} {nL : Nat} {Ts : List Cond} {own : String} {D : va_G} {tys : List (ClassId × FieldType)} {A : Nat → Prop} {cells slots : Nat}
variable {ws : va_W} {lv : List (Nat × Value)} {pc : Nat} {rest : List Value} {b L : Nat} {xs : Nat → Int32}
theorem xr_sld (F : XF p s m args c cc nL Ts own D tys A) (hX : va_X b L xs s s.heap) (hbl : b < s.heap.size) (hbA : ¬ A b) {i : Int32} (k : Nat) (hi : i = nI k) (hk : k < L) (hL : L < 2147483648) (hdg : decode cc pc = .ok (.iaload, 1))
    (kk : AW p l e R s m args below meth c nL D A cells slots Q ws lv (pc + 1) (.int (xs k) :: rest)) : AW p l e R s m args below meth c nL D A cells slots Q ws lv pc (.int i :: .ref b :: rest) := by
  subst hi
  intro H locs ls hP hD hS hl
  have hc := nI_clamp (show k < 2 ^ 31 by omega)
  refine va_sld F.1 F.2.1 hX hbl hbA hS (nI_in hk (by omega)) hdg ?_
  rw [hc]
  exact kk H locs ls hP hD hS hl
theorem xr_slen (F : XF p s m args c cc nL Ts own D tys A) (hX : va_X b L xs s s.heap) (hbl : b < s.heap.size) (hbA : ¬ A b) (hdg : decode cc pc = .ok (.arraylength, 1))
    (kk : AW p l e R s m args below meth c nL D A cells slots Q ws lv (pc + 1) (.int (nI L) :: rest)) : AW p l e R s m args below meth c nL D A cells slots Q ws lv pc (.ref b :: rest) :=
  fun H locs ls hP hD hS hl => va_slen F.1 F.2.1 hX hbl hbA hS hdg (kk H locs ls hP hD hS hl)
end LAWROWS
theorem law_gt {j L : Nat} (hL : L ≤ 2048) (hj : j ≤ 1024) : (nI L - 4 < nI (4 * j)) ↔ L < 4 * j + 4 := by
  rw [Int32.lt_iff_toInt_lt, nI_toInt (by omega)]
  have h : (nI L - 4).toInt = (L : Int) - 4 := by
    have h4 : (4 : Int32) = nI 4 := by decide
    by_cases q : 4 ≤ L
    · rw [h4, nI_sub q, nI_toInt (by omega)]; omega
    · rcases (by omega : L = 0 ∨ L = 1 ∨ L = 2 ∨ L = 3) with rfl | rfl | rfl | rfl <;> decide
  rw [h]
  omega
theorem lg_same (x : Int64) : lg_cmp x x = 0 := by
  unfold lg_cmp
  rw [if_neg (show ¬ x > x from Int64.lt_irrefl), if_pos rfl]
theorem law_cmp {q a b : Int32} {v : Int64} (hf : q = 0 → v = a.toInt64) (c : q = 0) (e : b = a) : lg_cmp v (r_or0 q b).toInt64 = 0 := by
  rw [hf c, r_or0, if_pos c, e]; exact lg_same _
