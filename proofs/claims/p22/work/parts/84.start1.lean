-- ===== the start: what the tables say, as the walk wants it =====
theorem law_arr {args : Array Value} {s : State} {ty : FieldType} (h : (Cond.arrayClass ty).before args s = true) (hp : ∀ c, s.vm.findClass ("[" ++ ty.toString) = some c → va_RA s c ty) : ∃ c : ClassId, ArrOfT s c ty ∧ va_RA s c ty := by
  obtain ⟨c, k, comp, h1, h2, h3⟩ := Cond.arrayClass_spec (show (Cond.arrayClass ty).holds args s none s [] = true from h)
  exact ⟨c, fun n z => ⟨fun k h => (by cases h), k, h2, comp, h3⟩, hp c h1⟩
theorem law_arrO {args : Array Value} {s : State} (h : (Cond.arrayOver (.array .int)).before args s = true) (hp : ∀ c, s.vm.findClass ("[" ++ (FieldType.array .int).toString) = some c → va_RA s c (.array .int)) : ∃ c : ClassId, ArrOfT s c (.array .int) ∧ va_RA s c (.array .int) := by
  obtain ⟨comp, c, k, h1, h2, h3, h4, h5⟩ := arrayOverA_spec (show (Cond.arrayOver (.array .int)).holds args s none s [] = true from h)
  exact ⟨c, fun n z => ⟨fun k h => (by cases h), k, h3, comp, h4⟩, hp c h5⟩
theorem law_tyI : Cond.arrayClass .int ∈ lw_tbl := by decide +kernel
theorem law_tyZ : Cond.arrayClass .boolean ∈ lw_tbl := by decide +kernel
theorem law_tyO : Cond.arrayOver (.array .int) ∈ lw_tbl := by decide +kernel
theorem law_in0 : Cond.instantiable RX0 18 ∈ lw_tbl := by decide +kernel
theorem law_in1 : Cond.instantiable RX1 2 ∈ lw_tbl := by decide +kernel
theorem law_in2 : Cond.instantiable RX2 11 ∈ lw_tbl := by decide +kernel
theorem law_nwX : ∀ w ∈ nwX, w ∈ lw_tbl := by decide +kernel
theorem law_cs : ∀ E ∈ xTc, Cond.castable E E ∈ lw_tbl := by decide +kernel
theorem law_dc : ∀ x ∈ xTd, Cond.declares x ∈ lw_tbl := by decide +kernel
theorem law_st : ∀ q ∈ xTs, Cond.stringRef RX1 q.1 q.2 ∈ lw_tbl := by decide +kernel
theorem law_l1 : Cond.laysStatic Bundle.tN "UNASSIGNED_STACK" Bundle.steD ∈ lw_tbl := by decide +kernel
theorem law_l2 : Cond.laysStatic Bundle.tN "SUPPRESSED_SENTINEL" Bundle.listD ∈ lw_tbl := by decide +kernel
theorem law_it : Cond.initialized Bundle.tN ∈ lw_tbl := by decide +kernel
theorem law_g1 : Cond.isRef (.static Bundle.tN "UNASSIGNED_STACK" Bundle.steD) ∈ flatC (Jvm.Cond.and given_1 narrow_1) := by decide +kernel
theorem law_g2 : Cond.isRef (.static Bundle.tN "SUPPRESSED_SENTINEL" Bundle.listD) ∈ flatC (Jvm.Cond.and given_1 narrow_1) := by decide +kernel
theorem law_nc : ∀ q ∈ xTn, Cond.not (.castable q.1 q.2) ∈ flatC (Jvm.Cond.and given_1 narrow_1) := by decide +kernel
theorem law_flags {l : Launch} (h : l.flags = flags0) : l.stackTraces = false := by
  unfold Launch.stackTraces
  rw [h]
  decide +kernel
theorem law_fix {p : Program} {s : State} {m : MethodId} {meth : Method} {c : Code} {b L : Nat} {xs : Nat → Int32} (C0 : lw_At p s m meth c b L xs) : ∃ (D : va_G) (yI yZ yL : ClassId), XF p s m #[Value.ref b] c cL_law 32 wsL_law R_law D (tysG yI yZ yL) (fun q => s.heap.size ≤ q) ∧ xT s ∧ xQ (fun q => s.heap.size ≤ q) s s.heap := by
  obtain ⟨h1, h2, -, h4, h5, hts, -, -, -, hgv⟩ := C0
  have hfl := flat_of_before _ hgv
  obtain ⟨c0, i0, k0⟩ := u_known (C := RX0) (T := TX0) (N := 18) hts inX0 (hts _ law_in0)
  obtain ⟨c1, i1, k1⟩ := u_known (C := RX1) (T := TX1) (N := 2) hts inX1 (hts _ law_in1)
  obtain ⟨c2, i2, k2⟩ := u_known (C := RX2) (T := TX2) (N := 11) hts inX2 (hts _ law_in2)
  obtain ⟨yI, a1, a2⟩ := law_arr (hts _ law_tyI) (fun c h => h)
  obtain ⟨yZ, b1, b2⟩ := law_arr (hts _ law_tyZ) (fun c h => h)
  obtain ⟨yL, d1, d2⟩ := law_arrO (hts _ law_tyO) (fun c h => h)
  have hc1 : s.vm.findClass RX1 = some c1 := by obtain ⟨-, e⟩ := k1; exact e.1
  refine ⟨(fun k => match k with | 0 => c0 | 1 => c1 | _ => c2, fun k => match k with | 0 => i0 | 1 => i1 | _ => i2), yI, yZ, yL, ⟨h1, h2, h4, h5, fun w hw => hts w (wsL_law_in w hw), ⟨?_, ?_⟩, fun q h => h, fun w hw => va_Nw.of (nwX_on w hw) (hts w (law_nwX w hw)), hts _ law_tyO⟩, ⟨fun E hE => va_Nw.of rfl (hts _ (law_cs E hE)), fun q hq => va_Nc.of (hfl _ (law_nc q hq)), fun q hq => ?_, fun x hx => va_Nw.of rfl (hts _ (law_dc x hx))⟩, vx_Zqof (hts _ law_l1) (hts _ law_it) (hfl _ law_g1) (fun a h => Nat.not_le.mpr h), vx_Zqof (hts _ law_l2) (hts _ law_it) (hfl _ law_g2) (fun a h => Nat.not_le.mpr h)⟩
  · intro k q hk
    match k with
    | 0 => cases hk; exact k0
    | 1 => cases hk; exact k1
    | 2 => cases hk; exact k2
    | n + 3 => cases hk
  · intro k q hk
    match k with
    | 0 => cases hk; exact ⟨a1, a2⟩
    | 1 => cases hk; exact ⟨b1, b2⟩
    | 2 => cases hk; exact ⟨d1, d2⟩
    | n + 3 => cases hk
  · obtain ⟨k, cf, i, a, -, -, -, -, -, hev⟩ := Cond.stringRef_spec (args := #[]) (first := s) (o := none) (idx := []) hc1 (show (Cond.stringRef RX1 q.1 q.2).holds #[] s none s [] = true from hts _ (law_st q hq))
    exact ⟨a, hts _ (law_st q hq), hev⟩
