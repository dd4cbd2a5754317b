def rm_L_below : Room := { frames := 0, cells := 0, slots := 0, locals := 0 }
set_option maxHeartbeats 4000000 in
/-- below -/
theorem k_L_below (l : Launch) (D : va_G) (yI yZ yL : ClassId) (v : Int32) (n : Nat) (h0 : 0 < n) (h1 : n < 2147483648) : xMi l yL_below wsL_below rm_L_below D (tysG yI yZ yL) [] [.int v, .int (nI n)] 0 0 (fun (r : Int32) (W1 : va_W) => (∃ j, j < n ∧ r = nI j) ∧ W1 = []) := by
  obtain ⟨m9, hm9, e9⟩ := and_max v
  refine xE_i (cc := cL_below) (nL := 2) (by decide) rfl (Nat.le_of_ble_eq_true rfl) ?_
  intro p e s m args below meth c A Q F hnm ret
  show AW p l e rm_L_below s m args below meth c 2 D A 0 0 Q [] [(0, .int v), (1, .int (nI n))] 0 []
  refine xr_iload_n F dL_below_0 rfl 0 rfl ?_
  refine xr_ldc F (v := (2147483647)) dL_below_1 (List.mem_of_getElem? (i := 1) rfl) ?_
  refine xr_iand F (nI m9) dL_below_3 e9 ?_
  refine xr_iload_n F dL_below_4 rfl 1 rfl ?_
  refine xr_irem F (nI (m9 % n)) dL_below_5 (fun e => by have := (nI_eq (a := n) (b := 0) h1 (by decide)).mp e; omega) (pk_rem (a := m9) (d := n) hm9 h0 h1) ?_
  exact ret _ _ _ _ dL_below_6 ⟨⟨m9 % n, Nat.mod_lt _ h0, rfl⟩, rfl⟩

def rm_L_cell : Room := { frames := 0, cells := 0, slots := 0, locals := 0 }
set_option maxHeartbeats 4000000 in
/-- cell: some number -/
theorem k_L_cell (l : Launch) (D : va_G) (yI yZ yL : ClassId) (hst : l.stackTraces = false) (b L : Nat) (xs : Nat → Int32) (k : Nat) (hk : k < 2147483648) (hL : L < 2147483648) : xXSi l yL_cell wsL_cell rm_L_cell D (tysG yI yZ yL) [] [.ref b, .int (nI k)] 0 0 b L xs (fun (_ : Int32) (W1 : va_W) => W1 = []) (fun _ _ => False) := by
  refine xEXS_i (cc := cL_cell) (nL := 2) hst (by decide) rfl (Nat.le_of_ble_eq_true rfl) ?_
  intro p e s m args below meth c A Q F G hX hbl hbA ret
  show AW p l e rm_L_cell s m args below meth c 2 D A 0 0 Q [] [(0, .ref b), (1, .int (nI k))] 0 []
  refine xr_iload_n F dL_cell_0 rfl 1 rfl ?_
  refine xr_aload_n F dL_cell_1 rfl 0 rfl ?_
  refine xr_slen F hX hbl hbA dL_cell_2 ?_
  refine xr_icmp_ge F 12 dL_cell_3 (by decide) (fun c3 => ?_) (fun c3 => ?_)
  · skip
    refine xr_ldc F (v := (790386105)) dL_cell_12 (List.mem_of_getElem? (i := 1) rfl) ?_
    refine xr_iload_n F dL_cell_14 rfl 1 rfl ?_
    refine xr_iconst F dL_cell_15 (v := 3) (by decide) ?_
    refine xr_iadd F (nI (k + 3)) dL_cell_16 (nI_add k 3) ?_
    refine xr_imul F ((790386105) * (nI (k + 3))) dL_cell_17 rfl ?_
    exact ret _ _ _ _ dL_cell_18 rfl
  · skip
    have hkL : k < L := Nat.not_le.mp (fun z => c3 (nI_le z (by omega)))
    refine xr_aload_n F dL_cell_6 rfl 0 rfl ?_
    refine xr_iload_n F dL_cell_7 rfl 1 rfl ?_
    refine xr_sld F hX hbl hbA (k) rfl (by omega) (by omega) dL_cell_8 ?_
    refine xr_goto F 18 dL_cell_9 (by decide) ?_
    exact ret _ _ _ _ dL_cell_18 rfl
