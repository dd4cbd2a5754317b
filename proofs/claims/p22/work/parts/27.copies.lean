section XKIT4
variable {p : Program} {l : Launch} {e : Env} {R : Room} {s : State} {m : MethodId} {args : Array Value} {below : List Frame} {meth : Method} {c : Code} {Q : State → Prop}
variable {nL : Nat} {D : va_G} {A : Nat → Prop} {cells slots : Nat}
variable {ws : va_W} {lv : List (Nat × Value)} {pc : Nat} {st : List Value}
/-- a row whose values are known by another function -/
theorem xr_fc (q0 : Nat) {c0 : ClassId} {a0 n : Nat} {f : Nat → Int32} (g : Nat → Int32) (h : ws[q0]? = some (a0, .inl (c0, n, .inl f))) (e9 : ∀ j, j < n → f j = g j) (ws' : va_W) (hw : ws.set q0 (a0, .inl (c0, n, .inl g)) = ws')
    (kk : AW p l e R s m args below meth c nL D A cells slots Q ws' lv pc st) : AW p l e R s m args below meth c nL D A cells slots Q ws lv pc st := by
  intro H locs ls hP hD hS hl
  subst hw
  have h1 : ws.set q0 (a0, .inl (c0, n, .inl f)) = ws := by
    obtain ⟨hlt, he⟩ := List.getElem?_eq_some_iff.mp h
    rw [← he]; exact List.set_getElem_self hlt
  exact kk H locs ls (xk_cellcong (f := g) (g := f) (by rw [h1]; exact hP) e9) (hD.set h) hS hl
end XKIT4

theorem xk_updfn {f g : Nat → Int32} {k : Nat} (h : ∀ j, j < k → f j = g j) : ∀ j, j < k + 1 → upd f k (g k) j = g j := by
  intro j hj
  unfold upd
  by_cases e : j = k
  · rw [if_pos e, e]
  · rw [if_neg e]
    exact h j (by omega)

def rm_X0_copyFrom : Room := { frames := 1, cells := 0, slots := 0, locals := 26 }
set_option maxHeartbeats 4000000 in
set_option maxRecDepth 100000 in
/-- copyFrom -/
theorem k_X0_copyFrom (l : Launch) (D : va_G) (yI yZ yL : ClassId) (a b : Nat → Nat) (K : CK) (V : CD) (K2 : CK) (V2 : CD) (h0 : kDry K2 = 0 ∨ kDry K2 = 1) (h1 : ∀ k, k < 5 → dFull V2 k = 0 ∨ dFull V2 k = 1) : xMv l yX0_copyFrom wsX0_copyFrom rm_X0_copyFrom D (tysG yI yZ yL) (cw yI yZ a K V ++ (cw yI yZ b K2 V2)) [.ref (a 0), .ref (b 0)] 0 0 (fun W1 : va_W => W1 = cw yI yZ a K2 V2 ++ cw yI yZ b K2 V2) := by
  refine xE_v (cc := cX0_copyFrom) (nL := 3) (by decide) rfl (Nat.le_of_ble_eq_true rfl) ?_
  intro p e s m args below meth c A Q F hnm ret
  have hin0 : ∀ w ∈ u_ws RX0 TX0 18, w ∈ wsX0_copyFrom := by decide +kernel
  show AW p l e rm_X0_copyFrom s m args below meth c 3 D A 0 0 Q (cw yI yZ a K V ++ (cw yI yZ b K2 V2)) [(0, .ref (a 0)), (1, .ref (b 0))] 0 []
  refine xr_aload_n F dX0_copyFrom_0 rfl 0 rfl ?_
  refine xr_aload_n F dX0_copyFrom_1 rfl 1 rfl ?_
  refine xr_get F hin0 12 rfl rfl 0 (by decide) (List.mem_of_getElem? (i := 1) rfl) (v := .int (nI (dHour V2))) rfl dX0_copyFrom_2 ?_
  refine xr_put (ty := .int) F hin0 0 rfl rfl 0 (by decide) tyX0 tyX0_ok nmX0 (List.mem_of_getElem? (i := 1) rfl) rfl (by decide) rfl rfl (Nat.le_of_ble_eq_true rfl) (cwx yI yZ a (kFee K) (kDry K) (kMill K) (kMark K) (kNb K) (kSpr K) (kGoal K) (dHour V2) (dBank V) (dLev V) (dOver V) (dDrawn V) (dFull V) (dLock V) (dFill V) (dAt V) (dPur V) (dSer V) ++ (cw yI yZ b K2 V2)) rfl dX0_copyFrom_5 ?_
  refine xr_aload_n F dX0_copyFrom_8 rfl 0 rfl ?_
  refine xr_aload_n F dX0_copyFrom_9 rfl 1 rfl ?_
  refine xr_get F hin0 12 rfl rfl 1 (by decide) (List.mem_of_getElem? (i := 2) rfl) (v := .int (dBank V2)) rfl dX0_copyFrom_10 ?_
  refine xr_put (ty := .int) F hin0 0 rfl rfl 1 (by decide) tyX0 tyX0_ok nmX0 (List.mem_of_getElem? (i := 2) rfl) rfl (by decide) rfl rfl (Nat.le_of_ble_eq_true rfl) (cwx yI yZ a (kFee K) (kDry K) (kMill K) (kMark K) (kNb K) (kSpr K) (kGoal K) (dHour V2) (dBank V2) (dLev V) (dOver V) (dDrawn V) (dFull V) (dLock V) (dFill V) (dAt V) (dPur V) (dSer V) ++ (cw yI yZ b K2 V2)) rfl dX0_copyFrom_13 ?_
  refine xr_aload_n F dX0_copyFrom_16 rfl 0 rfl ?_
  refine xr_aload_n F dX0_copyFrom_17 rfl 1 rfl ?_
  refine xr_get F hin0 12 rfl rfl 2 (by decide) (List.mem_of_getElem? (i := 3) rfl) (v := .int (kFee K2)) rfl dX0_copyFrom_18 ?_
  refine xr_put (ty := .int) F hin0 0 rfl rfl 2 (by decide) tyX0 tyX0_ok nmX0 (List.mem_of_getElem? (i := 3) rfl) rfl (by decide) rfl rfl (Nat.le_of_ble_eq_true rfl) (cwx yI yZ a (kFee K2) (kDry K) (kMill K) (kMark K) (kNb K) (kSpr K) (kGoal K) (dHour V2) (dBank V2) (dLev V) (dOver V) (dDrawn V) (dFull V) (dLock V) (dFill V) (dAt V) (dPur V) (dSer V) ++ (cw yI yZ b K2 V2)) rfl dX0_copyFrom_21 ?_
  refine xr_aload_n F dX0_copyFrom_24 rfl 0 rfl ?_
  refine xr_aload_n F dX0_copyFrom_25 rfl 1 rfl ?_
  refine xr_get F hin0 12 rfl rfl 3 (by decide) (List.mem_of_getElem? (i := 4) rfl) (v := .int (kDry K2)) rfl dX0_copyFrom_26 ?_
  refine xr_put (ty := .boolean) F hin0 0 rfl rfl 3 (by decide) tyX0 tyX0_ok nmX0 (List.mem_of_getElem? (i := 4) rfl) rfl (by decide) (nz01 h0) (fz01 h0) (Nat.le_of_ble_eq_true rfl) (cwx yI yZ a (kFee K2) (kDry K2) (kMill K) (kMark K) (kNb K) (kSpr K) (kGoal K) (dHour V2) (dBank V2) (dLev V) (dOver V) (dDrawn V) (dFull V) (dLock V) (dFill V) (dAt V) (dPur V) (dSer V) ++ (cw yI yZ b K2 V2)) rfl dX0_copyFrom_29 ?_
  refine xr_aload_n F dX0_copyFrom_32 rfl 0 rfl ?_
  refine xr_aload_n F dX0_copyFrom_33 rfl 1 rfl ?_
  refine xr_get F hin0 12 rfl rfl 4 (by decide) (List.mem_of_getElem? (i := 5) rfl) (v := .int (nI (kMill K2) - 1)) rfl dX0_copyFrom_34 ?_
  refine xr_put (ty := .int) F hin0 0 rfl rfl 4 (by decide) tyX0 tyX0_ok nmX0 (List.mem_of_getElem? (i := 5) rfl) rfl (by decide) rfl rfl (Nat.le_of_ble_eq_true rfl) (cwx yI yZ a (kFee K2) (kDry K2) (kMill K2) (kMark K) (kNb K) (kSpr K) (kGoal K) (dHour V2) (dBank V2) (dLev V) (dOver V) (dDrawn V) (dFull V) (dLock V) (dFill V) (dAt V) (dPur V) (dSer V) ++ (cw yI yZ b K2 V2)) rfl dX0_copyFrom_37 ?_
  refine xr_aload_n F dX0_copyFrom_40 rfl 0 rfl ?_
  refine xr_aload_n F dX0_copyFrom_41 rfl 1 rfl ?_
  refine xr_get F hin0 12 rfl rfl 5 (by decide) (List.mem_of_getElem? (i := 6) rfl) (v := .int (kMark K2)) rfl dX0_copyFrom_42 ?_
  refine xr_put (ty := .int) F hin0 0 rfl rfl 5 (by decide) tyX0 tyX0_ok nmX0 (List.mem_of_getElem? (i := 6) rfl) rfl (by decide) rfl rfl (Nat.le_of_ble_eq_true rfl) (cwx yI yZ a (kFee K2) (kDry K2) (kMill K2) (kMark K2) (kNb K) (kSpr K) (kGoal K) (dHour V2) (dBank V2) (dLev V) (dOver V) (dDrawn V) (dFull V) (dLock V) (dFill V) (dAt V) (dPur V) (dSer V) ++ (cw yI yZ b K2 V2)) rfl dX0_copyFrom_45 ?_
  refine xr_aload_n F dX0_copyFrom_48 rfl 1 rfl ?_
  refine xr_get F hin0 12 rfl rfl 6 (by decide) (List.mem_of_getElem? (i := 7) rfl) (v := .ref (b 1)) rfl dX0_copyFrom_49 ?_
  refine xr_iconst F dX0_copyFrom_52 (v := 0) (by decide) ?_
  refine xr_aload_n F dX0_copyFrom_53 rfl 0 rfl ?_
  refine xr_get F hin0 0 rfl rfl 6 (by decide) (List.mem_of_getElem? (i := 7) rfl) (v := .ref (a 1)) rfl dX0_copyFrom_54 ?_
  refine xr_iconst F dX0_copyFrom_57 (v := 0) (by decide) ?_
  refine xr_bipush F dX0_copyFrom_58 (v := 8) (by decide) ?_
  refine xr_copy F 13 1 0 (List.mem_of_getElem? (i := 8) rfl) (List.mem_of_getElem? (i := 9) rfl) (List.mem_of_getElem? (i := 10) rfl) (List.mem_of_getElem? (i := 11) rfl) 8 rfl rfl rfl rfl rfl (by decide) (fun _ _ => rfl) (Nat.le_of_ble_eq_true rfl) (Nat.le_of_ble_eq_true rfl) (cwx yI yZ a (kFee K2) (kDry K2) (kMill K2) (kMark K2) (kNb K) (kSpr K2) (kGoal K) (dHour V2) (dBank V2) (dLev V) (dOver V) (dDrawn V) (dFull V) (dLock V) (dFill V) (dAt V) (dPur V) (dSer V) ++ (cw yI yZ b K2 V2)) rfl dX0_copyFrom_60 ?_
  refine xr_aload_n F dX0_copyFrom_63 rfl 1 rfl ?_
  refine xr_get F hin0 12 rfl rfl 7 (by decide) (List.mem_of_getElem? (i := 12) rfl) (v := .ref (b 2)) rfl dX0_copyFrom_64 ?_
  refine xr_iconst F dX0_copyFrom_67 (v := 0) (by decide) ?_
  refine xr_aload_n F dX0_copyFrom_68 rfl 0 rfl ?_
  refine xr_get F hin0 0 rfl rfl 7 (by decide) (List.mem_of_getElem? (i := 12) rfl) (v := .ref (a 2)) rfl dX0_copyFrom_69 ?_
  refine xr_iconst F dX0_copyFrom_72 (v := 0) (by decide) ?_
  refine xr_bipush F dX0_copyFrom_73 (v := 6) (by decide) ?_
  refine xr_copy F 14 2 0 (List.mem_of_getElem? (i := 8) rfl) (List.mem_of_getElem? (i := 9) rfl) (List.mem_of_getElem? (i := 10) rfl) (List.mem_of_getElem? (i := 11) rfl) 6 rfl rfl rfl rfl rfl (by decide) (fun _ _ => rfl) (Nat.le_of_ble_eq_true rfl) (Nat.le_of_ble_eq_true rfl) (cwx yI yZ a (kFee K2) (kDry K2) (kMill K2) (kMark K2) (kNb K) (kSpr K2) (kGoal K) (dHour V2) (dBank V2) (dLev V2) (dOver V) (dDrawn V) (dFull V) (dLock V) (dFill V) (dAt V) (dPur V) (dSer V) ++ (cw yI yZ b K2 V2)) rfl dX0_copyFrom_75 ?_
  refine xr_aload_n F dX0_copyFrom_78 rfl 1 rfl ?_
  refine xr_get F hin0 12 rfl rfl 8 (by decide) (List.mem_of_getElem? (i := 13) rfl) (v := .ref (b 3)) rfl dX0_copyFrom_79 ?_
  refine xr_iconst F dX0_copyFrom_82 (v := 0) (by decide) ?_
  refine xr_aload_n F dX0_copyFrom_83 rfl 0 rfl ?_
  refine xr_get F hin0 0 rfl rfl 8 (by decide) (List.mem_of_getElem? (i := 13) rfl) (v := .ref (a 3)) rfl dX0_copyFrom_84 ?_
  refine xr_iconst F dX0_copyFrom_87 (v := 0) (by decide) ?_
  refine xr_bipush F dX0_copyFrom_88 (v := 6) (by decide) ?_
  refine xr_copy F 15 3 0 (List.mem_of_getElem? (i := 8) rfl) (List.mem_of_getElem? (i := 9) rfl) (List.mem_of_getElem? (i := 10) rfl) (List.mem_of_getElem? (i := 11) rfl) 6 rfl rfl rfl rfl rfl (by decide) (fun _ _ => rfl) (Nat.le_of_ble_eq_true rfl) (Nat.le_of_ble_eq_true rfl) (cwx yI yZ a (kFee K2) (kDry K2) (kMill K2) (kMark K2) (kNb K) (kSpr K2) (kGoal K) (dHour V2) (dBank V2) (dLev V2) (dOver V2) (dDrawn V) (dFull V) (dLock V) (dFill V) (dAt V) (dPur V) (dSer V) ++ (cw yI yZ b K2 V2)) rfl dX0_copyFrom_90 ?_
  refine xr_aload_n F dX0_copyFrom_93 rfl 1 rfl ?_
  refine xr_get F hin0 12 rfl rfl 9 (by decide) (List.mem_of_getElem? (i := 14) rfl) (v := .ref (b 4)) rfl dX0_copyFrom_94 ?_
  refine xr_iconst F dX0_copyFrom_97 (v := 0) (by decide) ?_
  refine xr_aload_n F dX0_copyFrom_98 rfl 0 rfl ?_
  refine xr_get F hin0 0 rfl rfl 9 (by decide) (List.mem_of_getElem? (i := 14) rfl) (v := .ref (a 4)) rfl dX0_copyFrom_99 ?_
  refine xr_iconst F dX0_copyFrom_102 (v := 0) (by decide) ?_
  refine xr_bipush F dX0_copyFrom_103 (v := 6) (by decide) ?_
  refine xr_copy F 16 4 0 (List.mem_of_getElem? (i := 8) rfl) (List.mem_of_getElem? (i := 9) rfl) (List.mem_of_getElem? (i := 10) rfl) (List.mem_of_getElem? (i := 11) rfl) 6 rfl rfl rfl rfl rfl (by decide) (fun _ _ => rfl) (Nat.le_of_ble_eq_true rfl) (Nat.le_of_ble_eq_true rfl) (cwx yI yZ a (kFee K2) (kDry K2) (kMill K2) (kMark K2) (kNb K) (kSpr K2) (kGoal K) (dHour V2) (dBank V2) (dLev V2) (dOver V2) (dDrawn V2) (dFull V) (dLock V) (dFill V) (dAt V) (dPur V) (dSer V) ++ (cw yI yZ b K2 V2)) rfl dX0_copyFrom_105 ?_
  refine xr_iconst F dX0_copyFrom_108 (v := 0) (by decide) ?_
  refine xr_istore_n F [(2, .int 0), (0, .ref (a 0)), (1, .ref (b 0))] dX0_copyFrom_109 rfl (by decide) rfl ?_
  have lp : ∀ (i : Nat) (k : Nat) (f : Nat → Int32), i + k = 5 → (∀ j, j < k → f j = dFull V2 j) → AW p l e rm_X0_copyFrom s m args below meth c 3 D A 0 0 Q (cwx yI yZ a (kFee K2) (kDry K2) (kMill K2) (kMark K2) (kNb K) (kSpr K2) (kGoal K) (dHour V2) (dBank V2) (dLev V2) (dOver V2) (dDrawn V2) f (dLock V) (dFill V) (dAt V) (dPur V) (dSer V) ++ (cw yI yZ b K2 V2)) [(2, .int (nI k)), (0, .ref (a 0)), (1, .ref (b 0))] 110 [] := by
    intro i
    induction i with
    | zero =>
      intro k f hb hf
      refine xr_iload_n F dX0_copyFrom_110 rfl 0 rfl ?_
      refine xr_iconst F dX0_copyFrom_111 (v := 5) (by decide) ?_
      refine xr_icmp_ge F 133 dX0_copyFrom_112 (by decide) (fun c112 => ?_) (fun c112 => ?_)
      · skip
        refine xr_fc 5 (dFull V2) rfl (fun j h => hf j (by omega)) (cwx yI yZ a (kFee K2) (kDry K2) (kMill K2) (kMark K2) (kNb K) (kSpr K2) (kGoal K) (dHour V2) (dBank V2) (dLev V2) (dOver V2) (dDrawn V2) (dFull V2) (dLock V) (dFill V) (dAt V) (dPur V) (dSer V) ++ (cw yI yZ b K2 V2)) rfl ?_
        refine xr_aload_n F dX0_copyFrom_133 rfl 2 rfl ?_
        refine xr_get F hin0 12 rfl rfl 11 (by decide) (List.mem_of_getElem? (i := 16) rfl) (v := .ref (b 6)) rfl dX0_copyFrom_134 ?_
        refine xr_iconst F dX0_copyFrom_137 (v := 0) (by decide) ?_
        refine xr_aload_n F dX0_copyFrom_138 rfl 1 rfl ?_
        refine xr_get F hin0 0 rfl rfl 11 (by decide) (List.mem_of_getElem? (i := 16) rfl) (v := .ref (a 6)) rfl dX0_copyFrom_139 ?_
        refine xr_iconst F dX0_copyFrom_142 (v := 0) (by decide) ?_
        refine xr_iconst F dX0_copyFrom_143 (v := 5) (by decide) ?_
        refine xr_copy F 18 6 0 (List.mem_of_getElem? (i := 8) rfl) (List.mem_of_getElem? (i := 9) rfl) (List.mem_of_getElem? (i := 10) rfl) (List.mem_of_getElem? (i := 11) rfl) 5 rfl rfl rfl rfl rfl (by decide) (fun _ _ => rfl) (Nat.le_of_ble_eq_true rfl) (Nat.le_of_ble_eq_true rfl) (cwx yI yZ a (kFee K2) (kDry K2) (kMill K2) (kMark K2) (kNb K) (kSpr K2) (kGoal K) (dHour V2) (dBank V2) (dLev V2) (dOver V2) (dDrawn V2) (dFull V2) (dLock V2) (dFill V) (dAt V) (dPur V) (dSer V) ++ (cw yI yZ b K2 V2)) rfl dX0_copyFrom_144 ?_
        refine xr_aload_n F dX0_copyFrom_147 rfl 2 rfl ?_
        refine xr_get F hin0 12 rfl rfl 12 (by decide) (List.mem_of_getElem? (i := 17) rfl) (v := .ref (b 7)) rfl dX0_copyFrom_148 ?_
        refine xr_iconst F dX0_copyFrom_151 (v := 0) (by decide) ?_
        refine xr_aload_n F dX0_copyFrom_152 rfl 1 rfl ?_
        refine xr_get F hin0 0 rfl rfl 12 (by decide) (List.mem_of_getElem? (i := 17) rfl) (v := .ref (a 7)) rfl dX0_copyFrom_153 ?_
        refine xr_iconst F dX0_copyFrom_156 (v := 0) (by decide) ?_
        refine xr_iconst F dX0_copyFrom_157 (v := 5) (by decide) ?_
        refine xr_copy F 19 7 0 (List.mem_of_getElem? (i := 8) rfl) (List.mem_of_getElem? (i := 9) rfl) (List.mem_of_getElem? (i := 10) rfl) (List.mem_of_getElem? (i := 11) rfl) 5 rfl rfl rfl rfl rfl (by decide) (fun _ _ => rfl) (Nat.le_of_ble_eq_true rfl) (Nat.le_of_ble_eq_true rfl) (cwx yI yZ a (kFee K2) (kDry K2) (kMill K2) (kMark K2) (kNb K) (kSpr K2) (kGoal K) (dHour V2) (dBank V2) (dLev V2) (dOver V2) (dDrawn V2) (dFull V2) (dLock V2) (dFill V2) (dAt V) (dPur V) (dSer V) ++ (cw yI yZ b K2 V2)) rfl dX0_copyFrom_158 ?_
        refine xr_aload_n F dX0_copyFrom_161 rfl 1 rfl ?_
        refine xr_aload_n F dX0_copyFrom_162 rfl 2 rfl ?_
        refine xr_get F hin0 12 rfl rfl 13 (by decide) (List.mem_of_getElem? (i := 18) rfl) (v := .int (nI (kNb K2))) rfl dX0_copyFrom_163 ?_
        refine xr_put (ty := .int) F hin0 0 rfl rfl 13 (by decide) tyX0 tyX0_ok nmX0 (List.mem_of_getElem? (i := 18) rfl) rfl (by decide) rfl rfl (Nat.le_of_ble_eq_true rfl) (cwx yI yZ a (kFee K2) (kDry K2) (kMill K2) (kMark K2) (kNb K2) (kSpr K2) (kGoal K) (dHour V2) (dBank V2) (dLev V2) (dOver V2) (dDrawn V2) (dFull V2) (dLock V2) (dFill V2) (dAt V) (dPur V) (dSer V) ++ (cw yI yZ b K2 V2)) rfl dX0_copyFrom_166 ?_
        refine xr_aload_n F dX0_copyFrom_169 rfl 2 rfl ?_
        refine xr_get F hin0 12 rfl rfl 14 (by decide) (List.mem_of_getElem? (i := 19) rfl) (v := .ref (b 8)) rfl dX0_copyFrom_170 ?_
        refine xr_iconst F dX0_copyFrom_173 (v := 0) (by decide) ?_
        refine xr_aload_n F dX0_copyFrom_174 rfl 1 rfl ?_
        refine xr_get F hin0 0 rfl rfl 14 (by decide) (List.mem_of_getElem? (i := 19) rfl) (v := .ref (a 8)) rfl dX0_copyFrom_175 ?_
        refine xr_iconst F dX0_copyFrom_178 (v := 0) (by decide) ?_
        refine xr_bipush F dX0_copyFrom_179 (v := 10) (by decide) ?_
        refine xr_copy F 20 8 0 (List.mem_of_getElem? (i := 8) rfl) (List.mem_of_getElem? (i := 9) rfl) (List.mem_of_getElem? (i := 10) rfl) (List.mem_of_getElem? (i := 11) rfl) 10 rfl rfl rfl rfl rfl (by decide) (fun _ _ => rfl) (Nat.le_of_ble_eq_true rfl) (Nat.le_of_ble_eq_true rfl) (cwx yI yZ a (kFee K2) (kDry K2) (kMill K2) (kMark K2) (kNb K2) (kSpr K2) (kGoal K) (dHour V2) (dBank V2) (dLev V2) (dOver V2) (dDrawn V2) (dFull V2) (dLock V2) (dFill V2) (dAt V2) (dPur V) (dSer V) ++ (cw yI yZ b K2 V2)) rfl dX0_copyFrom_181 ?_
        refine xr_aload_n F dX0_copyFrom_184 rfl 2 rfl ?_
        refine xr_get F hin0 12 rfl rfl 15 (by decide) (List.mem_of_getElem? (i := 20) rfl) (v := .ref (b 9)) rfl dX0_copyFrom_185 ?_
        refine xr_iconst F dX0_copyFrom_188 (v := 0) (by decide) ?_
        refine xr_aload_n F dX0_copyFrom_189 rfl 1 rfl ?_
        refine xr_get F hin0 0 rfl rfl 15 (by decide) (List.mem_of_getElem? (i := 20) rfl) (v := .ref (a 9)) rfl dX0_copyFrom_190 ?_
        refine xr_iconst F dX0_copyFrom_193 (v := 0) (by decide) ?_
        refine xr_bipush F dX0_copyFrom_194 (v := 10) (by decide) ?_
        refine xr_copy F 21 9 0 (List.mem_of_getElem? (i := 8) rfl) (List.mem_of_getElem? (i := 9) rfl) (List.mem_of_getElem? (i := 10) rfl) (List.mem_of_getElem? (i := 11) rfl) 10 rfl rfl rfl rfl rfl (by decide) (fun _ _ => rfl) (Nat.le_of_ble_eq_true rfl) (Nat.le_of_ble_eq_true rfl) (cwx yI yZ a (kFee K2) (kDry K2) (kMill K2) (kMark K2) (kNb K2) (kSpr K2) (kGoal K2) (dHour V2) (dBank V2) (dLev V2) (dOver V2) (dDrawn V2) (dFull V2) (dLock V2) (dFill V2) (dAt V2) (dPur V) (dSer V) ++ (cw yI yZ b K2 V2)) rfl dX0_copyFrom_196 ?_
        refine xr_aload_n F dX0_copyFrom_199 rfl 2 rfl ?_
        refine xr_get F hin0 12 rfl rfl 16 (by decide) (List.mem_of_getElem? (i := 21) rfl) (v := .ref (b 10)) rfl dX0_copyFrom_200 ?_
        refine xr_iconst F dX0_copyFrom_203 (v := 0) (by decide) ?_
        refine xr_aload_n F dX0_copyFrom_204 rfl 1 rfl ?_
        refine xr_get F hin0 0 rfl rfl 16 (by decide) (List.mem_of_getElem? (i := 21) rfl) (v := .ref (a 10)) rfl dX0_copyFrom_205 ?_
        refine xr_iconst F dX0_copyFrom_208 (v := 0) (by decide) ?_
        refine xr_bipush F dX0_copyFrom_209 (v := 10) (by decide) ?_
        refine xr_copy F 22 10 0 (List.mem_of_getElem? (i := 8) rfl) (List.mem_of_getElem? (i := 9) rfl) (List.mem_of_getElem? (i := 10) rfl) (List.mem_of_getElem? (i := 11) rfl) 10 rfl rfl rfl rfl rfl (by decide) (fun _ _ => rfl) (Nat.le_of_ble_eq_true rfl) (Nat.le_of_ble_eq_true rfl) (cwx yI yZ a (kFee K2) (kDry K2) (kMill K2) (kMark K2) (kNb K2) (kSpr K2) (kGoal K2) (dHour V2) (dBank V2) (dLev V2) (dOver V2) (dDrawn V2) (dFull V2) (dLock V2) (dFill V2) (dAt V2) (dPur V2) (dSer V) ++ (cw yI yZ b K2 V2)) rfl dX0_copyFrom_211 ?_
        refine xr_aload_n F dX0_copyFrom_214 rfl 2 rfl ?_
        refine xr_get F hin0 12 rfl rfl 17 (by decide) (List.mem_of_getElem? (i := 22) rfl) (v := .ref (b 11)) rfl dX0_copyFrom_215 ?_
        refine xr_iconst F dX0_copyFrom_218 (v := 0) (by decide) ?_
        refine xr_aload_n F dX0_copyFrom_219 rfl 1 rfl ?_
        refine xr_get F hin0 0 rfl rfl 17 (by decide) (List.mem_of_getElem? (i := 22) rfl) (v := .ref (a 11)) rfl dX0_copyFrom_220 ?_
        refine xr_iconst F dX0_copyFrom_223 (v := 0) (by decide) ?_
        refine xr_bipush F dX0_copyFrom_224 (v := 10) (by decide) ?_
        refine xr_copy F 23 11 0 (List.mem_of_getElem? (i := 8) rfl) (List.mem_of_getElem? (i := 9) rfl) (List.mem_of_getElem? (i := 10) rfl) (List.mem_of_getElem? (i := 11) rfl) 10 rfl rfl rfl rfl rfl (by decide) (fun _ _ => rfl) (Nat.le_of_ble_eq_true rfl) (Nat.le_of_ble_eq_true rfl) (cwx yI yZ a (kFee K2) (kDry K2) (kMill K2) (kMark K2) (kNb K2) (kSpr K2) (kGoal K2) (dHour V2) (dBank V2) (dLev V2) (dOver V2) (dDrawn V2) (dFull V2) (dLock V2) (dFill V2) (dAt V2) (dPur V2) (dSer V2) ++ (cw yI yZ b K2 V2)) rfl dX0_copyFrom_226 ?_
        exact ret _ _ _ dX0_copyFrom_229 rfl
      · exact (xk_ge (a := 5) (b := k) (by omega) (by omega) c112).elim
    | succ i ih =>
      intro k f hb hf
      refine xr_iload_n F dX0_copyFrom_110 rfl 0 rfl ?_
      refine xr_iconst F dX0_copyFrom_111 (v := 5) (by decide) ?_
      refine xr_icmp_ge F 133 dX0_copyFrom_112 (by decide) (fun c112 => ?_) (fun c112 => ?_)
      · exact (xk_nlt (a := k) (b := 5) (by omega) (by omega) (by omega) c112).elim
      · skip
        refine xr_aload_n F dX0_copyFrom_115 rfl 1 rfl ?_
        refine xr_get F hin0 0 rfl rfl 10 (by decide) (List.mem_of_getElem? (i := 15) rfl) (v := .ref (a 5)) rfl dX0_copyFrom_116 ?_
        refine xr_iload_n F dX0_copyFrom_119 rfl 0 rfl ?_
        refine xr_aload_n F dX0_copyFrom_120 rfl 2 rfl ?_
        refine xr_get F hin0 12 rfl rfl 10 (by decide) (List.mem_of_getElem? (i := 15) rfl) (v := .ref (b 5)) rfl dX0_copyFrom_121 ?_
        refine xr_iload_n F dX0_copyFrom_124 rfl 0 rfl ?_
        refine xr_zald F 17 1 rfl rfl (k) rfl (by omega) (by decide) dX0_copyFrom_125 ?_
        have e8 : vp_nar .boolean (dFull V2 k) = dFull V2 k := by rcases h1 k (by omega) with e | e <;> rw [e] <;> rfl
        refine xr_zast F 5 1 rfl rfl (k) rfl (by omega) (by decide) (cwx yI yZ a (kFee K2) (kDry K2) (kMill K2) (kMark K2) (kNb K) (kSpr K2) (kGoal K) (dHour V2) (dBank V2) (dLev V2) (dOver V2) (dDrawn V2) (upd f k ((dFull V2) k)) (dLock V) (dFill V) (dAt V) (dPur V) (dSer V) ++ (cw yI yZ b K2 V2)) (by rw [e8]; rfl) dX0_copyFrom_126 ?_
        refine xr_iinc F (nI (k + 1)) [(2, .int (nI (k + 1))), (0, .ref (a 0)), (1, .ref (b 0))] dX0_copyFrom_127 0 rfl (nI_add k 1) (by decide) rfl ?_
        refine xr_goto F 110 dX0_copyFrom_130 (by decide) ?_
        refine xr_lv (lv' := [(2, .int (nI (k + 1))), (0, .ref (a 0)), (1, .ref (b 0))]) [0, 1, 2] rfl ?_
        exact ih (k + 1) (upd f k ((dFull V2) k)) (by omega) (xk_updfn hf)
  refine xr_lv (lv' := [(2, .int 0), (0, .ref (a 0)), (1, .ref (b 0))]) [0, 1, 2] rfl ?_
  exact lp 5 0 (dFull V) rfl (fun j h => absurd h (Nat.not_lt_zero j))
