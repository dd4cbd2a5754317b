def rm_X0_init : Room := { frames := 1, cells := 11, slots := 81, locals := 12 }
set_option maxHeartbeats 4000000 in
set_option maxRecDepth 100000 in
/-- Canal.<init> -/
theorem k_X0_init (l : Launch) (D : va_G) (yI yZ yL : ClassId) (b0 : Nat)  : xMv l yX0_init wsX0_init rm_X0_init D (tysG yI yZ yL) (([(b0, .inr (0, [.int 0, .int 0, .int 0, .int 0, .int 0, .int 0, .null, .null, .null, .null, .null, .null, .null, .int 0, .null, .null, .null, .null]))] : va_W)) [.ref b0] 11 81 (fun W1 : va_W => ∃ o : Nat → Nat, o 0 = b0 ∧ W1 = cw yI yZ o K_start D_start) := by
  refine xE_v (cc := cX0_init) (nL := 2) (by decide) rfl (Nat.le_of_ble_eq_true rfl) ?_
  intro p e s m args below meth c A Q F hnm ret
  have hin0 : ∀ w ∈ u_ws RX0 TX0 18, w ∈ wsX0_init := by decide +kernel
  show AW p l e rm_X0_init s m args below meth c 2 D A 0 0 Q (([(b0, .inr (0, [.int 0, .int 0, .int 0, .int 0, .int 0, .int 0, .null, .null, .null, .null, .null, .null, .null, .int 0, .null, .null, .null, .null]))] : va_W)) [(0, .ref b0)] 0 []
  refine xr_aload_n F dX0_init_0 rfl 0 rfl ?_
  refine xr_objInit F (List.mem_of_getElem? (i := 1) rfl) (List.mem_of_getElem? (i := 2) rfl) (List.mem_of_getElem? (i := 3) rfl) dX0_init_1 (Nat.le_of_ble_eq_true rfl) (Nat.le_of_ble_eq_true rfl) ?_
  refine xr_aload_n F dX0_init_4 rfl 0 rfl ?_
  refine xr_iconst F dX0_init_5 (v := 1) (by decide) ?_
  refine xr_put (ty := .int) F hin0 0 rfl rfl 2 (by decide) tyX0 tyX0_ok nmX0 (List.mem_of_getElem? (i := 4) rfl) rfl (by decide) rfl rfl (Nat.le_of_ble_eq_true rfl) (([(b0, .inr (0, [.int 0, .int 0, .int 1, .int 0, .int 0, .int 0, .null, .null, .null, .null, .null, .null, .null, .int 0, .null, .null, .null, .null]))] : va_W)) rfl dX0_init_6 ?_
  refine xr_aload_n F dX0_init_9 rfl 0 rfl ?_
  refine xr_iconst F dX0_init_10 (v := (-1)) (by decide) ?_
  refine xr_put (ty := .int) F hin0 0 rfl rfl 4 (by decide) tyX0 tyX0_ok nmX0 (List.mem_of_getElem? (i := 5) rfl) rfl (by decide) rfl rfl (Nat.le_of_ble_eq_true rfl) (([(b0, .inr (0, [.int 0, .int 0, .int 1, .int 0, .int ((-1)), .int 0, .null, .null, .null, .null, .null, .null, .null, .int 0, .null, .null, .null, .null]))] : va_W)) rfl dX0_init_11 ?_
  refine xr_aload_n F dX0_init_14 rfl 0 rfl ?_
  refine xr_bipush F dX0_init_15 (v := 50) (by decide) ?_
  refine xr_put (ty := .int) F hin0 0 rfl rfl 5 (by decide) tyX0 tyX0_ok nmX0 (List.mem_of_getElem? (i := 6) rfl) rfl (by decide) rfl rfl (Nat.le_of_ble_eq_true rfl) (([(b0, .inr (0, [.int 0, .int 0, .int 1, .int 0, .int ((-1)), .int 50, .null, .null, .null, .null, .null, .null, .null, .int 0, .null, .null, .null, .null]))] : va_W)) rfl dX0_init_17 ?_
  refine xr_aload_n F dX0_init_20 rfl 0 rfl ?_
  refine xr_bipush F dX0_init_21 (v := 8) (by decide) ?_
  refine xr_newa F 0 (ty := .int) rfl (fun _ h => h) (List.mem_of_getElem? (i := 7) rfl) rfl 8 rfl (by decide) (8, .inl (fun _ => 0)) (fun _ => rfl) (Nat.le_of_ble_eq_true rfl) (Nat.le_of_ble_eq_true rfl) (Nat.le_of_ble_eq_true rfl) dX0_init_23 (fun q1 => ?_)
  refine xr_ws (ws' := ([(b0, .inr (0, [.int 0, .int 0, .int 1, .int 0, .int ((-1)), .int 50, .null, .null, .null, .null, .null, .null, .null, .int 0, .null, .null, .null, .null]))] : va_W) ++ (([(q1, .inl (yI, 8, .inl (fun _ => 0)))] : va_W))) rfl ?_
  refine xr_putF (ty := .array .int) F hin0 0 rfl rfl 6 (by decide) tyX0 tyX0_ok nmX0 (List.mem_of_getElem? (i := 8) rfl) rfl hnm rfl (by decide) rfl rfl (Nat.le_of_ble_eq_true rfl) (([(b0, .inr (0, [.int 0, .int 0, .int 1, .int 0, .int ((-1)), .int 50, .ref q1, .null, .null, .null, .null, .null, .null, .int 0, .null, .null, .null, .null]))] : va_W) ++ (([(q1, .inl (yI, 8, .inl (fun _ => 0)))] : va_W))) rfl dX0_init_25 ?_
  refine xr_aload_n F dX0_init_28 rfl 0 rfl ?_
  refine xr_bipush F dX0_init_29 (v := 6) (by decide) ?_
  refine xr_newa F 0 (ty := .int) rfl (fun _ h => h) (List.mem_of_getElem? (i := 7) rfl) rfl 6 rfl (by decide) (6, .inl (fun _ => 0)) (fun _ => rfl) (Nat.le_of_ble_eq_true rfl) (Nat.le_of_ble_eq_true rfl) (Nat.le_of_ble_eq_true rfl) dX0_init_31 (fun q2 => ?_)
  refine xr_ws (ws' := ([(b0, .inr (0, [.int 0, .int 0, .int 1, .int 0, .int ((-1)), .int 50, .ref q1, .null, .null, .null, .null, .null, .null, .int 0, .null, .null, .null, .null]))] : va_W) ++ (([(q1, .inl (yI, 8, .inl (fun _ => 0)))] : va_W) ++ (([(q2, .inl (yI, 6, .inl (fun _ => 0)))] : va_W)))) rfl ?_
  refine xr_putF (ty := .array .int) F hin0 0 rfl rfl 7 (by decide) tyX0 tyX0_ok nmX0 (List.mem_of_getElem? (i := 9) rfl) rfl hnm rfl (by decide) rfl rfl (Nat.le_of_ble_eq_true rfl) (([(b0, .inr (0, [.int 0, .int 0, .int 1, .int 0, .int ((-1)), .int 50, .ref q1, .ref q2, .null, .null, .null, .null, .null, .int 0, .null, .null, .null, .null]))] : va_W) ++ (([(q1, .inl (yI, 8, .inl (fun _ => 0)))] : va_W) ++ (([(q2, .inl (yI, 6, .inl (fun _ => 0)))] : va_W)))) rfl dX0_init_33 ?_
  refine xr_aload_n F dX0_init_36 rfl 0 rfl ?_
  refine xr_bipush F dX0_init_37 (v := 6) (by decide) ?_
  refine xr_newa F 0 (ty := .int) rfl (fun _ h => h) (List.mem_of_getElem? (i := 7) rfl) rfl 6 rfl (by decide) (6, .inl (fun _ => 0)) (fun _ => rfl) (Nat.le_of_ble_eq_true rfl) (Nat.le_of_ble_eq_true rfl) (Nat.le_of_ble_eq_true rfl) dX0_init_39 (fun q3 => ?_)
  refine xr_ws (ws' := ([(b0, .inr (0, [.int 0, .int 0, .int 1, .int 0, .int ((-1)), .int 50, .ref q1, .ref q2, .null, .null, .null, .null, .null, .int 0, .null, .null, .null, .null]))] : va_W) ++ (([(q1, .inl (yI, 8, .inl (fun _ => 0)))] : va_W) ++ (([(q2, .inl (yI, 6, .inl (fun _ => 0)))] : va_W) ++ (([(q3, .inl (yI, 6, .inl (fun _ => 0)))] : va_W))))) rfl ?_
  refine xr_putF (ty := .array .int) F hin0 0 rfl rfl 8 (by decide) tyX0 tyX0_ok nmX0 (List.mem_of_getElem? (i := 10) rfl) rfl hnm rfl (by decide) rfl rfl (Nat.le_of_ble_eq_true rfl) (([(b0, .inr (0, [.int 0, .int 0, .int 1, .int 0, .int ((-1)), .int 50, .ref q1, .ref q2, .ref q3, .null, .null, .null, .null, .int 0, .null, .null, .null, .null]))] : va_W) ++ (([(q1, .inl (yI, 8, .inl (fun _ => 0)))] : va_W) ++ (([(q2, .inl (yI, 6, .inl (fun _ => 0)))] : va_W) ++ (([(q3, .inl (yI, 6, .inl (fun _ => 0)))] : va_W))))) rfl dX0_init_41 ?_
  refine xr_aload_n F dX0_init_44 rfl 0 rfl ?_
  refine xr_bipush F dX0_init_45 (v := 6) (by decide) ?_
  refine xr_newa F 0 (ty := .int) rfl (fun _ h => h) (List.mem_of_getElem? (i := 7) rfl) rfl 6 rfl (by decide) (6, .inl (fun _ => 0)) (fun _ => rfl) (Nat.le_of_ble_eq_true rfl) (Nat.le_of_ble_eq_true rfl) (Nat.le_of_ble_eq_true rfl) dX0_init_47 (fun q4 => ?_)
  refine xr_ws (ws' := ([(b0, .inr (0, [.int 0, .int 0, .int 1, .int 0, .int ((-1)), .int 50, .ref q1, .ref q2, .ref q3, .null, .null, .null, .null, .int 0, .null, .null, .null, .null]))] : va_W) ++ (([(q1, .inl (yI, 8, .inl (fun _ => 0)))] : va_W) ++ (([(q2, .inl (yI, 6, .inl (fun _ => 0)))] : va_W) ++ (([(q3, .inl (yI, 6, .inl (fun _ => 0)))] : va_W) ++ (([(q4, .inl (yI, 6, .inl (fun _ => 0)))] : va_W)))))) rfl ?_
  refine xr_putF (ty := .array .int) F hin0 0 rfl rfl 9 (by decide) tyX0 tyX0_ok nmX0 (List.mem_of_getElem? (i := 11) rfl) rfl hnm rfl (by decide) rfl rfl (Nat.le_of_ble_eq_true rfl) (([(b0, .inr (0, [.int 0, .int 0, .int 1, .int 0, .int ((-1)), .int 50, .ref q1, .ref q2, .ref q3, .ref q4, .null, .null, .null, .int 0, .null, .null, .null, .null]))] : va_W) ++ (([(q1, .inl (yI, 8, .inl (fun _ => 0)))] : va_W) ++ (([(q2, .inl (yI, 6, .inl (fun _ => 0)))] : va_W) ++ (([(q3, .inl (yI, 6, .inl (fun _ => 0)))] : va_W) ++ (([(q4, .inl (yI, 6, .inl (fun _ => 0)))] : va_W)))))) rfl dX0_init_49 ?_
  refine xr_aload_n F dX0_init_52 rfl 0 rfl ?_
  refine xr_iconst F dX0_init_53 (v := 5) (by decide) ?_
  refine xr_newa F 1 (ty := .boolean) rfl (fun _ h => h) (List.mem_of_getElem? (i := 12) rfl) rfl 5 rfl (by decide) (5, .inl (fun _ => 0)) (fun _ => rfl) (Nat.le_of_ble_eq_true rfl) (Nat.le_of_ble_eq_true rfl) (Nat.le_of_ble_eq_true rfl) dX0_init_54 (fun q5 => ?_)
  refine xr_ws (ws' := ([(b0, .inr (0, [.int 0, .int 0, .int 1, .int 0, .int ((-1)), .int 50, .ref q1, .ref q2, .ref q3, .ref q4, .null, .null, .null, .int 0, .null, .null, .null, .null]))] : va_W) ++ (([(q1, .inl (yI, 8, .inl (fun _ => 0)))] : va_W) ++ (([(q2, .inl (yI, 6, .inl (fun _ => 0)))] : va_W) ++ (([(q3, .inl (yI, 6, .inl (fun _ => 0)))] : va_W) ++ (([(q4, .inl (yI, 6, .inl (fun _ => 0)))] : va_W) ++ (([(q5, .inl (yZ, 5, .inl (fun _ => 0)))] : va_W))))))) rfl ?_
  refine xr_putF (ty := .array .boolean) F hin0 0 rfl rfl 10 (by decide) tyX0 tyX0_ok nmX0 (List.mem_of_getElem? (i := 13) rfl) rfl hnm rfl (by decide) rfl rfl (Nat.le_of_ble_eq_true rfl) (([(b0, .inr (0, [.int 0, .int 0, .int 1, .int 0, .int ((-1)), .int 50, .ref q1, .ref q2, .ref q3, .ref q4, .ref q5, .null, .null, .int 0, .null, .null, .null, .null]))] : va_W) ++ (([(q1, .inl (yI, 8, .inl (fun _ => 0)))] : va_W) ++ (([(q2, .inl (yI, 6, .inl (fun _ => 0)))] : va_W) ++ (([(q3, .inl (yI, 6, .inl (fun _ => 0)))] : va_W) ++ (([(q4, .inl (yI, 6, .inl (fun _ => 0)))] : va_W) ++ (([(q5, .inl (yZ, 5, .inl (fun _ => 0)))] : va_W))))))) rfl dX0_init_56 ?_
  refine xr_aload_n F dX0_init_59 rfl 0 rfl ?_
  refine xr_iconst F dX0_init_60 (v := 5) (by decide) ?_
  refine xr_newa F 0 (ty := .int) rfl (fun _ h => h) (List.mem_of_getElem? (i := 7) rfl) rfl 5 rfl (by decide) (5, .inl (fun _ => 0)) (fun _ => rfl) (Nat.le_of_ble_eq_true rfl) (Nat.le_of_ble_eq_true rfl) (Nat.le_of_ble_eq_true rfl) dX0_init_61 (fun q6 => ?_)
  refine xr_ws (ws' := ([(b0, .inr (0, [.int 0, .int 0, .int 1, .int 0, .int ((-1)), .int 50, .ref q1, .ref q2, .ref q3, .ref q4, .ref q5, .null, .null, .int 0, .null, .null, .null, .null]))] : va_W) ++ (([(q1, .inl (yI, 8, .inl (fun _ => 0)))] : va_W) ++ (([(q2, .inl (yI, 6, .inl (fun _ => 0)))] : va_W) ++ (([(q3, .inl (yI, 6, .inl (fun _ => 0)))] : va_W) ++ (([(q4, .inl (yI, 6, .inl (fun _ => 0)))] : va_W) ++ (([(q5, .inl (yZ, 5, .inl (fun _ => 0)))] : va_W) ++ (([(q6, .inl (yI, 5, .inl (fun _ => 0)))] : va_W)))))))) rfl ?_
  refine xr_putF (ty := .array .int) F hin0 0 rfl rfl 11 (by decide) tyX0 tyX0_ok nmX0 (List.mem_of_getElem? (i := 14) rfl) rfl hnm rfl (by decide) rfl rfl (Nat.le_of_ble_eq_true rfl) (([(b0, .inr (0, [.int 0, .int 0, .int 1, .int 0, .int ((-1)), .int 50, .ref q1, .ref q2, .ref q3, .ref q4, .ref q5, .ref q6, .null, .int 0, .null, .null, .null, .null]))] : va_W) ++ (([(q1, .inl (yI, 8, .inl (fun _ => 0)))] : va_W) ++ (([(q2, .inl (yI, 6, .inl (fun _ => 0)))] : va_W) ++ (([(q3, .inl (yI, 6, .inl (fun _ => 0)))] : va_W) ++ (([(q4, .inl (yI, 6, .inl (fun _ => 0)))] : va_W) ++ (([(q5, .inl (yZ, 5, .inl (fun _ => 0)))] : va_W) ++ (([(q6, .inl (yI, 5, .inl (fun _ => 0)))] : va_W)))))))) rfl dX0_init_63 ?_
  refine xr_aload_n F dX0_init_66 rfl 0 rfl ?_
  refine xr_iconst F dX0_init_67 (v := 5) (by decide) ?_
  refine xr_newa F 0 (ty := .int) rfl (fun _ h => h) (List.mem_of_getElem? (i := 7) rfl) rfl 5 rfl (by decide) (5, .inl (fun _ => 0)) (fun _ => rfl) (Nat.le_of_ble_eq_true rfl) (Nat.le_of_ble_eq_true rfl) (Nat.le_of_ble_eq_true rfl) dX0_init_68 (fun q7 => ?_)
  refine xr_ws (ws' := ([(b0, .inr (0, [.int 0, .int 0, .int 1, .int 0, .int ((-1)), .int 50, .ref q1, .ref q2, .ref q3, .ref q4, .ref q5, .ref q6, .null, .int 0, .null, .null, .null, .null]))] : va_W) ++ (([(q1, .inl (yI, 8, .inl (fun _ => 0)))] : va_W) ++ (([(q2, .inl (yI, 6, .inl (fun _ => 0)))] : va_W) ++ (([(q3, .inl (yI, 6, .inl (fun _ => 0)))] : va_W) ++ (([(q4, .inl (yI, 6, .inl (fun _ => 0)))] : va_W) ++ (([(q5, .inl (yZ, 5, .inl (fun _ => 0)))] : va_W) ++ (([(q6, .inl (yI, 5, .inl (fun _ => 0)))] : va_W) ++ (([(q7, .inl (yI, 5, .inl (fun _ => 0)))] : va_W))))))))) rfl ?_
  refine xr_putF (ty := .array .int) F hin0 0 rfl rfl 12 (by decide) tyX0 tyX0_ok nmX0 (List.mem_of_getElem? (i := 15) rfl) rfl hnm rfl (by decide) rfl rfl (Nat.le_of_ble_eq_true rfl) (([(b0, .inr (0, [.int 0, .int 0, .int 1, .int 0, .int ((-1)), .int 50, .ref q1, .ref q2, .ref q3, .ref q4, .ref q5, .ref q6, .ref q7, .int 0, .null, .null, .null, .null]))] : va_W) ++ (([(q1, .inl (yI, 8, .inl (fun _ => 0)))] : va_W) ++ (([(q2, .inl (yI, 6, .inl (fun _ => 0)))] : va_W) ++ (([(q3, .inl (yI, 6, .inl (fun _ => 0)))] : va_W) ++ (([(q4, .inl (yI, 6, .inl (fun _ => 0)))] : va_W) ++ (([(q5, .inl (yZ, 5, .inl (fun _ => 0)))] : va_W) ++ (([(q6, .inl (yI, 5, .inl (fun _ => 0)))] : va_W) ++ (([(q7, .inl (yI, 5, .inl (fun _ => 0)))] : va_W))))))))) rfl dX0_init_70 ?_
  refine xr_aload_n F dX0_init_73 rfl 0 rfl ?_
  refine xr_bipush F dX0_init_74 (v := 10) (by decide) ?_
  refine xr_newa F 0 (ty := .int) rfl (fun _ h => h) (List.mem_of_getElem? (i := 7) rfl) rfl 10 rfl (by decide) (10, .inl (fun _ => 0)) (fun _ => rfl) (Nat.le_of_ble_eq_true rfl) (Nat.le_of_ble_eq_true rfl) (Nat.le_of_ble_eq_true rfl) dX0_init_76 (fun q8 => ?_)
  refine xr_ws (ws' := ([(b0, .inr (0, [.int 0, .int 0, .int 1, .int 0, .int ((-1)), .int 50, .ref q1, .ref q2, .ref q3, .ref q4, .ref q5, .ref q6, .ref q7, .int 0, .null, .null, .null, .null]))] : va_W) ++ (([(q1, .inl (yI, 8, .inl (fun _ => 0)))] : va_W) ++ (([(q2, .inl (yI, 6, .inl (fun _ => 0)))] : va_W) ++ (([(q3, .inl (yI, 6, .inl (fun _ => 0)))] : va_W) ++ (([(q4, .inl (yI, 6, .inl (fun _ => 0)))] : va_W) ++ (([(q5, .inl (yZ, 5, .inl (fun _ => 0)))] : va_W) ++ (([(q6, .inl (yI, 5, .inl (fun _ => 0)))] : va_W) ++ (([(q7, .inl (yI, 5, .inl (fun _ => 0)))] : va_W) ++ (([(q8, .inl (yI, 10, .inl (fun _ => 0)))] : va_W)))))))))) rfl ?_
  refine xr_putF (ty := .array .int) F hin0 0 rfl rfl 14 (by decide) tyX0 tyX0_ok nmX0 (List.mem_of_getElem? (i := 16) rfl) rfl hnm rfl (by decide) rfl rfl (Nat.le_of_ble_eq_true rfl) (([(b0, .inr (0, [.int 0, .int 0, .int 1, .int 0, .int ((-1)), .int 50, .ref q1, .ref q2, .ref q3, .ref q4, .ref q5, .ref q6, .ref q7, .int 0, .ref q8, .null, .null, .null]))] : va_W) ++ (([(q1, .inl (yI, 8, .inl (fun _ => 0)))] : va_W) ++ (([(q2, .inl (yI, 6, .inl (fun _ => 0)))] : va_W) ++ (([(q3, .inl (yI, 6, .inl (fun _ => 0)))] : va_W) ++ (([(q4, .inl (yI, 6, .inl (fun _ => 0)))] : va_W) ++ (([(q5, .inl (yZ, 5, .inl (fun _ => 0)))] : va_W) ++ (([(q6, .inl (yI, 5, .inl (fun _ => 0)))] : va_W) ++ (([(q7, .inl (yI, 5, .inl (fun _ => 0)))] : va_W) ++ (([(q8, .inl (yI, 10, .inl (fun _ => 0)))] : va_W)))))))))) rfl dX0_init_78 ?_
  refine xr_aload_n F dX0_init_81 rfl 0 rfl ?_
  refine xr_bipush F dX0_init_82 (v := 10) (by decide) ?_
  refine xr_newa F 0 (ty := .int) rfl (fun _ h => h) (List.mem_of_getElem? (i := 7) rfl) rfl 10 rfl (by decide) (10, .inl (fun _ => 0)) (fun _ => rfl) (Nat.le_of_ble_eq_true rfl) (Nat.le_of_ble_eq_true rfl) (Nat.le_of_ble_eq_true rfl) dX0_init_84 (fun q9 => ?_)
  refine xr_ws (ws' := ([(b0, .inr (0, [.int 0, .int 0, .int 1, .int 0, .int ((-1)), .int 50, .ref q1, .ref q2, .ref q3, .ref q4, .ref q5, .ref q6, .ref q7, .int 0, .ref q8, .null, .null, .null]))] : va_W) ++ (([(q1, .inl (yI, 8, .inl (fun _ => 0)))] : va_W) ++ (([(q2, .inl (yI, 6, .inl (fun _ => 0)))] : va_W) ++ (([(q3, .inl (yI, 6, .inl (fun _ => 0)))] : va_W) ++ (([(q4, .inl (yI, 6, .inl (fun _ => 0)))] : va_W) ++ (([(q5, .inl (yZ, 5, .inl (fun _ => 0)))] : va_W) ++ (([(q6, .inl (yI, 5, .inl (fun _ => 0)))] : va_W) ++ (([(q7, .inl (yI, 5, .inl (fun _ => 0)))] : va_W) ++ (([(q8, .inl (yI, 10, .inl (fun _ => 0)))] : va_W) ++ (([(q9, .inl (yI, 10, .inl (fun _ => 0)))] : va_W))))))))))) rfl ?_
  refine xr_putF (ty := .array .int) F hin0 0 rfl rfl 15 (by decide) tyX0 tyX0_ok nmX0 (List.mem_of_getElem? (i := 17) rfl) rfl hnm rfl (by decide) rfl rfl (Nat.le_of_ble_eq_true rfl) (([(b0, .inr (0, [.int 0, .int 0, .int 1, .int 0, .int ((-1)), .int 50, .ref q1, .ref q2, .ref q3, .ref q4, .ref q5, .ref q6, .ref q7, .int 0, .ref q8, .ref q9, .null, .null]))] : va_W) ++ (([(q1, .inl (yI, 8, .inl (fun _ => 0)))] : va_W) ++ (([(q2, .inl (yI, 6, .inl (fun _ => 0)))] : va_W) ++ (([(q3, .inl (yI, 6, .inl (fun _ => 0)))] : va_W) ++ (([(q4, .inl (yI, 6, .inl (fun _ => 0)))] : va_W) ++ (([(q5, .inl (yZ, 5, .inl (fun _ => 0)))] : va_W) ++ (([(q6, .inl (yI, 5, .inl (fun _ => 0)))] : va_W) ++ (([(q7, .inl (yI, 5, .inl (fun _ => 0)))] : va_W) ++ (([(q8, .inl (yI, 10, .inl (fun _ => 0)))] : va_W) ++ (([(q9, .inl (yI, 10, .inl (fun _ => 0)))] : va_W))))))))))) rfl dX0_init_86 ?_
  refine xr_aload_n F dX0_init_89 rfl 0 rfl ?_
  refine xr_bipush F dX0_init_90 (v := 10) (by decide) ?_
  refine xr_newa F 0 (ty := .int) rfl (fun _ h => h) (List.mem_of_getElem? (i := 7) rfl) rfl 10 rfl (by decide) (10, .inl (fun _ => 0)) (fun _ => rfl) (Nat.le_of_ble_eq_true rfl) (Nat.le_of_ble_eq_true rfl) (Nat.le_of_ble_eq_true rfl) dX0_init_92 (fun q10 => ?_)
  refine xr_ws (ws' := ([(b0, .inr (0, [.int 0, .int 0, .int 1, .int 0, .int ((-1)), .int 50, .ref q1, .ref q2, .ref q3, .ref q4, .ref q5, .ref q6, .ref q7, .int 0, .ref q8, .ref q9, .null, .null]))] : va_W) ++ (([(q1, .inl (yI, 8, .inl (fun _ => 0)))] : va_W) ++ (([(q2, .inl (yI, 6, .inl (fun _ => 0)))] : va_W) ++ (([(q3, .inl (yI, 6, .inl (fun _ => 0)))] : va_W) ++ (([(q4, .inl (yI, 6, .inl (fun _ => 0)))] : va_W) ++ (([(q5, .inl (yZ, 5, .inl (fun _ => 0)))] : va_W) ++ (([(q6, .inl (yI, 5, .inl (fun _ => 0)))] : va_W) ++ (([(q7, .inl (yI, 5, .inl (fun _ => 0)))] : va_W) ++ (([(q8, .inl (yI, 10, .inl (fun _ => 0)))] : va_W) ++ (([(q9, .inl (yI, 10, .inl (fun _ => 0)))] : va_W) ++ (([(q10, .inl (yI, 10, .inl (fun _ => 0)))] : va_W)))))))))))) rfl ?_
  refine xr_putF (ty := .array .int) F hin0 0 rfl rfl 16 (by decide) tyX0 tyX0_ok nmX0 (List.mem_of_getElem? (i := 18) rfl) rfl hnm rfl (by decide) rfl rfl (Nat.le_of_ble_eq_true rfl) (([(b0, .inr (0, [.int 0, .int 0, .int 1, .int 0, .int ((-1)), .int 50, .ref q1, .ref q2, .ref q3, .ref q4, .ref q5, .ref q6, .ref q7, .int 0, .ref q8, .ref q9, .ref q10, .null]))] : va_W) ++ (([(q1, .inl (yI, 8, .inl (fun _ => 0)))] : va_W) ++ (([(q2, .inl (yI, 6, .inl (fun _ => 0)))] : va_W) ++ (([(q3, .inl (yI, 6, .inl (fun _ => 0)))] : va_W) ++ (([(q4, .inl (yI, 6, .inl (fun _ => 0)))] : va_W) ++ (([(q5, .inl (yZ, 5, .inl (fun _ => 0)))] : va_W) ++ (([(q6, .inl (yI, 5, .inl (fun _ => 0)))] : va_W) ++ (([(q7, .inl (yI, 5, .inl (fun _ => 0)))] : va_W) ++ (([(q8, .inl (yI, 10, .inl (fun _ => 0)))] : va_W) ++ (([(q9, .inl (yI, 10, .inl (fun _ => 0)))] : va_W) ++ (([(q10, .inl (yI, 10, .inl (fun _ => 0)))] : va_W)))))))))))) rfl dX0_init_94 ?_
  refine xr_aload_n F dX0_init_97 rfl 0 rfl ?_
  refine xr_bipush F dX0_init_98 (v := 10) (by decide) ?_
  refine xr_newa F 0 (ty := .int) rfl (fun _ h => h) (List.mem_of_getElem? (i := 7) rfl) rfl 10 rfl (by decide) (10, .inl (fun _ => 0)) (fun _ => rfl) (Nat.le_of_ble_eq_true rfl) (Nat.le_of_ble_eq_true rfl) (Nat.le_of_ble_eq_true rfl) dX0_init_100 (fun q11 => ?_)
  refine xr_ws (ws' := ([(b0, .inr (0, [.int 0, .int 0, .int 1, .int 0, .int ((-1)), .int 50, .ref q1, .ref q2, .ref q3, .ref q4, .ref q5, .ref q6, .ref q7, .int 0, .ref q8, .ref q9, .ref q10, .null]))] : va_W) ++ (([(q1, .inl (yI, 8, .inl (fun _ => 0)))] : va_W) ++ (([(q2, .inl (yI, 6, .inl (fun _ => 0)))] : va_W) ++ (([(q3, .inl (yI, 6, .inl (fun _ => 0)))] : va_W) ++ (([(q4, .inl (yI, 6, .inl (fun _ => 0)))] : va_W) ++ (([(q5, .inl (yZ, 5, .inl (fun _ => 0)))] : va_W) ++ (([(q6, .inl (yI, 5, .inl (fun _ => 0)))] : va_W) ++ (([(q7, .inl (yI, 5, .inl (fun _ => 0)))] : va_W) ++ (([(q8, .inl (yI, 10, .inl (fun _ => 0)))] : va_W) ++ (([(q9, .inl (yI, 10, .inl (fun _ => 0)))] : va_W) ++ (([(q10, .inl (yI, 10, .inl (fun _ => 0)))] : va_W) ++ (([(q11, .inl (yI, 10, .inl (fun _ => 0)))] : va_W))))))))))))) rfl ?_
  refine xr_putF (ty := .array .int) F hin0 0 rfl rfl 17 (by decide) tyX0 tyX0_ok nmX0 (List.mem_of_getElem? (i := 19) rfl) rfl hnm rfl (by decide) rfl rfl (Nat.le_of_ble_eq_true rfl) (([(b0, .inr (0, [.int 0, .int 0, .int 1, .int 0, .int ((-1)), .int 50, .ref q1, .ref q2, .ref q3, .ref q4, .ref q5, .ref q6, .ref q7, .int 0, .ref q8, .ref q9, .ref q10, .ref q11]))] : va_W) ++ (([(q1, .inl (yI, 8, .inl (fun _ => 0)))] : va_W) ++ (([(q2, .inl (yI, 6, .inl (fun _ => 0)))] : va_W) ++ (([(q3, .inl (yI, 6, .inl (fun _ => 0)))] : va_W) ++ (([(q4, .inl (yI, 6, .inl (fun _ => 0)))] : va_W) ++ (([(q5, .inl (yZ, 5, .inl (fun _ => 0)))] : va_W) ++ (([(q6, .inl (yI, 5, .inl (fun _ => 0)))] : va_W) ++ (([(q7, .inl (yI, 5, .inl (fun _ => 0)))] : va_W) ++ (([(q8, .inl (yI, 10, .inl (fun _ => 0)))] : va_W) ++ (([(q9, .inl (yI, 10, .inl (fun _ => 0)))] : va_W) ++ (([(q10, .inl (yI, 10, .inl (fun _ => 0)))] : va_W) ++ (([(q11, .inl (yI, 10, .inl (fun _ => 0)))] : va_W))))))))))))) rfl dX0_init_102 ?_
  refine xr_iconst F dX0_init_105 (v := 0) (by decide) ?_
  refine xr_istore_n F [(1, .int 0), (0, .ref b0)] dX0_init_106 rfl (by decide) rfl ?_
  have lp1 : ∀ (i : Nat) (b : Nat) (f : Nat → Int32), i + b = 8 → (∀ j, j < b → f j = 8) → AW p l e rm_X0_init s m args below meth c 2 D A 11 81 Q (([(b0, .inr (0, [.int 0, .int 0, .int 1, .int 0, .int ((-1)), .int 50, .ref q1, .ref q2, .ref q3, .ref q4, .ref q5, .ref q6, .ref q7, .int 0, .ref q8, .ref q9, .ref q10, .ref q11]))] : va_W) ++ (([(q1, .inl (yI, 8, .inl f))] : va_W) ++ (([(q2, .inl (yI, 6, .inl (fun _ => 0)))] : va_W) ++ (([(q3, .inl (yI, 6, .inl (fun _ => 0)))] : va_W) ++ (([(q4, .inl (yI, 6, .inl (fun _ => 0)))] : va_W) ++ (([(q5, .inl (yZ, 5, .inl (fun _ => 0)))] : va_W) ++ (([(q6, .inl (yI, 5, .inl (fun _ => 0)))] : va_W) ++ (([(q7, .inl (yI, 5, .inl (fun _ => 0)))] : va_W) ++ (([(q8, .inl (yI, 10, .inl (fun _ => 0)))] : va_W) ++ (([(q9, .inl (yI, 10, .inl (fun _ => 0)))] : va_W) ++ (([(q10, .inl (yI, 10, .inl (fun _ => 0)))] : va_W) ++ (([(q11, .inl (yI, 10, .inl (fun _ => 0)))] : va_W))))))))))))) [(1, .int (nI b)), (0, .ref b0)] 107 [] := by
    intro i
    induction i with
    | zero =>
      intro b f hb hf
      refine xr_iload_n F dX0_init_107 rfl 0 rfl ?_
      refine xr_bipush F dX0_init_108 (v := 8) (by decide) ?_
      refine xr_icmp_ge F 127 dX0_init_110 (by decide) (fun c110 => ?_) (fun c110 => ?_)
      · skip
        refine xr_fc 1 (fun _ => 8) rfl (fun j h => hf j (by omega)) (([(b0, .inr (0, [.int 0, .int 0, .int 1, .int 0, .int ((-1)), .int 50, .ref q1, .ref q2, .ref q3, .ref q4, .ref q5, .ref q6, .ref q7, .int 0, .ref q8, .ref q9, .ref q10, .ref q11]))] : va_W) ++ (([(q1, .inl (yI, 8, .inl (fun _ => 8)))] : va_W) ++ (([(q2, .inl (yI, 6, .inl (fun _ => 0)))] : va_W) ++ (([(q3, .inl (yI, 6, .inl (fun _ => 0)))] : va_W) ++ (([(q4, .inl (yI, 6, .inl (fun _ => 0)))] : va_W) ++ (([(q5, .inl (yZ, 5, .inl (fun _ => 0)))] : va_W) ++ (([(q6, .inl (yI, 5, .inl (fun _ => 0)))] : va_W) ++ (([(q7, .inl (yI, 5, .inl (fun _ => 0)))] : va_W) ++ (([(q8, .inl (yI, 10, .inl (fun _ => 0)))] : va_W) ++ (([(q9, .inl (yI, 10, .inl (fun _ => 0)))] : va_W) ++ (([(q10, .inl (yI, 10, .inl (fun _ => 0)))] : va_W) ++ (([(q11, .inl (yI, 10, .inl (fun _ => 0)))] : va_W))))))))))))) rfl ?_
        refine xr_iconst F dX0_init_127 (v := 0) (by decide) ?_
        refine xr_istore_n F [(1, .int 0), (0, .ref b0)] dX0_init_128 rfl (by decide) rfl ?_
        have lp2 : ∀ (i : Nat) (b : Nat) (f : Nat → Int32), i + b = 6 → (∀ j, j < b → f j = 60) → AW p l e rm_X0_init s m args below meth c 2 D A 11 81 Q (([(b0, .inr (0, [.int 0, .int 0, .int 1, .int 0, .int ((-1)), .int 50, .ref q1, .ref q2, .ref q3, .ref q4, .ref q5, .ref q6, .ref q7, .int 0, .ref q8, .ref q9, .ref q10, .ref q11]))] : va_W) ++ (([(q1, .inl (yI, 8, .inl (fun _ => 8)))] : va_W) ++ (([(q2, .inl (yI, 6, .inl f))] : va_W) ++ (([(q3, .inl (yI, 6, .inl (fun _ => 0)))] : va_W) ++ (([(q4, .inl (yI, 6, .inl (fun _ => 0)))] : va_W) ++ (([(q5, .inl (yZ, 5, .inl (fun _ => 0)))] : va_W) ++ (([(q6, .inl (yI, 5, .inl (fun _ => 0)))] : va_W) ++ (([(q7, .inl (yI, 5, .inl (fun _ => 0)))] : va_W) ++ (([(q8, .inl (yI, 10, .inl (fun _ => 0)))] : va_W) ++ (([(q9, .inl (yI, 10, .inl (fun _ => 0)))] : va_W) ++ (([(q10, .inl (yI, 10, .inl (fun _ => 0)))] : va_W) ++ (([(q11, .inl (yI, 10, .inl (fun _ => 0)))] : va_W))))))))))))) [(1, .int (nI b)), (0, .ref b0)] 129 [] := by
          intro i
          induction i with
          | zero =>
            intro b f hb hf
            refine xr_iload_n F dX0_init_129 rfl 0 rfl ?_
            refine xr_bipush F dX0_init_130 (v := 6) (by decide) ?_
            refine xr_icmp_ge F 149 dX0_init_132 (by decide) (fun c132 => ?_) (fun c132 => ?_)
            · skip
              refine xr_fc 2 (fun _ => 60) rfl (fun j h => hf j (by omega)) (([(b0, .inr (0, [.int 0, .int 0, .int 1, .int 0, .int ((-1)), .int 50, .ref q1, .ref q2, .ref q3, .ref q4, .ref q5, .ref q6, .ref q7, .int 0, .ref q8, .ref q9, .ref q10, .ref q11]))] : va_W) ++ (([(q1, .inl (yI, 8, .inl (fun _ => 8)))] : va_W) ++ (([(q2, .inl (yI, 6, .inl (fun _ => 60)))] : va_W) ++ (([(q3, .inl (yI, 6, .inl (fun _ => 0)))] : va_W) ++ (([(q4, .inl (yI, 6, .inl (fun _ => 0)))] : va_W) ++ (([(q5, .inl (yZ, 5, .inl (fun _ => 0)))] : va_W) ++ (([(q6, .inl (yI, 5, .inl (fun _ => 0)))] : va_W) ++ (([(q7, .inl (yI, 5, .inl (fun _ => 0)))] : va_W) ++ (([(q8, .inl (yI, 10, .inl (fun _ => 0)))] : va_W) ++ (([(q9, .inl (yI, 10, .inl (fun _ => 0)))] : va_W) ++ (([(q10, .inl (yI, 10, .inl (fun _ => 0)))] : va_W) ++ (([(q11, .inl (yI, 10, .inl (fun _ => 0)))] : va_W))))))))))))) rfl ?_
              exact ret _ _ _ dX0_init_149 ⟨(fun i => [b0, q1, q2, q3, q4, q5, q6, q7, q8, q9, q10, q11].getD i 0), rfl, rfl⟩
            · exact (xk_ge (a := 6) (b := b) (by omega) (by omega) c132).elim
          | succ i ih =>
            intro b f hb hf
            refine xr_iload_n F dX0_init_129 rfl 0 rfl ?_
            refine xr_bipush F dX0_init_130 (v := 6) (by decide) ?_
            refine xr_icmp_ge F 149 dX0_init_132 (by decide) (fun c132 => ?_) (fun c132 => ?_)
            · exact (xk_nlt (a := b) (b := 6) (by omega) (by omega) (by omega) c132).elim
            · skip
              refine xr_aload_n F dX0_init_135 rfl 1 rfl ?_
              refine xr_get F hin0 0 rfl rfl 7 (by decide) (List.mem_of_getElem? (i := 9) rfl) (v := .ref q2) rfl dX0_init_136 ?_
              refine xr_iload_n F dX0_init_139 rfl 0 rfl ?_
              refine xr_bipush F dX0_init_140 (v := 60) (by decide) ?_
              refine xr_iast F 2 0 rfl rfl (b) rfl (by omega) (by decide) (([(b0, .inr (0, [.int 0, .int 0, .int 1, .int 0, .int ((-1)), .int 50, .ref q1, .ref q2, .ref q3, .ref q4, .ref q5, .ref q6, .ref q7, .int 0, .ref q8, .ref q9, .ref q10, .ref q11]))] : va_W) ++ (([(q1, .inl (yI, 8, .inl (fun _ => 8)))] : va_W) ++ (([(q2, .inl (yI, 6, .inl (upd f b 60)))] : va_W) ++ (([(q3, .inl (yI, 6, .inl (fun _ => 0)))] : va_W) ++ (([(q4, .inl (yI, 6, .inl (fun _ => 0)))] : va_W) ++ (([(q5, .inl (yZ, 5, .inl (fun _ => 0)))] : va_W) ++ (([(q6, .inl (yI, 5, .inl (fun _ => 0)))] : va_W) ++ (([(q7, .inl (yI, 5, .inl (fun _ => 0)))] : va_W) ++ (([(q8, .inl (yI, 10, .inl (fun _ => 0)))] : va_W) ++ (([(q9, .inl (yI, 10, .inl (fun _ => 0)))] : va_W) ++ (([(q10, .inl (yI, 10, .inl (fun _ => 0)))] : va_W) ++ (([(q11, .inl (yI, 10, .inl (fun _ => 0)))] : va_W))))))))))))) rfl dX0_init_142 ?_
              refine xr_iinc F (nI (b + 1)) [(1, .int (nI (b + 1))), (0, .ref b0)] dX0_init_143 0 rfl (nI_add b 1) (by decide) rfl ?_
              refine xr_goto F 129 dX0_init_146 (by decide) ?_
              refine xr_lv (lv' := [(1, .int (nI (b + 1))), (0, .ref b0)]) [0, 1] rfl ?_
              exact ih (b + 1) (upd f b 60) (by omega) (xk_updall hf)
        refine xr_lv (lv' := [(1, .int 0), (0, .ref b0)]) [0, 1] rfl ?_
        exact lp2 6 0 (fun _ => 0) rfl (fun j h => absurd h (Nat.not_lt_zero j))
      · exact (xk_ge (a := 8) (b := b) (by omega) (by omega) c110).elim
    | succ i ih =>
      intro b f hb hf
      refine xr_iload_n F dX0_init_107 rfl 0 rfl ?_
      refine xr_bipush F dX0_init_108 (v := 8) (by decide) ?_
      refine xr_icmp_ge F 127 dX0_init_110 (by decide) (fun c110 => ?_) (fun c110 => ?_)
      · exact (xk_nlt (a := b) (b := 8) (by omega) (by omega) (by omega) c110).elim
      · skip
        refine xr_aload_n F dX0_init_113 rfl 1 rfl ?_
        refine xr_get F hin0 0 rfl rfl 6 (by decide) (List.mem_of_getElem? (i := 8) rfl) (v := .ref q1) rfl dX0_init_114 ?_
        refine xr_iload_n F dX0_init_117 rfl 0 rfl ?_
        refine xr_bipush F dX0_init_118 (v := 8) (by decide) ?_
        refine xr_iast F 1 0 rfl rfl (b) rfl (by omega) (by decide) (([(b0, .inr (0, [.int 0, .int 0, .int 1, .int 0, .int ((-1)), .int 50, .ref q1, .ref q2, .ref q3, .ref q4, .ref q5, .ref q6, .ref q7, .int 0, .ref q8, .ref q9, .ref q10, .ref q11]))] : va_W) ++ (([(q1, .inl (yI, 8, .inl (upd f b 8)))] : va_W) ++ (([(q2, .inl (yI, 6, .inl (fun _ => 0)))] : va_W) ++ (([(q3, .inl (yI, 6, .inl (fun _ => 0)))] : va_W) ++ (([(q4, .inl (yI, 6, .inl (fun _ => 0)))] : va_W) ++ (([(q5, .inl (yZ, 5, .inl (fun _ => 0)))] : va_W) ++ (([(q6, .inl (yI, 5, .inl (fun _ => 0)))] : va_W) ++ (([(q7, .inl (yI, 5, .inl (fun _ => 0)))] : va_W) ++ (([(q8, .inl (yI, 10, .inl (fun _ => 0)))] : va_W) ++ (([(q9, .inl (yI, 10, .inl (fun _ => 0)))] : va_W) ++ (([(q10, .inl (yI, 10, .inl (fun _ => 0)))] : va_W) ++ (([(q11, .inl (yI, 10, .inl (fun _ => 0)))] : va_W))))))))))))) rfl dX0_init_120 ?_
        refine xr_iinc F (nI (b + 1)) [(1, .int (nI (b + 1))), (0, .ref b0)] dX0_init_121 0 rfl (nI_add b 1) (by decide) rfl ?_
        refine xr_goto F 107 dX0_init_124 (by decide) ?_
        refine xr_lv (lv' := [(1, .int (nI (b + 1))), (0, .ref b0)]) [0, 1] rfl ?_
        exact ih (b + 1) (upd f b 8) (by omega) (xk_updall hf)
  refine xr_lv (lv' := [(1, .int 0), (0, .ref b0)]) [0, 1] rfl ?_
  exact lp1 8 0 (fun _ => 0) rfl (fun j h => absurd h (Nat.not_lt_zero j))

def rm_X1_init : Room := { frames := 2, cells := 24, slots := 198, locals := 33 }
set_option maxHeartbeats 4000000 in
set_option maxRecDepth 100000 in
/-- LockBank.<init> -/
theorem k_X1_init (l : Launch) (D : va_G) (yI yZ yL : ClassId) (b0 : Nat)  : xMv l yX1_init wsX1_init rm_X1_init D (tysG yI yZ yL) (([(b0, .inr (1, [.null, .null]))] : va_W)) [.ref b0] 24 198 (fun W1 : va_W => ∃ a t : Nat → Nat, W1 = bw b0 a t ++ (cw yI yZ a K_start D_start ++ cw yI yZ t K_start D_start)) := by
  refine xE_v (cc := cX1_init) (nL := 1) (by decide) rfl (Nat.le_of_ble_eq_true rfl) ?_
  intro p e s m args below meth c A Q F hnm ret
  have hin0 : ∀ w ∈ u_ws RX0 TX0 18, w ∈ wsX1_init := by decide +kernel
  have hin1 : ∀ w ∈ u_ws RX1 TX1 2, w ∈ wsX1_init := by decide +kernel
  show AW p l e rm_X1_init s m args below meth c 1 D A 0 0 Q (([(b0, .inr (1, [.null, .null]))] : va_W)) [(0, .ref b0)] 0 []
  refine xr_aload_n F dX1_init_0 rfl 0 rfl ?_
  refine xr_objInit F (List.mem_of_getElem? (i := 1) rfl) (List.mem_of_getElem? (i := 2) rfl) (List.mem_of_getElem? (i := 3) rfl) dX1_init_1 (Nat.le_of_ble_eq_true rfl) (Nat.le_of_ble_eq_true rfl) ?_
  refine xr_aload_n F dX1_init_4 rfl 0 rfl ?_
  refine xr_new F (ci := 0) hin0 tyX0 tyX0_ok (List.mem_of_getElem? (i := 4) rfl) (List.mem_of_getElem? (i := 5) rfl) (List.mem_of_getElem? (i := 6) rfl) rfl [.int 0, .int 0, .int 0, .int 0, .int 0, .int 0, .null, .null, .null, .null, .null, .null, .null, .int 0, .null, .null, .null, .null] (by decide +kernel) (Nat.le_of_ble_eq_true rfl) (Nat.le_of_ble_eq_true rfl) dX1_init_5 (fun q1 => ?_)
  refine xr_ws (ws' := ([(b0, .inr (1, [.null, .null]))] : va_W) ++ (([(q1, .inr (0, [.int 0, .int 0, .int 0, .int 0, .int 0, .int 0, .null, .null, .null, .null, .null, .null, .null, .int 0, .null, .null, .null, .null]))] : va_W))) rfl ?_
  refine xr_dup F dX1_init_8 rfl ?_
  refine xr_callIv F (wr := ([(b0, .inr (1, [.null, .null]))] : va_W)) (rest := [.ref q1, .ref b0]) (As := []) (k_X0_init l D yI yZ yL q1) (cwI 0 F.hts gX1_init_X0_init rfl rfl rfl (F.hts _ (List.mem_of_getElem? (i := 6) rfl)) (F.hts _ (List.mem_of_getElem? (i := 9) rfl)) (F.hts _ (List.mem_of_getElem? (i := 10) rfl)) rfl (by decide +kernel) ⟨Nat.le_of_ble_eq_true rfl, Nat.le_of_ble_eq_true rfl⟩) [1] [0] rfl rfl (by decide) (by decide) (by decide) rfl rfl (Nat.le_of_ble_eq_true rfl) dX1_init_9 ⟨Nat.le_of_ble_eq_true rfl, Nat.le_of_ble_eq_true rfl⟩ (fun W1 z1 => ?_)
  obtain ⟨o2, z0, z1⟩ := z1
  subst z0
  subst z1
  refine xr_ws (ws' := ([(b0, .inr (1, [.null, .null]))] : va_W) ++ (cw yI yZ o2 K_start D_start)) rfl ?_
  refine xr_putF (ty := .object "LockBank$Canal") F hin1 0 rfl rfl 0 (by decide) tyX1 tyX1_ok nmX1 (List.mem_of_getElem? (i := 7) rfl) rfl hnm rfl (by decide) rfl rfl (Nat.le_of_ble_eq_true rfl) (([(b0, .inr (1, [.ref (o2 0), .null]))] : va_W) ++ (cw yI yZ o2 K_start D_start)) rfl dX1_init_12 ?_
  refine xr_aload_n F dX1_init_15 rfl 0 rfl ?_
  refine xr_new F (ci := 0) hin0 tyX0 tyX0_ok (List.mem_of_getElem? (i := 4) rfl) (List.mem_of_getElem? (i := 5) rfl) (List.mem_of_getElem? (i := 6) rfl) rfl [.int 0, .int 0, .int 0, .int 0, .int 0, .int 0, .null, .null, .null, .null, .null, .null, .null, .int 0, .null, .null, .null, .null] (by decide +kernel) (Nat.le_of_ble_eq_true rfl) (Nat.le_of_ble_eq_true rfl) dX1_init_16 (fun q3 => ?_)
  refine xr_ws (ws' := ([(b0, .inr (1, [.ref (o2 0), .null]))] : va_W) ++ (cw yI yZ o2 K_start D_start ++ (([(q3, .inr (0, [.int 0, .int 0, .int 0, .int 0, .int 0, .int 0, .null, .null, .null, .null, .null, .null, .null, .int 0, .null, .null, .null, .null]))] : va_W)))) rfl ?_
  refine xr_dup F dX1_init_19 rfl ?_
  refine xr_callIv F (wr := ([(b0, .inr (1, [.ref (o2 0), .null]))] : va_W) ++ (cw yI yZ o2 K_start D_start)) (rest := [.ref q3, .ref b0]) (As := []) (k_X0_init l D yI yZ yL q3) (cwI 0 F.hts gX1_init_X0_init rfl rfl rfl (F.hts _ (List.mem_of_getElem? (i := 6) rfl)) (F.hts _ (List.mem_of_getElem? (i := 9) rfl)) (F.hts _ (List.mem_of_getElem? (i := 10) rfl)) rfl (by decide +kernel) ⟨Nat.le_of_ble_eq_true rfl, Nat.le_of_ble_eq_true rfl⟩) [13] [0, 1, 2, 3, 4, 5, 6, 7, 8, 9, 10, 11, 12] rfl rfl (by decide) (by decide) (by decide) rfl rfl (Nat.le_of_ble_eq_true rfl) dX1_init_20 ⟨Nat.le_of_ble_eq_true rfl, Nat.le_of_ble_eq_true rfl⟩ (fun W1 z1 => ?_)
  obtain ⟨o4, z0, z1⟩ := z1
  subst z0
  subst z1
  refine xr_ws (ws' := ([(b0, .inr (1, [.ref (o2 0), .null]))] : va_W) ++ (cw yI yZ o2 K_start D_start ++ (cw yI yZ o4 K_start D_start))) rfl ?_
  refine xr_putF (ty := .object "LockBank$Canal") F hin1 0 rfl rfl 1 (by decide) tyX1 tyX1_ok nmX1 (List.mem_of_getElem? (i := 8) rfl) rfl hnm rfl (by decide) rfl rfl (Nat.le_of_ble_eq_true rfl) (([(b0, .inr (1, [.ref (o2 0), .ref (o4 0)]))] : va_W) ++ (cw yI yZ o2 K_start D_start ++ (cw yI yZ o4 K_start D_start))) rfl dX1_init_23 ?_
  exact ret _ _ _ dX1_init_26 ⟨o2, o4, rfl⟩
