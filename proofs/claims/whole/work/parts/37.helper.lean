def rm_L_setSpring : Room := { frames := 8, cells := 1, slots := 6, locals := 127 }
set_option maxHeartbeats 4000000 in
set_option maxRecDepth 100000 in
/-- the law's setSpring -/
theorem k_L_setSpring (l : Launch) (D : va_G) (yI yZ yL : ClassId) (hst : l.stackTraces = false) (h : Nat) (a t : Nat → Nat) (K : CK) (V : CD) (ou : Nat) (f : Nat → Int64) (x : Int32) (y : Int32)  : xXi l yL_setSpring wsL_setSpring rm_L_setSpring D (tysG yI yZ yL) (bw h a t ++ (cw yI yZ a K V ++ (([(ou, .inl (yL, 1, .inr (.inl f)))] : va_W)))) [.ref h, .int x, .int y, .ref ou] 1 6 (fun (r : Int32) (W1 : va_W) => r = q_setSpring x y ∧ ∃ (f9 : Nat → Int64), (q_setSpring x y = 0 → f9 0 = ((kSpr K (ix x))).toInt64) ∧ W1 = bw h a t ++ (cw yI yZ a (K_spring K x y) V ++ (([(ou, .inl (yL, 1, .inr (.inl f9)))] : va_W)))) (fun _ _ => False) := by
  refine xEXH_i (cc := cL_setSpring) (nL := 5) (hh := [(0, 10, 13, 13), (0, 10, 17, 15)]) hst (by decide) rfl (Nat.le_of_ble_eq_true rfl) ?_
  intro p e s m args below meth c A Q F G htab ret
  show AW p l e rm_L_setSpring s m args below meth c 5 D A 0 0 Q (bw h a t ++ (cw yI yZ a K V ++ (([(ou, .inl (yL, 1, .inr (.inl f)))] : va_W)))) [(0, .ref h), (1, .int x), (2, .int y), (3, .ref ou)] 0 []
  refine xr_aload_n F dL_setSpring_0 rfl 3 rfl ?_
  refine xr_iconst F dL_setSpring_1 (v := 0) (by decide) ?_
  refine xr_aload_n F dL_setSpring_2 rfl 0 rfl ?_
  refine xr_iload_n F dL_setSpring_3 rfl 1 rfl ?_
  refine xr_iload_n F dL_setSpring_4 rfl 2 rfl ?_
  refine xr_callXVi F G (wr := ([(ou, .inl (yL, 1, .inr (.inl f)))] : va_W)) (rest := [.int 0, .ref ou]) (As := [.int x, .int y]) (k_X1_setSpring l D yI yZ yL hst h a t K V x y ) (cwV 2 F.hts gL_setSpring_X1_setSpring rfl rfl rfl (by decide +kernel) ⟨Nat.le_of_ble_eq_true rfl, Nat.le_of_ble_eq_true rfl⟩) (q0 := 0) rfl rfl [0, 1, 2, 3, 4, 5, 6, 7, 8, 9, 10, 11, 12] [13] rfl rfl (by decide) (by decide) (by decide) rfl rfl (Nat.le_of_ble_eq_true rfl) dL_setSpring_5 ⟨Nat.le_of_ble_eq_true rfl, Nat.le_of_ble_eq_true rfl⟩ (fun E1 W1 z1 => ?_) (fun r1 W1 z1 => ?_)
  · skip
    obtain ⟨z0, z1⟩ := z1
    subst z1
    rcases z0 with ⟨hq, z0⟩ | ⟨hq, z0⟩
    · skip
      subst z0
      refine xr_catch F G htab [] ⟨0, 10, 13, 13⟩ [⟨0, 10, 17, 15⟩] rfl (fun z hz => nomatch hz) (by decide) (by decide) (List.mem_of_getElem? (i := 1) rfl) (List.mem_of_getElem? (i := 0) rfl) (fun q9 => ?_)
      refine xr_sub (ws' := bw h a t ++ (cw yI yZ a K V ++ (([(ou, .inl (yL, 1, .inr (.inl f)))] : va_W)))) [1, 2, 3, 4, 5, 6, 7, 8, 9, 10, 11, 12, 13, 0] (by decide) rfl ?_
      refine xr_astore F [(4, .ref q9), (0, .ref h), (1, .int x), (2, .int y), (3, .ref ou)] dL_setSpring_13 (by decide) rfl ?_
      refine xr_iconst F dL_setSpring_15 (v := 1) (by decide) ?_
      have f0 : K_spring K x y = K := by rw [K_spring, if_neg (by rw [hq]; decide)]
      exact ret _ _ _ _ dL_setSpring_16 ⟨hq.symm, f, fun z => absurd (hq.symm.trans z) (by decide), by rw [f0]⟩
    · skip
      subst z0
      refine xr_catch F G htab [⟨0, 10, 13, 13⟩] ⟨0, 10, 17, 15⟩ [] rfl (fun z hz => by rcases List.mem_singleton.mp hz with rfl; exact Or.inr ⟨by decide, xE1, (List.mem_of_getElem? (i := 1) rfl), List.mem_of_getElem? (i := 0) rfl⟩) (by decide) (by decide) (List.mem_of_getElem? (i := 2) rfl) (List.mem_of_getElem? (i := 1) rfl) (fun q9 => ?_)
      refine xr_sub (ws' := bw h a t ++ (cw yI yZ a K V ++ (([(ou, .inl (yL, 1, .inr (.inl f)))] : va_W)))) [1, 2, 3, 4, 5, 6, 7, 8, 9, 10, 11, 12, 13, 0] (by decide) rfl ?_
      refine xr_astore F [(4, .ref q9), (0, .ref h), (1, .int x), (2, .int y), (3, .ref ou)] dL_setSpring_17 (by decide) rfl ?_
      refine xr_iconst F dL_setSpring_19 (v := 2) (by decide) ?_
      have f0 : K_spring K x y = K := by rw [K_spring, if_neg (by rw [hq]; decide)]
      exact ret _ _ _ _ dL_setSpring_20 ⟨hq.symm, f, fun z => absurd (hq.symm.trans z) (by decide), by rw [f0]⟩
  · skip
    obtain ⟨hq, z0, z1⟩ := z1
    subst z0
    subst z1
    refine xr_sub (ws' := bw h a t ++ (cw yI yZ a (K_spring K x y) V ++ (([(ou, .inl (yL, 1, .inr (.inl f)))] : va_W)))) [1, 2, 3, 4, 5, 6, 7, 8, 9, 10, 11, 12, 13, 0] (by decide) rfl ?_
    refine xr_i2l F dL_setSpring_8 (v := (kSpr K (ix x)).toInt64) rfl ?_
    refine xr_last F 13 2 rfl rfl (0) rfl (by decide) (by decide) (bw h a t ++ (cw yI yZ a (K_spring K x y) V ++ (([(ou, .inl (yL, 1, .inr (.inl (vp_updL f 0 ((kSpr K (ix x)).toInt64)))))] : va_W)))) rfl dL_setSpring_9 ?_
    refine xr_goto F 21 dL_setSpring_10 (by decide) ?_
    refine xr_iconst F dL_setSpring_21 (v := 0) (by decide) ?_
    exact ret _ _ _ _ dL_setSpring_22 ⟨hq.symm, _, (fun _ => rfl), rfl⟩

def rm_L_setMill : Room := { frames := 8, cells := 1, slots := 6, locals := 127 }
set_option maxHeartbeats 4000000 in
set_option maxRecDepth 100000 in
/-- the law's setMill -/
theorem k_L_setMill (l : Launch) (D : va_G) (yI yZ yL : ClassId) (hst : l.stackTraces = false) (h : Nat) (a t : Nat → Nat) (K : CK) (V : CD) (ou : Nat) (f : Nat → Int64) (x : Int32) (y : Int32)  : xXi l yL_setMill wsL_setMill rm_L_setMill D (tysG yI yZ yL) (bw h a t ++ (cw yI yZ a K V ++ (([(ou, .inl (yL, 1, .inr (.inl f)))] : va_W)))) [.ref h, .int x, .int y, .ref ou] 1 6 (fun (r : Int32) (W1 : va_W) => r = q_setMill x y ∧ ∃ (f9 : Nat → Int64), (q_setMill x y = 0 → f9 0 = ((kMark K)).toInt64) ∧ W1 = bw h a t ++ (cw yI yZ a (K_mill K x y) V ++ (([(ou, .inl (yL, 1, .inr (.inl f9)))] : va_W)))) (fun _ _ => False) := by
  refine xEXH_i (cc := cL_setMill) (nL := 5) (hh := [(0, 10, 13, 13), (0, 10, 17, 15)]) hst (by decide) rfl (Nat.le_of_ble_eq_true rfl) ?_
  intro p e s m args below meth c A Q F G htab ret
  show AW p l e rm_L_setMill s m args below meth c 5 D A 0 0 Q (bw h a t ++ (cw yI yZ a K V ++ (([(ou, .inl (yL, 1, .inr (.inl f)))] : va_W)))) [(0, .ref h), (1, .int x), (2, .int y), (3, .ref ou)] 0 []
  refine xr_aload_n F dL_setMill_0 rfl 3 rfl ?_
  refine xr_iconst F dL_setMill_1 (v := 0) (by decide) ?_
  refine xr_aload_n F dL_setMill_2 rfl 0 rfl ?_
  refine xr_iload_n F dL_setMill_3 rfl 1 rfl ?_
  refine xr_iload_n F dL_setMill_4 rfl 2 rfl ?_
  refine xr_callXVi F G (wr := ([(ou, .inl (yL, 1, .inr (.inl f)))] : va_W)) (rest := [.int 0, .ref ou]) (As := [.int x, .int y]) (k_X1_setMill l D yI yZ yL hst h a t K V x y ) (cwV 2 F.hts gL_setMill_X1_setMill rfl rfl rfl (by decide +kernel) ⟨Nat.le_of_ble_eq_true rfl, Nat.le_of_ble_eq_true rfl⟩) (q0 := 0) rfl rfl [0, 1, 2, 3, 4, 5, 6, 7, 8, 9, 10, 11, 12] [13] rfl rfl (by decide) (by decide) (by decide) rfl rfl (Nat.le_of_ble_eq_true rfl) dL_setMill_5 ⟨Nat.le_of_ble_eq_true rfl, Nat.le_of_ble_eq_true rfl⟩ (fun E1 W1 z1 => ?_) (fun r1 W1 z1 => ?_)
  · skip
    obtain ⟨z0, z1⟩ := z1
    subst z1
    rcases z0 with ⟨hq, z0⟩ | ⟨hq, z0⟩
    · skip
      subst z0
      refine xr_catch F G htab [] ⟨0, 10, 13, 13⟩ [⟨0, 10, 17, 15⟩] rfl (fun z hz => nomatch hz) (by decide) (by decide) (List.mem_of_getElem? (i := 1) rfl) (List.mem_of_getElem? (i := 0) rfl) (fun q9 => ?_)
      refine xr_sub (ws' := bw h a t ++ (cw yI yZ a K V ++ (([(ou, .inl (yL, 1, .inr (.inl f)))] : va_W)))) [1, 2, 3, 4, 5, 6, 7, 8, 9, 10, 11, 12, 13, 0] (by decide) rfl ?_
      refine xr_astore F [(4, .ref q9), (0, .ref h), (1, .int x), (2, .int y), (3, .ref ou)] dL_setMill_13 (by decide) rfl ?_
      refine xr_iconst F dL_setMill_15 (v := 1) (by decide) ?_
      have f0 : K_mill K x y = K := by rw [K_mill, if_neg (by rw [hq]; decide)]
      exact ret _ _ _ _ dL_setMill_16 ⟨hq.symm, f, fun z => absurd (hq.symm.trans z) (by decide), by rw [f0]⟩
    · skip
      subst z0
      refine xr_catch F G htab [⟨0, 10, 13, 13⟩] ⟨0, 10, 17, 15⟩ [] rfl (fun z hz => by rcases List.mem_singleton.mp hz with rfl; exact Or.inr ⟨by decide, xE1, (List.mem_of_getElem? (i := 1) rfl), List.mem_of_getElem? (i := 0) rfl⟩) (by decide) (by decide) (List.mem_of_getElem? (i := 2) rfl) (List.mem_of_getElem? (i := 1) rfl) (fun q9 => ?_)
      refine xr_sub (ws' := bw h a t ++ (cw yI yZ a K V ++ (([(ou, .inl (yL, 1, .inr (.inl f)))] : va_W)))) [1, 2, 3, 4, 5, 6, 7, 8, 9, 10, 11, 12, 13, 0] (by decide) rfl ?_
      refine xr_astore F [(4, .ref q9), (0, .ref h), (1, .int x), (2, .int y), (3, .ref ou)] dL_setMill_17 (by decide) rfl ?_
      refine xr_iconst F dL_setMill_19 (v := 2) (by decide) ?_
      have f0 : K_mill K x y = K := by rw [K_mill, if_neg (by rw [hq]; decide)]
      exact ret _ _ _ _ dL_setMill_20 ⟨hq.symm, f, fun z => absurd (hq.symm.trans z) (by decide), by rw [f0]⟩
  · skip
    obtain ⟨hq, z0, z1⟩ := z1
    subst z0
    subst z1
    refine xr_sub (ws' := bw h a t ++ (cw yI yZ a (K_mill K x y) V ++ (([(ou, .inl (yL, 1, .inr (.inl f)))] : va_W)))) [1, 2, 3, 4, 5, 6, 7, 8, 9, 10, 11, 12, 13, 0] (by decide) rfl ?_
    refine xr_i2l F dL_setMill_8 (v := (kMark K).toInt64) rfl ?_
    refine xr_last F 13 2 rfl rfl (0) rfl (by decide) (by decide) (bw h a t ++ (cw yI yZ a (K_mill K x y) V ++ (([(ou, .inl (yL, 1, .inr (.inl (vp_updL f 0 ((kMark K).toInt64)))))] : va_W)))) rfl dL_setMill_9 ?_
    refine xr_goto F 21 dL_setMill_10 (by decide) ?_
    refine xr_iconst F dL_setMill_21 (v := 0) (by decide) ?_
    exact ret _ _ _ _ dL_setMill_22 ⟨hq.symm, _, (fun _ => rfl), rfl⟩

def rm_L_setFee : Room := { frames := 8, cells := 1, slots := 6, locals := 126 }
set_option maxHeartbeats 4000000 in
set_option maxRecDepth 100000 in
/-- the law's setFee -/
theorem k_L_setFee (l : Launch) (D : va_G) (yI yZ yL : ClassId) (hst : l.stackTraces = false) (h : Nat) (a t : Nat → Nat) (K : CK) (V : CD) (ou : Nat) (f : Nat → Int64) (x : Int32)  : xXi l yL_setFee wsL_setFee rm_L_setFee D (tysG yI yZ yL) (bw h a t ++ (cw yI yZ a K V ++ (([(ou, .inl (yL, 1, .inr (.inl f)))] : va_W)))) [.ref h, .int x, .ref ou] 1 6 (fun (r : Int32) (W1 : va_W) => r = q_setFee x ∧ ∃ (f9 : Nat → Int64), (q_setFee x = 0 → f9 0 = ((kFee K)).toInt64) ∧ W1 = bw h a t ++ (cw yI yZ a (K_fee K x) V ++ (([(ou, .inl (yL, 1, .inr (.inl f9)))] : va_W)))) (fun _ _ => False) := by
  refine xEXH_i (cc := cL_setFee) (nL := 4) (hh := [(0, 9, 12, 15)]) hst (by decide) rfl (Nat.le_of_ble_eq_true rfl) ?_
  intro p e s m args below meth c A Q F G htab ret
  show AW p l e rm_L_setFee s m args below meth c 4 D A 0 0 Q (bw h a t ++ (cw yI yZ a K V ++ (([(ou, .inl (yL, 1, .inr (.inl f)))] : va_W)))) [(0, .ref h), (1, .int x), (2, .ref ou)] 0 []
  refine xr_aload_n F dL_setFee_0 rfl 2 rfl ?_
  refine xr_iconst F dL_setFee_1 (v := 0) (by decide) ?_
  refine xr_aload_n F dL_setFee_2 rfl 0 rfl ?_
  refine xr_iload_n F dL_setFee_3 rfl 1 rfl ?_
  refine xr_callXVi F G (wr := ([(ou, .inl (yL, 1, .inr (.inl f)))] : va_W)) (rest := [.int 0, .ref ou]) (As := [.int x]) (k_X1_setFee l D yI yZ yL hst h a t K V x ) (cwV 1 F.hts gL_setFee_X1_setFee rfl rfl rfl (by decide +kernel) ⟨Nat.le_of_ble_eq_true rfl, Nat.le_of_ble_eq_true rfl⟩) (q0 := 0) rfl rfl [0, 1, 2, 3, 4, 5, 6, 7, 8, 9, 10, 11, 12] [13] rfl rfl (by decide) (by decide) (by decide) rfl rfl (Nat.le_of_ble_eq_true rfl) dL_setFee_4 ⟨Nat.le_of_ble_eq_true rfl, Nat.le_of_ble_eq_true rfl⟩ (fun E1 W1 z1 => ?_) (fun r1 W1 z1 => ?_)
  · skip
    obtain ⟨z0, z1⟩ := z1
    subst z1
    obtain ⟨hq, z0⟩ := z0
    subst z0
    refine xr_catch F G htab [] ⟨0, 9, 12, 15⟩ [] rfl (fun z hz => nomatch hz) (by decide) (by decide) (List.mem_of_getElem? (i := 1) rfl) (List.mem_of_getElem? (i := 1) rfl) (fun q9 => ?_)
    refine xr_sub (ws' := bw h a t ++ (cw yI yZ a K V ++ (([(ou, .inl (yL, 1, .inr (.inl f)))] : va_W)))) [1, 2, 3, 4, 5, 6, 7, 8, 9, 10, 11, 12, 13, 0] (by decide) rfl ?_
    refine xr_astore_n F [(3, .ref q9), (0, .ref h), (1, .int x), (2, .ref ou)] dL_setFee_12 rfl (by decide) rfl ?_
    refine xr_iconst F dL_setFee_13 (v := 1) (by decide) ?_
    have f0 : K_fee K x = K := by rw [K_fee, if_neg (by rw [hq]; decide)]
    exact ret _ _ _ _ dL_setFee_14 ⟨hq.symm, f, fun z => absurd (hq.symm.trans z) (by decide), by rw [f0]⟩
  · skip
    obtain ⟨hq, z0, z1⟩ := z1
    subst z0
    subst z1
    refine xr_sub (ws' := bw h a t ++ (cw yI yZ a (K_fee K x) V ++ (([(ou, .inl (yL, 1, .inr (.inl f)))] : va_W)))) [1, 2, 3, 4, 5, 6, 7, 8, 9, 10, 11, 12, 13, 0] (by decide) rfl ?_
    refine xr_i2l F dL_setFee_7 (v := (kFee K).toInt64) rfl ?_
    refine xr_last F 13 2 rfl rfl (0) rfl (by decide) (by decide) (bw h a t ++ (cw yI yZ a (K_fee K x) V ++ (([(ou, .inl (yL, 1, .inr (.inl (vp_updL f 0 ((kFee K).toInt64)))))] : va_W)))) rfl dL_setFee_8 ?_
    refine xr_goto F 15 dL_setFee_9 (by decide) ?_
    refine xr_iconst F dL_setFee_15 (v := 0) (by decide) ?_
    exact ret _ _ _ _ dL_setFee_16 ⟨hq.symm, _, (fun _ => rfl), rfl⟩

def rm_L_water : Room := { frames := 8, cells := 1, slots := 6, locals := 127 }
set_option maxHeartbeats 4000000 in
set_option maxRecDepth 100000 in
/-- the law's water -/
theorem k_L_water (l : Launch) (D : va_G) (yI yZ yL : ClassId) (hst : l.stackTraces = false) (h : Nat) (a t : Nat → Nat) (K : CK) (V : CD) (ou : Nat) (f : Nat → Int64) (x : Int32) (y : Int32)  : xXi l yL_water wsL_water rm_L_water D (tysG yI yZ yL) (bw h a t ++ (cw yI yZ a K V ++ (([(ou, .inl (yL, 1, .inr (.inl f)))] : va_W)))) [.ref h, .int x, .int y, .ref ou] 1 6 (fun (r : Int32) (W1 : va_W) => r = q_water V x y ∧ ∃ (f9 : Nat → Int64), (q_water V x y = 0 → f9 0 = ((dBank (C_water V x y))).toInt64) ∧ W1 = bw h a t ++ (cw yI yZ a K (C_water V x y) ++ (([(ou, .inl (yL, 1, .inr (.inl f9)))] : va_W)))) (fun _ _ => False) := by
  refine xEXH_i (cc := cL_water) (nL := 5) (hh := [(0, 10, 13, 13), (0, 10, 17, 15), (0, 10, 21, 27)]) hst (by decide) rfl (Nat.le_of_ble_eq_true rfl) ?_
  intro p e s m args below meth c A Q F G htab ret
  show AW p l e rm_L_water s m args below meth c 5 D A 0 0 Q (bw h a t ++ (cw yI yZ a K V ++ (([(ou, .inl (yL, 1, .inr (.inl f)))] : va_W)))) [(0, .ref h), (1, .int x), (2, .int y), (3, .ref ou)] 0 []
  refine xr_aload_n F dL_water_0 rfl 3 rfl ?_
  refine xr_iconst F dL_water_1 (v := 0) (by decide) ?_
  refine xr_aload_n F dL_water_2 rfl 0 rfl ?_
  refine xr_iload_n F dL_water_3 rfl 1 rfl ?_
  refine xr_iload_n F dL_water_4 rfl 2 rfl ?_
  refine xr_callXVi F G (wr := ([(ou, .inl (yL, 1, .inr (.inl f)))] : va_W)) (rest := [.int 0, .ref ou]) (As := [.int x, .int y]) (k_X1_water l D yI yZ yL hst h a t K V x y ) (cwV 2 F.hts gL_water_X1_water rfl rfl rfl (by decide +kernel) ⟨Nat.le_of_ble_eq_true rfl, Nat.le_of_ble_eq_true rfl⟩) (q0 := 0) rfl rfl [0, 1, 2, 3, 4, 5, 6, 7, 8, 9, 10, 11, 12] [13] rfl rfl (by decide) (by decide) (by decide) rfl rfl (Nat.le_of_ble_eq_true rfl) dL_water_5 ⟨Nat.le_of_ble_eq_true rfl, Nat.le_of_ble_eq_true rfl⟩ (fun E1 W1 z1 => ?_) (fun r1 W1 z1 => ?_)
  · skip
    obtain ⟨z0, z1⟩ := z1
    subst z1
    rcases z0 with ⟨hq, z0⟩ | ⟨hq, z0⟩ | ⟨hq, z0⟩
    · skip
      subst z0
      refine xr_catch F G htab [] ⟨0, 10, 13, 13⟩ [⟨0, 10, 17, 15⟩, ⟨0, 10, 21, 27⟩] rfl (fun z hz => nomatch hz) (by decide) (by decide) (List.mem_of_getElem? (i := 1) rfl) (List.mem_of_getElem? (i := 0) rfl) (fun q9 => ?_)
      refine xr_sub (ws' := bw h a t ++ (cw yI yZ a K V ++ (([(ou, .inl (yL, 1, .inr (.inl f)))] : va_W)))) [1, 2, 3, 4, 5, 6, 7, 8, 9, 10, 11, 12, 13, 0] (by decide) rfl ?_
      refine xr_astore F [(4, .ref q9), (0, .ref h), (1, .int x), (2, .int y), (3, .ref ou)] dL_water_13 (by decide) rfl ?_
      refine xr_iconst F dL_water_15 (v := 1) (by decide) ?_
      have f0 : C_water V x y = V := by rw [C_water, if_neg (by rw [hq]; decide)]
      exact ret _ _ _ _ dL_water_16 ⟨hq.symm, f, fun z => absurd (hq.symm.trans z) (by decide), by rw [f0]⟩
    · skip
      subst z0
      refine xr_catch F G htab [⟨0, 10, 13, 13⟩] ⟨0, 10, 17, 15⟩ [⟨0, 10, 21, 27⟩] rfl (fun z hz => by rcases List.mem_singleton.mp hz with rfl; exact Or.inr ⟨by decide, xE1, (List.mem_of_getElem? (i := 1) rfl), List.mem_of_getElem? (i := 0) rfl⟩) (by decide) (by decide) (List.mem_of_getElem? (i := 2) rfl) (List.mem_of_getElem? (i := 1) rfl) (fun q9 => ?_)
      refine xr_sub (ws' := bw h a t ++ (cw yI yZ a K V ++ (([(ou, .inl (yL, 1, .inr (.inl f)))] : va_W)))) [1, 2, 3, 4, 5, 6, 7, 8, 9, 10, 11, 12, 13, 0] (by decide) rfl ?_
      refine xr_astore F [(4, .ref q9), (0, .ref h), (1, .int x), (2, .int y), (3, .ref ou)] dL_water_17 (by decide) rfl ?_
      refine xr_iconst F dL_water_19 (v := 2) (by decide) ?_
      have f0 : C_water V x y = V := by rw [C_water, if_neg (by rw [hq]; decide)]
      exact ret _ _ _ _ dL_water_20 ⟨hq.symm, f, fun z => absurd (hq.symm.trans z) (by decide), by rw [f0]⟩
    · skip
      subst z0
      refine xr_catch F G htab [⟨0, 10, 13, 13⟩, ⟨0, 10, 17, 15⟩] ⟨0, 10, 21, 27⟩ [] rfl (fun z hz => (List.mem_cons.mp hz).elim (fun e9 => by subst e9; exact Or.inr ⟨by decide, xE1, (List.mem_of_getElem? (i := 1) rfl), List.mem_of_getElem? (i := 1) rfl⟩) (fun hz => (List.mem_singleton.mp hz) ▸ Or.inr ⟨by decide, xE2, (List.mem_of_getElem? (i := 2) rfl), List.mem_of_getElem? (i := 2) rfl⟩)) (by decide) (by decide) (List.mem_of_getElem? (i := 3) rfl) (List.mem_of_getElem? (i := 2) rfl) (fun q9 => ?_)
      refine xr_sub (ws' := bw h a t ++ (cw yI yZ a K V ++ (([(ou, .inl (yL, 1, .inr (.inl f)))] : va_W)))) [1, 2, 3, 4, 5, 6, 7, 8, 9, 10, 11, 12, 13, 0] (by decide) rfl ?_
      refine xr_astore F [(4, .ref q9), (0, .ref h), (1, .int x), (2, .int y), (3, .ref ou)] dL_water_21 (by decide) rfl ?_
      refine xr_iconst F dL_water_23 (v := 3) (by decide) ?_
      have f0 : C_water V x y = V := by rw [C_water, if_neg (by rw [hq]; decide)]
      exact ret _ _ _ _ dL_water_24 ⟨hq.symm, f, fun z => absurd (hq.symm.trans z) (by decide), by rw [f0]⟩
  · skip
    obtain ⟨hq, z0, z1⟩ := z1
    subst z0
    subst z1
    refine xr_sub (ws' := bw h a t ++ (cw yI yZ a K (C_water V x y) ++ (([(ou, .inl (yL, 1, .inr (.inl f)))] : va_W)))) [1, 2, 3, 4, 5, 6, 7, 8, 9, 10, 11, 12, 13, 0] (by decide) rfl ?_
    refine xr_i2l F dL_water_8 (v := (dBank (C_water V x y)).toInt64) rfl ?_
    refine xr_last F 13 2 rfl rfl (0) rfl (by decide) (by decide) (bw h a t ++ (cw yI yZ a K (C_water V x y) ++ (([(ou, .inl (yL, 1, .inr (.inl (vp_updL f 0 ((dBank (C_water V x y)).toInt64)))))] : va_W)))) rfl dL_water_9 ?_
    refine xr_goto F 25 dL_water_10 (by decide) ?_
    refine xr_iconst F dL_water_25 (v := 0) (by decide) ?_
    exact ret _ _ _ _ dL_water_26 ⟨hq.symm, _, (fun _ => rfl), rfl⟩

def rm_L_work : Room := { frames := 8, cells := 1, slots := 6, locals := 125 }
set_option maxHeartbeats 4000000 in
set_option maxRecDepth 100000 in
/-- the law's work -/
theorem k_L_work (l : Launch) (D : va_G) (yI yZ yL : ClassId) (hst : l.stackTraces = false) (h : Nat) (a t : Nat → Nat) (K : CK) (V : CD) (ou : Nat) (f : Nat → Int64) (x : Int32) (h0 : ∀ k, k < 5 → dFull V k = 0 ∨ dFull V k = 1) : xXi l yL_work wsL_work rm_L_work D (tysG yI yZ yL) (bw h a t ++ (cw yI yZ a K V ++ (([(ou, .inl (yL, 1, .inr (.inl f)))] : va_W)))) [.ref h, .int x, .ref ou] 1 6 (fun (r : Int32) (W1 : va_W) => r = q_work V x ∧ ∃ (f9 : Nat → Int64), (q_work V x = 0 → f9 0 = (if dFull (C_work V x) (ix x) = 0 then (0 : Int64) else 1)) ∧ W1 = bw h a t ++ (cw yI yZ a K (C_work V x) ++ (([(ou, .inl (yL, 1, .inr (.inl f9)))] : va_W)))) (fun _ _ => False) := by
  refine xEXH_i (cc := cL_work) (nL := 4) (hh := [(0, 16, 19, 13), (0, 16, 22, 27)]) hst (by decide) rfl (Nat.le_of_ble_eq_true rfl) ?_
  intro p e s m args below meth c A Q F G htab ret
  show AW p l e rm_L_work s m args below meth c 4 D A 0 0 Q (bw h a t ++ (cw yI yZ a K V ++ (([(ou, .inl (yL, 1, .inr (.inl f)))] : va_W)))) [(0, .ref h), (1, .int x), (2, .ref ou)] 0 []
  refine xr_aload_n F dL_work_0 rfl 2 rfl ?_
  refine xr_iconst F dL_work_1 (v := 0) (by decide) ?_
  refine xr_aload_n F dL_work_2 rfl 0 rfl ?_
  refine xr_iload_n F dL_work_3 rfl 1 rfl ?_
  refine xr_callXVz F G (wr := ([(ou, .inl (yL, 1, .inr (.inl f)))] : va_W)) (rest := [.int 0, .ref ou]) (As := [.int x]) (k_X1_work l D yI yZ yL hst h a t K V x h0) (cwV 1 F.hts gL_work_X1_work rfl rfl rfl (by decide +kernel) ⟨Nat.le_of_ble_eq_true rfl, Nat.le_of_ble_eq_true rfl⟩) (q0 := 0) rfl rfl [0, 1, 2, 3, 4, 5, 6, 7, 8, 9, 10, 11, 12] [13] rfl rfl (by decide) (by decide) (by decide) rfl rfl (Nat.le_of_ble_eq_true rfl) dL_work_4 ⟨Nat.le_of_ble_eq_true rfl, Nat.le_of_ble_eq_true rfl⟩ (fun E1 W1 z1 => ?_) (fun r1 W1 z1 => ?_)
  · skip
    obtain ⟨z0, z1⟩ := z1
    subst z1
    rcases z0 with ⟨hq, z0⟩ | ⟨hq, z0⟩
    · skip
      subst z0
      refine xr_catch F G htab [] ⟨0, 16, 19, 13⟩ [⟨0, 16, 22, 27⟩] rfl (fun z hz => nomatch hz) (by decide) (by decide) (List.mem_of_getElem? (i := 1) rfl) (List.mem_of_getElem? (i := 0) rfl) (fun q9 => ?_)
      refine xr_sub (ws' := bw h a t ++ (cw yI yZ a K V ++ (([(ou, .inl (yL, 1, .inr (.inl f)))] : va_W)))) [1, 2, 3, 4, 5, 6, 7, 8, 9, 10, 11, 12, 13, 0] (by decide) rfl ?_
      refine xr_astore_n F [(3, .ref q9), (0, .ref h), (1, .int x), (2, .ref ou)] dL_work_19 rfl (by decide) rfl ?_
      refine xr_iconst F dL_work_20 (v := 1) (by decide) ?_
      have f0 : C_work V x = V := by rw [C_work, if_neg (by rw [hq]; decide)]
      exact ret _ _ _ _ dL_work_21 ⟨hq.symm, f, fun z => absurd (hq.symm.trans z) (by decide), by rw [f0]⟩
    · skip
      subst z0
      refine xr_catch F G htab [⟨0, 16, 19, 13⟩] ⟨0, 16, 22, 27⟩ [] rfl (fun z hz => by rcases List.mem_singleton.mp hz with rfl; exact Or.inr ⟨by decide, xE1, (List.mem_of_getElem? (i := 1) rfl), List.mem_of_getElem? (i := 1) rfl⟩) (by decide) (by decide) (List.mem_of_getElem? (i := 2) rfl) (List.mem_of_getElem? (i := 2) rfl) (fun q9 => ?_)
      refine xr_sub (ws' := bw h a t ++ (cw yI yZ a K V ++ (([(ou, .inl (yL, 1, .inr (.inl f)))] : va_W)))) [1, 2, 3, 4, 5, 6, 7, 8, 9, 10, 11, 12, 13, 0] (by decide) rfl ?_
      refine xr_astore_n F [(3, .ref q9), (0, .ref h), (1, .int x), (2, .ref ou)] dL_work_22 rfl (by decide) rfl ?_
      refine xr_iconst F dL_work_23 (v := 2) (by decide) ?_
      have f0 : C_work V x = V := by rw [C_work, if_neg (by rw [hq]; decide)]
      exact ret _ _ _ _ dL_work_24 ⟨hq.symm, f, fun z => absurd (hq.symm.trans z) (by decide), by rw [f0]⟩
  · skip
    obtain ⟨hq, z0, z1⟩ := z1
    subst z0
    subst z1
    refine xr_sub (ws' := bw h a t ++ (cw yI yZ a K (C_work V x) ++ (([(ou, .inl (yL, 1, .inr (.inl f)))] : va_W)))) [1, 2, 3, 4, 5, 6, 7, 8, 9, 10, 11, 12, 13, 0] (by decide) rfl ?_
    refine xr_if_eq F 14 dL_work_7 (by decide) (fun c7 => ?_) (fun c7 => ?_)
    · skip
      refine xr_lconst F dL_work_14 (v := 0) (by decide) ?_
      refine xr_last F 13 2 rfl rfl (0) rfl (by decide) (by decide) (bw h a t ++ (cw yI yZ a K (C_work V x) ++ (([(ou, .inl (yL, 1, .inr (.inl (vp_updL f 0 0))))] : va_W)))) rfl dL_work_15 ?_
      refine xr_goto F 25 dL_work_16 (by decide) ?_
      refine xr_iconst F dL_work_25 (v := 0) (by decide) ?_
      exact ret _ _ _ _ dL_work_26 ⟨hq.symm, _, (fun _ => (if_pos c7).symm), rfl⟩
    · skip
      refine xr_lconst F dL_work_10 (v := 1) (by decide) ?_
      refine xr_goto F 15 dL_work_11 (by decide) ?_
      refine xr_last F 13 2 rfl rfl (0) rfl (by decide) (by decide) (bw h a t ++ (cw yI yZ a K (C_work V x) ++ (([(ou, .inl (yL, 1, .inr (.inl (vp_updL f 0 1))))] : va_W)))) rfl dL_work_15 ?_
      refine xr_goto F 25 dL_work_16 (by decide) ?_
      refine xr_iconst F dL_work_25 (v := 0) (by decide) ?_
      exact ret _ _ _ _ dL_work_26 ⟨hq.symm, _, (fun _ => (if_neg c7).symm), rfl⟩

def rm_L_barge : Room := { frames := 8, cells := 1, slots := 6, locals := 128 }
set_option maxHeartbeats 4000000 in
set_option maxRecDepth 100000 in
/-- the law's barge -/
theorem k_L_barge (l : Launch) (D : va_G) (yI yZ yL : ClassId) (hst : l.stackTraces = false) (h : Nat) (a t : Nat → Nat) (K : CK) (V : CD) (ou : Nat) (f : Nat → Int64) (x : Int32) (y : Int32) (z : Int32) (h0 : kNb K ≤ 10) : xXi l yL_barge wsL_barge rm_L_barge D (tysG yI yZ yL) (bw h a t ++ (cw yI yZ a K V ++ (([(ou, .inl (yL, 1, .inr (.inl f)))] : va_W)))) [.ref h, .int x, .int y, .int z, .ref ou] 1 6 (fun (r : Int32) (W1 : va_W) => r = q_barge K x y z ∧ ∃ (f9 : Nat → Int64), (q_barge K x y z = 0 → f9 0 = ((nI (kNb K))).toInt64) ∧ W1 = bw h a t ++ (cw yI yZ a (K_barge K x y z) (V_barge K V x y z) ++ (([(ou, .inl (yL, 1, .inr (.inl f9)))] : va_W)))) (fun _ _ => False) := by
  refine xEXH_i (cc := cL_barge) (nL := 6) (hh := [(0, 12, 15, 13), (0, 12, 19, 15), (0, 12, 23, 27)]) hst (by decide) rfl (Nat.le_of_ble_eq_true rfl) ?_
  intro p e s m args below meth c A Q F G htab ret
  show AW p l e rm_L_barge s m args below meth c 6 D A 0 0 Q (bw h a t ++ (cw yI yZ a K V ++ (([(ou, .inl (yL, 1, .inr (.inl f)))] : va_W)))) [(0, .ref h), (1, .int x), (2, .int y), (3, .int z), (4, .ref ou)] 0 []
  refine xr_aload F dL_barge_0 4 rfl ?_
  refine xr_iconst F dL_barge_2 (v := 0) (by decide) ?_
  refine xr_aload_n F dL_barge_3 rfl 0 rfl ?_
  refine xr_iload_n F dL_barge_4 rfl 1 rfl ?_
  refine xr_iload_n F dL_barge_5 rfl 2 rfl ?_
  refine xr_iload_n F dL_barge_6 rfl 3 rfl ?_
  refine xr_callXVi F G (wr := ([(ou, .inl (yL, 1, .inr (.inl f)))] : va_W)) (rest := [.int 0, .ref ou]) (As := [.int x, .int y, .int z]) (k_X1_barge l D yI yZ yL hst h a t K V x y z h0) (cwV 3 F.hts gL_barge_X1_barge rfl rfl rfl (by decide +kernel) ⟨Nat.le_of_ble_eq_true rfl, Nat.le_of_ble_eq_true rfl⟩) (q0 := 0) rfl rfl [0, 1, 2, 3, 4, 5, 6, 7, 8, 9, 10, 11, 12] [13] rfl rfl (by decide) (by decide) (by decide) rfl rfl (Nat.le_of_ble_eq_true rfl) dL_barge_7 ⟨Nat.le_of_ble_eq_true rfl, Nat.le_of_ble_eq_true rfl⟩ (fun E1 W1 z1 => ?_) (fun r1 W1 z1 => ?_)
  · skip
    obtain ⟨z0, z1⟩ := z1
    subst z1
    rcases z0 with ⟨hq, z0⟩ | ⟨hq, z0⟩ | ⟨hq, z0⟩
    · skip
      subst z0
      refine xr_catch F G htab [] ⟨0, 12, 15, 13⟩ [⟨0, 12, 19, 15⟩, ⟨0, 12, 23, 27⟩] rfl (fun z hz => nomatch hz) (by decide) (by decide) (List.mem_of_getElem? (i := 1) rfl) (List.mem_of_getElem? (i := 0) rfl) (fun q9 => ?_)
      refine xr_sub (ws' := bw h a t ++ (cw yI yZ a K V ++ (([(ou, .inl (yL, 1, .inr (.inl f)))] : va_W)))) [1, 2, 3, 4, 5, 6, 7, 8, 9, 10, 11, 12, 13, 0] (by decide) rfl ?_
      refine xr_astore F [(5, .ref q9), (0, .ref h), (1, .int x), (2, .int y), (3, .int z), (4, .ref ou)] dL_barge_15 (by decide) rfl ?_
      refine xr_iconst F dL_barge_17 (v := 1) (by decide) ?_
      have f0 : K_barge K x y z = K := by rw [K_barge, if_neg (by rw [hq]; decide)]
      have f1 : V_barge K V x y z = V := by rw [V_barge, if_neg (by rw [hq]; decide)]
      exact ret _ _ _ _ dL_barge_18 ⟨hq.symm, f, fun z => absurd (hq.symm.trans z) (by decide), by rw [f0, f1]⟩
    · skip
      subst z0
      refine xr_catch F G htab [⟨0, 12, 15, 13⟩] ⟨0, 12, 19, 15⟩ [⟨0, 12, 23, 27⟩] rfl (fun z hz => by rcases List.mem_singleton.mp hz with rfl; exact Or.inr ⟨by decide, xE1, (List.mem_of_getElem? (i := 1) rfl), List.mem_of_getElem? (i := 0) rfl⟩) (by decide) (by decide) (List.mem_of_getElem? (i := 2) rfl) (List.mem_of_getElem? (i := 1) rfl) (fun q9 => ?_)
      refine xr_sub (ws' := bw h a t ++ (cw yI yZ a K V ++ (([(ou, .inl (yL, 1, .inr (.inl f)))] : va_W)))) [1, 2, 3, 4, 5, 6, 7, 8, 9, 10, 11, 12, 13, 0] (by decide) rfl ?_
      refine xr_astore F [(5, .ref q9), (0, .ref h), (1, .int x), (2, .int y), (3, .int z), (4, .ref ou)] dL_barge_19 (by decide) rfl ?_
      refine xr_iconst F dL_barge_21 (v := 2) (by decide) ?_
      have f0 : K_barge K x y z = K := by rw [K_barge, if_neg (by rw [hq]; decide)]
      have f1 : V_barge K V x y z = V := by rw [V_barge, if_neg (by rw [hq]; decide)]
      exact ret _ _ _ _ dL_barge_22 ⟨hq.symm, f, fun z => absurd (hq.symm.trans z) (by decide), by rw [f0, f1]⟩
    · skip
      subst z0
      refine xr_catch F G htab [⟨0, 12, 15, 13⟩, ⟨0, 12, 19, 15⟩] ⟨0, 12, 23, 27⟩ [] rfl (fun z hz => (List.mem_cons.mp hz).elim (fun e9 => by subst e9; exact Or.inr ⟨by decide, xE1, (List.mem_of_getElem? (i := 1) rfl), List.mem_of_getElem? (i := 1) rfl⟩) (fun hz => (List.mem_singleton.mp hz) ▸ Or.inr ⟨by decide, xE2, (List.mem_of_getElem? (i := 2) rfl), List.mem_of_getElem? (i := 2) rfl⟩)) (by decide) (by decide) (List.mem_of_getElem? (i := 3) rfl) (List.mem_of_getElem? (i := 2) rfl) (fun q9 => ?_)
      refine xr_sub (ws' := bw h a t ++ (cw yI yZ a K V ++ (([(ou, .inl (yL, 1, .inr (.inl f)))] : va_W)))) [1, 2, 3, 4, 5, 6, 7, 8, 9, 10, 11, 12, 13, 0] (by decide) rfl ?_
      refine xr_astore F [(5, .ref q9), (0, .ref h), (1, .int x), (2, .int y), (3, .int z), (4, .ref ou)] dL_barge_23 (by decide) rfl ?_
      refine xr_iconst F dL_barge_25 (v := 3) (by decide) ?_
      have f0 : K_barge K x y z = K := by rw [K_barge, if_neg (by rw [hq]; decide)]
      have f1 : V_barge K V x y z = V := by rw [V_barge, if_neg (by rw [hq]; decide)]
      exact ret _ _ _ _ dL_barge_26 ⟨hq.symm, f, fun z => absurd (hq.symm.trans z) (by decide), by rw [f0, f1]⟩
  · skip
    obtain ⟨hq, z0, z1⟩ := z1
    subst z0
    subst z1
    refine xr_sub (ws' := bw h a t ++ (cw yI yZ a (K_barge K x y z) (V_barge K V x y z) ++ (([(ou, .inl (yL, 1, .inr (.inl f)))] : va_W)))) [1, 2, 3, 4, 5, 6, 7, 8, 9, 10, 11, 12, 13, 0] (by decide) rfl ?_
    refine xr_i2l F dL_barge_10 (v := (nI (kNb K)).toInt64) rfl ?_
    refine xr_last F 13 2 rfl rfl (0) rfl (by decide) (by decide) (bw h a t ++ (cw yI yZ a (K_barge K x y z) (V_barge K V x y z) ++ (([(ou, .inl (yL, 1, .inr (.inl (vp_updL f 0 ((nI (kNb K)).toInt64)))))] : va_W)))) rfl dL_barge_11 ?_
    refine xr_goto F 27 dL_barge_12 (by decide) ?_
    refine xr_iconst F dL_barge_27 (v := 0) (by decide) ?_
    exact ret _ _ _ _ dL_barge_28 ⟨hq.symm, _, (fun _ => rfl), rfl⟩

def rm_L_send : Room := { frames := 8, cells := 1, slots := 6, locals := 127 }
set_option maxHeartbeats 4000000 in
set_option maxRecDepth 100000 in
/-- the law's send -/
theorem k_L_send (l : Launch) (D : va_G) (yI yZ yL : ClassId) (hst : l.stackTraces = false) (h : Nat) (a t : Nat → Nat) (K : CK) (V : CD) (ou : Nat) (f : Nat → Int64) (x : Int32) (y : Int32) (h0 : kNb K ≤ 10) : xXi l yL_send wsL_send rm_L_send D (tysG yI yZ yL) (bw h a t ++ (cw yI yZ a K V ++ (([(ou, .inl (yL, 1, .inr (.inl f)))] : va_W)))) [.ref h, .int x, .int y, .ref ou] 1 6 (fun (r : Int32) (W1 : va_W) => r = q_send K x y ∧ ∃ (f9 : Nat → Int64), (q_send K x y = 0 → f9 0 = ((kGoal K (ix x))).toInt64) ∧ W1 = bw h a t ++ (cw yI yZ a (K_send K x y) V ++ (([(ou, .inl (yL, 1, .inr (.inl f9)))] : va_W)))) (fun _ _ => False) := by
  refine xEXH_i (cc := cL_send) (nL := 5) (hh := [(0, 10, 13, 13)]) hst (by decide) rfl (Nat.le_of_ble_eq_true rfl) ?_
  intro p e s m args below meth c A Q F G htab ret
  show AW p l e rm_L_send s m args below meth c 5 D A 0 0 Q (bw h a t ++ (cw yI yZ a K V ++ (([(ou, .inl (yL, 1, .inr (.inl f)))] : va_W)))) [(0, .ref h), (1, .int x), (2, .int y), (3, .ref ou)] 0 []
  refine xr_aload_n F dL_send_0 rfl 3 rfl ?_
  refine xr_iconst F dL_send_1 (v := 0) (by decide) ?_
  refine xr_aload_n F dL_send_2 rfl 0 rfl ?_
  refine xr_iload_n F dL_send_3 rfl 1 rfl ?_
  refine xr_iload_n F dL_send_4 rfl 2 rfl ?_
  refine xr_callXVi F G (wr := ([(ou, .inl (yL, 1, .inr (.inl f)))] : va_W)) (rest := [.int 0, .ref ou]) (As := [.int x, .int y]) (k_X1_send l D yI yZ yL hst h a t K V x y h0) (cwV 2 F.hts gL_send_X1_send rfl rfl rfl (by decide +kernel) ⟨Nat.le_of_ble_eq_true rfl, Nat.le_of_ble_eq_true rfl⟩) (q0 := 0) rfl rfl [0, 1, 2, 3, 4, 5, 6, 7, 8, 9, 10, 11, 12] [13] rfl rfl (by decide) (by decide) (by decide) rfl rfl (Nat.le_of_ble_eq_true rfl) dL_send_5 ⟨Nat.le_of_ble_eq_true rfl, Nat.le_of_ble_eq_true rfl⟩ (fun E1 W1 z1 => ?_) (fun r1 W1 z1 => ?_)
  · skip
    obtain ⟨z0, z1⟩ := z1
    subst z1
    obtain ⟨hq, z0⟩ := z0
    subst z0
    refine xr_catch F G htab [] ⟨0, 10, 13, 13⟩ [] rfl (fun z hz => nomatch hz) (by decide) (by decide) (List.mem_of_getElem? (i := 1) rfl) (List.mem_of_getElem? (i := 0) rfl) (fun q9 => ?_)
    refine xr_sub (ws' := bw h a t ++ (cw yI yZ a K V ++ (([(ou, .inl (yL, 1, .inr (.inl f)))] : va_W)))) [1, 2, 3, 4, 5, 6, 7, 8, 9, 10, 11, 12, 13, 0] (by decide) rfl ?_
    refine xr_astore F [(4, .ref q9), (0, .ref h), (1, .int x), (2, .int y), (3, .ref ou)] dL_send_13 (by decide) rfl ?_
    refine xr_iconst F dL_send_15 (v := 1) (by decide) ?_
    have f0 : K_send K x y = K := by rw [K_send, if_neg (by rw [hq]; decide)]
    exact ret _ _ _ _ dL_send_16 ⟨hq.symm, f, fun z => absurd (hq.symm.trans z) (by decide), by rw [f0]⟩
  · skip
    obtain ⟨hq, z0, z1⟩ := z1
    subst z0
    subst z1
    refine xr_sub (ws' := bw h a t ++ (cw yI yZ a (K_send K x y) V ++ (([(ou, .inl (yL, 1, .inr (.inl f)))] : va_W)))) [1, 2, 3, 4, 5, 6, 7, 8, 9, 10, 11, 12, 13, 0] (by decide) rfl ?_
    refine xr_i2l F dL_send_8 (v := (kGoal K (ix x)).toInt64) rfl ?_
    refine xr_last F 13 2 rfl rfl (0) rfl (by decide) (by decide) (bw h a t ++ (cw yI yZ a (K_send K x y) V ++ (([(ou, .inl (yL, 1, .inr (.inl (vp_updL f 0 ((kGoal K (ix x)).toInt64)))))] : va_W)))) rfl dL_send_9 ?_
    refine xr_goto F 17 dL_send_10 (by decide) ?_
    refine xr_iconst F dL_send_17 (v := 0) (by decide) ?_
    exact ret _ _ _ _ dL_send_18 ⟨hq.symm, _, (fun _ => rfl), rfl⟩

def rm_L_told : Room := { frames := 8, cells := 1, slots := 6, locals := 126 }
set_option maxHeartbeats 4000000 in
set_option maxRecDepth 100000 in
/-- the law's told -/
theorem k_L_told (l : Launch) (D : va_G) (yI yZ yL : ClassId) (hst : l.stackTraces = false) (h : Nat) (a t : Nat → Nat) (K : CK) (V : CD) (ou : Nat) (f : Nat → Int64) (x : Int32) (y : Int32) (h0 : kNb K ≤ 10) : xXi l yL_told wsL_told rm_L_told D (tysG yI yZ yL) (bw h a t ++ (cw yI yZ a K V ++ (([(ou, .inl (yL, 1, .inr (.inl f)))] : va_W)))) [.ref h, .int x, .int y, .ref ou] 1 6 (fun (r : Int32) (W1 : va_W) => r = q_told K x y ∧ ∃ (f9 : Nat → Int64), (q_told K x y = 0 → f9 0 = ((c_tellB K V (ix x) (ix y))).toInt64) ∧ W1 = bw h a t ++ (cw yI yZ a K V ++ (([(ou, .inl (yL, 1, .inr (.inl f9)))] : va_W)))) (fun _ _ => False) := by
  refine xEXH_i (cc := cL_told) (nL := 5) (hh := [(0, 10, 13, 13)]) hst (by decide) rfl (Nat.le_of_ble_eq_true rfl) ?_
  intro p e s m args below meth c A Q F G htab ret
  show AW p l e rm_L_told s m args below meth c 5 D A 0 0 Q (bw h a t ++ (cw yI yZ a K V ++ (([(ou, .inl (yL, 1, .inr (.inl f)))] : va_W)))) [(0, .ref h), (1, .int x), (2, .int y), (3, .ref ou)] 0 []
  refine xr_aload_n F dL_told_0 rfl 3 rfl ?_
  refine xr_iconst F dL_told_1 (v := 0) (by decide) ?_
  refine xr_aload_n F dL_told_2 rfl 0 rfl ?_
  refine xr_iload_n F dL_told_3 rfl 1 rfl ?_
  refine xr_iload_n F dL_told_4 rfl 2 rfl ?_
  refine xr_callXVi F G (wr := ([(ou, .inl (yL, 1, .inr (.inl f)))] : va_W)) (rest := [.int 0, .ref ou]) (As := [.int x, .int y]) (k_X1_told l D yI yZ yL hst h a t K V x y h0) (cwV 2 F.hts gL_told_X1_told rfl rfl rfl (by decide +kernel) ⟨Nat.le_of_ble_eq_true rfl, Nat.le_of_ble_eq_true rfl⟩) (q0 := 0) rfl rfl [0, 1, 2, 3, 4, 5, 6, 7, 8, 9, 10, 11, 12] [13] rfl rfl (by decide) (by decide) (by decide) rfl rfl (Nat.le_of_ble_eq_true rfl) dL_told_5 ⟨Nat.le_of_ble_eq_true rfl, Nat.le_of_ble_eq_true rfl⟩ (fun E1 W1 z1 => ?_) (fun r1 W1 z1 => ?_)
  · skip
    obtain ⟨z0, z1⟩ := z1
    subst z1
    obtain ⟨hq, z0⟩ := z0
    subst z0
    refine xr_catch F G htab [] ⟨0, 10, 13, 13⟩ [] rfl (fun z hz => nomatch hz) (by decide) (by decide) (List.mem_of_getElem? (i := 1) rfl) (List.mem_of_getElem? (i := 0) rfl) (fun q9 => ?_)
    refine xr_sub (ws' := bw h a t ++ (cw yI yZ a K V ++ (([(ou, .inl (yL, 1, .inr (.inl f)))] : va_W)))) [1, 2, 3, 4, 5, 6, 7, 8, 9, 10, 11, 12, 13, 0] (by decide) rfl ?_
    refine xr_astore F [(4, .ref q9), (0, .ref h), (1, .int x), (2, .int y), (3, .ref ou)] dL_told_13 (by decide) rfl ?_
    refine xr_iconst F dL_told_15 (v := 1) (by decide) ?_
    exact ret _ _ _ _ dL_told_16 ⟨hq.symm, f, fun z => absurd (hq.symm.trans z) (by decide), rfl⟩
  · skip
    obtain ⟨hq, z0, z1⟩ := z1
    subst z0
    subst z1
    refine xr_sub (ws' := bw h a t ++ (cw yI yZ a K V ++ (([(ou, .inl (yL, 1, .inr (.inl f)))] : va_W)))) [1, 2, 3, 4, 5, 6, 7, 8, 9, 10, 11, 12, 13, 0] (by decide) rfl ?_
    refine xr_i2l F dL_told_8 (v := (c_tellB K V (ix x) (ix y)).toInt64) rfl ?_
    refine xr_last F 13 2 rfl rfl (0) rfl (by decide) (by decide) (bw h a t ++ (cw yI yZ a K V ++ (([(ou, .inl (yL, 1, .inr (.inl (vp_updL f 0 ((c_tellB K V (ix x) (ix y)).toInt64)))))] : va_W)))) rfl dL_told_9 ?_
    refine xr_goto F 17 dL_told_10 (by decide) ?_
    refine xr_iconst F dL_told_17 (v := 0) (by decide) ?_
    exact ret _ _ _ _ dL_told_18 ⟨hq.symm, _, (fun _ => rfl), rfl⟩

def rm_L_pound : Room := { frames := 8, cells := 1, slots := 6, locals := 126 }
set_option maxHeartbeats 4000000 in
set_option maxRecDepth 100000 in
/-- the law's pound -/
theorem k_L_pound (l : Launch) (D : va_G) (yI yZ yL : ClassId) (hst : l.stackTraces = false) (h : Nat) (a t : Nat → Nat) (K : CK) (V : CD) (ou : Nat) (f : Nat → Int64) (x : Int32) (y : Int32) (h0 : kNb K ≤ 10) : xXi l yL_pound wsL_pound rm_L_pound D (tysG yI yZ yL) (bw h a t ++ (cw yI yZ a K V ++ (([(ou, .inl (yL, 1, .inr (.inl f)))] : va_W)))) [.ref h, .int x, .int y, .ref ou] 1 6 (fun (r : Int32) (W1 : va_W) => r = q_in2 x 5 y 3 ∧ ∃ (f9 : Nat → Int64), (q_in2 x 5 y 3 = 0 → f9 0 = ((c_tellP K V (ix x) (ix y))).toInt64) ∧ W1 = bw h a t ++ (cw yI yZ a K V ++ (([(ou, .inl (yL, 1, .inr (.inl f9)))] : va_W)))) (fun _ _ => False) := by
  refine xEXH_i (cc := cL_pound) (nL := 5) (hh := [(0, 10, 13, 13)]) hst (by decide) rfl (Nat.le_of_ble_eq_true rfl) ?_
  intro p e s m args below meth c A Q F G htab ret
  show AW p l e rm_L_pound s m args below meth c 5 D A 0 0 Q (bw h a t ++ (cw yI yZ a K V ++ (([(ou, .inl (yL, 1, .inr (.inl f)))] : va_W)))) [(0, .ref h), (1, .int x), (2, .int y), (3, .ref ou)] 0 []
  refine xr_aload_n F dL_pound_0 rfl 3 rfl ?_
  refine xr_iconst F dL_pound_1 (v := 0) (by decide) ?_
  refine xr_aload_n F dL_pound_2 rfl 0 rfl ?_
  refine xr_iload_n F dL_pound_3 rfl 1 rfl ?_
  refine xr_iload_n F dL_pound_4 rfl 2 rfl ?_
  refine xr_callXVi F G (wr := ([(ou, .inl (yL, 1, .inr (.inl f)))] : va_W)) (rest := [.int 0, .ref ou]) (As := [.int x, .int y]) (k_X1_pound l D yI yZ yL hst h a t K V x y h0) (cwV 2 F.hts gL_pound_X1_pound rfl rfl rfl (by decide +kernel) ⟨Nat.le_of_ble_eq_true rfl, Nat.le_of_ble_eq_true rfl⟩) (q0 := 0) rfl rfl [0, 1, 2, 3, 4, 5, 6, 7, 8, 9, 10, 11, 12] [13] rfl rfl (by decide) (by decide) (by decide) rfl rfl (Nat.le_of_ble_eq_true rfl) dL_pound_5 ⟨Nat.le_of_ble_eq_true rfl, Nat.le_of_ble_eq_true rfl⟩ (fun E1 W1 z1 => ?_) (fun r1 W1 z1 => ?_)
  · skip
    obtain ⟨z0, z1⟩ := z1
    subst z1
    obtain ⟨hq, z0⟩ := z0
    subst z0
    refine xr_catch F G htab [] ⟨0, 10, 13, 13⟩ [] rfl (fun z hz => nomatch hz) (by decide) (by decide) (List.mem_of_getElem? (i := 1) rfl) (List.mem_of_getElem? (i := 0) rfl) (fun q9 => ?_)
    refine xr_sub (ws' := bw h a t ++ (cw yI yZ a K V ++ (([(ou, .inl (yL, 1, .inr (.inl f)))] : va_W)))) [1, 2, 3, 4, 5, 6, 7, 8, 9, 10, 11, 12, 13, 0] (by decide) rfl ?_
    refine xr_astore F [(4, .ref q9), (0, .ref h), (1, .int x), (2, .int y), (3, .ref ou)] dL_pound_13 (by decide) rfl ?_
    refine xr_iconst F dL_pound_15 (v := 1) (by decide) ?_
    exact ret _ _ _ _ dL_pound_16 ⟨hq.symm, f, fun z => absurd (hq.symm.trans z) (by decide), rfl⟩
  · skip
    obtain ⟨hq, z0, z1⟩ := z1
    subst z0
    subst z1
    refine xr_sub (ws' := bw h a t ++ (cw yI yZ a K V ++ (([(ou, .inl (yL, 1, .inr (.inl f)))] : va_W)))) [1, 2, 3, 4, 5, 6, 7, 8, 9, 10, 11, 12, 13, 0] (by decide) rfl ?_
    refine xr_i2l F dL_pound_8 (v := (c_tellP K V (ix x) (ix y)).toInt64) rfl ?_
    refine xr_last F 13 2 rfl rfl (0) rfl (by decide) (by decide) (bw h a t ++ (cw yI yZ a K V ++ (([(ou, .inl (yL, 1, .inr (.inl (vp_updL f 0 ((c_tellP K V (ix x) (ix y)).toInt64)))))] : va_W)))) rfl dL_pound_9 ?_
    refine xr_goto F 17 dL_pound_10 (by decide) ?_
    refine xr_iconst F dL_pound_17 (v := 0) (by decide) ?_
    exact ret _ _ _ _ dL_pound_18 ⟨hq.symm, _, (fun _ => rfl), rfl⟩

def rm_L_lock : Room := { frames := 8, cells := 1, slots := 6, locals := 135 }
set_option maxHeartbeats 4000000 in
set_option maxRecDepth 100000 in
/-- the law's lock -/
theorem k_L_lock (l : Launch) (D : va_G) (yI yZ yL : ClassId) (hst : l.stackTraces = false) (h : Nat) (a t : Nat → Nat) (K : CK) (V : CD) (ou : Nat) (f : Nat → Int64) (x : Int32) (y : Int32) (h0 : kNb K ≤ 10) : xXi l yL_lock wsL_lock rm_L_lock D (tysG yI yZ yL) (bw h a t ++ (cw yI yZ a K V ++ (([(ou, .inl (yL, 1, .inr (.inl f)))] : va_W)))) [.ref h, .int x, .int y, .ref ou] 1 6 (fun (r : Int32) (W1 : va_W) => r = q_in2 x 4 y 4 ∧ ∃ (f9 : Nat → Int64), (q_in2 x 4 y 4 = 0 → f9 0 = ((c_tellL K V (ix x) (ix y))).toInt64) ∧ W1 = bw h a t ++ (cw yI yZ a K V ++ (([(ou, .inl (yL, 1, .inr (.inl f9)))] : va_W)))) (fun _ _ => False) := by
  refine xEXH_i (cc := cL_lock) (nL := 5) (hh := [(0, 10, 13, 13)]) hst (by decide) rfl (Nat.le_of_ble_eq_true rfl) ?_
  intro p e s m args below meth c A Q F G htab ret
  show AW p l e rm_L_lock s m args below meth c 5 D A 0 0 Q (bw h a t ++ (cw yI yZ a K V ++ (([(ou, .inl (yL, 1, .inr (.inl f)))] : va_W)))) [(0, .ref h), (1, .int x), (2, .int y), (3, .ref ou)] 0 []
  refine xr_aload_n F dL_lock_0 rfl 3 rfl ?_
  refine xr_iconst F dL_lock_1 (v := 0) (by decide) ?_
  refine xr_aload_n F dL_lock_2 rfl 0 rfl ?_
  refine xr_iload_n F dL_lock_3 rfl 1 rfl ?_
  refine xr_iload_n F dL_lock_4 rfl 2 rfl ?_
  refine xr_callXVi F G (wr := ([(ou, .inl (yL, 1, .inr (.inl f)))] : va_W)) (rest := [.int 0, .ref ou]) (As := [.int x, .int y]) (k_X1_lock l D yI yZ yL hst h a t K V x y h0) (cwV 2 F.hts gL_lock_X1_lock rfl rfl rfl (by decide +kernel) ⟨Nat.le_of_ble_eq_true rfl, Nat.le_of_ble_eq_true rfl⟩) (q0 := 0) rfl rfl [0, 1, 2, 3, 4, 5, 6, 7, 8, 9, 10, 11, 12] [13] rfl rfl (by decide) (by decide) (by decide) rfl rfl (Nat.le_of_ble_eq_true rfl) dL_lock_5 ⟨Nat.le_of_ble_eq_true rfl, Nat.le_of_ble_eq_true rfl⟩ (fun E1 W1 z1 => ?_) (fun r1 W1 z1 => ?_)
  · skip
    obtain ⟨z0, z1⟩ := z1
    subst z1
    obtain ⟨hq, z0⟩ := z0
    subst z0
    refine xr_catch F G htab [] ⟨0, 10, 13, 13⟩ [] rfl (fun z hz => nomatch hz) (by decide) (by decide) (List.mem_of_getElem? (i := 1) rfl) (List.mem_of_getElem? (i := 0) rfl) (fun q9 => ?_)
    refine xr_sub (ws' := bw h a t ++ (cw yI yZ a K V ++ (([(ou, .inl (yL, 1, .inr (.inl f)))] : va_W)))) [1, 2, 3, 4, 5, 6, 7, 8, 9, 10, 11, 12, 13, 0] (by decide) rfl ?_
    refine xr_astore F [(4, .ref q9), (0, .ref h), (1, .int x), (2, .int y), (3, .ref ou)] dL_lock_13 (by decide) rfl ?_
    refine xr_iconst F dL_lock_15 (v := 1) (by decide) ?_
    exact ret _ _ _ _ dL_lock_16 ⟨hq.symm, f, fun z => absurd (hq.symm.trans z) (by decide), rfl⟩
  · skip
    obtain ⟨hq, z0, z1⟩ := z1
    subst z0
    subst z1
    refine xr_sub (ws' := bw h a t ++ (cw yI yZ a K V ++ (([(ou, .inl (yL, 1, .inr (.inl f)))] : va_W)))) [1, 2, 3, 4, 5, 6, 7, 8, 9, 10, 11, 12, 13, 0] (by decide) rfl ?_
    refine xr_i2l F dL_lock_8 (v := (c_tellL K V (ix x) (ix y)).toInt64) rfl ?_
    refine xr_last F 13 2 rfl rfl (0) rfl (by decide) (by decide) (bw h a t ++ (cw yI yZ a K V ++ (([(ou, .inl (yL, 1, .inr (.inl (vp_updL f 0 ((c_tellL K V (ix x) (ix y)).toInt64)))))] : va_W)))) rfl dL_lock_9 ?_
    refine xr_goto F 17 dL_lock_10 (by decide) ?_
    refine xr_iconst F dL_lock_17 (v := 0) (by decide) ?_
    exact ret _ _ _ _ dL_lock_18 ⟨hq.symm, _, (fun _ => rfl), rfl⟩

def rm_L_count : Room := { frames := 8, cells := 1, slots := 6, locals := 125 }
set_option maxHeartbeats 4000000 in
set_option maxRecDepth 100000 in
/-- the law's count -/
theorem k_L_count (l : Launch) (D : va_G) (yI yZ yL : ClassId) (hst : l.stackTraces = false) (h : Nat) (a t : Nat → Nat) (K : CK) (V : CD) (ou : Nat) (f : Nat → Int64) (x : Int32) (h0 : kNb K ≤ 10) : xXi l yL_count wsL_count rm_L_count D (tysG yI yZ yL) (bw h a t ++ (cw yI yZ a K V ++ (([(ou, .inl (yL, 1, .inr (.inl f)))] : va_W)))) [.ref h, .int x, .ref ou] 1 6 (fun (r : Int32) (W1 : va_W) => r = q_count x ∧ ∃ (f9 : Nat → Int64), (q_count x = 0 → f9 0 = ((c_tellW K V (ix x))).toInt64) ∧ W1 = bw h a t ++ (cw yI yZ a K V ++ (([(ou, .inl (yL, 1, .inr (.inl f9)))] : va_W)))) (fun _ _ => False) := by
  refine xEXH_i (cc := cL_count) (nL := 4) (hh := [(0, 9, 12, 13)]) hst (by decide) rfl (Nat.le_of_ble_eq_true rfl) ?_
  intro p e s m args below meth c A Q F G htab ret
  show AW p l e rm_L_count s m args below meth c 4 D A 0 0 Q (bw h a t ++ (cw yI yZ a K V ++ (([(ou, .inl (yL, 1, .inr (.inl f)))] : va_W)))) [(0, .ref h), (1, .int x), (2, .ref ou)] 0 []
  refine xr_aload_n F dL_count_0 rfl 2 rfl ?_
  refine xr_iconst F dL_count_1 (v := 0) (by decide) ?_
  refine xr_aload_n F dL_count_2 rfl 0 rfl ?_
  refine xr_iload_n F dL_count_3 rfl 1 rfl ?_
  refine xr_callXVi F G (wr := ([(ou, .inl (yL, 1, .inr (.inl f)))] : va_W)) (rest := [.int 0, .ref ou]) (As := [.int x]) (k_X1_count l D yI yZ yL hst h a t K V x h0) (cwV 1 F.hts gL_count_X1_count rfl rfl rfl (by decide +kernel) ⟨Nat.le_of_ble_eq_true rfl, Nat.le_of_ble_eq_true rfl⟩) (q0 := 0) rfl rfl [0, 1, 2, 3, 4, 5, 6, 7, 8, 9, 10, 11, 12] [13] rfl rfl (by decide) (by decide) (by decide) rfl rfl (Nat.le_of_ble_eq_true rfl) dL_count_4 ⟨Nat.le_of_ble_eq_true rfl, Nat.le_of_ble_eq_true rfl⟩ (fun E1 W1 z1 => ?_) (fun r1 W1 z1 => ?_)
  · skip
    obtain ⟨z0, z1⟩ := z1
    subst z1
    obtain ⟨hq, z0⟩ := z0
    subst z0
    refine xr_catch F G htab [] ⟨0, 9, 12, 13⟩ [] rfl (fun z hz => nomatch hz) (by decide) (by decide) (List.mem_of_getElem? (i := 1) rfl) (List.mem_of_getElem? (i := 0) rfl) (fun q9 => ?_)
    refine xr_sub (ws' := bw h a t ++ (cw yI yZ a K V ++ (([(ou, .inl (yL, 1, .inr (.inl f)))] : va_W)))) [1, 2, 3, 4, 5, 6, 7, 8, 9, 10, 11, 12, 13, 0] (by decide) rfl ?_
    refine xr_astore_n F [(3, .ref q9), (0, .ref h), (1, .int x), (2, .ref ou)] dL_count_12 rfl (by decide) rfl ?_
    refine xr_iconst F dL_count_13 (v := 1) (by decide) ?_
    exact ret _ _ _ _ dL_count_14 ⟨hq.symm, f, fun z => absurd (hq.symm.trans z) (by decide), rfl⟩
  · skip
    obtain ⟨hq, z0, z1⟩ := z1
    subst z0
    subst z1
    refine xr_sub (ws' := bw h a t ++ (cw yI yZ a K V ++ (([(ou, .inl (yL, 1, .inr (.inl f)))] : va_W)))) [1, 2, 3, 4, 5, 6, 7, 8, 9, 10, 11, 12, 13, 0] (by decide) rfl ?_
    refine xr_i2l F dL_count_7 (v := (c_tellW K V (ix x)).toInt64) rfl ?_
    refine xr_last F 13 2 rfl rfl (0) rfl (by decide) (by decide) (bw h a t ++ (cw yI yZ a K V ++ (([(ou, .inl (yL, 1, .inr (.inl (vp_updL f 0 ((c_tellW K V (ix x)).toInt64)))))] : va_W)))) rfl dL_count_8 ?_
    refine xr_goto F 15 dL_count_9 (by decide) ?_
    refine xr_iconst F dL_count_15 (v := 0) (by decide) ?_
    exact ret _ _ _ _ dL_count_16 ⟨hq.symm, _, (fun _ => rfl), rfl⟩

def rm_L_pass : Room := { frames := 8, cells := 1, slots := 6, locals := 159 }
set_option maxHeartbeats 4000000 in
set_option maxRecDepth 100000 in
/-- the law's pass -/
theorem k_L_pass (l : Launch) (D : va_G) (yI yZ yL : ClassId) (hst : l.stackTraces = false) (h : Nat) (a t : Nat → Nat) (K : CK) (V : CD) (ou : Nat) (f : Nat → Int64) (x : Int32) (h0 : kNb K ≤ 10) (h1 : kMill K ≤ 6) (h2 : dHour V + 60 < 2147483648) : xXi l yL_pass wsL_pass rm_L_pass D (tysG yI yZ yL) (bw h a t ++ (cw yI yZ a K V ++ (([(ou, .inl (yL, 1, .inr (.inl f)))] : va_W)))) [.ref h, .int x, .ref ou] 1 6 (fun (r : Int32) (W1 : va_W) => r = q_hours x 60 ∧ ∃ (f9 : Nat → Int64), (q_hours x 60 = 0 → f9 0 = (((C_pass K V x).2)).toInt64) ∧ W1 = bw h a t ++ (cw yI yZ a K ((C_pass K V x).1) ++ (([(ou, .inl (yL, 1, .inr (.inl f9)))] : va_W)))) (fun _ _ => False) := by
  refine xEXH_i (cc := cL_pass) (nL := 4) (hh := [(0, 9, 12, 15)]) hst (by decide) rfl (Nat.le_of_ble_eq_true rfl) ?_
  intro p e s m args below meth c A Q F G htab ret
  show AW p l e rm_L_pass s m args below meth c 4 D A 0 0 Q (bw h a t ++ (cw yI yZ a K V ++ (([(ou, .inl (yL, 1, .inr (.inl f)))] : va_W)))) [(0, .ref h), (1, .int x), (2, .ref ou)] 0 []
  refine xr_aload_n F dL_pass_0 rfl 2 rfl ?_
  refine xr_iconst F dL_pass_1 (v := 0) (by decide) ?_
  refine xr_aload_n F dL_pass_2 rfl 0 rfl ?_
  refine xr_iload_n F dL_pass_3 rfl 1 rfl ?_
  refine xr_callXVi F G (wr := ([(ou, .inl (yL, 1, .inr (.inl f)))] : va_W)) (rest := [.int 0, .ref ou]) (As := [.int x]) (k_X1_pass l D yI yZ yL hst h a t K V x h0 h1 h2) (cwV 1 F.hts gL_pass_X1_pass rfl rfl rfl (by decide +kernel) ⟨Nat.le_of_ble_eq_true rfl, Nat.le_of_ble_eq_true rfl⟩) (q0 := 0) rfl rfl [0, 1, 2, 3, 4, 5, 6, 7, 8, 9, 10, 11, 12] [13] rfl rfl (by decide) (by decide) (by decide) rfl rfl (Nat.le_of_ble_eq_true rfl) dL_pass_4 ⟨Nat.le_of_ble_eq_true rfl, Nat.le_of_ble_eq_true rfl⟩ (fun E1 W1 z1 => ?_) (fun r1 W1 z1 => ?_)
  · skip
    obtain ⟨z0, z1⟩ := z1
    subst z1
    obtain ⟨hq, z0⟩ := z0
    subst z0
    refine xr_catch F G htab [] ⟨0, 9, 12, 15⟩ [] rfl (fun z hz => nomatch hz) (by decide) (by decide) (List.mem_of_getElem? (i := 1) rfl) (List.mem_of_getElem? (i := 1) rfl) (fun q9 => ?_)
    refine xr_sub (ws' := bw h a t ++ (cw yI yZ a K V ++ (([(ou, .inl (yL, 1, .inr (.inl f)))] : va_W)))) [1, 2, 3, 4, 5, 6, 7, 8, 9, 10, 11, 12, 13, 0] (by decide) rfl ?_
    refine xr_astore_n F [(3, .ref q9), (0, .ref h), (1, .int x), (2, .ref ou)] dL_pass_12 rfl (by decide) rfl ?_
    refine xr_iconst F dL_pass_13 (v := 1) (by decide) ?_
    have f0 : (C_pass K V x).1 = V := by rw [C_pass, if_neg (by rw [hq]; decide)]
    exact ret _ _ _ _ dL_pass_14 ⟨hq.symm, f, fun z => absurd (hq.symm.trans z) (by decide), by rw [f0]⟩
  · skip
    obtain ⟨hq, z0, z1⟩ := z1
    subst z0
    subst z1
    refine xr_sub (ws' := bw h a t ++ (cw yI yZ a K ((C_pass K V x).1) ++ (([(ou, .inl (yL, 1, .inr (.inl f)))] : va_W)))) [1, 2, 3, 4, 5, 6, 7, 8, 9, 10, 11, 12, 13, 0] (by decide) rfl ?_
    refine xr_i2l F dL_pass_7 (v := ((C_pass K V x).2).toInt64) rfl ?_
    refine xr_last F 13 2 rfl rfl (0) rfl (by decide) (by decide) (bw h a t ++ (cw yI yZ a K ((C_pass K V x).1) ++ (([(ou, .inl (yL, 1, .inr (.inl (vp_updL f 0 (((C_pass K V x).2).toInt64)))))] : va_W)))) rfl dL_pass_8 ?_
    refine xr_goto F 15 dL_pass_9 (by decide) ?_
    refine xr_iconst F dL_pass_15 (v := 0) (by decide) ?_
    exact ret _ _ _ _ dL_pass_16 ⟨hq.symm, _, (fun _ => rfl), rfl⟩

def rm_L_arrives : Room := { frames := 8, cells := 1, slots := 6, locals := 137 }
set_option maxHeartbeats 4000000 in
set_option maxRecDepth 100000 in
/-- the law's arrives -/
theorem k_L_arrives (l : Launch) (D : va_G) (yI yZ yL : ClassId) (hst : l.stackTraces = false) (h : Nat) (a t : Nat → Nat) (K : CK) (V : CD) (Kt : CK) (Vt : CD) (ou : Nat) (f : Nat → Int64) (x : Int32) (h0 : kDry K = 0 ∨ kDry K = 1) (h1 : ∀ k, k < 5 → dFull V k = 0 ∨ dFull V k = 1) (h2 : kNb K ≤ 10) (h3 : kMill K ≤ 6) (h4 : dHour V + 120 < 2147483648) : xXi l yL_arrives wsL_arrives rm_L_arrives D (tysG yI yZ yL) (bw h a t ++ (cw yI yZ a K V ++ (cw yI yZ t Kt Vt ++ (([(ou, .inl (yL, 1, .inr (.inl f)))] : va_W))))) [.ref h, .int x, .ref ou] 1 6 (fun (r : Int32) (W1 : va_W) => r = q_arrives K x ∧ ∃ (K9 : CK) (V9 : CD) (f9 : Nat → Int64), (q_arrives K x = 0 → f9 0 = ((c_arrL K (ix x) 120 0 V)).toInt64) ∧ W1 = bw h a t ++ (cw yI yZ a K V ++ (cw yI yZ t K9 V9 ++ (([(ou, .inl (yL, 1, .inr (.inl f9)))] : va_W))))) (fun _ _ => False) := by
  refine xEXH_i (cc := cL_arrives) (nL := 4) (hh := [(0, 9, 12, 13)]) hst (by decide) rfl (Nat.le_of_ble_eq_true rfl) ?_
  intro p e s m args below meth c A Q F G htab ret
  show AW p l e rm_L_arrives s m args below meth c 4 D A 0 0 Q (bw h a t ++ (cw yI yZ a K V ++ (cw yI yZ t Kt Vt ++ (([(ou, .inl (yL, 1, .inr (.inl f)))] : va_W))))) [(0, .ref h), (1, .int x), (2, .ref ou)] 0 []
  refine xr_aload_n F dL_arrives_0 rfl 2 rfl ?_
  refine xr_iconst F dL_arrives_1 (v := 0) (by decide) ?_
  refine xr_aload_n F dL_arrives_2 rfl 0 rfl ?_
  refine xr_iload_n F dL_arrives_3 rfl 1 rfl ?_
  refine xr_callXVi F G (wr := ([(ou, .inl (yL, 1, .inr (.inl f)))] : va_W)) (rest := [.int 0, .ref ou]) (As := [.int x]) (k_X1_arrives l D yI yZ yL hst h a t K V Kt Vt x h0 h1 h2 h3 h4) (cwV 1 F.hts gL_arrives_X1_arrives rfl rfl rfl (by decide +kernel) ⟨Nat.le_of_ble_eq_true rfl, Nat.le_of_ble_eq_true rfl⟩) (q0 := 0) rfl rfl [0, 1, 2, 3, 4, 5, 6, 7, 8, 9, 10, 11, 12, 13, 14, 15, 16, 17, 18, 19, 20, 21, 22, 23, 24] [25] rfl rfl (by decide) (by decide) (by decide) rfl rfl (Nat.le_of_ble_eq_true rfl) dL_arrives_4 ⟨Nat.le_of_ble_eq_true rfl, Nat.le_of_ble_eq_true rfl⟩ (fun E1 W1 z1 => ?_) (fun r1 W1 z1 => ?_)
  · skip
    obtain ⟨z0, z1⟩ := z1
    subst z1
    obtain ⟨hq, z0⟩ := z0
    subst z0
    refine xr_catch F G htab [] ⟨0, 9, 12, 13⟩ [] rfl (fun z hz => nomatch hz) (by decide) (by decide) (List.mem_of_getElem? (i := 1) rfl) (List.mem_of_getElem? (i := 0) rfl) (fun q9 => ?_)
    refine xr_sub (ws' := bw h a t ++ (cw yI yZ a K V ++ (cw yI yZ t Kt Vt ++ (([(ou, .inl (yL, 1, .inr (.inl f)))] : va_W))))) [1, 2, 3, 4, 5, 6, 7, 8, 9, 10, 11, 12, 13, 14, 15, 16, 17, 18, 19, 20, 21, 22, 23, 24, 25, 0] (by decide) rfl ?_
    refine xr_astore_n F [(3, .ref q9), (0, .ref h), (1, .int x), (2, .ref ou)] dL_arrives_12 rfl (by decide) rfl ?_
    refine xr_iconst F dL_arrives_13 (v := 1) (by decide) ?_
    exact ret _ _ _ _ dL_arrives_14 ⟨hq.symm, _, _, f, fun z => absurd (hq.symm.trans z) (by decide), rfl⟩
  · skip
    obtain ⟨hq, z0, z1⟩ := z1
    subst z0
    obtain ⟨K9, V9, z1⟩ := z1
    subst z1
    refine xr_sub (ws' := bw h a t ++ (cw yI yZ a K V ++ (cw yI yZ t K9 V9 ++ (([(ou, .inl (yL, 1, .inr (.inl f)))] : va_W))))) [1, 2, 3, 4, 5, 6, 7, 8, 9, 10, 11, 12, 13, 14, 15, 16, 17, 18, 19, 20, 21, 22, 23, 24, 25, 0] (by decide) rfl ?_
    refine xr_i2l F dL_arrives_7 (v := (c_arrL K (ix x) 120 0 V).toInt64) rfl ?_
    refine xr_last F 25 2 rfl rfl (0) rfl (by decide) (by decide) (bw h a t ++ (cw yI yZ a K V ++ (cw yI yZ t K9 V9 ++ (([(ou, .inl (yL, 1, .inr (.inl (vp_updL f 0 ((c_arrL K (ix x) 120 0 V).toInt64)))))] : va_W))))) rfl dL_arrives_8 ?_
    refine xr_goto F 15 dL_arrives_9 (by decide) ?_
    refine xr_iconst F dL_arrives_15 (v := 0) (by decide) ?_
    exact ret _ _ _ _ dL_arrives_16 ⟨hq.symm, _, _, _, (fun _ => rfl), rfl⟩

def rm_L_foresee : Room := { frames := 8, cells := 1, slots := 6, locals := 160 }
set_option maxHeartbeats 4000000 in
set_option maxRecDepth 100000 in
/-- the law's foresee -/
theorem k_L_foresee (l : Launch) (D : va_G) (yI yZ yL : ClassId) (hst : l.stackTraces = false) (h : Nat) (a t : Nat → Nat) (K : CK) (V : CD) (Kt : CK) (Vt : CD) (ou : Nat) (f : Nat → Int64) (x : Int32) (y : Int32) (h0 : kDry K = 0 ∨ kDry K = 1) (h1 : ∀ k, k < 5 → dFull V k = 0 ∨ dFull V k = 1) (h2 : kNb K ≤ 10) (h3 : kMill K ≤ 6) (h4 : dHour V + 60 < 2147483648) : xXi l yL_foresee wsL_foresee rm_L_foresee D (tysG yI yZ yL) (bw h a t ++ (cw yI yZ a K V ++ (cw yI yZ t Kt Vt ++ (([(ou, .inl (yL, 1, .inr (.inl f)))] : va_W))))) [.ref h, .int x, .int y, .ref ou] 1 6 (fun (r : Int32) (W1 : va_W) => r = q_foresee x y ∧ ∃ (K9 : CK) (V9 : CD) (f9 : Nat → Int64), (q_foresee x y = 0 → f9 0 = ((c_tellW K (c_hours K (ix x) V 0).1 (ix y))).toInt64) ∧ W1 = bw h a t ++ (cw yI yZ a K V ++ (cw yI yZ t K9 V9 ++ (([(ou, .inl (yL, 1, .inr (.inl f9)))] : va_W))))) (fun _ _ => False) := by
  refine xEXH_i (cc := cL_foresee) (nL := 5) (hh := [(0, 10, 13, 15), (0, 10, 17, 13)]) hst (by decide) rfl (Nat.le_of_ble_eq_true rfl) ?_
  intro p e s m args below meth c A Q F G htab ret
  show AW p l e rm_L_foresee s m args below meth c 5 D A 0 0 Q (bw h a t ++ (cw yI yZ a K V ++ (cw yI yZ t Kt Vt ++ (([(ou, .inl (yL, 1, .inr (.inl f)))] : va_W))))) [(0, .ref h), (1, .int x), (2, .int y), (3, .ref ou)] 0 []
  refine xr_aload_n F dL_foresee_0 rfl 3 rfl ?_
  refine xr_iconst F dL_foresee_1 (v := 0) (by decide) ?_
  refine xr_aload_n F dL_foresee_2 rfl 0 rfl ?_
  refine xr_iload_n F dL_foresee_3 rfl 1 rfl ?_
  refine xr_iload_n F dL_foresee_4 rfl 2 rfl ?_
  refine xr_callXVi F G (wr := ([(ou, .inl (yL, 1, .inr (.inl f)))] : va_W)) (rest := [.int 0, .ref ou]) (As := [.int x, .int y]) (k_X1_foresee l D yI yZ yL hst h a t K V Kt Vt x y h0 h1 h2 h3 h4) (cwV 2 F.hts gL_foresee_X1_foresee rfl rfl rfl (by decide +kernel) ⟨Nat.le_of_ble_eq_true rfl, Nat.le_of_ble_eq_true rfl⟩) (q0 := 0) rfl rfl [0, 1, 2, 3, 4, 5, 6, 7, 8, 9, 10, 11, 12, 13, 14, 15, 16, 17, 18, 19, 20, 21, 22, 23, 24] [25] rfl rfl (by decide) (by decide) (by decide) rfl rfl (Nat.le_of_ble_eq_true rfl) dL_foresee_5 ⟨Nat.le_of_ble_eq_true rfl, Nat.le_of_ble_eq_true rfl⟩ (fun E1 W1 z1 => ?_) (fun r1 W1 z1 => ?_)
  · skip
    obtain ⟨z0, z1⟩ := z1
    subst z1
    rcases z0 with ⟨hq, z0⟩ | ⟨hq, z0⟩
    · skip
      subst z0
      refine xr_catch F G htab [] ⟨0, 10, 13, 15⟩ [⟨0, 10, 17, 13⟩] rfl (fun z hz => nomatch hz) (by decide) (by decide) (List.mem_of_getElem? (i := 1) rfl) (List.mem_of_getElem? (i := 1) rfl) (fun q9 => ?_)
      refine xr_sub (ws' := bw h a t ++ (cw yI yZ a K V ++ (cw yI yZ t Kt Vt ++ (([(ou, .inl (yL, 1, .inr (.inl f)))] : va_W))))) [1, 2, 3, 4, 5, 6, 7, 8, 9, 10, 11, 12, 13, 14, 15, 16, 17, 18, 19, 20, 21, 22, 23, 24, 25, 0] (by decide) rfl ?_
      refine xr_astore F [(4, .ref q9), (0, .ref h), (1, .int x), (2, .int y), (3, .ref ou)] dL_foresee_13 (by decide) rfl ?_
      refine xr_iconst F dL_foresee_15 (v := 1) (by decide) ?_
      exact ret _ _ _ _ dL_foresee_16 ⟨hq.symm, _, _, f, fun z => absurd (hq.symm.trans z) (by decide), rfl⟩
    · skip
      subst z0
      refine xr_catch F G htab [⟨0, 10, 13, 15⟩] ⟨0, 10, 17, 13⟩ [] rfl (fun z hz => by rcases List.mem_singleton.mp hz with rfl; exact Or.inr ⟨by decide, xE2, (List.mem_of_getElem? (i := 1) rfl), List.mem_of_getElem? (i := 3) rfl⟩) (by decide) (by decide) (List.mem_of_getElem? (i := 2) rfl) (List.mem_of_getElem? (i := 0) rfl) (fun q9 => ?_)
      refine xr_sub (ws' := bw h a t ++ (cw yI yZ a K V ++ (cw yI yZ t Kt Vt ++ (([(ou, .inl (yL, 1, .inr (.inl f)))] : va_W))))) [1, 2, 3, 4, 5, 6, 7, 8, 9, 10, 11, 12, 13, 14, 15, 16, 17, 18, 19, 20, 21, 22, 23, 24, 25, 0] (by decide) rfl ?_
      refine xr_astore F [(4, .ref q9), (0, .ref h), (1, .int x), (2, .int y), (3, .ref ou)] dL_foresee_17 (by decide) rfl ?_
      refine xr_iconst F dL_foresee_19 (v := 2) (by decide) ?_
      exact ret _ _ _ _ dL_foresee_20 ⟨hq.symm, _, _, f, fun z => absurd (hq.symm.trans z) (by decide), rfl⟩
  · skip
    obtain ⟨hq, z0, z1⟩ := z1
    subst z0
    obtain ⟨K9, V9, z1⟩ := z1
    subst z1
    refine xr_sub (ws' := bw h a t ++ (cw yI yZ a K V ++ (cw yI yZ t K9 V9 ++ (([(ou, .inl (yL, 1, .inr (.inl f)))] : va_W))))) [1, 2, 3, 4, 5, 6, 7, 8, 9, 10, 11, 12, 13, 14, 15, 16, 17, 18, 19, 20, 21, 22, 23, 24, 25, 0] (by decide) rfl ?_
    refine xr_i2l F dL_foresee_8 (v := (c_tellW K (c_hours K (ix x) V 0).1 (ix y)).toInt64) rfl ?_
    refine xr_last F 25 2 rfl rfl (0) rfl (by decide) (by decide) (bw h a t ++ (cw yI yZ a K V ++ (cw yI yZ t K9 V9 ++ (([(ou, .inl (yL, 1, .inr (.inl (vp_updL f 0 ((c_tellW K (c_hours K (ix x) V 0).1 (ix y)).toInt64)))))] : va_W))))) rfl dL_foresee_9 ?_
    refine xr_goto F 21 dL_foresee_10 (by decide) ?_
    refine xr_iconst F dL_foresee_21 (v := 0) (by decide) ?_
    exact ret _ _ _ _ dL_foresee_22 ⟨hq.symm, _, _, _, (fun _ => rfl), rfl⟩

def rm_L_advise : Room := { frames := 8, cells := 1, slots := 6, locals := 162 }
set_option maxHeartbeats 4000000 in
set_option maxRecDepth 100000 in
/-- the law's advise -/
theorem k_L_advise (l : Launch) (D : va_G) (yI yZ yL : ClassId) (hst : l.stackTraces = false) (h : Nat) (a t : Nat → Nat) (K : CK) (V : CD) (Kt : CK) (Vt : CD) (ou : Nat) (f : Nat → Int64) (x : Int32) (h0 : kDry K = 0 ∨ kDry K = 1) (h1 : ∀ k, k < 5 → dFull V k = 0 ∨ dFull V k = 1) (h2 : kNb K ≤ 10) (h3 : kMill K ≤ 6) (h4 : dHour V + 40 < 2147483648) : xXi l yL_advise wsL_advise rm_L_advise D (tysG yI yZ yL) (bw h a t ++ (cw yI yZ a K V ++ (cw yI yZ t Kt Vt ++ (([(ou, .inl (yL, 1, .inr (.inl f)))] : va_W))))) [.ref h, .int x, .ref ou] 1 6 (fun (r : Int32) (W1 : va_W) => r = q_hours x 40 ∧ ∃ (K9 : CK) (V9 : CD) (f9 : Nat → Int64), (q_hours x 40 = 0 → f9 0 = ((c_advL K V (ix x) 11 0 0 0)).toInt64) ∧ W1 = bw h a t ++ (cw yI yZ a K V ++ (cw yI yZ t K9 V9 ++ (([(ou, .inl (yL, 1, .inr (.inl f9)))] : va_W))))) (fun _ _ => False) := by
  refine xEXH_i (cc := cL_advise) (nL := 4) (hh := [(0, 9, 12, 15)]) hst (by decide) rfl (Nat.le_of_ble_eq_true rfl) ?_
  intro p e s m args below meth c A Q F G htab ret
  show AW p l e rm_L_advise s m args below meth c 4 D A 0 0 Q (bw h a t ++ (cw yI yZ a K V ++ (cw yI yZ t Kt Vt ++ (([(ou, .inl (yL, 1, .inr (.inl f)))] : va_W))))) [(0, .ref h), (1, .int x), (2, .ref ou)] 0 []
  refine xr_aload_n F dL_advise_0 rfl 2 rfl ?_
  refine xr_iconst F dL_advise_1 (v := 0) (by decide) ?_
  refine xr_aload_n F dL_advise_2 rfl 0 rfl ?_
  refine xr_iload_n F dL_advise_3 rfl 1 rfl ?_
  refine xr_callXVi F G (wr := ([(ou, .inl (yL, 1, .inr (.inl f)))] : va_W)) (rest := [.int 0, .ref ou]) (As := [.int x]) (k_X1_advise l D yI yZ yL hst h a t K V Kt Vt x h0 h1 h2 h3 h4) (cwV 1 F.hts gL_advise_X1_advise rfl rfl rfl (by decide +kernel) ⟨Nat.le_of_ble_eq_true rfl, Nat.le_of_ble_eq_true rfl⟩) (q0 := 0) rfl rfl [0, 1, 2, 3, 4, 5, 6, 7, 8, 9, 10, 11, 12, 13, 14, 15, 16, 17, 18, 19, 20, 21, 22, 23, 24] [25] rfl rfl (by decide) (by decide) (by decide) rfl rfl (Nat.le_of_ble_eq_true rfl) dL_advise_4 ⟨Nat.le_of_ble_eq_true rfl, Nat.le_of_ble_eq_true rfl⟩ (fun E1 W1 z1 => ?_) (fun r1 W1 z1 => ?_)
  · skip
    obtain ⟨z0, z1⟩ := z1
    subst z1
    obtain ⟨hq, z0⟩ := z0
    subst z0
    refine xr_catch F G htab [] ⟨0, 9, 12, 15⟩ [] rfl (fun z hz => nomatch hz) (by decide) (by decide) (List.mem_of_getElem? (i := 1) rfl) (List.mem_of_getElem? (i := 1) rfl) (fun q9 => ?_)
    refine xr_sub (ws' := bw h a t ++ (cw yI yZ a K V ++ (cw yI yZ t Kt Vt ++ (([(ou, .inl (yL, 1, .inr (.inl f)))] : va_W))))) [1, 2, 3, 4, 5, 6, 7, 8, 9, 10, 11, 12, 13, 14, 15, 16, 17, 18, 19, 20, 21, 22, 23, 24, 25, 0] (by decide) rfl ?_
    refine xr_astore_n F [(3, .ref q9), (0, .ref h), (1, .int x), (2, .ref ou)] dL_advise_12 rfl (by decide) rfl ?_
    refine xr_iconst F dL_advise_13 (v := 1) (by decide) ?_
    exact ret _ _ _ _ dL_advise_14 ⟨hq.symm, _, _, f, fun z => absurd (hq.symm.trans z) (by decide), rfl⟩
  · skip
    obtain ⟨hq, z0, z1⟩ := z1
    subst z0
    obtain ⟨K9, V9, z1⟩ := z1
    subst z1
    refine xr_sub (ws' := bw h a t ++ (cw yI yZ a K V ++ (cw yI yZ t K9 V9 ++ (([(ou, .inl (yL, 1, .inr (.inl f)))] : va_W))))) [1, 2, 3, 4, 5, 6, 7, 8, 9, 10, 11, 12, 13, 14, 15, 16, 17, 18, 19, 20, 21, 22, 23, 24, 25, 0] (by decide) rfl ?_
    refine xr_i2l F dL_advise_7 (v := (c_advL K V (ix x) 11 0 0 0).toInt64) rfl ?_
    refine xr_last F 25 2 rfl rfl (0) rfl (by decide) (by decide) (bw h a t ++ (cw yI yZ a K V ++ (cw yI yZ t K9 V9 ++ (([(ou, .inl (yL, 1, .inr (.inl (vp_updL f 0 ((c_advL K V (ix x) 11 0 0 0).toInt64)))))] : va_W))))) rfl dL_advise_8 ?_
    refine xr_goto F 15 dL_advise_9 (by decide) ?_
    refine xr_iconst F dL_advise_15 (v := 0) (by decide) ?_
    exact ret _ _ _ _ dL_advise_16 ⟨hq.symm, _, _, _, (fun _ => rfl), rfl⟩
