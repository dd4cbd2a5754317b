-- ===== the bank's calls, as functions of its canal =====
def C_water (V : CD) (x y : Int32) : CD := if q_water V x y = 0 then c_pour (V_paid V y) (ix x + 1) y else V
def C_work (V : CD) (x : Int32) : CD := if q_work V x = 0 then c_turn V (ix x) else V
def C_pass (K : CK) (V : CD) (x : Int32) : CD × Int32 := if q_hours x 60 = 0 then c_hours K (ix x) V 0 else (V, 0)
def c_arrL (K : CK) (b : Nat) : Nat → Nat → CD → Int32
  | 0, _, V => if c_come K V b = 0 then -1 else 120
  | m + 1, h, V => if c_come K V b = 0 then c_arrL K b m (h + 1) (c_hour K V).1 else nI h
def c_stopL (K : CK) : Nat → Nat → CD → Int32
  | 0, _, _ => -1
  | m + 1, h, V => if (c_hour K V).2 = 0 then nI h else c_stopL K m (h + 1) (c_hour K V).1
def c_advB (K : CK) (V : CD) (n : Nat) (mk : Int32) : Int32 := dBank (c_hours (uMark K mk) n V 0).1
def c_advL (K : CK) (V : CD) (n : Nat) : Nat → Nat → Int32 → Int32 → Int32
  | 0, _, best, _ => best
  | m + 1, k, best, most => if c_advB K V n (nI (k * 10)) < most then c_advL K V n m (k + 1) best most else c_advL K V n m (k + 1) (nI (k * 10)) (c_advB K V n (nI (k * 10)))
theorem xk_req {x lo hi : Int32} (h : ¬ x < lo) (h2 : x ≤ hi) : ¬ c_isIn x lo hi = 0 := by
  rw [c_isIn, if_neg h, if_neg (Int32.not_lt.mpr h2)]; decide
theorem xk_nblt : ∀ n : Nat, n < 11 → nI n < 10 → n < 10 ∧ ¬ nI n = (10 : Int32) := by decide +kernel
theorem xk_nbge : ∀ n : Nat, n < 11 → ¬ nI n < 10 → nI n = (10 : Int32) := by decide +kernel
theorem c_turn_full {V : CD} {k j : Nat} (h : dFull V j = 0 ∨ dFull V j = 1) : dFull (c_turn V k) j = 0 ∨ dFull (c_turn V k) j = 1 := by
  unfold c_turn
  by_cases c : dFull V k = 0
  · rw [if_pos c]
    show upd (dFull V) k 1 j = 0 ∨ upd (dFull V) k 1 j = 1
    by_cases q : j = k
    · subst q; rw [pk_us]; exact Or.inr rfl
    · rw [pk_un q]; exact h
  · rw [if_neg c]
    show upd (dFull V) k 0 j = 0 ∨ upd (dFull V) k 0 j = 1
    by_cases q : j = k
    · subst q; rw [pk_us]; exact Or.inl rfl
    · rw [pk_un q]; exact h
