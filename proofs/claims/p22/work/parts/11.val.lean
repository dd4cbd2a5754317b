-- ===== the values: what a canal is (K: what calls set, V: what hours change), and the cells that hold them =====
abbrev CK : Type := Int32 × Int32 × Nat × Int32 × Nat × (Nat → Int32) × (Nat → Int32)
abbrev CD : Type := Nat × Int32 × (Nat → Int32) × (Nat → Int32) × (Nat → Int32) × (Nat → Int32) × (Nat → Int32) × (Nat → Int32) × (Nat → Int32) × (Nat → Int32) × (Nat → Int32)
def kFee (K : CK) : Int32 := K.1
def kDry (K : CK) : Int32 := K.2.1
/-- the mill's pound and 1; 0 for none -/
def kMill (K : CK) : Nat := K.2.2.1
def kMark (K : CK) : Int32 := K.2.2.2.1
def kNb (K : CK) : Nat := K.2.2.2.2.1
def kSpr (K : CK) : Nat → Int32 := K.2.2.2.2.2.1
def kGoal (K : CK) : Nat → Int32 := K.2.2.2.2.2.2
def dHour (V : CD) : Nat := V.1
def dBank (V : CD) : Int32 := V.2.1
def dLev (V : CD) : Nat → Int32 := V.2.2.1
def dOver (V : CD) : Nat → Int32 := V.2.2.2.1
def dDrawn (V : CD) : Nat → Int32 := V.2.2.2.2.1
def dFull (V : CD) : Nat → Int32 := V.2.2.2.2.2.1
def dLock (V : CD) : Nat → Int32 := V.2.2.2.2.2.2.1
def dFill (V : CD) : Nat → Int32 := V.2.2.2.2.2.2.2.1
def dAt (V : CD) : Nat → Int32 := V.2.2.2.2.2.2.2.2.1
def dPur (V : CD) : Nat → Int32 := V.2.2.2.2.2.2.2.2.2.1
def dSer (V : CD) : Nat → Int32 := V.2.2.2.2.2.2.2.2.2.2
def tHour (V : CD) (x : Nat) : CD := (x, dBank V, dLev V, dOver V, dDrawn V, dFull V, dLock V, dFill V, dAt V, dPur V, dSer V)
def tBank (V : CD) (x : Int32) : CD := (dHour V, x, dLev V, dOver V, dDrawn V, dFull V, dLock V, dFill V, dAt V, dPur V, dSer V)
def tLev (V : CD) (x : Nat → Int32) : CD := (dHour V, dBank V, x, dOver V, dDrawn V, dFull V, dLock V, dFill V, dAt V, dPur V, dSer V)
def tOver (V : CD) (x : Nat → Int32) : CD := (dHour V, dBank V, dLev V, x, dDrawn V, dFull V, dLock V, dFill V, dAt V, dPur V, dSer V)
def tDrawn (V : CD) (x : Nat → Int32) : CD := (dHour V, dBank V, dLev V, dOver V, x, dFull V, dLock V, dFill V, dAt V, dPur V, dSer V)
def tFull (V : CD) (x : Nat → Int32) : CD := (dHour V, dBank V, dLev V, dOver V, dDrawn V, x, dLock V, dFill V, dAt V, dPur V, dSer V)
def tLock (V : CD) (x : Nat → Int32) : CD := (dHour V, dBank V, dLev V, dOver V, dDrawn V, dFull V, x, dFill V, dAt V, dPur V, dSer V)
def tFill (V : CD) (x : Nat → Int32) : CD := (dHour V, dBank V, dLev V, dOver V, dDrawn V, dFull V, dLock V, x, dAt V, dPur V, dSer V)
def tAt (V : CD) (x : Nat → Int32) : CD := (dHour V, dBank V, dLev V, dOver V, dDrawn V, dFull V, dLock V, dFill V, x, dPur V, dSer V)
def tPur (V : CD) (x : Nat → Int32) : CD := (dHour V, dBank V, dLev V, dOver V, dDrawn V, dFull V, dLock V, dFill V, dAt V, x, dSer V)
def tSer (V : CD) (x : Nat → Int32) : CD := (dHour V, dBank V, dLev V, dOver V, dDrawn V, dFull V, dLock V, dFill V, dAt V, dPur V, x)
/-- the classes of the rows: int[], boolean[], int[][] -/
def tysG (yI yZ yL : ClassId) : List (ClassId × FieldType) := [(yI, .int), (yZ, .boolean), (yL, .array .int)]
/-- a LockBank$Canal at the cells a 0 .. a 11, part by part -/
def cwx (yI yZ : ClassId) (a : Nat → Nat) (fee dry : Int32) (mill : Nat) (mark : Int32) (nb : Nat) (spr goal : Nat → Int32) (hour : Nat) (bank : Int32) (lev over drawn full lock fill pat pur ser : Nat → Int32) : va_W :=
  [(a 0, .inr (0, [.int (nI hour), .int bank, .int fee, .int dry, .int (nI mill - 1), .int mark, .ref (a 1), .ref (a 2), .ref (a 3), .ref (a 4), .ref (a 5), .ref (a 6), .ref (a 7), .int (nI nb), .ref (a 8), .ref (a 9), .ref (a 10), .ref (a 11)])),
   (a 1, .inl (yI, 8, .inl spr)), (a 2, .inl (yI, 6, .inl lev)), (a 3, .inl (yI, 6, .inl over)), (a 4, .inl (yI, 6, .inl drawn)), (a 5, .inl (yZ, 5, .inl full)), (a 6, .inl (yI, 5, .inl lock)), (a 7, .inl (yI, 5, .inl fill)), (a 8, .inl (yI, 10, .inl pat)), (a 9, .inl (yI, 10, .inl goal)), (a 10, .inl (yI, 10, .inl pur)), (a 11, .inl (yI, 10, .inl ser))]
def cw (yI yZ : ClassId) (a : Nat → Nat) (K : CK) (V : CD) : va_W := cwx yI yZ a (kFee K) (kDry K) (kMill K) (kMark K) (kNb K) (kSpr K) (kGoal K) (dHour V) (dBank V) (dLev V) (dOver V) (dDrawn V) (dFull V) (dLock V) (dFill V) (dAt V) (dPur V) (dSer V)
theorem cw_mk (yI yZ : ClassId) (a : Nat → Nat) (K : CK) (hour : Nat) (bank : Int32) (lev over drawn full lock fill pat pur ser : Nat → Int32) : cw yI yZ a K (hour, bank, lev, over, drawn, full, lock, fill, pat, pur, ser) = cwx yI yZ a (kFee K) (kDry K) (kMill K) (kMark K) (kNb K) (kSpr K) (kGoal K) hour bank lev over drawn full lock fill pat pur ser := rfl
theorem cw_mkK (yI yZ : ClassId) (a : Nat → Nat) (V : CD) (fee dry : Int32) (mill : Nat) (mark : Int32) (nb : Nat) (spr goal : Nat → Int32) : cw yI yZ a (fee, dry, mill, mark, nb, spr, goal) V = cwx yI yZ a fee dry mill mark nb spr goal (dHour V) (dBank V) (dLev V) (dOver V) (dDrawn V) (dFull V) (dLock V) (dFill V) (dAt V) (dPur V) (dSer V) := rfl
theorem cw_mkB (yI yZ : ClassId) (a : Nat → Nat) (fee dry : Int32) (mill : Nat) (mark : Int32) (nb : Nat) (spr goal : Nat → Int32) (hour : Nat) (bank : Int32) (lev over drawn full lock fill pat pur ser : Nat → Int32) : cw yI yZ a (fee, dry, mill, mark, nb, spr, goal) (hour, bank, lev, over, drawn, full, lock, fill, pat, pur, ser) = cwx yI yZ a fee dry mill mark nb spr goal hour bank lev over drawn full lock fill pat pur ser := rfl
/-- a LockBank at the cell h -/
def bw (h : Nat) (a t : Nat → Nat) : va_W := [(h, .inr (1, [.ref (a 0), .ref (t 0)]))]
-- ===== the canal's methods, as functions =====
def c_down (K : CK) (V : CD) (b : Nat) : Int32 := if dAt V b ≤ kGoal K b then 0 else 1
def c_fits (K : CK) (V : CD) (k b : Nat) : Int32 := if dFull V k = c_down K V b then 1 else 0
def c_canFill (V : CD) (k : Nat) : Int32 := if dLev V (k + 1) < 32 then 0 else 1
def c_come (K : CK) (V : CD) (b : Nat) : Int32 := if dAt V b = kGoal K b then 1 else 0
def c_waits (K : CK) (V : CD) (b : Nat) : Int32 := if c_come K V b = 0 then (if c_down K V b = 0 then dAt V b else dAt V b - 1) else -1
def c_need (K : CK) (V : CD) (k b : Nat) : Int32 := if c_down K V b = 0 then 1 else if dFull V k = 0 then 1 else 0
def c_can2 (K : CK) (V : CD) (k b : Nat) : Int32 := if c_need K V k b = 0 then 1 else if c_canFill V k = 0 then 0 else 1
def c_can (K : CK) (V : CD) (k b : Nat) : Int32 := if kFee K ≤ dPur V b then (if kDry K = 0 then c_can2 K V k b else if c_fits K V k b = 0 then 0 else c_can2 K V k b) else 0
def c_wt (K : CK) (V : CD) (k : Nat) (sb : Int32) (b : Nat) : Int32 := if c_waits K V b = nI k then (if (sb >>> (nI b &&& 31)) &&& 1 = 0 then 1 else 0) else 0
def c_nextL (K : CK) (V : CD) (k : Nat) (sb : Int32) : Nat → Nat → Int32 → Int32
  | 0, _, f => f
  | m + 1, b, f => if c_wt K V k sb b = 0 then c_nextL K V k sb m (b + 1) f else if c_can K V k b = 0 then c_nextL K V k sb m (b + 1) f else if c_fits K V k b = 0 then (if f = -1 then c_nextL K V k sb m (b + 1) (nI b) else c_nextL K V k sb m (b + 1) f) else nI b
def c_next (K : CK) (V : CD) (k : Nat) (sb : Int32) : Int32 := c_nextL K V k sb (kNb K) 0 (-1)
def c_pourL : Nat → Int32 → (Nat → Int32) → (Nat → Int32) → (Nat → Int32) × (Nat → Int32)
  | 0, _, lv, ov => (lv, ov)
  | n + 1, x, lv, ov => if x ≤ 0 then (lv, ov) else
      c_pourL n (lv n + x - upd lv n (if 100 < lv n + x then 100 else lv n + x) n) (upd lv n (if 100 < lv n + x then 100 else lv n + x)) (upd ov n (ov n + (lv n + x - upd lv n (if 100 < lv n + x then 100 else lv n + x) n)))
def c_pour (V : CD) (n : Nat) (x : Int32) : CD := tOver (tLev V (c_pourL n x (dLev V) (dOver V)).1) (c_pourL n x (dLev V) (dOver V)).2
def c_turn (V : CD) (k : Nat) : CD := if dFull V k = 0 then tFill (tLev (tFull V (upd (dFull V) k 1)) (upd (dLev V) (k + 1) (dLev V (k + 1) - 12))) (upd (dFill V) k (dFill V k + 12)) else c_pour (tFull V (upd (dFull V) k 0)) (k + 1) 12
def c_mill1 (K : CK) (V : CD) (q : Nat) (x : Int32) : CD := c_pour (tBank (tDrawn (tLev V (upd (dLev V) q (dLev V q - x))) (upd (dDrawn V) q (dDrawn V q + x))) (dBank V + x / 5)) q x
def c_mill (K : CK) (V : CD) : CD := match kMill K with
  | 0 => V
  | q + 1 => if kMark K < dLev V q then c_mill1 K V q (if 10 < dLev V q - kMark K then 10 else dLev V q - kMark K) else V
def c_serve2 (K : CK) (V : CD) (k b : Nat) : CD := tLock (tSer (tBank (tPur (tAt V (upd (dAt V) b (if c_down K V b = 0 then nI (k + 1) else nI k))) (upd (dPur V) b (dPur V b - kFee K))) (dBank V + kFee K)) (upd (dSer V) b (dSer V b + 1))) (upd (dLock V) k (dLock V k + 1))
def c_serve (K : CK) (V : CD) (k b : Nat) : CD := c_serve2 K (c_turn (if c_fits K V k b = 0 then c_turn V k else V) k) k b
def c_hourL (K : CK) : Nat → CD → Int32 → Int32 → CD × Int32
  | 0, V, _, sv => (V, sv)
  | n + 1, V, sb, sv => if c_next K V n sb = -1 then c_hourL K n V sb sv else c_hourL K n (c_serve K V n (c_next K V n sb).toNatClampNeg) (sb ||| (1 <<< (c_next K V n sb &&& 31))) (sv + 1)
def c_hourA (K : CK) (V : CD) : CD := c_mill K (c_pour V 6 (kSpr K (dHour V % 8)))
def c_hour (K : CK) (V : CD) : CD × Int32 := (tHour (c_hourL K 5 (c_hourA K V) 0 0).1 (dHour (c_hourL K 5 (c_hourA K V) 0 0).1 + 1), (c_hourL K 5 (c_hourA K V) 0 0).2)
def c_hours (K : CK) : Nat → CD → Int32 → CD × Int32
  | 0, V, r => (V, r)
  | n + 1, V, r => c_hours K n (c_hour K V).1 (r + (c_hour K V).2)
def c_cntL (f : Nat → Int32) (x : Int32) : Nat → Nat → Int32 → Int32
  | 0, _, r => r
  | m + 1, b, r => c_cntL f x m (b + 1) (r + if f b = x then 1 else 0)
def c_atN (K : CK) (V : CD) (x : Int32) : Int32 := c_cntL (dAt V) x (kNb K) 0 0
def c_waitN (K : CK) (V : CD) (x : Int32) : Int32 := c_cntL (c_waits K V) x (kNb K) 0 0
def c_comeL (f : Nat → Int32) : Nat → Nat → Int32 → Int32
  | 0, _, r => r
  | m + 1, b, r => c_comeL f m (b + 1) (r + if f b = 0 then 0 else 1)
def c_comeN (K : CK) (V : CD) : Int32 := c_comeL (c_come K V) (kNb K) 0 0
def c_fullN (V : CD) : Int32 := c_comeL (dFull V) 5 0 0
def c_sumL (f : Nat → Int32) : Nat → Nat → Int32 → Int32
  | 0, _, r => r
  | m + 1, b, r => c_sumL f m (b + 1) (r + f b)
def c_water (V : CD) : Int32 := c_sumL (dLev V) 6 0 0
def c_tellB (K : CK) (V : CD) (b : Nat) : Nat → Int32
  | 0 => dAt V b
  | 1 => kGoal K b
  | 2 => dPur V b
  | 3 => dSer V b
  | _ => c_waits K V b
def c_tellP (K : CK) (V : CD) (p : Nat) : Nat → Int32
  | 0 => dLev V p
  | 1 => c_atN K V (nI p)
  | 2 => dOver V p
  | _ => dDrawn V p
def c_tellL (K : CK) (V : CD) (k : Nat) : Nat → Int32
  | 0 => if dFull V k = 0 then 0 else 1
  | 1 => c_waitN K V (nI k)
  | 2 => dLock V k
  | 3 => dFill V k
  | _ => c_next K V k 0
def c_tellW (K : CK) (V : CD) : Nat → Int32
  | 0 => nI (dHour V)
  | 1 => nI (kNb K)
  | 2 => c_comeN K V
  | 3 => dBank V
  | 4 => c_water V
  | 5 => c_fullN V
  | 6 => dOver V 0 + dDrawn V 0
  | 7 => kFee K
  | 8 => kMark K
  | _ => nI (kMill K) - 1
