-- ===== the model's methods, as functions: K (kMark is the state's own mark), V, away, when =====
def m_lockOf (K : CK) (V : CD) (b : Nat) : Int32 := if dAt V b ≤ kGoal K b then (if kGoal K b ≤ dAt V b then -1 else dAt V b) else dAt V b - 1
def m_wait (K : CK) (V : CD) (wh : Nat → Int32) (k b : Nat) : Int32 := if m_lockOf K V b = nI k then (if wh b = nI (dHour V) then 0 else 1) else 0
def m_fits (K : CK) (V : CD) (k b : Nat) : Int32 := if dFull V k = 1 then (if c_down K V b = 1 then 1 else 0) else (if c_down K V b = 0 then 1 else 0)
def m_can2 (K : CK) (V : CD) (k b : Nat) : Int32 := if c_down K V b = 0 then (if c_canFill V k = 0 then 0 else 1) else if dFull V k = 1 then 1 else (if c_canFill V k = 0 then 0 else 1)
def m_can (K : CK) (V : CD) (k b : Nat) : Int32 := if dPur V b < kFee K then 0 else if kDry K = 0 then m_can2 K V k b else if m_fits K V k b = 0 then 0 else m_can2 K V k b
def m_nextL (K : CK) (V : CD) (wh : Nat → Int32) (k : Nat) : Nat → Nat → Int32 → Int32
  | 0, _, f => f
  | m + 1, b, f => if m_wait K V wh k b = 0 then m_nextL K V wh k m (b + 1) f else if m_can K V k b = 0 then m_nextL K V wh k m (b + 1) f else if m_fits K V k b = 0 then (if f = -1 then m_nextL K V wh k m (b + 1) (nI b) else m_nextL K V wh k m (b + 1) f) else nI b
def m_next (K : CK) (V : CD) (wh : Nat → Int32) (k : Nat) : Int32 := m_nextL K V wh k (kNb K) 0 (-1)
def s_pourL : Nat → Int32 → (Nat → Int32) → (Nat → Int32) → (Nat → Int32) × (Nat → Int32) × Int32
  | 0, x, f, g => (f, g, x)
  | n + 1, x, f, g => if x ≤ 0 then (f, g, x) else
      s_pourL n (if 0 < upd f n (f n + x) n - 100 then upd f n (f n + x) n - 100 else 0) (upd (upd f n (f n + x)) n (upd f n (f n + x) n - (if 0 < upd f n (f n + x) n - 100 then upd f n (f n + x) n - 100 else 0))) (upd g n (g n + (if 0 < upd f n (f n + x) n - 100 then upd f n (f n + x) n - 100 else 0)))
def s_pour (V : CD) (aw : Int32) (n : Nat) (x : Int32) : CD × Int32 := (tOver (tLev V (s_pourL n x (dLev V) (dOver V)).1) (s_pourL n x (dLev V) (dOver V)).2.1, aw + (s_pourL n x (dLev V) (dOver V)).2.2)
def s_fill (V : CD) (k : Nat) : CD := tFull (tFill (tLev V (upd (dLev V) (k + 1) (dLev V (k + 1) - 12))) (upd (dFill V) k (dFill V k + 12))) (upd (dFull V) k 1)
def s_empty (V : CD) (aw : Int32) (k : Nat) : CD × Int32 := s_pour (tFull V (upd (dFull V) k 0)) aw (k + 1) 12
def m_up1 (V : CD) (aw : Int32) (k : Nat) : CD × Int32 := if dFull V k = 1 then s_empty V aw k else (V, aw)
def m_upA (V : CD) (k b : Nat) : CD := tAt (s_fill V k) (upd (dAt (s_fill V k)) b (dAt (s_fill V k) b + 1))
def m_downA (V : CD) (aw : Int32) (k b : Nat) : CD × Int32 := (tAt (s_empty V aw k).1 (upd (dAt (s_empty V aw k).1) b (dAt (s_empty V aw k).1 b - 1)), (s_empty V aw k).2)
def m_serveA (K : CK) (V : CD) (aw : Int32) (k b : Nat) : CD × Int32 := if c_down K V b = 0 then (m_upA (m_up1 V aw k).1 k b, (m_up1 V aw k).2) else m_downA (if dFull V k = 0 then s_fill V k else V) aw k b
def m_pay (K : CK) (V : CD) (k b : Nat) : CD := tLock (tSer (tBank (tPur V (upd (dPur V) b (dPur V b - kFee K))) (dBank V + kFee K)) (upd (dSer V) b (dSer V b + 1))) (upd (dLock V) k (dLock V k + 1))
def m_serve (K : CK) (V : CD) (aw : Int32) (wh : Nat → Int32) (k b : Nat) : CD × Int32 × (Nat → Int32) := (m_pay K (m_serveA K V aw k b).1 k b, (m_serveA K V aw k b).2, upd wh b (nI (dHour (m_serveA K V aw k b).1)))
def m_grind1 (V : CD) (aw : Int32) (q : Nat) (x : Int32) : CD × Int32 := s_pour (tBank (tDrawn (tLev V (upd (dLev V) q (dLev V q - x))) (upd (dDrawn V) q (dDrawn V q + x))) (dBank V + x / 5)) aw q x
def m_grind (K : CK) (V : CD) (aw : Int32) : CD × Int32 := match kMill K with
  | 0 => (V, aw)
  | q + 1 => if kMark K < dLev V q then m_grind1 V aw q (if dLev V q - kMark K < 10 then dLev V q - kMark K else 10) else (V, aw)
def m_hourL (K : CK) : Nat → CD → Int32 → (Nat → Int32) → Int32 → CD × Int32 × (Nat → Int32) × Int32
  | 0, V, aw, wh, sv => (V, aw, wh, sv)
  | n + 1, V, aw, wh, sv => if m_next K V wh n = -1 then m_hourL K n V aw wh sv else m_hourL K n (m_serve K V aw wh n (m_next K V wh n).toNatClampNeg).1 (m_serve K V aw wh n (m_next K V wh n).toNatClampNeg).2.1 (m_serve K V aw wh n (m_next K V wh n).toNatClampNeg).2.2 (sv + 1)
def m_hourA (K : CK) (V : CD) (aw : Int32) : CD × Int32 := m_grind K (s_pour V aw 6 (kSpr K (dHour V % 8))).1 (s_pour V aw 6 (kSpr K (dHour V % 8))).2
def m_hourB (K : CK) (V : CD) (aw : Int32) (wh : Nat → Int32) : CD × Int32 × (Nat → Int32) × Int32 := m_hourL K 5 (m_hourA K V aw).1 (m_hourA K V aw).2 wh 0
/-- V, away, when, the answer -/
def m_hour (K : CK) (V : CD) (aw : Int32) (wh : Nat → Int32) : CD × Int32 × (Nat → Int32) × Int32 := (tHour (m_hourB K V aw wh).1 (dHour (m_hourB K V aw wh).1 + 1), (m_hourB K V aw wh).2)
def m_hours (K : CK) : Nat → CD → Int32 → (Nat → Int32) → Int32 → CD × Int32 × (Nat → Int32) × Int32
  | 0, V, aw, wh, r => (V, aw, wh, r)
  | n + 1, V, aw, wh, r => m_hours K n (m_hour K V aw wh).1 (m_hour K V aw wh).2.1 (m_hour K V aw wh).2.2.1 (r + (m_hour K V aw wh).2.2.2)
def m_waitN (K : CK) (V : CD) (x : Int32) : Int32 := c_cntL (m_lockOf K V) x (kNb K) 0 0
def m_comeL (f g : Nat → Int32) : Nat → Nat → Int32 → Int32
  | 0, _, r => r
  | m + 1, b, r => m_comeL f g m (b + 1) (r + if f b = g b then 1 else 0)
def m_comeN (K : CK) (V : CD) : Int32 := m_comeL (dAt V) (kGoal K) (kNb K) 0 0
def m_fullN (V : CD) : Int32 := c_sumL (dFull V) 5 0 0
def m_tellB (K : CK) (V : CD) (b : Nat) : Nat → Int32
  | 0 => dAt V b
  | 1 => kGoal K b
  | 2 => dPur V b
  | 3 => dSer V b
  | _ => m_lockOf K V b
def m_tellP (K : CK) (V : CD) (p : Nat) : Nat → Int32
  | 0 => dLev V p
  | 1 => c_atN K V (nI p)
  | 2 => dOver V p
  | _ => dDrawn V p
def m_tellL (K : CK) (V : CD) (wh : Nat → Int32) (k : Nat) : Nat → Int32
  | 0 => dFull V k
  | 1 => m_waitN K V (nI k)
  | 2 => dLock V k
  | 3 => dFill V k
  | _ => m_next K V wh k
def m_tellW (K : CK) (V : CD) (aw : Int32) : Nat → Int32
  | 0 => nI (dHour V)
  | 1 => nI (kNb K)
  | 2 => m_comeN K V
  | 3 => dBank V
  | 4 => c_water V
  | 5 => m_fullN V
  | 6 => aw
  | 7 => kFee K
  | 8 => kMark K
  | _ => nI (kMill K) - 1
