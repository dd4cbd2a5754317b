-- ===== families of cells, arrays of arrays, calls in the middle of a world =====
/-- n cells by their numbers -/
def fam (n : Nat) (g : Nat → Nat × va_E) : va_W := (List.range n).map g
theorem fam_len (n : Nat) (g : Nat → Nat × va_E) : (fam n g).length = n := by simp [fam]
theorem fam_get {n : Nat} {g : Nat → Nat × va_E} {k : Nat} (h : k < n) : (fam n g)[k]? = some (g k) := by
  unfold fam; rw [List.getElem?_map, List.getElem?_range h]; rfl
theorem fam_congr {n : Nat} {g g' : Nat → Nat × va_E} (h : ∀ k, k < n → g k = g' k) : fam n g = fam n g' := by
  unfold fam; exact List.map_congr_left (fun k hk => h k (List.mem_range.mp hk))
theorem fam_set {n : Nat} {g g' : Nat → Nat × va_E} {k : Nat} {x : Nat × va_E} (h : k < n) (hx : g' k = x) (ho : ∀ j, j ≠ k → g' j = g j) : (fam n g).set k x = fam n g' := by
  apply List.ext_getElem?
  intro j
  by_cases e : j = k
  · subst e; rw [List.getElem?_set_self (by rw [fam_len]; exact h), fam_get h, hx]
  · rw [List.getElem?_set_ne (Ne.symm e)]
    by_cases hj : j < n
    · rw [fam_get hj, fam_get hj, ho j e]
    · rw [List.getElem?_eq_none (by rw [fam_len]; omega), List.getElem?_eq_none (by rw [fam_len]; omega)]
theorem fam_succ (n : Nat) (g : Nat → Nat × va_E) : fam (n + 1) g = fam n g ++ [g n] := by simp [fam, List.range_succ]
theorem w_skip {A B : va_W} {i : Nat} {x : Nat × va_E} (n : Nat) (hn : A.length = n) (h : B[i]? = some x) : (A ++ B)[n + i]? = some x := by
  subst hn; rw [List.getElem?_append_right (Nat.le_add_right _ _), Nat.add_sub_cancel_left]; exact h
theorem w_left {A B : va_W} {i : Nat} {x : Nat × va_E} (h : A[i]? = some x) : (A ++ B)[i]? = some x := by
  rw [List.getElem?_append_left (List.getElem?_eq_some_iff.mp h).1]; exact h
theorem s_skip {A B B' : va_W} {i : Nat} {x : Nat × va_E} (n : Nat) (hn : A.length = n) (h : B.set i x = B') : (A ++ B).set (n + i) x = A ++ B' := by
  subst hn; rw [List.set_append_right _ _ (Nat.le_add_right _ _), Nat.add_sub_cancel_left, h]
theorem s_left {A A' B : va_W} {i : Nat} {x : Nat × va_E} (hi : i < A.length) (h : A.set i x = A') : (A ++ B).set i x = A' ++ B := by
  rw [List.set_append_left _ _ hi, h]
/-- three, four numbers as a row -/
def r3 (x y z : Int32) : Nat → Int32
  | 0 => x
  | 1 => y
  | 2 => z
  | _ => 0
def r4 (x y z w : Int32) : Nat → Int32
  | 0 => x
  | 1 => y
  | 2 => z
  | 3 => w
  | _ => 0
theorem r3_0 (x y z v : Int32) : upd (r3 x y z) 0 v = r3 v y z := by
  funext j; match j with | 0 => rfl | 1 => rfl | 2 => rfl | n + 3 => simp [upd, r3]
theorem r3_1 (x y z v : Int32) : upd (r3 x y z) 1 v = r3 x v z := by
  funext j; match j with | 0 => rfl | 1 => rfl | 2 => rfl | n + 3 => simp [upd, r3]
theorem r3_2 (x y z v : Int32) : upd (r3 x y z) 2 v = r3 x y v := by
  funext j; match j with | 0 => rfl | 1 => rfl | 2 => rfl | n + 3 => simp [upd, r3]
theorem r4_0 (x y z w v : Int32) : upd (r4 x y z w) 0 v = r4 v y z w := by
  funext j; match j with | 0 => rfl | 1 => rfl | 2 => rfl | 3 => rfl | n + 4 => simp [upd, r4]
theorem r4_1 (x y z w v : Int32) : upd (r4 x y z w) 1 v = r4 x v z w := by
  funext j; match j with | 0 => rfl | 1 => rfl | 2 => rfl | 3 => rfl | n + 4 => simp [upd, r4]
theorem r4_2 (x y z w v : Int32) : upd (r4 x y z w) 2 v = r4 x y v w := by
  funext j; match j with | 0 => rfl | 1 => rfl | 2 => rfl | 3 => rfl | n + 4 => simp [upd, r4]
theorem r4_3 (x y z w v : Int32) : upd (r4 x y z w) 3 v = r4 x y z v := by
  funext j; match j with | 0 => rfl | 1 => rfl | 2 => rfl | 3 => rfl | n + 4 => simp [upd, r4]
/-- n references to the cells ad 0, ad 1 .. -/
abbrev refs (n : Nat) (ad : Nat → Nat) : vp_A := (n, .inr (.inr (.inr (.inr (fun j => some (ad j))))))
/-- the Sim at the cells o 0 .. o 3 and ba, its rows at pa, la, ra, part by part -/
def zwx (yI yL : ClassId) (o : Nat → Nat) (ba : Nat) (pa la ra : Nat → Nat) (fee dry : Int32) (mill : Nat) (mark : Int32) (nb : Nat) (spr goal : Nat → Int32) (hour : Nat) (bank : Int32) (lev over drawn full lock fill pat pur ser : Nat → Int32) (aw : Int32) : va_W :=
  ([(o 0, .inr (2, [.int (nI hour), .ref (o 1), .ref (o 2), .int aw, .ref (o 3), .int (nI mill - 1), .int mark, .int dry, .int fee, .int bank, .ref ba])),
    (o 1, .inl (yI, 8, .inl spr)), (o 2, .inl (yL, refs 6 pa)), (o 3, .inl (yL, refs 5 la)), (ba, .inl (yL, refs nb ra))] : va_W) ++
  (fam 6 (fun p => (pa p, .inl (yI, 3, .inl (r3 (lev p) (over p) (drawn p))))) ++
  (fam 5 (fun k => (la k, .inl (yI, 3, .inl (r3 (full k) (lock k) (fill k))))) ++
   fam nb (fun b => (ra b, .inl (yI, 4, .inl (r4 (pat b) (goal b) (pur b) (ser b)))))))
def zw (yI yL : ClassId) (o : Nat → Nat) (ba : Nat) (pa la ra : Nat → Nat) (K : CK) (V : CD) (aw : Int32) : va_W := zwx yI yL o ba pa la ra (kFee K) (kDry K) (kMill K) (kMark K) (kNb K) (kSpr K) (kGoal K) (dHour V) (dBank V) (dLev V) (dOver V) (dDrawn V) (dFull V) (dLock V) (dFill V) (dAt V) (dPur V) (dSer V) aw
theorem zwx_len {yI yL : ClassId} {o : Nat → Nat} {ba : Nat} {pa la ra : Nat → Nat} {fee dry : Int32} {mill : Nat} {mark : Int32} {nb : Nat} {spr goal : Nat → Int32} {hour : Nat} {bank : Int32} {lev over drawn full lock fill pat pur ser : Nat → Int32} {aw : Int32} : (zwx yI yL o ba pa la ra fee dry mill mark nb spr goal hour bank lev over drawn full lock fill pat pur ser aw).length = 16 + nb := by
  unfold zwx; simp only [List.length_append, fam_len, List.length_cons, List.length_nil]; omega
theorem zw_len (yI yL : ClassId) (o : Nat → Nat) (ba : Nat) (pa la ra : Nat → Nat) (K : CK) (V : CD) (aw : Int32) : (zw yI yL o ba pa la ra K V aw).length = 16 + kNb K := zwx_len
theorem zwx_p {yI yL : ClassId} {o : Nat → Nat} {ba : Nat} {pa la ra : Nat → Nat} {fee dry : Int32} {mill : Nat} {mark : Int32} {nb : Nat} {spr goal : Nat → Int32} {hour : Nat} {bank : Int32} {lev over drawn full lock fill pat pur ser : Nat → Int32} {aw : Int32} {p : Nat} (h : p < 6) : (zwx yI yL o ba pa la ra fee dry mill mark nb spr goal hour bank lev over drawn full lock fill pat pur ser aw)[5 + p]? = some (pa p, .inl (yI, 3, .inl (r3 (lev p) (over p) (drawn p)))) := w_skip 5 rfl (w_left (fam_get h))
theorem zwx_l {yI yL : ClassId} {o : Nat → Nat} {ba : Nat} {pa la ra : Nat → Nat} {fee dry : Int32} {mill : Nat} {mark : Int32} {nb : Nat} {spr goal : Nat → Int32} {hour : Nat} {bank : Int32} {lev over drawn full lock fill pat pur ser : Nat → Int32} {aw : Int32} {k : Nat} (h : k < 5) : (zwx yI yL o ba pa la ra fee dry mill mark nb spr goal hour bank lev over drawn full lock fill pat pur ser aw)[11 + k]? = some (la k, .inl (yI, 3, .inl (r3 (full k) (lock k) (fill k)))) := by
  rw [show 11 + k = 5 + (6 + k) by omega]; exact w_skip 5 rfl (w_skip 6 (fam_len _ _) (w_left (fam_get h)))
theorem zwx_r {yI yL : ClassId} {o : Nat → Nat} {ba : Nat} {pa la ra : Nat → Nat} {fee dry : Int32} {mill : Nat} {mark : Int32} {nb : Nat} {spr goal : Nat → Int32} {hour : Nat} {bank : Int32} {lev over drawn full lock fill pat pur ser : Nat → Int32} {aw : Int32} {b : Nat} (h : b < nb) : (zwx yI yL o ba pa la ra fee dry mill mark nb spr goal hour bank lev over drawn full lock fill pat pur ser aw)[16 + b]? = some (ra b, .inl (yI, 4, .inl (r4 (pat b) (goal b) (pur b) (ser b)))) := by
  rw [show 16 + b = 5 + (6 + (5 + b)) by omega]; exact w_skip 5 rfl (w_skip 6 (fam_len _ _) (w_skip 5 (fam_len _ _) (fam_get h)))
theorem zwx_sp0 {yI yL : ClassId} {o : Nat → Nat} {ba : Nat} {pa la ra : Nat → Nat} {fee dry : Int32} {mill : Nat} {mark : Int32} {nb : Nat} {spr goal : Nat → Int32} {hour : Nat} {bank : Int32} {lev over drawn full lock fill pat pur ser : Nat → Int32} {aw : Int32} {p : Nat} {v : Int32} (h : p < 6) : (zwx yI yL o ba pa la ra fee dry mill mark nb spr goal hour bank lev over drawn full lock fill pat pur ser aw).set (5 + p) (pa p, .inl (yI, 3, .inl (upd (r3 (lev p) (over p) (drawn p)) 0 v))) = zwx yI yL o ba pa la ra fee dry mill mark nb spr goal hour bank (upd lev p v) over drawn full lock fill pat pur ser aw := by
  unfold zwx
  refine s_skip 5 rfl (s_left (by rw [fam_len]; exact h) (fam_set h ?_ ?_))
  · show (pa p, _) = _
    rw [r3_0, pk_us]
  · intro j hj
    show (pa j, _) = (pa j, _)
    rw [pk_un hj]
theorem zwx_sp1 {yI yL : ClassId} {o : Nat → Nat} {ba : Nat} {pa la ra : Nat → Nat} {fee dry : Int32} {mill : Nat} {mark : Int32} {nb : Nat} {spr goal : Nat → Int32} {hour : Nat} {bank : Int32} {lev over drawn full lock fill pat pur ser : Nat → Int32} {aw : Int32} {p : Nat} {v : Int32} (h : p < 6) : (zwx yI yL o ba pa la ra fee dry mill mark nb spr goal hour bank lev over drawn full lock fill pat pur ser aw).set (5 + p) (pa p, .inl (yI, 3, .inl (upd (r3 (lev p) (over p) (drawn p)) 1 v))) = zwx yI yL o ba pa la ra fee dry mill mark nb spr goal hour bank lev (upd over p v) drawn full lock fill pat pur ser aw := by
  unfold zwx
  refine s_skip 5 rfl (s_left (by rw [fam_len]; exact h) (fam_set h ?_ ?_))
  · show (pa p, _) = _
    rw [r3_1, pk_us]
  · intro j hj
    show (pa j, _) = (pa j, _)
    rw [pk_un hj]
theorem zwx_sp2 {yI yL : ClassId} {o : Nat → Nat} {ba : Nat} {pa la ra : Nat → Nat} {fee dry : Int32} {mill : Nat} {mark : Int32} {nb : Nat} {spr goal : Nat → Int32} {hour : Nat} {bank : Int32} {lev over drawn full lock fill pat pur ser : Nat → Int32} {aw : Int32} {p : Nat} {v : Int32} (h : p < 6) : (zwx yI yL o ba pa la ra fee dry mill mark nb spr goal hour bank lev over drawn full lock fill pat pur ser aw).set (5 + p) (pa p, .inl (yI, 3, .inl (upd (r3 (lev p) (over p) (drawn p)) 2 v))) = zwx yI yL o ba pa la ra fee dry mill mark nb spr goal hour bank lev over (upd drawn p v) full lock fill pat pur ser aw := by
  unfold zwx
  refine s_skip 5 rfl (s_left (by rw [fam_len]; exact h) (fam_set h ?_ ?_))
  · show (pa p, _) = _
    rw [r3_2, pk_us]
  · intro j hj
    show (pa j, _) = (pa j, _)
    rw [pk_un hj]
theorem zwx_sl0 {yI yL : ClassId} {o : Nat → Nat} {ba : Nat} {pa la ra : Nat → Nat} {fee dry : Int32} {mill : Nat} {mark : Int32} {nb : Nat} {spr goal : Nat → Int32} {hour : Nat} {bank : Int32} {lev over drawn full lock fill pat pur ser : Nat → Int32} {aw : Int32} {k : Nat} {v : Int32} (h : k < 5) : (zwx yI yL o ba pa la ra fee dry mill mark nb spr goal hour bank lev over drawn full lock fill pat pur ser aw).set (11 + k) (la k, .inl (yI, 3, .inl (upd (r3 (full k) (lock k) (fill k)) 0 v))) = zwx yI yL o ba pa la ra fee dry mill mark nb spr goal hour bank lev over drawn (upd full k v) lock fill pat pur ser aw := by
  unfold zwx
  rw [show 11 + k = 5 + (6 + k) by omega]; refine s_skip 5 rfl (s_skip 6 (fam_len _ _) (s_left (by rw [fam_len]; exact h) (fam_set h ?_ ?_)))
  · show (la k, _) = _
    rw [r3_0, pk_us]
  · intro j hj
    show (la j, _) = (la j, _)
    rw [pk_un hj]
theorem zwx_sl1 {yI yL : ClassId} {o : Nat → Nat} {ba : Nat} {pa la ra : Nat → Nat} {fee dry : Int32} {mill : Nat} {mark : Int32} {nb : Nat} {spr goal : Nat → Int32} {hour : Nat} {bank : Int32} {lev over drawn full lock fill pat pur ser : Nat → Int32} {aw : Int32} {k : Nat} {v : Int32} (h : k < 5) : (zwx yI yL o ba pa la ra fee dry mill mark nb spr goal hour bank lev over drawn full lock fill pat pur ser aw).set (11 + k) (la k, .inl (yI, 3, .inl (upd (r3 (full k) (lock k) (fill k)) 1 v))) = zwx yI yL o ba pa la ra fee dry mill mark nb spr goal hour bank lev over drawn full (upd lock k v) fill pat pur ser aw := by
  unfold zwx
  rw [show 11 + k = 5 + (6 + k) by omega]; refine s_skip 5 rfl (s_skip 6 (fam_len _ _) (s_left (by rw [fam_len]; exact h) (fam_set h ?_ ?_)))
  · show (la k, _) = _
    rw [r3_1, pk_us]
  · intro j hj
    show (la j, _) = (la j, _)
    rw [pk_un hj]
theorem zwx_sl2 {yI yL : ClassId} {o : Nat → Nat} {ba : Nat} {pa la ra : Nat → Nat} {fee dry : Int32} {mill : Nat} {mark : Int32} {nb : Nat} {spr goal : Nat → Int32} {hour : Nat} {bank : Int32} {lev over drawn full lock fill pat pur ser : Nat → Int32} {aw : Int32} {k : Nat} {v : Int32} (h : k < 5) : (zwx yI yL o ba pa la ra fee dry mill mark nb spr goal hour bank lev over drawn full lock fill pat pur ser aw).set (11 + k) (la k, .inl (yI, 3, .inl (upd (r3 (full k) (lock k) (fill k)) 2 v))) = zwx yI yL o ba pa la ra fee dry mill mark nb spr goal hour bank lev over drawn full lock (upd fill k v) pat pur ser aw := by
  unfold zwx
  rw [show 11 + k = 5 + (6 + k) by omega]; refine s_skip 5 rfl (s_skip 6 (fam_len _ _) (s_left (by rw [fam_len]; exact h) (fam_set h ?_ ?_)))
  · show (la k, _) = _
    rw [r3_2, pk_us]
  · intro j hj
    show (la j, _) = (la j, _)
    rw [pk_un hj]
theorem zwx_sr0 {yI yL : ClassId} {o : Nat → Nat} {ba : Nat} {pa la ra : Nat → Nat} {fee dry : Int32} {mill : Nat} {mark : Int32} {nb : Nat} {spr goal : Nat → Int32} {hour : Nat} {bank : Int32} {lev over drawn full lock fill pat pur ser : Nat → Int32} {aw : Int32} {b : Nat} {v : Int32} (h : b < nb) : (zwx yI yL o ba pa la ra fee dry mill mark nb spr goal hour bank lev over drawn full lock fill pat pur ser aw).set (16 + b) (ra b, .inl (yI, 4, .inl (upd (r4 (pat b) (goal b) (pur b) (ser b)) 0 v))) = zwx yI yL o ba pa la ra fee dry mill mark nb spr goal hour bank lev over drawn full lock fill (upd pat b v) pur ser aw := by
  unfold zwx
  rw [show 16 + b = 5 + (6 + (5 + b)) by omega]; refine s_skip 5 rfl (s_skip 6 (fam_len _ _) (s_skip 5 (fam_len _ _) (fam_set h ?_ ?_)))
  · show (ra b, _) = _
    rw [r4_0, pk_us]
  · intro j hj
    show (ra j, _) = (ra j, _)
    rw [pk_un hj]
theorem zwx_sr1 {yI yL : ClassId} {o : Nat → Nat} {ba : Nat} {pa la ra : Nat → Nat} {fee dry : Int32} {mill : Nat} {mark : Int32} {nb : Nat} {spr goal : Nat → Int32} {hour : Nat} {bank : Int32} {lev over drawn full lock fill pat pur ser : Nat → Int32} {aw : Int32} {b : Nat} {v : Int32} (h : b < nb) : (zwx yI yL o ba pa la ra fee dry mill mark nb spr goal hour bank lev over drawn full lock fill pat pur ser aw).set (16 + b) (ra b, .inl (yI, 4, .inl (upd (r4 (pat b) (goal b) (pur b) (ser b)) 1 v))) = zwx yI yL o ba pa la ra fee dry mill mark nb spr (upd goal b v) hour bank lev over drawn full lock fill pat pur ser aw := by
  unfold zwx
  rw [show 16 + b = 5 + (6 + (5 + b)) by omega]; refine s_skip 5 rfl (s_skip 6 (fam_len _ _) (s_skip 5 (fam_len _ _) (fam_set h ?_ ?_)))
  · show (ra b, _) = _
    rw [r4_1, pk_us]
  · intro j hj
    show (ra j, _) = (ra j, _)
    rw [pk_un hj]
theorem zwx_sr2 {yI yL : ClassId} {o : Nat → Nat} {ba : Nat} {pa la ra : Nat → Nat} {fee dry : Int32} {mill : Nat} {mark : Int32} {nb : Nat} {spr goal : Nat → Int32} {hour : Nat} {bank : Int32} {lev over drawn full lock fill pat pur ser : Nat → Int32} {aw : Int32} {b : Nat} {v : Int32} (h : b < nb) : (zwx yI yL o ba pa la ra fee dry mill mark nb spr goal hour bank lev over drawn full lock fill pat pur ser aw).set (16 + b) (ra b, .inl (yI, 4, .inl (upd (r4 (pat b) (goal b) (pur b) (ser b)) 2 v))) = zwx yI yL o ba pa la ra fee dry mill mark nb spr goal hour bank lev over drawn full lock fill pat (upd pur b v) ser aw := by
  unfold zwx
  rw [show 16 + b = 5 + (6 + (5 + b)) by omega]; refine s_skip 5 rfl (s_skip 6 (fam_len _ _) (s_skip 5 (fam_len _ _) (fam_set h ?_ ?_)))
  · show (ra b, _) = _
    rw [r4_2, pk_us]
  · intro j hj
    show (ra j, _) = (ra j, _)
    rw [pk_un hj]
theorem zwx_sr3 {yI yL : ClassId} {o : Nat → Nat} {ba : Nat} {pa la ra : Nat → Nat} {fee dry : Int32} {mill : Nat} {mark : Int32} {nb : Nat} {spr goal : Nat → Int32} {hour : Nat} {bank : Int32} {lev over drawn full lock fill pat pur ser : Nat → Int32} {aw : Int32} {b : Nat} {v : Int32} (h : b < nb) : (zwx yI yL o ba pa la ra fee dry mill mark nb spr goal hour bank lev over drawn full lock fill pat pur ser aw).set (16 + b) (ra b, .inl (yI, 4, .inl (upd (r4 (pat b) (goal b) (pur b) (ser b)) 3 v))) = zwx yI yL o ba pa la ra fee dry mill mark nb spr goal hour bank lev over drawn full lock fill pat pur (upd ser b v) aw := by
  unfold zwx
  rw [show 16 + b = 5 + (6 + (5 + b)) by omega]; refine s_skip 5 rfl (s_skip 6 (fam_len _ _) (s_skip 5 (fam_len _ _) (fam_set h ?_ ?_)))
  · show (ra b, _) = _
    rw [r4_3, pk_us]
  · intro j hj
    show (ra j, _) = (ra j, _)
    rw [pk_un hj]
theorem zw_mk (yI yL : ClassId) (o : Nat → Nat) (ba : Nat) (pa la ra : Nat → Nat) (K : CK) (hour : Nat) (bank : Int32) (lev over drawn full lock fill pat pur ser : Nat → Int32) (aw : Int32) : zw yI yL o ba pa la ra K (hour, bank, lev, over, drawn, full, lock, fill, pat, pur, ser) aw = zwx yI yL o ba pa la ra (kFee K) (kDry K) (kMill K) (kMark K) (kNb K) (kSpr K) (kGoal K) hour bank lev over drawn full lock fill pat pur ser aw := rfl
theorem zw_mkK (yI yL : ClassId) (o : Nat → Nat) (ba : Nat) (pa la ra : Nat → Nat) (V : CD) (fee dry : Int32) (mill : Nat) (mark : Int32) (nb : Nat) (spr goal : Nat → Int32) (aw : Int32) : zw yI yL o ba pa la ra (fee, dry, mill, mark, nb, spr, goal) V aw = zwx yI yL o ba pa la ra fee dry mill mark nb spr goal (dHour V) (dBank V) (dLev V) (dOver V) (dDrawn V) (dFull V) (dLock V) (dFill V) (dAt V) (dPur V) (dSer V) aw := rfl
theorem zw_mkB (yI yL : ClassId) (o : Nat → Nat) (ba : Nat) (pa la ra : Nat → Nat) (fee dry : Int32) (mill : Nat) (mark : Int32) (nb : Nat) (spr goal : Nat → Int32) (hour : Nat) (bank : Int32) (lev over drawn full lock fill pat pur ser : Nat → Int32) (aw : Int32) : zw yI yL o ba pa la ra (fee, dry, mill, mark, nb, spr, goal) (hour, bank, lev, over, drawn, full, lock, fill, pat, pur, ser) aw = zwx yI yL o ba pa la ra fee dry mill mark nb spr goal hour bank lev over drawn full lock fill pat pur ser aw := rfl
/-- N rows of w numbers at the cells ad 0, ad 1 .. -/
def rowsW (yI : ClassId) (ad : Nat → Nat) (w N : Nat) (f : Nat → Nat → Int32) : va_W := fam N (fun b => (ad b, .inl (yI, w, .inl (f b))))
def upd2 (f : Nat → Nat → Int32) (b j : Nat) (v : Int32) : Nat → Nat → Int32 := fun i => if i = b then upd (f b) j v else f i
theorem rowsW_len (yI : ClassId) (ad : Nat → Nat) (w N : Nat) (f : Nat → Nat → Int32) : (rowsW yI ad w N f).length = N := fam_len _ _
theorem rowsW_get {yI : ClassId} {ad : Nat → Nat} {w N : Nat} {f : Nat → Nat → Int32} {b : Nat} (h : b < N) : (rowsW yI ad w N f)[b]? = some (ad b, .inl (yI, w, .inl (f b))) := fam_get h
theorem rowsW_set {yI : ClassId} {ad : Nat → Nat} {w N : Nat} {f : Nat → Nat → Int32} {b j : Nat} {v : Int32} (h : b < N) : (rowsW yI ad w N f).set b (ad b, .inl (yI, w, .inl (upd (f b) j v))) = rowsW yI ad w N (upd2 f b j v) := by
  unfold rowsW
  refine fam_set h ?_ ?_
  · show (ad b, _) = _
    rw [upd2, if_pos rfl]
  · intro i hi
    show (ad i, _) = (ad i, _)
    rw [upd2, if_neg hi]
theorem xk_nodup {A : Nat → Prop} {ws : va_W} : va_D A ws ↔ (ws.map Prod.fst).Nodup ∧ ∀ q ∈ ws, A q.1 := by
  constructor
  · intro h
    refine ⟨?_, fun q hq => ?_⟩
    · refine List.pairwise_iff_getElem.mpr (fun i j hi hj hij e => ?_)
      have hi' : i < ws.length := by rw [List.length_map] at hi; exact hi
      have hj' : j < ws.length := by rw [List.length_map] at hj; exact hj
      rw [List.getElem_map, List.getElem_map] at e
      have := h.1 i j _ _ (List.getElem?_eq_getElem hi') (List.getElem?_eq_getElem hj') e
      omega
    · obtain ⟨k, hk⟩ := List.getElem?_of_mem hq
      exact h.2 k q hk
  · intro h
    refine ⟨fun i j p q hi hj e => ?_, fun k q hk => h.2 q (List.mem_of_getElem? hk)⟩
    have hn := List.pairwise_iff_getElem.mp h.1
    obtain ⟨li, ei⟩ := List.getElem?_eq_some_iff.mp hi
    obtain ⟨lj, ej⟩ := List.getElem?_eq_some_iff.mp hj
    have hi' : i < (ws.map Prod.fst).length := by rw [List.length_map]; exact li
    have hj' : j < (ws.map Prod.fst).length := by rw [List.length_map]; exact lj
    have e2 : (ws.map Prod.fst)[i] = (ws.map Prod.fst)[j] := by rw [List.getElem_map, List.getElem_map, ei, ej]; exact e
    rcases Nat.lt_trichotomy i j with q9 | q9 | q9
    · exact absurd e2 (hn i j hi' hj' q9)
    · exact q9
    · exact absurd e2.symm (hn j i hj' hi' q9)
theorem xk_permD {A : Nat → Prop} {ws ws' : va_W} (h : ws.Perm ws') (hD : va_D A ws) : va_D A ws' := by
  rw [xk_nodup] at hD ⊢
  exact ⟨(h.map Prod.fst).nodup_iff.mp hD.1, fun q hq => hD.2 q (h.mem_iff.mpr hq)⟩
theorem xk_permP {D : va_G} {cl : List vw_C} {ws ws' : va_W} {H : Heap} (h : ws.Perm ws') (hP : va_P D cl ws H) : va_P D cl ws' H := by
  intro k q hk
  obtain ⟨i, hi⟩ := List.getElem?_of_mem (h.mem_iff.mpr (List.mem_of_getElem? hk))
  exact hP i q hi
theorem xk_nd_app : ∀ (a b : List Nat), va_nd a = true → va_nd b = true → (∀ i ∈ a, i ∉ b) → va_nd (a ++ b) = true
  | [], b, _, hb, _ => hb
  | x :: a, b, ha, hb, hd => by
    simp only [va_nd, Bool.and_eq_true, decide_eq_true_eq] at ha
    show va_nd (x :: (a ++ b)) = true
    simp only [va_nd, Bool.and_eq_true, decide_eq_true_eq]
    exact ⟨fun h => (List.mem_append.mp h).elim ha.1 (hd x List.mem_cons_self), xk_nd_app a b ha.2 hb (fun i hi => hd i (List.mem_cons_of_mem _ hi))⟩
theorem xk_nd_range : ∀ (n a : Nat), va_nd (List.range' a n) = true
  | 0, _ => rfl
  | n + 1, a => by
    rw [List.range'_succ]
    simp only [va_nd, Bool.and_eq_true, decide_eq_true_eq]
    refine ⟨fun h => ?_, xk_nd_range n (a + 1)⟩
    have := List.mem_range'_1.mp h
    omega
theorem xk_midC (a c b : va_W) : (List.range' a.length c.length).map (fun i => (a ++ (c ++ b))[i]?) = c.map some := by
  apply List.ext_getElem?
  intro j
  by_cases hj : j < c.length
  · rw [List.getElem?_map, List.getElem?_map, List.getElem?_range' hj, List.getElem?_eq_getElem hj]
    show some ((a ++ (c ++ b))[a.length + 1 * j]?) = _
    rw [Nat.one_mul, List.getElem?_append_right (Nat.le_add_right _ _), Nat.add_sub_cancel_left, List.getElem?_append_left hj, List.getElem?_eq_getElem hj]; rfl
  · rw [List.getElem?_eq_none (by simp; omega), List.getElem?_eq_none (by simp; omega)]
theorem xk_midR (a c b : va_W) : (List.range' 0 a.length ++ List.range' (a.length + c.length) b.length).map (fun i => (a ++ (c ++ b))[i]?) = (a ++ b).map some := by
  rw [List.map_append, List.map_append]
  congr 1
  · have h := xk_midC [] a (c ++ b)
    exact h
  · have h := xk_midC (a ++ c) b []
    rw [List.append_nil, List.length_append, List.append_assoc] at h
    exact h
theorem xk_midN (a c b : va_W) : va_nd (List.range' 0 a.length ++ List.range' (a.length + c.length) b.length) = true := by
  refine xk_nd_app _ _ (xk_nd_range _ _) (xk_nd_range _ _) (fun i hi hj => ?_)
  have h1 := List.mem_range'_1.mp hi
  have h2 := List.mem_range'_1.mp hj
  omega
theorem xk_midD (a c b : va_W) : ∀ i ∈ List.range' 0 a.length ++ List.range' (a.length + c.length) b.length, i ∉ List.range' a.length c.length := by
  intro i hi hj
  have h2 := List.mem_range'_1.mp hj
  rcases List.mem_append.mp hi with h | h <;> have h1 := List.mem_range'_1.mp h <;> omega
theorem xk_midP (a c b : va_W) : ((a ++ b) ++ c).Perm (a ++ (c ++ b)) := by
  rw [List.append_assoc]
  exact List.Perm.append_left a List.perm_append_comm
theorem xk_cellR (c : ClassId) (n : Nat) {f g : Nat → Option Nat} (e : ∀ j, j < n → g j = f j) : vp_cell c (n, .inr (.inr (.inr (.inr g)))) = vp_cell c (n, .inr (.inr (.inr (.inr f)))) := by
  rw [vp_cell_q, vp_cell_q]
  unfold arrV
  congr 2
  funext j
  show va_rf (g j.val) = va_rf (f j.val)
  rw [e j.val j.isLt]
theorem xk_cellcongR {D : va_G} {cl : List vw_C} {ws : va_W} {H : Heap} {q1 a n : Nat} {c : ClassId} {f g : Nat → Option Nat} (h : va_P D cl (ws.set q1 (a, .inl (c, n, .inr (.inr (.inr (.inr g)))))) H) (e : ∀ j, j < n → g j = f j) : va_P D cl (ws.set q1 (a, .inl (c, n, .inr (.inr (.inr (.inr f)))))) H := by
  intro k q hk
  by_cases hkq : k = q1
  · subst hkq
    have hl : k < ws.length := by
      have := (List.getElem?_eq_some_iff.mp hk).1
      rwa [List.length_set] at this
    rw [List.getElem?_set_self hl] at hk
    cases hk
    have h1 : H[a]? = some (vp_cell c (n, .inr (.inr (.inr (.inr g))))) := h k _ (List.getElem?_set_self hl)
    show H[a]? = some (vp_cell c (n, .inr (.inr (.inr (.inr f)))))
    rw [h1, xk_cellR c n e]
  · rw [List.getElem?_set_ne (Ne.symm hkq)] at hk
    exact h k q (by rw [List.getElem?_set_ne (Ne.symm hkq)]; exact hk)
theorem xk_tsI : (FieldType.array .int).toString = "[I" := by decide
theorem xk_tsII : "[" ++ (FieldType.array .int).toString = "[[I" := by decide
section XGRID
variable {p : Program} {l : Launch} {e : Env} {R : Room} {s : State} {m : MethodId} {args : Array Value} {below : List Frame} {meth : Method} {c : Code} {Q : State → Prop}
variable {cc : ByteArray} {nL : Nat} {Ts : List Cond} {own : String} {D : va_G} {tys : List (ClassId × FieldType)} {A : Nat → Prop} {cells slots : Nat}
variable {ws : va_W} {lv : List (Nat × Value)} {pc : Nat} {st rest : List Value}
theorem xr_perm {ws' : va_W} (h : ws.Perm ws') (kk : AW p l e R s m args below meth c nL D A cells slots Q ws' lv pc st) : AW p l e R s m args below meth c nL D A cells slots Q ws lv pc st :=
  fun H locs ls hP hD hS hl => kk H locs ls (xk_permP h hP) (xk_permD h hD) hS hl
/-- the cells behind are no more looked at -/
theorem xr_drop (w1 w2 : va_W) (h : ws = w1 ++ w2) (kk : AW p l e R s m args below meth c nL D A cells slots Q w1 lv pc st) : AW p l e R s m args below meth c nL D A cells slots Q ws lv pc st := by
  subst h
  intro H locs ls hP hD hS hl
  refine kk H locs ls (fun k q hk => hP k q (w_left hk)) ⟨fun i j x y hi hj => hD.1 i j x y (w_left hi) (w_left hj), fun k q hk => hD.2 k q (w_left hk)⟩ hS hl
/-- a row of references known by another function -/
theorem xr_fcR (q0 : Nat) {c0 : ClassId} {a0 n : Nat} {f : Nat → Option Nat} (g : Nat → Option Nat) (h : ws[q0]? = some (a0, .inl (c0, n, .inr (.inr (.inr (.inr f)))))) (e9 : ∀ j, j < n → f j = g j) (ws' : va_W) (hw : ws.set q0 (a0, .inl (c0, n, .inr (.inr (.inr (.inr g))))) = ws')
    (kk : AW p l e R s m args below meth c nL D A cells slots Q ws' lv pc st) : AW p l e R s m args below meth c nL D A cells slots Q ws lv pc st := by
  intro H locs ls hP hD hS hl
  subst hw
  have h1 : ws.set q0 (a0, .inl (c0, n, .inr (.inr (.inr (.inr f))))) = ws := by
    obtain ⟨hlt, he⟩ := List.getElem?_eq_some_iff.mp h
    rw [← he]; exact List.set_getElem_self hlt
  exact kk H locs ls (xk_cellcongR (f := g) (g := f) (by rw [h1]; exact hP) e9) (hD.set h) hS hl
theorem xr_ldc (F : XF p s m args c cc nL Ts own D tys A) {index : Nat} {v : Int32} (hdg : decode cc pc = .ok (.ldc index, 2)) (hc : Cond.constant own index v ∈ Ts) (kk : AW p l e R s m args below meth c nL D A cells slots Q ws lv (pc + 2) (.int v :: rest)) : AW p l e R s m args below meth c nL D A cells slots Q ws lv pc rest :=
  fun H locs ls hP hD hS hl => lv_ldc F.1 F.2.1 F.owns (F.hts _ hc) hdg (kk H locs ls hP hD hS hl)
theorem xr_ifnonnull (F : XF p s m args c cc nL Ts own D tys A) {x : Nat} {off : Int} (tgt : Nat) (hdg : decode cc pc = .ok (.ifnonnull off, 3)) (ht : (pc : Int) + off = (tgt : Int)) (kk : AW p l e R s m args below meth c nL D A cells slots Q ws lv tgt rest) : AW p l e R s m args below meth c nL D A cells slots Q ws lv pc (.ref x :: rest) :=
  fun H locs ls hP hD hS hl => lv_ifnonnull F.1 F.2.1 hdg ht (kk H locs ls hP hD hS hl)
/-- a reference out of a row of references -/
theorem xr_aald (F : XF p s m args c cc nL Ts own D tys A) (q0 t0 : Nat) {cA : ClassId} {n a : Nat} {ty : FieldType} {ad : Nat → Nat} (ha : ws[q0]? = some (a, .inl (cA, refs n ad))) (ht : tys[t0]? = some (cA, ty)) (href : ty.isReference = true) {i : Int32} (k : Nat) (hi : i = nI k) (hk : k < n) (hn : n < 2147483648) (hdg : decode cc pc = .ok (.aaload, 1))
    (kk : AW p l e R s m args below meth c nL D A cells slots Q ws lv (pc + 1) (.ref (ad k) :: rest)) : AW p l e R s m args below meth c nL D A cells slots Q ws lv pc (.int i :: .ref a :: rest) := by
  subst hi
  intro H locs ls hP hD hS hl
  have hc : (nI k).toNatClampNeg = k := nI_clamp (Nat.lt_trans hk hn)
  have hin := vp_in_nI hk hn
  refine W.aald (v := .ref (ad k)) (ty := ty) F.1 F.2.1 (hP q0 _ ha) ((F.hK.2 t0 _ ht).1 n (fun j => va_rf (some (ad j)))) href (fun q => by cases q) (by show ¬ (_ ∨ (arrV _ _ _).slots.size ≤ _); rw [arrV_size]; exact hin) (by show (arrV _ _ _).slots[_]? = _; rw [hc, arrV_read _ _ hk]; rfl) rfl rfl hdg (kk H locs ls hP hD hS hl)
/-- a row of numbers laid into a row of rows -/
theorem xr_aast (F : XF p s m args c cc nL Ts own D tys A) (q0 t0 qk tk : Nat) {cA cI : ClassId} {n a v : Nat} {x : vp_A} {f : Nat → Option Nat} (ha : ws[q0]? = some (a, .inl (cA, n, .inr (.inr (.inr (.inr f)))))) (ht : tys[t0]? = some (cA, .array .int)) (hv : ws[qk]? = some (v, .inl (cI, x))) (htk : tys[tk]? = some (cI, .int)) {i : Int32} (k : Nat) (hi : i = nI k) (hk : k < n) (hn : n < 2147483648)
    (ws' : va_W) (hw : ws.set q0 (a, .inl (cA, n, .inr (.inr (.inr (.inr (va_up f k (some v))))))) = ws') (hdg : decode cc pc = .ok (.aastore, 1))
    (kk : AW p l e R s m args below meth c nL D A cells slots Q ws' lv (pc + 1) rest) : AW p l e R s m args below meth c nL D A cells slots Q ws lv pc (.ref v :: .int i :: .ref a :: rest) := by
  subst hi
  subst hw
  intro H locs ls hP hD hS hl
  have hc : (nI k).toNatClampNeg = k := nI_clamp (Nat.lt_trans hk hn)
  have hin := vp_in_nI hk hn
  obtain ⟨comp, c0, kA, g1, -, g3, g4, g5⟩ := arrayOverA_spec (va_AOA.use (A := args) F.hZ.2)
  have hA : s.vm.findClass ("[" ++ (FieldType.array .int).toString) = some cA := (F.hK.2 t0 _ ht).2
  have hI : s.vm.findClass ("[" ++ FieldType.int.toString) = some cI := (F.hK.2 tk _ htk).2
  have e1 : c0 = cA := Option.some.inj (g5.symm.trans hA)
  have e2 : comp = cI := Option.some.inj (g1.symm.trans (show s.vm.findClass (FieldType.array .int).toString = some cI from hI))
  subst e1
  subst e2
  have hval : H[v]? = some (vp_cell comp x) := hP qk _ hv
  obtain ⟨-, kI, hkI, -⟩ := (F.hK.2 tk _ htk).1 0 (fun _ => .null)
  have hkI' : s.vm.classes[comp]? = some kI := hkI
  have hcls : (vp_cell comp x).cls = comp := by
    obtain ⟨n0, x0⟩ := x
    rcases x0 with x0 | x0 | x0 | x0 | x0 <;> rfl
  have hvm : ∀ q, (vp_cell comp x).vm ≠ .statics q := by
    obtain ⟨n0, x0⟩ := x
    rcases x0 with x0 | x0 | x0 | x0 | x0 <;> (intro q h; cases h)
  refine W.aast F.1 F.2.1 (hP q0 _ ha) (fun q h => by cases h) (fun h => by cases h) g3 g4 rfl hkI' ⟨fun q => hin (Or.inl q), by show _ < (arrV _ _ _).slots.size; rw [arrV_size, hc]; exact hk⟩ hval hvm (by rw [hcls]; exact hkI') (by rw [hcls]; show ((comp == comp) || _) = true; rw [beq_self_eq_true, Bool.true_or]) rfl rfl hdg fun H1 e1 z oq => ?_
  refine kk H1 _ ls (hP.set hD ha ?_ oq) (hD.set ha) (hS.put z oq (hD.2 q0 _ ha)) hl
  show H1[a]? = some (vp_cell _ _)
  rw [e1, hc, vp_cell_q, vp_cell_q, arrV_store]
  congr 2
  funext q
  by_cases hq : q = k
  · subst hq
    simp [updV, va_up, va_rf]
  · simp [updV, va_up, hq]
/-- anewarray of rows of numbers -/
theorem xr_newA (F : XF p s m args c cc nL Ts own D tys A) (t0 : Nat) {cA : ClassId} (ht : tys[t0]? = some (cA, .array .int)) {index : Nat} (hcl : Cond.classLink own index "[I" ∈ Ts) (len : Nat) {n : Int32} (hn : n = nI len) (hlen : len < 100000) (hcells : cells + 1 ≤ R.cells) (hslots : slots + len ≤ R.slots) (hdg : decode cc pc = .ok (.anewarray index, 3))
    (kk : ∀ q : Nat, AW p l e R s m args below meth c nL D A (cells + 1) (slots + len) Q (ws ++ [(q, .inl (cA, len, .inr (.inr (.inr (.inr (fun _ => none))))))]) lv (pc + 3) (.ref q :: rest)) : AW p l e R s m args below meth c nL D A cells slots Q ws lv pc (.int n :: rest) := by
  subst hn
  intro H locs ls hP hD hS hl
  have hc : (nI len).toNatClampNeg = len := nI_clamp (by omega)
  have hA : s.vm.findClass ("[" ++ (FieldType.array .int).toString) = some cA := (F.hK.2 t0 _ ht).2
  refine W.anewA (t := .int) F.1 F.2.1 F.owns (by rw [xk_tsI]; exact F.hts _ hcl) (va_AOA.use F.hZ.2) rfl hdg rfl (nI_pos (by omega)) (by rw [hc]; omega) hcells (by rw [hc]; exact hslots) fun cA2 kA comp f1 f2 f3 f4 => ?_
  have e1 : cA2 = cA := Option.some.inj (f1.symm.trans hA)
  subst e1
  rw [hc]
  generalize hH1 : H.push ({ cls := cA2, slots := Array.replicate len .null, vm := .none } : Cell) = H1
  have z1 : H1.size = H.size + 1 := by rw [← hH1, Array.size_push]
  have e1 : H1[H.size]? = some (arrV cA2 len (fun _ => .null)) := by rw [← hH1, Array.getElem?_push_size, ← arrV_new]
  have o1 : ∀ q : Nat, q < H.size → H1[q]? = H[q]? := fun q hq => by rw [← hH1, Array.getElem?_push, if_neg (Nat.ne_of_lt hq)]
  have hk : ∀ (k : Nat) (x : Nat × va_E), ws[k]? = some x → H1[x.1]? = H[x.1]? := fun k x hx => o1 x.1 ((hP k x hx).lt)
  refine kk H.size H1 _ ls ((hP.kept hk).app (fun k x hx => ?_)) (hD.push hP rfl (F.hA _ hS.1)) ⟨Nat.le_trans hS.1 (by omega), fun x h1 h2 => (o1 x (Nat.lt_of_lt_of_le h1 hS.1)).trans (hS.2.1 x h1 h2), hS.2.2⟩ hl
  have hz : k < 1 := (List.getElem?_eq_some_iff.mp hx).1
  rw [show k = 0 by omega] at hx
  cases hx
  show H1[H.size]? = some (vp_cell _ _)
  rw [vp_cell_q]
  exact e1
/-- new int[N][K] -/
theorem xr_mna (F : XF p s m args c cc nL Ts own D tys A) (tI tA : Nat) {cI cA : ClassId} (htI : tys[tI]? = some (cI, .int)) (htA : tys[tA]? = some (cA, .array .int)) {index : Nat} (hcl : Cond.classLink own index "[[I" ∈ Ts) (harr : Cond.arrayClass .int ∈ Ts) (N K : Nat) {n k : Int32} (hn : n = nI N) (hk : k = nI K) (hN : N < 100000) (hK : K < 100000) (hcells : cells + (1 + N) ≤ R.cells) (hslots : slots + (N + N * K) ≤ R.slots) (hdg : decode cc pc = .ok (.multianewarray index 2, 4))
    (kk : ∀ (q : Nat) (r : Nat → Nat), AW p l e R s m args below meth c nL D A (cells + 1 + N) (slots + N + N * K) Q (ws ++ ([(q, .inl (cA, refs N r))] ++ rowsW cI r K N (fun _ _ => 0))) lv (pc + 4) (.ref q :: rest)) : AW p l e R s m args below meth c nL D A cells slots Q ws lv pc (.int k :: .int n :: rest) := by
  subst hn
  subst hk
  intro H locs ls hP hD hS hl
  have hcN : (nI N).toNatClampNeg = N := nI_clamp (by omega)
  have hcK : (nI K).toNatClampNeg = K := nI_clamp (by omega)
  have hA : s.vm.findClass ("[" ++ (FieldType.array .int).toString) = some cA := (F.hK.2 tA _ htA).2
  have hI : s.vm.findClass (FieldType.array .int).toString = some cI := (F.hK.2 tI _ htI).2
  have e0 : ws ++ va_pl [] (fun _ => (.inr (0, []) : va_E)) = ws := List.append_nil ws
  refine va_mna (X := ws) (L := []) (f := fun _ => .inr (0, [])) (ty := .int) (cy := cI) (z := (K, .inl (fun _ => 0))) F.1 F.2.1 F.owns (by rw [xk_tsII]; exact F.hts _ hcl) F.hZ.2 (F.hts _ harr) hI F.hK (by rw [e0]; exact hP) (by rw [e0]; exact hD) hS F.hA (nI_pos (by omega)) (nI_pos (by omega)) hcN hcK (by omega) (by show K * 4 ≤ _; omega) (by omega) rfl rfl hcells hslots (fun c9 => ?_) hdg (fun q r cA2 H1 hinj hnl hK1 hP1 hD1 hS1 => ?_)
  · rw [vp_cell_i]
    show ({ cls := c9, slots := Array.replicate K (.int 0), vm := .none } : Cell) = _
    rw [arrV_new]
  · have h2 : s.vm.findClass ("[" ++ (FieldType.array .int).toString) = some cA2 := (hK1.2 tys.length (cA2, .array .int) (by simp)).2
    have e1 : cA2 = cA := Option.some.inj (h2.symm.trans hA)
    subst e1
    have e2 : va_pl ([] ++ (List.range N).map r) (vr_up (fun _ => (.inr (0, []) : va_E)) ((List.range N).map r) (.inl (cI, K, .inl (fun _ => 0)))) = rowsW cI r K N (fun _ _ => 0) := by
      unfold va_pl rowsW fam
      rw [List.nil_append, List.map_map]
      refine List.map_congr_left (fun i hi => ?_)
      show (r i, vr_up _ _ _ (r i)) = _
      rw [vr_up_in (List.mem_map.mpr ⟨i, hi, rfl⟩)]
    rw [e2] at hP1 hD1
    have e3 : (ws ++ ([(q, .inl (cA2, N, .inr (.inr (.inr (.inr (fun i => if i < N then some (r i) else none))))))] : va_W)) ++ rowsW cI r K N (fun _ _ => 0) = ((ws ++ (([(q, .inl (cA2, refs N r))] : va_W) ++ rowsW cI r K N (fun _ _ => 0))).set ws.length (q, .inl (cA2, N, .inr (.inr (.inr (.inr (fun i => if i < N then some (r i) else none))))))) := by
      have := s_skip (A := ws) (i := 0) (x := (q, .inl (cA2, N, .inr (.inr (.inr (.inr (fun i => if i < N then some (r i) else none))))))) ws.length rfl (B := ([(q, .inl (cA2, refs N r))] : va_W) ++ rowsW cI r K N (fun _ _ => 0)) rfl
      rw [Nat.add_zero] at this
      rw [this, List.append_assoc]; rfl
    have e4 : (ws ++ (([(q, .inl (cA2, refs N r))] : va_W) ++ rowsW cI r K N (fun _ _ => 0))) = ((ws ++ (([(q, .inl (cA2, refs N r))] : va_W) ++ rowsW cI r K N (fun _ _ => 0))).set ws.length (q, .inl (cA2, refs N r))) := by
      have := s_skip (A := ws) (i := 0) (x := (q, .inl (cA2, refs N r))) ws.length rfl (B := ([(q, .inl (cA2, refs N r))] : va_W) ++ rowsW cI r K N (fun _ _ => 0)) rfl
      rw [Nat.add_zero] at this
      rw [this]; rfl
    refine kk q r H1 _ ls ?_ ?_ hS1 hl
    · rw [e4]
      rw [e3] at hP1
      exact xk_cellcongR hP1 (fun j hj => by rw [if_pos hj])
    · rw [xk_nodup] at hD1 ⊢
      have em : ((ws ++ (([(q, .inl (cA2, refs N r))] : va_W) ++ rowsW cI r K N (fun _ _ => 0))).map Prod.fst) = (((ws ++ ([(q, .inl (cA2, N, .inr (.inr (.inr (.inr (fun i => if i < N then some (r i) else none))))))] : va_W)) ++ rowsW cI r K N (fun _ _ => 0)).map Prod.fst) := by simp
      refine ⟨by rw [em]; exact hD1.1, fun x hx => ?_⟩
      have hx1 : x.1 ∈ ((ws ++ (([(q, .inl (cA2, refs N r))] : va_W) ++ rowsW cI r K N (fun _ _ => 0))).map Prod.fst) := List.mem_map_of_mem hx
      rw [em] at hx1
      obtain ⟨y, hy, hyx⟩ := List.mem_map.mp hx1
      rw [← hyx]; exact hD1.2 y hy
end XGRID
section XMID
variable {p : Program} {l : Launch} {e : Env} {R : Room} {s : State} {m : MethodId} {args : Array Value} {below : List Frame} {meth : Method} {c : Code} {Q : State → Prop}
variable {cc : ByteArray} {nL : Nat} {Ts : List Cond} {own : String} {D : va_G} {tys : List (ClassId × FieldType)} {A : Nat → Prop} {cells slots : Nat}
variable {ws wr Wc : va_W} {lv : List (Nat × Value)} {pc : Nat} {st rest : List Value}
variable {y : MethodName} {C host : String} {T : u_T} {N ci q0 b index n maxL mc ms : Nat} {fs : List Value} {bytes : ByteArray} {wsC : List Cond} {rm : Room} {As : List Value}

theorem xk_axperm {wx wy : va_W} {E : String} (h : wx.Perm wy) (kk : AX p l e R s m args below meth c nL D A cells slots Q wy lv pc st E) : AX p l e R s m args below meth c nL D A cells slots Q wx lv pc st E :=
  fun H locs ls q ce hP hD hS hl => kk H locs ls q ce (xk_permP h hP) (xk_permD h hD) hS hl
theorem xr_mcVi {post : Int32 → va_W → Prop} (F : XF p s m args c cc nL Ts own D tys A) (hM : xMi l y wsC rm D tys Wc (.ref b :: As) mc ms post) (cw : CallW R s args own C index y bytes maxL (some .int) wsC rm mc ms n) (hrc : Wc[q0]? = some (b, .inr (ci, fs))) (hci : vwCl[ci]? = some (C, T, N)) (wA wB : va_W) (hws : ws = wA ++ (Wc ++ wB)) (hn : As.length = n) (hst : st = As.reverse ++ .ref b :: rest) (hW : (rest.map fun v => v.category).sum ≤ 8) (hdg : decode cc pc = .ok (.invokevirtual index, 3)) (hf : cells + mc ≤ R.cells ∧ slots + ms ≤ R.slots) (kk : ∀ (r : Int32) (W1 : va_W), post r W1 → AW p l e R s m args below meth c nL D A (cells + mc) (slots + ms) Q (wA ++ (W1 ++ wB)) lv (pc + 3) (.int r :: rest)) : AW p l e R s m args below meth c nL D A (cells) (slots) Q (ws) lv (pc) (st) := by
  subst hws
  exact xr_callVi (wr := wA ++ wB) F hM cw hrc hci (List.range' wA.length Wc.length) (List.range' 0 wA.length ++ List.range' (wA.length + Wc.length) wB.length) (xk_midC wA Wc wB) (xk_midR wA Wc wB) (xk_nd_range _ _) (xk_midN wA Wc wB) (xk_midD wA Wc wB) hn hst hW hdg hf (fun r W1 h => xr_perm (xk_midP _ _ _) (kk r W1 h))
theorem xr_mcVz {post : Int32 → va_W → Prop} (F : XF p s m args c cc nL Ts own D tys A) (hM : xMi l y wsC rm D tys Wc (.ref b :: As) mc ms post) (cw : CallW R s args own C index y bytes maxL (some .boolean) wsC rm mc ms n) (hrc : Wc[q0]? = some (b, .inr (ci, fs))) (hci : vwCl[ci]? = some (C, T, N)) (wA wB : va_W) (hws : ws = wA ++ (Wc ++ wB)) (hn : As.length = n) (hst : st = As.reverse ++ .ref b :: rest) (hW : (rest.map fun v => v.category).sum ≤ 8) (hdg : decode cc pc = .ok (.invokevirtual index, 3)) (hf : cells + mc ≤ R.cells ∧ slots + ms ≤ R.slots) (kk : ∀ (r : Int32) (W1 : va_W), post r W1 → AW p l e R s m args below meth c nL D A (cells + mc) (slots + ms) Q (wA ++ (W1 ++ wB)) lv (pc + 3) (.int r :: rest)) : AW p l e R s m args below meth c nL D A (cells) (slots) Q (ws) lv (pc) (st) := by
  subst hws
  exact xr_callVz (wr := wA ++ wB) F hM cw hrc hci (List.range' wA.length Wc.length) (List.range' 0 wA.length ++ List.range' (wA.length + Wc.length) wB.length) (xk_midC wA Wc wB) (xk_midR wA Wc wB) (xk_nd_range _ _) (xk_midN wA Wc wB) (xk_midD wA Wc wB) hn hst hW hdg hf (fun r W1 h => xr_perm (xk_midP _ _ _) (kk r W1 h))
theorem xr_mcVv {post : va_W → Prop} (F : XF p s m args c cc nL Ts own D tys A) (hM : xMv l y wsC rm D tys Wc (.ref b :: As) mc ms post) (cw : CallW R s args own C index y bytes maxL (none) wsC rm mc ms n) (hrc : Wc[q0]? = some (b, .inr (ci, fs))) (hci : vwCl[ci]? = some (C, T, N)) (wA wB : va_W) (hws : ws = wA ++ (Wc ++ wB)) (hn : As.length = n) (hst : st = As.reverse ++ .ref b :: rest) (hW : (rest.map fun v => v.category).sum ≤ 8) (hdg : decode cc pc = .ok (.invokevirtual index, 3)) (hf : cells + mc ≤ R.cells ∧ slots + ms ≤ R.slots) (kk : ∀ W1 : va_W, post W1 → AW p l e R s m args below meth c nL D A (cells + mc) (slots + ms) Q (wA ++ (W1 ++ wB)) lv (pc + 3) (rest)) : AW p l e R s m args below meth c nL D A (cells) (slots) Q (ws) lv (pc) (st) := by
  subst hws
  exact xr_callVv (wr := wA ++ wB) F hM cw hrc hci (List.range' wA.length Wc.length) (List.range' 0 wA.length ++ List.range' (wA.length + Wc.length) wB.length) (xk_midC wA Wc wB) (xk_midR wA Wc wB) (xk_nd_range _ _) (xk_midN wA Wc wB) (xk_midD wA Wc wB) hn hst hW hdg hf (fun W1 h => xr_perm (xk_midP _ _ _) (kk W1 h))
theorem xr_mcVl {post : Int64 → va_W → Prop} (F : XF p s m args c cc nL Ts own D tys A) (hM : xMl l y wsC rm D tys Wc (.ref b :: As) mc ms post) (cw : CallW R s args own C index y bytes maxL (some .long) wsC rm mc ms n) (hrc : Wc[q0]? = some (b, .inr (ci, fs))) (hci : vwCl[ci]? = some (C, T, N)) (wA wB : va_W) (hws : ws = wA ++ (Wc ++ wB)) (hn : As.length = n) (hst : st = As.reverse ++ .ref b :: rest) (hW : (rest.map fun v => v.category).sum ≤ 8) (hdg : decode cc pc = .ok (.invokevirtual index, 3)) (hf : cells + mc ≤ R.cells ∧ slots + ms ≤ R.slots) (kk : ∀ (r : Int64) (W1 : va_W), post r W1 → AW p l e R s m args below meth c nL D A (cells + mc) (slots + ms) Q (wA ++ (W1 ++ wB)) lv (pc + 3) (.long r :: rest)) : AW p l e R s m args below meth c nL D A (cells) (slots) Q (ws) lv (pc) (st) := by
  subst hws
  exact xr_callVl (wr := wA ++ wB) F hM cw hrc hci (List.range' wA.length Wc.length) (List.range' 0 wA.length ++ List.range' (wA.length + Wc.length) wB.length) (xk_midC wA Wc wB) (xk_midR wA Wc wB) (xk_nd_range _ _) (xk_midN wA Wc wB) (xk_midD wA Wc wB) hn hst hW hdg hf (fun r W1 h => xr_perm (xk_midP _ _ _) (kk r W1 h))
theorem xr_mcVd {post : UInt64 → va_W → Prop} (F : XF p s m args c cc nL Ts own D tys A) (hM : xMd l y wsC rm D tys Wc (.ref b :: As) mc ms post) (cw : CallW R s args own C index y bytes maxL (some .double) wsC rm mc ms n) (hrc : Wc[q0]? = some (b, .inr (ci, fs))) (hci : vwCl[ci]? = some (C, T, N)) (wA wB : va_W) (hws : ws = wA ++ (Wc ++ wB)) (hn : As.length = n) (hst : st = As.reverse ++ .ref b :: rest) (hW : (rest.map fun v => v.category).sum ≤ 8) (hdg : decode cc pc = .ok (.invokevirtual index, 3)) (hf : cells + mc ≤ R.cells ∧ slots + ms ≤ R.slots) (kk : ∀ (r : UInt64) (W1 : va_W), post r W1 → AW p l e R s m args below meth c nL D A (cells + mc) (slots + ms) Q (wA ++ (W1 ++ wB)) lv (pc + 3) (.double r :: rest)) : AW p l e R s m args below meth c nL D A (cells) (slots) Q (ws) lv (pc) (st) := by
  subst hws
  exact xr_callVd (wr := wA ++ wB) F hM cw hrc hci (List.range' wA.length Wc.length) (List.range' 0 wA.length ++ List.range' (wA.length + Wc.length) wB.length) (xk_midC wA Wc wB) (xk_midR wA Wc wB) (xk_nd_range _ _) (xk_midN wA Wc wB) (xk_midD wA Wc wB) hn hst hW hdg hf (fun r W1 h => xr_perm (xk_midP _ _ _) (kk r W1 h))
theorem xr_mcSi {post : Int32 → va_W → Prop} (F : XF p s m args c cc nL Ts own D tys A) (hM : xMi l y wsC rm D tys Wc As mc ms post) (cw : CallB R s args own index y bytes maxL (some .int) wsC rm mc ms n ∧ (Cond.static y).before args s = true) (wA wB : va_W) (hws : ws = wA ++ (Wc ++ wB)) (hn : As.length = n) (hst : st = As.reverse ++ rest) (hW : (rest.map fun v => v.category).sum ≤ 8) (hdg : decode cc pc = .ok (.invokestatic index, 3)) (hf : cells + mc ≤ R.cells ∧ slots + ms ≤ R.slots) (kk : ∀ (r : Int32) (W1 : va_W), post r W1 → AW p l e R s m args below meth c nL D A (cells + mc) (slots + ms) Q (wA ++ (W1 ++ wB)) lv (pc + 3) (.int r :: rest)) : AW p l e R s m args below meth c nL D A (cells) (slots) Q (ws) lv (pc) (st) := by
  subst hws
  exact xr_callSi (wr := wA ++ wB) F hM cw (List.range' wA.length Wc.length) (List.range' 0 wA.length ++ List.range' (wA.length + Wc.length) wB.length) (xk_midC wA Wc wB) (xk_midR wA Wc wB) (xk_nd_range _ _) (xk_midN wA Wc wB) (xk_midD wA Wc wB) hn hst hW hdg hf (fun r W1 h => xr_perm (xk_midP _ _ _) (kk r W1 h))
theorem xr_mcSz {post : Int32 → va_W → Prop} (F : XF p s m args c cc nL Ts own D tys A) (hM : xMi l y wsC rm D tys Wc As mc ms post) (cw : CallB R s args own index y bytes maxL (some .boolean) wsC rm mc ms n ∧ (Cond.static y).before args s = true) (wA wB : va_W) (hws : ws = wA ++ (Wc ++ wB)) (hn : As.length = n) (hst : st = As.reverse ++ rest) (hW : (rest.map fun v => v.category).sum ≤ 8) (hdg : decode cc pc = .ok (.invokestatic index, 3)) (hf : cells + mc ≤ R.cells ∧ slots + ms ≤ R.slots) (kk : ∀ (r : Int32) (W1 : va_W), post r W1 → AW p l e R s m args below meth c nL D A (cells + mc) (slots + ms) Q (wA ++ (W1 ++ wB)) lv (pc + 3) (.int r :: rest)) : AW p l e R s m args below meth c nL D A (cells) (slots) Q (ws) lv (pc) (st) := by
  subst hws
  exact xr_callSz (wr := wA ++ wB) F hM cw (List.range' wA.length Wc.length) (List.range' 0 wA.length ++ List.range' (wA.length + Wc.length) wB.length) (xk_midC wA Wc wB) (xk_midR wA Wc wB) (xk_nd_range _ _) (xk_midN wA Wc wB) (xk_midD wA Wc wB) hn hst hW hdg hf (fun r W1 h => xr_perm (xk_midP _ _ _) (kk r W1 h))
theorem xr_mcSv {post : va_W → Prop} (F : XF p s m args c cc nL Ts own D tys A) (hM : xMv l y wsC rm D tys Wc As mc ms post) (cw : CallB R s args own index y bytes maxL (none) wsC rm mc ms n ∧ (Cond.static y).before args s = true) (wA wB : va_W) (hws : ws = wA ++ (Wc ++ wB)) (hn : As.length = n) (hst : st = As.reverse ++ rest) (hW : (rest.map fun v => v.category).sum ≤ 8) (hdg : decode cc pc = .ok (.invokestatic index, 3)) (hf : cells + mc ≤ R.cells ∧ slots + ms ≤ R.slots) (kk : ∀ W1 : va_W, post W1 → AW p l e R s m args below meth c nL D A (cells + mc) (slots + ms) Q (wA ++ (W1 ++ wB)) lv (pc + 3) (rest)) : AW p l e R s m args below meth c nL D A (cells) (slots) Q (ws) lv (pc) (st) := by
  subst hws
  exact xr_callSv (wr := wA ++ wB) F hM cw (List.range' wA.length Wc.length) (List.range' 0 wA.length ++ List.range' (wA.length + Wc.length) wB.length) (xk_midC wA Wc wB) (xk_midR wA Wc wB) (xk_nd_range _ _) (xk_midN wA Wc wB) (xk_midD wA Wc wB) hn hst hW hdg hf (fun W1 h => xr_perm (xk_midP _ _ _) (kk W1 h))
theorem xr_mcIv {post : va_W → Prop} (F : XF p s m args c cc nL Ts own D tys A) (hM : xMv l y wsC rm D tys Wc (.ref b :: As) mc ms post) (cw : CallB R s args own index y bytes maxL none wsC rm mc ms n ∧ y.name = "<init>" ∧ (Cond.instanceMethod y).before args s = true) (wA wB : va_W) (hws : ws = wA ++ (Wc ++ wB)) (hn : As.length = n) (hst : st = As.reverse ++ .ref b :: rest) (hW : (rest.map fun v => v.category).sum ≤ 8) (hdg : decode cc pc = .ok (.invokespecial index, 3)) (hf : cells + mc ≤ R.cells ∧ slots + ms ≤ R.slots) (kk : ∀ W1 : va_W, post W1 → AW p l e R s m args below meth c nL D A (cells + mc) (slots + ms) Q (wA ++ (W1 ++ wB)) lv (pc + 3) (rest)) : AW p l e R s m args below meth c nL D A (cells) (slots) Q (ws) lv (pc) (st) := by
  subst hws
  exact xr_callIv (wr := wA ++ wB) F hM cw (List.range' wA.length Wc.length) (List.range' 0 wA.length ++ List.range' (wA.length + Wc.length) wB.length) (xk_midC wA Wc wB) (xk_midR wA Wc wB) (xk_nd_range _ _) (xk_midN wA Wc wB) (xk_midD wA Wc wB) hn hst hW hdg hf (fun W1 h => xr_perm (xk_midP _ _ _) (kk W1 h))
theorem xr_mcINv {post : va_W → Prop} (F : XF p s m args c cc nL Ts own D tys A) (hM : xMv l y wsC rm D tys Wc (.ref b :: As) mc ms post) (cw : va_CN R s args own index y host bytes maxL none wsC rm mc ms n ∧ y.name = "<init>" ∧ (Cond.instanceMethod y).before args s = true) (wA wB : va_W) (hws : ws = wA ++ (Wc ++ wB)) (hn : As.length = n) (hst : st = As.reverse ++ .ref b :: rest) (hW : (rest.map fun v => v.category).sum ≤ 8) (hdg : decode cc pc = .ok (.invokespecial index, 3)) (hf : cells + mc ≤ R.cells ∧ slots + ms ≤ R.slots) (kk : ∀ W1 : va_W, post W1 → AW p l e R s m args below meth c nL D A (cells + mc) (slots + ms) Q (wA ++ (W1 ++ wB)) lv (pc + 3) (rest)) : AW p l e R s m args below meth c nL D A (cells) (slots) Q (ws) lv (pc) (st) := by
  subst hws
  exact xr_callINv (wr := wA ++ wB) F hM cw (List.range' wA.length Wc.length) (List.range' 0 wA.length ++ List.range' (wA.length + Wc.length) wB.length) (xk_midC wA Wc wB) (xk_midR wA Wc wB) (xk_nd_range _ _) (xk_midN wA Wc wB) (xk_midD wA Wc wB) hn hst hW hdg hf (fun W1 h => xr_perm (xk_midP _ _ _) (kk W1 h))
theorem xr_mcVr {y : MethodName} {C : String} {T : u_T} {N ci q0 b index n maxL mc ms : Nat} {fs : List Value} {bytes : ByteArray} {wsC : List Cond} {rm : Room} {As : List Value} {wr Wc : va_W} {rt : FieldType} {post : Nat → va_W → Prop} (F : XF p s m args c cc nL Ts own D tys A) (hM : xMr l y wsC rm D tys Wc (.ref b :: As) mc ms post) (cw : CallW R s args own C index y bytes maxL (some rt) wsC rm mc ms n) (hrc : Wc[q0]? = some (b, .inr (ci, fs))) (hci : vwCl[ci]? = some (C, T, N)) (wA wB : va_W) (hws : ws = wA ++ (Wc ++ wB)) (hn : As.length = n) (hst : st = As.reverse ++ .ref b :: rest) (hW : (rest.map fun v => v.category).sum ≤ 8) (hdg : decode cc pc = .ok (.invokevirtual index, 3)) (hf : cells + mc ≤ R.cells ∧ slots + ms ≤ R.slots) (kk : ∀ (r : Nat) (W1 : va_W), post r W1 → AW p l e R s m args below meth c nL D A (cells + mc) (slots + ms) Q (wA ++ (W1 ++ wB)) lv (pc + 3) (.ref r :: rest)) : AW p l e R s m args below meth c nL D A cells slots Q ws lv pc st := by
  subst hws
  exact xr_callVr (wr := wA ++ wB) F hM cw hrc hci (List.range' wA.length Wc.length) (List.range' 0 wA.length ++ List.range' (wA.length + Wc.length) wB.length) (xk_midC wA Wc wB) (xk_midR wA Wc wB) (xk_nd_range _ _) (xk_midN wA Wc wB) (xk_midD wA Wc wB) hn hst hW hdg hf (fun r W1 h => xr_perm (xk_midP _ _ _) (kk r W1 h))
theorem xr_mcXVi {post : Int32 → va_W → Prop} {px : String → va_W → Prop} (F : XF p s m args c cc nL Ts own D tys A) (G : XG l s meth A) (hM : xXi l y wsC rm D tys Wc (.ref b :: As) mc ms post px) (cw : CallW R s args own C index y bytes maxL (some .int) wsC rm mc ms n) (hrc : Wc[q0]? = some (b, .inr (ci, fs))) (hci : vwCl[ci]? = some (C, T, N)) (wA wB : va_W) (hws : ws = wA ++ (Wc ++ wB)) (hn : As.length = n) (hst : st = As.reverse ++ .ref b :: rest) (hW : (rest.map fun v => v.category).sum ≤ 8) (hdg : decode cc pc = .ok (.invokevirtual index, 3)) (hf : cells + mc ≤ R.cells ∧ slots + ms ≤ R.slots) (kx : ∀ (E : String) (W1 : va_W), px E W1 → AX p l e R s m args below meth c nL D A (cells + mc) (slots + ms) Q (wA ++ (W1 ++ wB)) lv pc rest E) (kk : ∀ (r : Int32) (W1 : va_W), post r W1 → AW p l e R s m args below meth c nL D A (cells + mc) (slots + ms) Q (wA ++ (W1 ++ wB)) lv (pc + 3) (.int r :: rest)) : AW p l e R s m args below meth c nL D A (cells) (slots) Q (ws) lv (pc) (st) := by
  subst hws
  exact xr_callXVi (wr := wA ++ wB) F G hM cw hrc hci (List.range' wA.length Wc.length) (List.range' 0 wA.length ++ List.range' (wA.length + Wc.length) wB.length) (xk_midC wA Wc wB) (xk_midR wA Wc wB) (xk_nd_range _ _) (xk_midN wA Wc wB) (xk_midD wA Wc wB) hn hst hW hdg hf (fun E W1 h => xk_axperm (xk_midP _ _ _) (kx E W1 h)) (fun r W1 h => xr_perm (xk_midP _ _ _) (kk r W1 h))
theorem xr_mcXVz {post : Int32 → va_W → Prop} {px : String → va_W → Prop} (F : XF p s m args c cc nL Ts own D tys A) (G : XG l s meth A) (hM : xXi l y wsC rm D tys Wc (.ref b :: As) mc ms post px) (cw : CallW R s args own C index y bytes maxL (some .boolean) wsC rm mc ms n) (hrc : Wc[q0]? = some (b, .inr (ci, fs))) (hci : vwCl[ci]? = some (C, T, N)) (wA wB : va_W) (hws : ws = wA ++ (Wc ++ wB)) (hn : As.length = n) (hst : st = As.reverse ++ .ref b :: rest) (hW : (rest.map fun v => v.category).sum ≤ 8) (hdg : decode cc pc = .ok (.invokevirtual index, 3)) (hf : cells + mc ≤ R.cells ∧ slots + ms ≤ R.slots) (kx : ∀ (E : String) (W1 : va_W), px E W1 → AX p l e R s m args below meth c nL D A (cells + mc) (slots + ms) Q (wA ++ (W1 ++ wB)) lv pc rest E) (kk : ∀ (r : Int32) (W1 : va_W), post r W1 → AW p l e R s m args below meth c nL D A (cells + mc) (slots + ms) Q (wA ++ (W1 ++ wB)) lv (pc + 3) (.int r :: rest)) : AW p l e R s m args below meth c nL D A (cells) (slots) Q (ws) lv (pc) (st) := by
  subst hws
  exact xr_callXVz (wr := wA ++ wB) F G hM cw hrc hci (List.range' wA.length Wc.length) (List.range' 0 wA.length ++ List.range' (wA.length + Wc.length) wB.length) (xk_midC wA Wc wB) (xk_midR wA Wc wB) (xk_nd_range _ _) (xk_midN wA Wc wB) (xk_midD wA Wc wB) hn hst hW hdg hf (fun E W1 h => xk_axperm (xk_midP _ _ _) (kx E W1 h)) (fun r W1 h => xr_perm (xk_midP _ _ _) (kk r W1 h))
theorem xr_mcXHi {hh : List (Nat × Nat × Nat × Nat)} {post : Int32 → va_W → Prop} {px : String → va_W → Prop} (F : XF p s m args c cc nL Ts own D tys A) (G : XG l s meth A) (hM : xXi l y wsC rm D tys Wc As mc ms post px) (cw : vx_CSW R s args own index y bytes maxL (some .int) hh wsC rm mc ms n) (wA wB : va_W) (hws : ws = wA ++ (Wc ++ wB)) (hn : As.length = n) (hst : st = As.reverse ++ rest) (hW : (rest.map fun v => v.category).sum ≤ 8) (hdg : decode cc pc = .ok (.invokestatic index, 3)) (hf : cells + mc ≤ R.cells ∧ slots + ms ≤ R.slots) (kx : ∀ (E : String) (W1 : va_W), px E W1 → AX p l e R s m args below meth c nL D A (cells + mc) (slots + ms) Q (wA ++ (W1 ++ wB)) lv pc rest E) (kk : ∀ (r : Int32) (W1 : va_W), post r W1 → AW p l e R s m args below meth c nL D A (cells + mc) (slots + ms) Q (wA ++ (W1 ++ wB)) lv (pc + 3) (.int r :: rest)) : AW p l e R s m args below meth c nL D A (cells) (slots) Q (ws) lv (pc) (st) := by
  subst hws
  exact xr_callXHi (wr := wA ++ wB) F G hM cw (List.range' wA.length Wc.length) (List.range' 0 wA.length ++ List.range' (wA.length + Wc.length) wB.length) (xk_midC wA Wc wB) (xk_midR wA Wc wB) (xk_nd_range _ _) (xk_midN wA Wc wB) (xk_midD wA Wc wB) hn hst hW hdg hf (fun E W1 h => xk_axperm (xk_midP _ _ _) (kx E W1 h)) (fun r W1 h => xr_perm (xk_midP _ _ _) (kk r W1 h))
end XMID
