theorem va_P_nil {D : va_G} {H : Heap} : va_P D vwCl [] H := fun k q hk => by simp at hk
theorem va_D_nil {A : Nat → Prop} : va_D A [] := ⟨fun i j p q hi => by simp at hi, fun k q hk => by simp at hk⟩
theorem law_begin {p : Program} {e : Env} {s : State} {m : MethodId} {below : List Frame} {meth : Method} {c : Code} {l : Launch} {b : Nat} {D : va_G} {A : Nat → Prop} {Q : State → Prop} (k : AW p l e room_1 s m #[Value.ref b] below meth c 32 D A 0 0 Q [] [(0, .ref b)] 0 []) : W p l e room_1 s m #[Value.ref b] below meth c s.heap [] 0 0 Q (entryFrame m ([Value.ref b] : List Value).toArray 32) := by
  rw [lg_entry_eq]
  exact k s.heap [] _ va_P_nil va_D_nil va_S.rf (lv_entry [Value.ref b] (Nat.le_of_ble_eq_true rfl))
theorem law_end {p : Program} {e : Env} {s : State} {m : MethodId} {below : List Frame} {meth : Method} {c : Code} {l : Launch} {b : Nat} {D : va_G} (hx : p.tables.exec = Jvm.exec) (hb : c.code = code) (hr : meth.sig.returnType = ret) (hlocks : meth.locks = false) (ws : va_W) (lv : List (Nat × Value)) :
    AW p l e room_1 s m #[Value.ref b] below meth c 32 D (fun q => s.heap.size ≤ q) 610331 7270474 (lw_Z below #[Value.ref b] s) ws lv 1358 [.int 1] := by
  intro H locs ls hP hD hS hl
  exact va_forget (fun q hq => hS.2.2 q hq) (W.base (lw_ret (Drawn.sameBut.refl s.drawn lw_cs) hx hb hr hlocks dL_law_1358))
/-- from the entry, for every script of at most 260 ints, the law comes to its end with true -/
theorem whole_start {p : Program} {e : Env} {s : State} {m : MethodId} {below : List Frame} {meth : Method} {c : Code} (l : Launch) (hflags : l.flags = flags0) {b L : Nat} {xs : Nat → Int32} (hL : L ≤ 260) (C0 : lw_At p s m meth c b L xs) : W p l e room_1 s m #[Value.ref b] below meth c s.heap [] 0 0 (lw_Z below #[Value.ref b] s) (entryFrame m ([Value.ref b] : List Value).toArray 32) := by
  obtain ⟨D, yI, yZ, yL, F, hT, hQ⟩ := law_fix C0
  obtain ⟨h1, h2, h3, h4, h5, hts, hX, hbl, hlk, hgv⟩ := C0
  exact law_begin (law_walk (law_flags hflags) hL F ⟨law_flags hflags, hlk, hT, hQ⟩ hX hbl (Nat.not_le.mpr hbl) (law_end h1 h2 h3 hlk))
