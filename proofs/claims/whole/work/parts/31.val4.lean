def D_start : CD := (0, 0, fun _ => 60, fun _ => 0, fun _ => 0, fun _ => 0, fun _ => 0, fun _ => 0, fun _ => 0, fun _ => 0, fun _ => 0)
def K_start : CK := (1, 0, 0, 50, 0, fun _ => 8, fun _ => 0)
theorem xk_updall {f : Nat → Int32} {b : Nat} {v : Int32} (h : ∀ j, j < b → f j = v) : ∀ j, j < b + 1 → upd f b v j = v := by
  intro j hj
  by_cases q : j = b
  · subst q; exact pk_us
  · rw [pk_un q]; exact h j (by omega)
section XKIT4
variable {p : Program} {l : Launch} {e : Env} {R : Room} {s : State} {m : MethodId} {args : Array Value} {below : List Frame} {meth : Method} {c : Code} {Q : State → Prop}
variable {nL : Nat} {D : va_G} {A : Nat → Prop} {cells slots : Nat}
variable {ws : va_W} {lv : List (Nat × Value)} {pc : Nat} {st : List Value}
/-- a row whose values are known by another function -/
theorem xr_fc (q0 : Nat) {c0 : ClassId} {a0 n : Nat} {f : Nat → Int32} (g : Nat → Int32) (h : ws[q0]? = some (a0, .inl (c0, n, .inl f))) (e9 : ∀ j, j < n → f j = g j) (ws' : va_W) (hw : ws.set q0 (a0, .inl (c0, n, .inl g)) = ws')
    (kk : AW p l e R s m args below meth c nL D A cells slots Q ws' lv pc st) : AW p l e R s m args below meth c nL D A cells slots Q ws lv pc st := by
  intro H locs ls hP hD hS hl
  subst hw
  have h1 : ws.set q0 (a0, .inl (c0, n, .inl f)) = ws := by
    obtain ⟨hlt, he⟩ := List.getElem?_eq_some_iff.mp h
    rw [← he]; exact List.set_getElem_self hlt
  exact kk H locs ls (xk_cellcong (f := g) (g := f) (by rw [h1]; exact hP) e9) (hD.set h) hS hl
end XKIT4
