def D_start : CD := (0, 0, fun _ => 60, fun _ => 0, fun _ => 0, fun _ => 0, fun _ => 0, fun _ => 0, fun _ => 0, fun _ => 0, fun _ => 0)
def K_start : CK := (1, 0, 0, 50, 0, fun _ => 8, fun _ => 0)
theorem xk_updall {f : Nat → Int32} {b : Nat} {v : Int32} (h : ∀ j, j < b → f j = v) : ∀ j, j < b + 1 → upd f b v j = v := by
  intro j hj
  by_cases q : j = b
  · subst q; exact pk_us
  · rw [pk_un q]; exact h j (by omega)
