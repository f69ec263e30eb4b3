theorem z_fb {x y : Int32} (h : zB x = some y) : fits .boolean (.int y) = true := by
  rcases zB_s2 h with e | e <;> rw [e] <;> rfl
