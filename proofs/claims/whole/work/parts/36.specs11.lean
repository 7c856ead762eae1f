theorem minT {x y z : Int32} {a b : Int} (e : z = if y < x then y else x) (hx : x.toInt = a) (hy : y.toInt = b) : z.toInt = min a b := by
  subst e hx hy
  split <;> rename_i h <;> rw [ti_lt] at h <;> omega
