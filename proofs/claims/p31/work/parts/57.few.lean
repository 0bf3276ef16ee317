theorem sq_in {z : ZS} {x y : Nat} (hx : x < zc z) (hy : y < zr z) : zc z * y + x < zq z := by
  have h4 : zc z * y + zc z ≤ zc z * zr z := by rw [← Nat.mul_succ]; exact Nat.mul_le_mul_left _ hy
  have h5 : zq z = zc z * zr z := rfl
  omega
theorem inB_R {x : Int32} {n : Nat} : inB x 0 n = inR x (n + 1) := by
  unfold inB inR
  rw [decide_eq_decide]
  omega
