theorem zg1 (v : Int32) : (if v = 0 then 0 else 1) ≤ 1 := by
  split
  · exact Nat.zero_le 1
  · exact Nat.le_refl 1
theorem zg00 (x : Int32) : (if x * 0 = 0 then 0 else 1) ≤ 0 := by
  rw [Int32.mul_zero, if_pos rfl]
  exact Nat.le_refl 0
