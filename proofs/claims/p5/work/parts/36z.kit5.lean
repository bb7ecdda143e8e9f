/-! A bound for sums of weights. -/
def fb (i : Nat) : Nat := i * 1000000
theorem fb_up {y i : Nat} (h : y ≤ fb i) : y ≤ fb (i + 1) := Nat.le_trans h (Nat.mul_le_mul (Nat.le_succ i) (Nat.le_refl _))
theorem fb_s {y w i : Nat} (h : y ≤ fb i) (hw : w ≤ 1000000) : y + w ≤ fb (i + 1) := by
  have e : fb (i + 1) = fb i + 1000000 := Nat.succ_mul i 1000000
  rw [e]; exact Nat.add_le_add h hw
theorem fb_lt {y i : Nat} (h : y ≤ fb i) (hi : i ≤ 64) : y < 2147483648 := by
  have h1 : fb i ≤ 64 * 1000000 := Nat.mul_le_mul hi (Nat.le_refl _)
  omega
