/-! a size's digits, class (fill) and reference (load) -/
def jI (z : Int) : Int64 := Int64.ofInt z
theorem jI_toInt {z : Int} (h1 : -9223372036854775808 ≤ z) (h2 : z < 9223372036854775808) : (jI z).toInt = z := Int64.toInt_ofInt_of_le (by simpa using h1) (by simpa using h2)
theorem jI_of (x : Int64) : x = jI x.toInt := (Int64.ofInt_toInt x).symm
theorem jI_sub (a b : Int) : jI a - jI b = jI (a - b) := (Int64.ofInt_sub a b).symm
theorem jI_mul (a b : Int) : jI a * jI b = jI (a * b) := (Int64.ofInt_mul a b).symm
theorem jI_neg (a : Int) : -jI a = jI (-a) := (Int64.ofInt_neg a).symm
theorem j_10 : (10 : Int64) = jI 10 := by decide
theorem jI_div {N : Nat} (h : N ≤ 9223372036854775808) : jI (-(N : Int)) / 10 = jI (-((N / 10 : Nat) : Int)) := by
  have e10 : (10 : Int64).toInt = 10 := by decide
  have h1 : (jI (-(N : Int)) / 10).toInt = -((N / 10 : Nat) : Int) := by
    rw [Int64.toInt_div, e10, jI_toInt (by omega) (by omega)]
    have e : (-(N : Int)).tdiv 10 = -((N / 10 : Nat) : Int) := by
      rw [Int.neg_tdiv]
      congr 1
    rw [e]
    rw [Int.bmod_def]
    have hb : N / 10 ≤ 922337203685477580 := by omega
    split <;> omega
  rw [jI_of (jI (-(N : Int)) / 10), h1]
theorem jI_dig {N : Nat} (h : N ≤ 9223372036854775808) : (-(jI (-(N : Int)) - jI (-(N : Int)) / 10 * 10)).toInt32 = nI (N % 10) := by
  rw [jI_div h, j_10, jI_mul, jI_sub, jI_neg]
  have e : (-(-(N : Int) - -((N / 10 : Nat) : Int) * 10)) = ((N % 10 : Nat) : Int) := by omega
  rw [e, nI_iI]
  show (Int64.ofInt ((N % 10 : Nat) : Int)).toInt32 = Int32.ofInt ((N % 10 : Nat) : Int)
  apply Int32.toInt_inj.mp
  rw [Int64.toInt_toInt32, Int64.toInt_ofInt_of_le (by omega) (by omega), Int32.toInt_ofInt_of_le (by omega) (by omega)]
  rw [Int.bmod_def]
  split <;> omega
