/-! floorDiv of two longs, the divisor above 0 -/
theorem fd_tdiv {x y : Int64} (hy : 0 < y) : (x / y).toInt = x.toInt.tdiv y.toInt := by
  have hyi : 0 < y.toInt := by
    rw [Int64.lt_iff_toInt_lt] at hy
    simpa using hy
  have h1 := Int64.le_toInt x
  have h2 := Int64.toInt_lt x
  rw [Int64.toInt_div]
  apply Int.bmod_eq_of_le
  · rcases Int.le_total 0 x.toInt with h | h
    · have := Int.tdiv_nonneg h (Int.le_of_lt hyi)
      omega
    · obtain ⟨n, hn⟩ : ∃ n : Int, n = -x.toInt := ⟨_, rfl⟩
      have hx : x.toInt = -n := by omega
      rw [hx, Int.neg_tdiv, Int.tdiv_eq_ediv_of_nonneg (by omega)]
      have := Int.ediv_le_self (a := n) y.toInt (by omega)
      omega
  · rcases Int.le_total 0 x.toInt with h | h
    · rw [Int.tdiv_eq_ediv_of_nonneg h]
      have := Int.ediv_le_self (a := x.toInt) y.toInt h
      omega
    · obtain ⟨n, hn⟩ : ∃ n : Int, n = -x.toInt := ⟨_, rfl⟩
      have hx : x.toInt = -n := by omega
      rw [hx, Int.neg_tdiv, Int.tdiv_eq_ediv_of_nonneg (by omega)]
      have := Int.ediv_nonneg (a := n) (b := y.toInt) (by omega) (Int.le_of_lt hyi)
      omega
theorem fd_xor {x y : Int64} (hy : 0 < y) : (x ^^^ y) < 0 ↔ x.toInt < 0 := by
  have hyi : 0 < y.toInt := by
    rw [Int64.lt_iff_toInt_lt] at hy
    simpa using hy
  rw [Int64.lt_iff_toInt_lt, Int64.toInt_zero]
  have e1 : (x ^^^ y).toInt = (x.toBitVec ^^^ y.toBitVec).toInt := by
    rw [← Int64.toInt_toBitVec, Int64.toBitVec_xor]
  have e2 : x.toInt = x.toBitVec.toInt := (Int64.toInt_toBitVec x).symm
  have e3 : y.toInt = y.toBitVec.toInt := (Int64.toInt_toBitVec y).symm
  rw [e1, e2]
  rw [e3] at hyi
  have m1 := BitVec.msb_eq_toInt (x := x.toBitVec ^^^ y.toBitVec)
  have m2 := BitVec.msb_eq_toInt (x := x.toBitVec)
  have m3 := BitVec.msb_eq_toInt (x := y.toBitVec)
  rw [BitVec.msb_xor, m2, m3] at m1
  have h3 : decide (y.toBitVec.toInt < 0) = false := decide_eq_false (by omega)
  rw [h3, Bool.xor_false] at m1
  constructor
  · intro h
    have := decide_eq_true h
    rw [← m1] at this
    exact of_decide_eq_true this
  · intro h
    have := decide_eq_true h
    rw [m1] at this
    exact of_decide_eq_true this
theorem fd_mul {x y : Int64} (hy : 0 < y) : (x / y) * y = x ↔ x.toInt.tdiv y.toInt * y.toInt = x.toInt := by
  have hyi : 0 < y.toInt := by
    rw [Int64.lt_iff_toInt_lt] at hy
    simpa using hy
  have h1 := Int64.le_toInt x
  have h2 := Int64.toInt_lt x
  have e : ((x / y) * y).toInt = x.toInt.tdiv y.toInt * y.toInt := by
    rw [Int64.toInt_mul, fd_tdiv hy]
    apply Int.bmod_eq_of_le
    · rcases Int.le_total 0 x.toInt with h | h
      · have := Int.mul_nonneg (Int.tdiv_nonneg h (Int.le_of_lt hyi)) (Int.le_of_lt hyi)
        omega
      · obtain ⟨n, hn⟩ : ∃ n : Int, n = -x.toInt := ⟨_, rfl⟩
        have hx : x.toInt = -n := by omega
        rw [hx, Int.neg_tdiv, Int.tdiv_eq_ediv_of_nonneg (by omega), Int.neg_mul]
        have := Int.ediv_mul_le n (b := y.toInt) (by omega)
        omega
    · rcases Int.le_total 0 x.toInt with h | h
      · rw [Int.tdiv_eq_ediv_of_nonneg h]
        have := Int.ediv_mul_le x.toInt (b := y.toInt) (by omega)
        omega
      · obtain ⟨n, hn⟩ : ∃ n : Int, n = -x.toInt := ⟨_, rfl⟩
        have hx : x.toInt = -n := by omega
        rw [hx, Int.neg_tdiv, Int.tdiv_eq_ediv_of_nonneg (by omega), Int.neg_mul]
        have := Int.mul_nonneg (Int.ediv_nonneg (a := n) (b := y.toInt) (by omega) (Int.le_of_lt hyi)) (Int.le_of_lt hyi)
        omega
  rw [← e]
  exact Int64.toInt_inj.symm
theorem fd_of {x : Int64} {n : Int} (h : x.toInt = n) : x = Int64.ofInt n := by
  rw [← h, Int64.ofInt_toInt]
theorem fd_keep {x y : Int64} (hy : 0 < y) (h : ¬ (x ^^^ y) < 0 ∨ (x / y) * y = x) : x / y = sr_fd x y := by
  have hyi : 0 < y.toInt := by
    rw [Int64.lt_iff_toInt_lt] at hy
    simpa using hy
  refine fd_of ?_
  rw [fd_tdiv hy]
  rcases h with h | h
  · rw [fd_xor hy] at h
    exact Int.tdiv_eq_ediv_of_nonneg (by omega)
  · rw [fd_mul hy] at h
    have h2 : y.toInt ∣ x.toInt := ⟨x.toInt.tdiv y.toInt, by rw [Int.mul_comm]; exact h.symm⟩
    exact Int.tdiv_eq_ediv_of_dvd h2
theorem fd_less {x y : Int64} (hy : 0 < y) (h1 : (x ^^^ y) < 0) (h2 : ¬ (x / y) * y = x) : x / y - 1 = sr_fd x y := by
  have hyi : 0 < y.toInt := by
    rw [Int64.lt_iff_toInt_lt] at hy
    simpa using hy
  rw [fd_xor hy] at h1
  rw [fd_mul hy] at h2
  have b1 := Int64.le_toInt x
  obtain ⟨n, hn⟩ : ∃ n : Int, n = -x.toInt := ⟨_, rfl⟩
  have hx : x.toInt = -n := by omega
  have ht : x.toInt.tdiv y.toInt = -(n / y.toInt) := by
    rw [hx, Int.neg_tdiv, Int.tdiv_eq_ediv_of_nonneg (by omega)]
  have hm := Int.emod_nonneg n (b := y.toInt) (by omega)
  have hl := Int.emod_lt_of_pos n hyi
  have hq := Int.emod_add_mul_ediv n y.toInt
  have hle := Int.ediv_le_self (a := n) y.toInt (by omega)
  have hge := Int.ediv_nonneg (a := n) (b := y.toInt) (by omega) (Int.le_of_lt hyi)
  have hne : n % y.toInt ≠ 0 := by
    intro h0
    apply h2
    rw [ht, Int.neg_mul, Int.mul_comm]
    omega
  have hfl : x.toInt / y.toInt = -(n / y.toInt) - 1 := by
    refine ((Int.ediv_emod_unique hyi (a := x.toInt) (q := -(n / y.toInt) - 1) (r := y.toInt - n % y.toInt)).mpr ⟨?_, by omega, by omega⟩).1
    rw [Int.mul_sub, Int.mul_neg, Int.mul_one]
    omega
  refine fd_of ?_
  rw [hfl, Int64.toInt_sub, fd_tdiv hy, ht]
  apply Int.bmod_eq_of_le
  · show _ ≤ -(n / y.toInt) - (1 : Int64).toInt
    rw [show (1 : Int64).toInt = 1 from rfl]
    have : n / y.toInt < n := by
      rcases Int.lt_or_le (n / y.toInt) n with q | q
      · exact q
      · exfalso
        have e : n / y.toInt = n := by omega
        rw [e] at hq
        have : y.toInt * n ≥ 1 * n := Int.mul_le_mul_of_nonneg_right (by omega) (by omega)
        omega
    omega
  · show -(n / y.toInt) - (1 : Int64).toInt < _
    rw [show (1 : Int64).toInt = 1 from rfl]
    omega
