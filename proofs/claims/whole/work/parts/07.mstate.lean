/-! THE REFERENCE, in numbers -/
def md_th (a b c : Int32) : Int32 := if a = 0 then 1 else if b = 0 then 2 else if c = 0 then 3 else 0
theorem md_th_1 {a b c : Int32} (h : a = 0) : md_th a b c = 1 := if_pos h
theorem md_th_2 {a b c : Int32} (h : ¬ a = 0) (h2 : b = 0) : md_th a b c = 2 := by
  unfold md_th
  rw [if_neg h, if_pos h2]
theorem md_th_3 {a b c : Int32} (h : ¬ a = 0) (h2 : ¬ b = 0) (h3 : c = 0) : md_th a b c = 3 := by
  unfold md_th
  rw [if_neg h, if_neg h2, if_pos h3]
theorem md_th_0 {a b c : Int32} (h : ¬ a = 0) (h2 : ¬ b = 0) (h3 : ¬ c = 0) : md_th a b c = 0 := by
  unfold md_th
  rw [if_neg h, if_neg h2, if_neg h3]
theorem md_th_all {a b c : Int32} (h : md_th a b c = 0) : ¬ a = 0 ∧ ¬ b = 0 ∧ ¬ c = 0 := by
  unfold md_th at h
  by_cases h1 : a = 0
  · rw [if_pos h1] at h; exact absurd h (by decide)
  · rw [if_neg h1] at h
    by_cases h2 : b = 0
    · rw [if_pos h2] at h; exact absurd h (by decide)
    · rw [if_neg h2] at h
      by_cases h3 : c = 0
      · rw [if_pos h3] at h; exact absurd h (by decide)
      · exact ⟨h1, h2, h3⟩
theorem bI_ne {P : Prop} [Decidable P] (h : P) : ¬ bI P = 0 := by
  unfold bI
  rw [if_pos h]
  decide
theorem bI_of {P : Prop} [Decidable P] (h : ¬ bI P = 0) : P := bI_t rfl h
abbrev md_win (v lo hi : Int32) : Prop := ¬ v < lo ∧ ¬ hi < v
theorem nI_m1 {n : Nat} (h : n < 2 ^ 31) : (nI n - 1).toInt = (n : Int) - 1 := by
  rw [Int32.toInt_sub, nI_toInt h]
  apply Int.bmod_eq_of_le
  · show _ ≤ (n : Int) - (1 : Int32).toInt
    rw [show (1 : Int32).toInt = 1 from rfl]; omega
  · show (n : Int) - (1 : Int32).toInt < _
    rw [show (1 : Int32).toInt = 1 from rfl]; omega
theorem md_win_in {a : Int32} {n : Nat} (h : n < 2 ^ 31) : md_win a 0 (nI n - 1) ↔ xin a n := by
  show _ ↔ vp_in a n
  rw [vp_in_iff]
  unfold md_win
  rw [Int32.lt_iff_toInt_lt, Int32.lt_iff_toInt_lt, nI_m1 h, Int32.toInt_zero]
  omega
theorem fd_dn1 {x y : Int64} (hy : 0 < y) (h : ¬ (x / y) * y ≤ x) : x / y - 1 = sr_fd x y := by
  have hyi : 0 < y.toInt := by
    rw [Int64.lt_iff_toInt_lt] at hy
    simpa using hy
  have hne : ¬ (x / y) * y = x := fun q => h (by rw [q]; exact Int64.le_refl _)
  refine fd_less hy ?_ hne
  rw [fd_xor hy]
  rcases Int.lt_or_le x.toInt 0 with q | q
  · exact q
  · exfalso
    apply h
    rw [Int64.le_iff_toInt_le]
    have e : ((x / y) * y).toInt = x.toInt / y.toInt * y.toInt := by
      rw [Int64.toInt_mul, fd_tdiv hy, Int.tdiv_eq_ediv_of_nonneg q]
      have h1 := Int.ediv_mul_le x.toInt (b := y.toInt) (by omega)
      have h2 := Int.mul_nonneg (Int.ediv_nonneg (a := x.toInt) (b := y.toInt) q (Int.le_of_lt hyi)) (Int.le_of_lt hyi)
      have h3 := Int64.toInt_lt x
      apply Int.bmod_eq_of_le <;> omega
    rw [e]
    exact Int.ediv_mul_le x.toInt (by omega)
theorem fd_dn0 {x y : Int64} (hy : 0 < y) (h : (x / y) * y ≤ x) : x / y = sr_fd x y := by
  by_cases hq : (x / y) * y = x
  · exact fd_keep hy (Or.inr hq)
  · refine fd_keep hy (Or.inl ?_)
    rw [fd_xor hy]
    intro hn
    have hyi : 0 < y.toInt := by
      rw [Int64.lt_iff_toInt_lt] at hy
      simpa using hy
    obtain ⟨n, hn2⟩ : ∃ n : Int, n = -x.toInt := ⟨_, rfl⟩
    have hx : x.toInt = -n := by omega
    have b1 := Int64.le_toInt x
    have e : ((x / y) * y).toInt = -(n / y.toInt * y.toInt) := by
      rw [Int64.toInt_mul, fd_tdiv hy, hx, Int.neg_tdiv, Int.tdiv_eq_ediv_of_nonneg (by omega), Int.neg_mul]
      have h1 := Int.ediv_mul_le n (b := y.toInt) (by omega)
      have h2 := Int.mul_nonneg (Int.ediv_nonneg (a := n) (b := y.toInt) (by omega) (Int.le_of_lt hyi)) (Int.le_of_lt hyi)
      apply Int.bmod_eq_of_le <;> omega
    rw [Int64.le_iff_toInt_le, e] at h
    have h1 := Int.ediv_mul_le n (b := y.toInt) (by omega)
    apply hq
    apply Int64.toInt_inj.mp
    rw [e]
    omega
/-- which mark an observation is of -/
def md_mk (mk : Nat → Nat) : Nat → Int32 := fun j => nI (mk j)
def md_g2 (gp : Nat → Int32) (mk : Nat → Nat) : Nat → Int64 := fun i => (gp (3 * mk i)).toInt64
def md_g3 (gp : Nat → Int32) (mk : Nat → Nat) : Nat → Int64 := fun i => (gp (3 * mk i + 1)).toInt64
def md_g4 (gw : Nat → Int32) : Nat → Int64 := fun i => (gw (3 * i)).toInt64
def md_g5 (gw : Nat → Int32) : Nat → Int64 := fun i => (gw (3 * i + 1)).toInt64
def md_g6 (gw : Nat → Int32) : Nat → Int64 := fun i => (gw (3 * i)).toInt64 * (gw (3 * i)).toInt64 + (gw (3 * i + 1)).toInt64 * (gw (3 * i + 1)).toInt64
def md_g7 (gp gw : Nat → Int32) (mk : Nat → Nat) : Nat → Int64 := fun i => (gw (3 * i)).toInt64 * (gp (3 * mk i)).toInt64 + (gw (3 * i + 1)).toInt64 * (gp (3 * mk i + 1)).toInt64
def md_g8 (gp gw : Nat → Int32) (mk : Nat → Nat) : Nat → Int64 := fun i => (gw (3 * i)).toInt64 * (gp (3 * mk i + 1)).toInt64 - (gw (3 * i + 1)).toInt64 * (gp (3 * mk i)).toInt64
def md_g9 (gp gw gz : Nat → Int32) (mk : Nat → Nat) : Nat → Int64 := fun i => (gp (3 * mk i + 2)).toInt64 - (gw (3 * i + 2)).toInt64 + (gz i).toInt64
theorem md_a11 (r a b c d : Int64) : r + a * b + c * d = r + (a * b + c * d) := Int64.add_assoc _ _ _
theorem md_a13 (r a b c d : Int64) : r + a * b + c * d = r + (a * b + c * d) := Int64.add_assoc _ _ _
theorem md_a15 (r a b c d : Int64) : r + a * b - c * d = r + (a * b - c * d) := by
  simp only [Int64.sub_eq_add_neg, Int64.add_assoc]
theorem md_a17 (r a b c : Int64) : r + a - b + c = r + (a - b + c) := by
  simp only [Int64.sub_eq_add_neg, Int64.add_assoc]
def md_mil (x y : Int64) : Int64 := 1000000 * sr_fd x y + sr_fd (1000000 * (x - sr_fd x y * y)) y
def md_p0 (P Q S M B : Int64) (a b : Int32) : Int32 := (sr_fd (M * (P * a.toInt64 - Q * b.toInt64) + S) (M * B)).toInt32
def md_p1 (P Q T M B : Int64) (a b : Int32) : Int32 := (sr_fd (M * (Q * a.toInt64 + P * b.toInt64) + T) (M * B)).toInt32
def md_x0 (gp gw : Nat → Int32) (mk : Nat → Nat) (P Q S M B : Int64) (k : Nat) : Int32 := gp (3 * mk k + 0) - md_p0 P Q S M B (gw (3 * k)) (gw (3 * k + 1))
def md_x1 (gp gw : Nat → Int32) (mk : Nat → Nat) (P Q T M B : Int64) (k : Nat) : Int32 := gp (3 * mk k + 1) - md_p1 P Q T M B (gw (3 * k)) (gw (3 * k + 1))
def md_x2 (gp gw ho : Nat → Int32) (mk : Nat → Nat) (H : Int64) (k : Nat) : Int32 := gp (3 * mk k + 2) - (gw (3 * k + 2) - ho k + H.toInt32)
def md_fl (gp gw : Nat → Int32) (mk : Nat → Nat) (P Q S T M B : Int64) (k : Nat) : Int64 := (md_x0 gp gw mk P Q S M B k).toInt64 * (md_x0 gp gw mk P Q S M B k).toInt64 + (md_x1 gp gw mk P Q T M B k).toInt64 * (md_x1 gp gw mk P Q T M B k).toInt64
def md_ss (gp gw ho : Nat → Int32) (mk : Nat → Nat) (P Q S T M B H : Int64) (us : Nat → Int32) : Nat → Int64
  | 0 => 0
  | i + 1 => if us i = 0 then md_ss gp gw ho mk P Q S T M B H us i else md_ss gp gw ho mk P Q S T M B H us i + md_fl gp gw mk P Q S T M B i + (md_x2 gp gw ho mk H i).toInt64 * (md_x2 gp gw ho mk H i).toInt64
section MDSS
variable {gp gw ho : Nat → Int32} {mk : Nat → Nat} {P Q S T M B H : Int64} {us : Nat → Int32} {i : Nat}
theorem md_ss_f (h : us i = 0) : md_ss gp gw ho mk P Q S T M B H us (i + 1) = md_ss gp gw ho mk P Q S T M B H us i := if_pos h
theorem md_ss_t (h : ¬ us i = 0) : md_ss gp gw ho mk P Q S T M B H us (i + 1) = md_ss gp gw ho mk P Q S T M B H us i + md_fl gp gw mk P Q S T M B i + (md_x2 gp gw ho mk H i).toInt64 * (md_x2 gp gw ho mk H i).toInt64 := if_neg h
end MDSS
theorem nI_ne_m1 {n : Nat} (h : n < 2 ^ 31) : ¬ nI n = -1 := by
  intro q
  have h1 := nI_toInt h
  rw [q, show (-1 : Int32).toInt = -1 from rfl] at h1
  omega
theorem md_up_t {gl : Nat → Int32} {i k : Nat} (h : i ≤ k) : sr_sl gl (min i (k + 1)) + (gl i).toInt64 = sr_sl gl (min (i + 1) (k + 1)) := by
  rw [Nat.min_eq_left (by omega), Nat.min_eq_left (by omega)]
  rfl
theorem md_up_f {gl : Nat → Int32} {i k : Nat} (h : k < i) : sr_sl gl (min i (k + 1)) = sr_sl gl (min (i + 1) (k + 1)) := by
  rw [Nat.min_eq_right (by omega), Nat.min_eq_right (by omega)]
def md_sh (gd gl : Nat → Int32) (nl k : Nat) : Int32 := (sr_fd (sr_sl gd nl * sr_sl gl (min nl (k + 1))) (sr_sl gl nl)).toInt32
def md_sg (a : Int32) (i : Nat) : Int32 := (a.toUInt32 >>> ((nI (8 * i)).toUInt32 &&& Int32.toUInt32 31)).toInt32 &&& 255
def md_si (a : Int32) : Nat → Nat
  | 0 => 0
  | n + 1 => md_si a n + (if md_sg a n = 0 then 0 else 1)
theorem md_si_t {a : Int32} {n : Nat} (h : ¬ md_sg a n = 0) : md_si a (n + 1) = md_si a n + 1 := by
  show md_si a n + _ = _
  rw [if_neg h]
theorem md_si_f {a : Int32} {n : Nat} (h : md_sg a n = 0) : md_si a (n + 1) = md_si a n := by
  show md_si a n + _ = _
  rw [if_pos h]
  rfl
theorem md_si_le (a : Int32) : ∀ n, md_si a n ≤ n
  | 0 => Nat.le_refl 0
  | n + 1 => by
    show md_si a n + _ ≤ n + 1
    have := md_si_le a n
    by_cases h : md_sg a n = 0
    · rw [if_pos h]; omega
    · rw [if_neg h]; omega
theorem md_si_mono {a : Int32} {i : Nat} : ∀ k, md_si a i ≤ md_si a (i + k)
  | 0 => Nat.le_refl _
  | k + 1 => by
    show _ ≤ md_si a (i + k) + _
    have := md_si_mono (a := a) (i := i) k
    omega
theorem md_si_lt {a : Int32} {i : Nat} (hi : i < 4) (h : ¬ md_sg a i = 0) : md_si a i + 1 ≤ md_si a 4 := by
  have := md_si_mono (a := a) (i := i + 1) (3 - i)
  rw [show i + 1 + (3 - i) = 4 by omega, md_si_t h] at this
  exact this
def md_gd (a : Int32) : Nat → Bool
  | 0 => true
  | n + 1 => md_gd a n && sr_gc (md_sg a n)
theorem md_gd_s {a : Int32} {i : Nat} (h : md_gd a i = true) (h2 : sr_gc (md_sg a i) = true) : md_gd a (i + 1) = true := by
  show (md_gd a i && sr_gc (md_sg a i)) = true
  rw [h, h2]
  rfl
theorem md_gd_g {a : Int32} {i : Nat} (h : ¬ md_gd a i = true) : ¬ md_gd a (i + 1) = true := by
  intro q
  have q : (md_gd a i && sr_gc (md_sg a i)) = true := q
  rw [Bool.and_eq_true] at q
  exact h q.1
theorem md_gd_n {a : Int32} {i : Nat} (h : sr_gc (md_sg a i) = false) : ¬ md_gd a (i + 1) = true := by
  intro q
  have q : (md_gd a i && sr_gc (md_sg a i)) = true := q
  rw [Bool.and_eq_true, h] at q
  exact absurd q.2 (by decide)
/-- the pad with the signs of an int behind it -/
def md_pd (a : Int32) (gg : Nat → Int32) (sn : Nat) : Nat → Nat → Int32
  | 0 => gg
  | i + 1 => if md_sg a i = 0 then md_pd a gg sn i else upd (md_pd a gg sn i) (sn + md_si a i) (md_sg a i)
theorem md_pd_f {a : Int32} {gg : Nat → Int32} {sn i : Nat} (h : md_sg a i = 0) : md_pd a gg sn (i + 1) = md_pd a gg sn i := if_pos h
theorem md_pd_t {a : Int32} {gg : Nat → Int32} {sn i : Nat} (h : ¬ md_sg a i = 0) : md_pd a gg sn (i + 1) = upd (md_pd a gg sn i) (sn + md_si a i) (md_sg a i) := if_neg h
/-! the pad, read by the reference -/
theorem md_dn_s {sg : Nat → Int32} {pn b j D : Nat} (hj : j < 201) (h1 : b + j < pn) (h2 : sr_dig (sg (b + j))) (h : j + sr_dn sg pn (b + j) (201 - j) = D) : j + 1 + sr_dn sg pn (b + (j + 1)) (201 - (j + 1)) = D := by
  rw [show 201 - j = (201 - (j + 1)) + 1 by omega] at h
  rw [show sr_dn sg pn (b + j) (201 - (j + 1) + 1) = 1 + sr_dn sg pn (b + j + 1) (201 - (j + 1)) from if_pos ⟨h1, h2⟩] at h
  rw [show b + (j + 1) = b + j + 1 by omega]
  omega
theorem md_dn_n {sg : Nat → Int32} {pn b j D : Nat} (h2 : ¬ sr_dig (sg (b + j))) (h : j + sr_dn sg pn (b + j) (201 - j) = D) : j = D := by
  cases hq : 201 - j with
  | zero => rw [hq] at h; exact h
  | succ f =>
    rw [hq, show sr_dn sg pn (b + j) (f + 1) = 0 from if_neg (fun q => h2 q.2)] at h
    exact h
theorem md_dn_o {sg : Nat → Int32} {pn b j D : Nat} (h2 : pn ≤ b + j) (h : j + sr_dn sg pn (b + j) (201 - j) = D) : j = D := by
  cases hq : 201 - j with
  | zero => rw [hq] at h; exact h
  | succ f =>
    rw [hq, show sr_dn sg pn (b + j) (f + 1) = 0 from if_neg (fun q => absurd q.1 (Nat.not_lt.mpr h2))] at h
    exact h
theorem md_va_s {sg : Nat → Int32} {b j : Nat} (h : j < 6) : 10 * sr_va sg b (min j 6) + sg (b + j) - 48 = sr_va sg b (min (j + 1) 6) := by
  rw [Nat.min_eq_left (by omega), Nat.min_eq_left (by omega)]
  show _ = sr_va sg b j * 10 + (sg (b + j) - 48)
  rw [Int32.mul_comm, Int32.sub_eq_add_neg, Int32.sub_eq_add_neg, Int32.add_assoc]
theorem md_va_k {sg : Nat → Int32} {b j : Nat} (h : 6 ≤ j) : sr_va sg b (min j 6) = sr_va sg b (min (j + 1) 6) := by
  rw [Nat.min_eq_right (by omega), Nat.min_eq_right (by omega)]
def md_nd (sg : Nat → Int32) (pn pt : Nat) : Nat := sr_dn sg pn (sr_sk sg pn pt 45) 201
def md_np (sg : Nat → Int32) (pn pt : Nat) : Nat := sr_sk sg pn pt 45 + md_nd sg pn pt
def md_nv (sg : Nat → Int32) (pn pt : Nat) : Int32 := if pt < pn ∧ sg pt = 45 then 0 - sr_va sg (sr_sk sg pn pt 45) (min (md_nd sg pn pt) 6) else sr_va sg (sr_sk sg pn pt 45) (min (md_nd sg pn pt) 6)
abbrev md_rs (sg : Nat → Int32) (pn pt : Nat) (c : Int32) : Prop := 0 < md_nd sg pn pt ∧ md_nd sg pn pt < 7 ∧ md_np sg pn pt < pn ∧ sg (md_np sg pn pt) = c
theorem md_np_le {sg : Nat → Int32} {pn pt : Nat} (hc : pn ≤ 200) (ha : pt ≤ 200) : md_np sg pn pt ≤ 200 := by
  have h1 := sr_sk_le (sg := sg) (c := 45) hc ha
  have h2 := sr_dn_le (sg := sg) (pn := pn) 201 (sr_sk sg pn pt 45)
  unfold md_np md_nd
  omega
/-! a row of the pad, read by the reference -/
section MDROW
variable (sg : Nat → Int32) (pn pt nm bf : Nat)
abbrev md_t1 : Nat := md_np sg pn pt + 1
abbrev md_t2 : Nat := md_np sg pn (md_np sg pn pt + 1) + 1
abbrev md_t3 : Nat := md_np sg pn (md_np sg pn (md_np sg pn pt + 1) + 1) + 1
abbrev md_t4 : Nat := md_np sg pn (md_np sg pn (md_np sg pn (md_np sg pn pt + 1) + 1) + 1) + 1
abbrev md_r1 : Prop := md_rs sg pn pt 32 ∧ md_win (md_nv sg pn pt) 0 (nI nm - 1) ∧ bf < 20
abbrev md_r2 : Prop := md_r1 sg pn pt nm bf ∧ md_rs sg pn (md_t1 sg pn pt) 32 ∧ md_win (md_nv sg pn (md_t1 sg pn pt)) (-10000) 10000
abbrev md_r3 : Prop := md_r2 sg pn pt nm bf ∧ md_rs sg pn (md_t2 sg pn pt) 32 ∧ md_win (md_nv sg pn (md_t2 sg pn pt)) (-10000) 10000
abbrev md_r4 : Prop := md_r3 sg pn pt nm bf ∧ md_rs sg pn (md_t3 sg pn pt) 59 ∧ md_win (md_nv sg pn (md_t3 sg pn pt)) (-10000) 10000
def md_ta : Nat := if md_r1 sg pn pt nm bf then if md_r2 sg pn pt nm bf then if md_r3 sg pn pt nm bf then md_t4 sg pn pt else md_t3 sg pn pt else md_t2 sg pn pt else md_t1 sg pn pt
def md_nb : Int32 := if md_r1 sg pn pt nm bf then if md_r2 sg pn pt nm bf then if md_r3 sg pn pt nm bf then md_nv sg pn (md_t3 sg pn pt) else md_nv sg pn (md_t2 sg pn pt) else md_nv sg pn (md_t1 sg pn pt) else md_nv sg pn pt
end MDROW
section MDROW2
variable {sg : Nat → Int32} {pn pt nm bf : Nat}
theorem md_ta1 (h : ¬ md_r1 sg pn pt nm bf) : md_ta sg pn pt nm bf = md_t1 sg pn pt := if_neg h
theorem md_ta2 (h : md_r1 sg pn pt nm bf) (h2 : ¬ md_r2 sg pn pt nm bf) : md_ta sg pn pt nm bf = md_t2 sg pn pt := by
  unfold md_ta
  rw [if_pos h, if_neg h2]
theorem md_ta3 (h2 : md_r2 sg pn pt nm bf) (h3 : ¬ md_r3 sg pn pt nm bf) : md_ta sg pn pt nm bf = md_t3 sg pn pt := by
  unfold md_ta
  rw [if_pos h2.1, if_pos h2, if_neg h3]
theorem md_ta4 (h3 : md_r3 sg pn pt nm bf) : md_ta sg pn pt nm bf = md_t4 sg pn pt := by
  unfold md_ta
  rw [if_pos h3.1.1, if_pos h3.1, if_pos h3]
theorem md_nb1 (h : ¬ md_r1 sg pn pt nm bf) : md_nb sg pn pt nm bf = md_nv sg pn pt := if_neg h
theorem md_nb2 (h : md_r1 sg pn pt nm bf) (h2 : ¬ md_r2 sg pn pt nm bf) : md_nb sg pn pt nm bf = md_nv sg pn (md_t1 sg pn pt) := by
  unfold md_nb
  rw [if_pos h, if_neg h2]
theorem md_nb3 (h2 : md_r2 sg pn pt nm bf) (h3 : ¬ md_r3 sg pn pt nm bf) : md_nb sg pn pt nm bf = md_nv sg pn (md_t2 sg pn pt) := by
  unfold md_nb
  rw [if_pos h2.1, if_pos h2, if_neg h3]
theorem md_nb4 (h3 : md_r3 sg pn pt nm bf) : md_nb sg pn pt nm bf = md_nv sg pn (md_t3 sg pn pt) := by
  unfold md_nb
  rw [if_pos h3.1.1, if_pos h3.1, if_pos h3]
theorem md_t_le (hc : pn ≤ 200) {c : Int32} {q : Nat} (h : md_rs sg pn q c) : md_np sg pn q + 1 ≤ 200 := Nat.le_trans h.2.2.1 hc
theorem md_ta_le (hc : pn ≤ 200) (ha : pt ≤ 200) : md_ta sg pn pt nm bf ≤ 201 := by
  by_cases h1 : md_r1 sg pn pt nm bf
  · have b1 := md_t_le hc h1.1
    by_cases h2 : md_r2 sg pn pt nm bf
    · have b2 := md_t_le hc h2.2.1
      by_cases h3 : md_r3 sg pn pt nm bf
      · have b3 := md_t_le hc h3.2.1
        rw [md_ta4 h3]
        exact Nat.succ_le_succ (md_np_le hc b3)
      · rw [md_ta3 h2 h3]
        exact Nat.succ_le_succ (md_np_le hc b2)
    · rw [md_ta2 h1 h2]
      exact Nat.succ_le_succ (md_np_le hc b1)
  · rw [md_ta1 h1]
    exact Nat.succ_le_succ (md_np_le hc ha)
end MDROW2
/-! the pad, row by row -/
section MDREAD
variable (sg : Nat → Int32) (pn nm no : Nat)
def md_ps : Nat → Nat
  | 0 => 0
  | i + 1 => md_ta sg pn (md_ps i) nm (no + i)
def md_pm (v0 : Int32) : Nat → Int32
  | 0 => v0
  | i + 1 => md_nb sg pn (md_ps sg pn nm no i) nm (no + i)
def md_rm (gm : Nat → Int32) : Nat → Nat → Int32
  | 0 => gm
  | k + 1 => upd (md_rm gm k) (no + k) (md_nv sg pn (md_ps sg pn nm no k))
def md_rv (gw : Nat → Int32) : Nat → Nat → Int32
  | 0 => gw
  | k + 1 => upd (upd (upd (md_rv gw k) (3 * (no + k)) (md_nv sg pn (md_t1 sg pn (md_ps sg pn nm no k)))) (3 * (no + k) + 1) (md_nv sg pn (md_t2 sg pn (md_ps sg pn nm no k)))) (3 * (no + k) + 2) (md_nv sg pn (md_t3 sg pn (md_ps sg pn nm no k)))
end MDREAD
def md_ru (no : Nat) (gu : Nat → Int32) : Nat → Nat → Int32
  | 0 => gu
  | k + 1 => upd (md_ru no gu k) (no + k) 1
theorem md_r4_0 {sg : Nat → Int32} {pn pt nm bf : Nat} (h : md_r4 sg pn pt nm bf) : md_r4 sg pn pt nm 0 := ⟨⟨⟨⟨h.1.1.1.1, h.1.1.1.2.1, by omega⟩, h.1.1.2⟩, h.1.2⟩, h.2⟩
def md_w (n i : Nat) : Int32 := if i ≤ n then -1 else nI n
theorem md_w_p {n i : Nat} (h : i ≤ n) : md_w n i = -1 := if_pos h
theorem md_w_n {n : Nat} : md_w n (n + 1) = nI n := if_neg (by omega)
theorem md_w_le {n i : Nat} (hn : n < 2 ^ 31) (h : md_w n i = -1) : i ≤ n := by
  by_cases q : i ≤ n
  · exact q
  · rw [show md_w n i = nI n from if_neg q] at h
    exact absurd h (nI_ne_m1 hn)
theorem md_w_b {n i : Nat} (h : i = n) : nI i = md_w n (i + 1) := by
  subst h
  exact md_w_n.symm
theorem md_w_g {n i : Nat} (h : i < n) : (-1 : Int32) = md_w n (i + 1) := (if_pos h).symm
