/-! THE PURE PART, first: sums as integers, the spread is never below 0, no overflow -/
def zs (us : Nat → Int32) (g : Nat → Int) : Nat → Int
  | 0 => 0
  | n + 1 => if us n = 0 then zs us g n else zs us g n + g n
theorem zs_t {us : Nat → Int32} {g : Nat → Int} {n : Nat} (h : ¬ us n = 0) : zs us g (n + 1) = zs us g n + g n := if_neg h
theorem zs_f {us : Nat → Int32} {g : Nat → Int} {n : Nat} (h : us n = 0) : zs us g (n + 1) = zs us g n := if_pos h
theorem z_sq (x : Int) : 0 ≤ x * x := by
  rcases Int.le_total 0 x with h | h
  · exact Int.mul_nonneg h h
  · have := Int.mul_nonneg (show 0 ≤ -x by omega) (show 0 ≤ -x by omega)
    rw [Int.neg_mul_neg] at this
    exact this
theorem z_mul {x y A B : Int} (hx : -A ≤ x ∧ x ≤ A) (hy : -B ≤ y ∧ y ≤ B) : -(A * B) ≤ x * y ∧ x * y ≤ A * B := by
  have h1 := Int.mul_nonneg (show 0 ≤ A - x by omega) (show 0 ≤ B + y by omega)
  have h2 := Int.mul_nonneg (show 0 ≤ A + x by omega) (show 0 ≤ B - y by omega)
  have h3 := Int.mul_nonneg (show 0 ≤ A - x by omega) (show 0 ≤ B - y by omega)
  have h4 := Int.mul_nonneg (show 0 ≤ A + x by omega) (show 0 ≤ B + y by omega)
  have e1 : (A - x) * (B + y) = A * B + A * y - x * B - x * y := by grind
  have e2 : (A + x) * (B - y) = A * B - A * y + x * B - x * y := by grind
  have e3 : (A - x) * (B - y) = A * B - A * y - x * B + x * y := by grind
  have e4 : (A + x) * (B + y) = A * B + A * y + x * B + x * y := by grind
  omega
theorem zs_bd {us : Nat → Int32} {g : Nat → Int} {B : Int} (hB : 0 ≤ B) : ∀ (n : Nat), (∀ k, k < n → -B ≤ g k ∧ g k ≤ B) → -((n : Int) * B) ≤ zs us g n ∧ zs us g n ≤ (n : Int) * B
  | 0, _ => by
    show -(((0 : Nat) : Int) * B) ≤ 0 ∧ (0 : Int) ≤ ((0 : Nat) : Int) * B
    rw [show ((0 : Nat) : Int) = 0 from rfl, Int.zero_mul]
    omega
  | n + 1, h => by
    have ih := zs_bd (us := us) hB n (fun k hk => h k (by omega))
    have hg := h n (by omega)
    have e : ((n + 1 : Nat) : Int) * B = (n : Int) * B + B := by
      rw [show ((n + 1 : Nat) : Int) = (n : Int) + 1 by omega, Int.add_mul, Int.one_mul]
    rw [e]
    by_cases q : us n = 0
    · rw [zs_f q]; omega
    · rw [zs_t q]; omega
theorem sm_int {us : Nat → Int32} {g : Nat → Int64} {B : Int} (hB : 0 ≤ B) (h63 : 20 * B < 2 ^ 63) : ∀ (n : Nat), n ≤ 20 → (∀ k, k < n → -B ≤ (g k).toInt ∧ (g k).toInt ≤ B) → (sr_sm us g n).toInt = zs us (fun k => (g k).toInt) n
  | 0, _, _ => rfl
  | n + 1, hn, h => by
    have ih := sm_int (us := us) hB h63 n (by omega) (fun k hk => h k (by omega))
    by_cases q : us n = 0
    · rw [sr_sm_f q, zs_f q]; exact ih
    · obtain ⟨b1, b2⟩ := zs_bd (us := us) (g := fun k => (g k).toInt) hB (n + 1) h
      have e20 : ((n + 1 : Nat) : Int) * B ≤ 20 * B := Int.mul_le_mul_of_nonneg_right (by omega) hB
      rw [zs_t q] at b1 b2
      have b1 : -(((n + 1 : Nat) : Int) * B) ≤ zs us (fun k => (g k).toInt) n + (g n).toInt := b1
      have b2 : zs us (fun k => (g k).toInt) n + (g n).toInt ≤ ((n + 1 : Nat) : Int) * B := b2
      rw [sr_sm_t q, zs_t q, Int64.toInt_add, ih]
      apply Int.bmod_eq_of_le <;> omega
theorem sm_bd {us : Nat → Int32} {g : Nat → Int64} {B : Int} (hB : 0 ≤ B) (h63 : 20 * B < 2 ^ 63) {n : Nat} (hn : n ≤ 20) (h : ∀ k, k < n → -B ≤ (g k).toInt ∧ (g k).toInt ≤ B) : -(20 * B) ≤ (sr_sm us g n).toInt ∧ (sr_sm us g n).toInt ≤ 20 * B := by
  rw [sm_int hB h63 n hn h]
  have b := zs_bd (us := us) (g := fun k => (g k).toInt) hB n h
  have e20 : (n : Int) * B ≤ 20 * B := Int.mul_le_mul_of_nonneg_right (by omega) hB
  omega
theorem sm_congr {us vs : Nat → Int32} {g h : Nat → Int64} : ∀ (n : Nat), (∀ k, k < n → us k = vs k ∧ g k = h k) → sr_sm us g n = sr_sm vs h n
  | 0, _ => rfl
  | n + 1, e => by
    have ih := sm_congr (us := us) (vs := vs) (g := g) (h := h) n (fun k hk => e k (by omega))
    obtain ⟨e1, e2⟩ := e n (by omega)
    by_cases q : us n = 0
    · rw [sr_sm_f q, sr_sm_f (by rw [← e1]; exact q), ih]
    · rw [sr_sm_t q, sr_sm_t (by rw [← e1]; exact q), ih, e2]
theorem cu_congr {us vs : Nat → Int32} : ∀ (n : Nat), (∀ k, k < n → us k = vs k) → sr_cu us n = sr_cu vs n
  | 0, _ => rfl
  | n + 1, e => by
    have ih := cu_congr (us := us) (vs := vs) n (fun k hk => e k (by omega))
    have e1 := e n (by omega)
    by_cases q : us n = 0
    · rw [sr_cu_f q, sr_cu_f (by rw [← e1]; exact q), ih]
    · rw [sr_cu_t q, sr_cu_t (by rw [← e1]; exact q), ih]
theorem gn_int {n : Nat} (h : n < 2 ^ 31) : ((nI n).toInt64).toInt = (n : Int) := by
  rw [Int32.toInt_toInt64, nI_toInt h]
theorem zs_one {us : Nat → Int32} : ∀ n, zs us (fun _ => 1) n = (sr_cu us n : Int)
  | 0 => rfl
  | n + 1 => by
    have ih := zs_one (us := us) n
    by_cases q : us n = 0
    · rw [zs_f q, sr_cu_f q]; exact ih
    · rw [zs_t q, sr_cu_t q, ih]; omega
theorem sm_one {us : Nat → Int32} {n : Nat} (hn : n ≤ 20) : sr_sm us (fun _ => 1) n = (nI (sr_cu us n)).toInt64 := by
  have hc := sr_cu_le us n
  apply Int64.toInt_inj.mp
  rw [gn_int (by omega), sm_int (B := 1) (by omega) (by omega) n hn (fun k _ => by decide)]
  exact zs_one n
theorem near_i {a : Int32} (h : sr_near a) : -10000 ≤ a.toInt ∧ a.toInt ≤ 10000 := by
  obtain ⟨h1, h2⟩ := h
  rw [Int32.lt_iff_toInt_lt, show (-10000 : Int32).toInt = -10000 from by decide] at h1
  rw [Int32.lt_iff_toInt_lt, show (10000 : Int32).toInt = 10000 from by decide] at h2
  omega
theorem l_add {x y : Int64} (h1 : -2 ^ 63 ≤ x.toInt + y.toInt) (h2 : x.toInt + y.toInt < 2 ^ 63) : (x + y).toInt = x.toInt + y.toInt := by
  rw [Int64.toInt_add]
  apply Int.bmod_eq_of_le <;> omega
theorem l_sub {x y : Int64} (h1 : -2 ^ 63 ≤ x.toInt - y.toInt) (h2 : x.toInt - y.toInt < 2 ^ 63) : (x - y).toInt = x.toInt - y.toInt := by
  rw [Int64.toInt_sub]
  apply Int.bmod_eq_of_le <;> omega
theorem l_mul {x y : Int64} (h1 : -2 ^ 63 ≤ x.toInt * y.toInt) (h2 : x.toInt * y.toInt < 2 ^ 63) : (x * y).toInt = x.toInt * y.toInt := by
  rw [Int64.toInt_mul]
  apply Int.bmod_eq_of_le <;> omega
theorem l_mulb {x y : Int64} {A B : Int} (hx : -A ≤ x.toInt ∧ x.toInt ≤ A) (hy : -B ≤ y.toInt ∧ y.toInt ≤ B) (h : A * B < 2 ^ 63) : (x * y).toInt = x.toInt * y.toInt ∧ -(A * B) ≤ x.toInt * y.toInt ∧ x.toInt * y.toInt ≤ A * B := by
  have b := z_mul hx hy
  exact ⟨l_mul (by omega) (by omega), b⟩
theorem cs1 (us : Nat → Int32) (a b : Nat → Int) (c d : Int) : ∀ n, 0 ≤ zs us (fun k => a k * a k + b k * b k) n - 2 * c * zs us a n - 2 * d * zs us b n + (sr_cu us n : Int) * (c * c + d * d)
  | 0 => by
    show (0 : Int) ≤ 0 - 2 * c * 0 - 2 * d * 0 + ((0 : Nat) : Int) * (c * c + d * d)
    rw [show ((0 : Nat) : Int) = 0 from rfl, Int.zero_mul, Int.mul_zero, Int.mul_zero]
    omega
  | n + 1 => by
    have ih := cs1 us a b c d n
    by_cases q : us n = 0
    · rw [zs_f q, zs_f q, zs_f q, sr_cu_f q]; exact ih
    · rw [zs_t q, zs_t q, zs_t q, sr_cu_t q]
      have s1 := z_sq (a n - c)
      have s2 := z_sq (b n - d)
      rw [show ((sr_cu us n + 1 : Nat) : Int) = (sr_cu us n : Int) + 1 by omega]
      generalize zs us (fun k => a k * a k + b k * b k) n = Q at ih ⊢
      generalize zs us a n = U at ih ⊢
      generalize zs us b n = V at ih ⊢
      generalize (sr_cu us n : Int) = N at ih ⊢
      have e : Q + (a n * a n + b n * b n) - 2 * c * (U + a n) - 2 * d * (V + b n) + (N + 1) * (c * c + d * d) = (Q - 2 * c * U - 2 * d * V + N * (c * c + d * d)) + (a n - c) * (a n - c) + (b n - d) * (b n - d) := by grind
      rw [e]
      exact Int.add_nonneg (Int.add_nonneg ih s1) s2
theorem cs2 (us : Nat → Int32) (a b : Nat → Int) : ∀ n, 0 ≤ (sr_cu us n : Int) * zs us (fun k => a k * a k + b k * b k) n - zs us a n * zs us a n - zs us b n * zs us b n
  | 0 => by
    show (0 : Int) ≤ ((0 : Nat) : Int) * 0 - 0 * 0 - 0 * 0
    decide
  | n + 1 => by
    have ih := cs2 us a b n
    have h1 := cs1 us a b (a n) (b n) n
    by_cases q : us n = 0
    · rw [zs_f q, zs_f q, zs_f q, sr_cu_f q]; exact ih
    · rw [zs_t q, zs_t q, zs_t q, sr_cu_t q]
      rw [show ((sr_cu us n + 1 : Nat) : Int) = (sr_cu us n : Int) + 1 by omega]
      generalize zs us (fun k => a k * a k + b k * b k) n = Q at ih h1 ⊢
      generalize zs us a n = U at ih h1 ⊢
      generalize zs us b n = V at ih h1 ⊢
      generalize (sr_cu us n : Int) = N at ih h1 ⊢
      have e : (N + 1) * (Q + (a n * a n + b n * b n)) - (U + a n) * (U + a n) - (V + b n) * (V + b n) = (N * Q - U * U - V * V) + (Q - 2 * a n * U - 2 * b n * V + N * (a n * a n + b n * b n)) := by grind
      rw [e]
      exact Int.add_nonneg ih h1
/-- the spread: an integer from 0 to 8e10 -/
theorem wd_bd {gw g : Nat → Int32} {no : Nat} (hn : no ≤ 20) (hw : ∀ k, k < no → sr_near (gw (3 * k)) ∧ sr_near (gw (3 * k + 1))) : 0 ≤ (md_WD gw no g).toInt ∧ (md_WD gw no g).toInt ≤ 80000000000 := by
  have hc := sr_cu_le g no
  have hN : ((nI (sr_cu g no)).toInt64).toInt = (sr_cu g no : Int) := gn_int (by omega)
  have b4 : ∀ k, k < no → -10000 ≤ (md_g4 gw k).toInt ∧ (md_g4 gw k).toInt ≤ 10000 := fun k hk => by
    show -10000 ≤ ((gw (3 * k)).toInt64).toInt ∧ ((gw (3 * k)).toInt64).toInt ≤ 10000
    rw [Int32.toInt_toInt64]; exact near_i (hw k hk).1
  have b5 : ∀ k, k < no → -10000 ≤ (md_g5 gw k).toInt ∧ (md_g5 gw k).toInt ≤ 10000 := fun k hk => by
    show -10000 ≤ ((gw (3 * k + 1)).toInt64).toInt ∧ ((gw (3 * k + 1)).toInt64).toInt ≤ 10000
    rw [Int32.toInt_toInt64]; exact near_i (hw k hk).2
  have e6 : ∀ k, k < no → (md_g6 gw k).toInt = (md_g4 gw k).toInt * (md_g4 gw k).toInt + (md_g5 gw k).toInt * (md_g5 gw k).toInt ∧ 0 ≤ (md_g6 gw k).toInt ∧ (md_g6 gw k).toInt ≤ 200000000 := fun k hk => by
    obtain ⟨m1, m2, m3⟩ := l_mulb (b4 k hk) (b4 k hk) (by decide)
    obtain ⟨n1, n2, n3⟩ := l_mulb (b5 k hk) (b5 k hk) (by decide)
    have s1 := z_sq (md_g4 gw k).toInt
    have s2 := z_sq (md_g5 gw k).toInt
    have e : (md_g6 gw k).toInt = (md_g4 gw k * md_g4 gw k).toInt + (md_g5 gw k * md_g5 gw k).toInt := l_add (x := md_g4 gw k * md_g4 gw k) (y := md_g5 gw k * md_g5 gw k) (by omega) (by omega)
    omega
  have z4 := sm_int (us := g) (B := 10000) (by decide) (by decide) no hn b4
  have z5 := sm_int (us := g) (B := 10000) (by decide) (by decide) no hn b5
  have z6 := sm_int (us := g) (g := md_g6 gw) (B := 200000000) (by decide) (by decide) no hn (fun k hk => by have := e6 k hk; omega)
  have c4 := sm_bd (us := g) (B := 10000) (by decide) (by decide) hn b4
  have c5 := sm_bd (us := g) (B := 10000) (by decide) (by decide) hn b5
  have c6 := sm_bd (us := g) (g := md_g6 gw) (B := 200000000) (by decide) (by decide) hn (fun k hk => by have := e6 k hk; omega)
  have f6 : ∀ n, n ≤ no → zs g (fun k => (md_g6 gw k).toInt) n = zs g (fun k => (md_g4 gw k).toInt * (md_g4 gw k).toInt + (md_g5 gw k).toInt * (md_g5 gw k).toInt) n ∧ 0 ≤ zs g (fun k => (md_g6 gw k).toInt) n := by
    intro n
    induction n with
    | zero => intro _; exact ⟨rfl, Int.le_refl _⟩
    | succ n ih =>
      intro h
      have ih := ih (by omega)
      have e := e6 n (by omega)
      by_cases q : g n = 0
      · rw [zs_f q, zs_f q]; exact ih
      · rw [zs_t q, zs_t q]
        exact ⟨by rw [ih.1, e.1], Int.add_nonneg ih.2 e.2.1⟩
  have f6 := f6 no (Nat.le_refl _)
  have hcs := cs2 g (fun k => (md_g4 gw k).toInt) (fun k => (md_g5 gw k).toInt) no
  rw [← f6.1, ← z4, ← z5, ← z6] at hcs
  have q6 : 0 ≤ (sr_sm g (md_g6 gw) no).toInt := by rw [z6]; exact f6.2
  obtain ⟨m1, m2, m3⟩ := l_mulb (x := (nI (sr_cu g no)).toInt64) (y := sr_sm g (md_g6 gw) no) (A := 20) (B := 4000000000) (by rw [hN]; omega) (by omega) (by decide)
  obtain ⟨n1, n2, n3⟩ := l_mulb (x := sr_sm g (md_g4 gw) no) (y := sr_sm g (md_g4 gw) no) (A := 200000) (B := 200000) (by omega) (by omega) (by decide)
  obtain ⟨p1, p2, p3⟩ := l_mulb (x := sr_sm g (md_g5 gw) no) (y := sr_sm g (md_g5 gw) no) (A := 200000) (B := 200000) (by omega) (by omega) (by decide)
  have s1 := z_sq (sr_sm g (md_g4 gw) no).toInt
  have s2 := z_sq (sr_sm g (md_g5 gw) no).toInt
  rw [hN] at m1 m2 m3
  have e1 : ((nI (sr_cu g no)).toInt64 * sr_sm g (md_g6 gw) no - sr_sm g (md_g4 gw) no * sr_sm g (md_g4 gw) no).toInt = (sr_cu g no : Int) * (sr_sm g (md_g6 gw) no).toInt - (sr_sm g (md_g4 gw) no).toInt * (sr_sm g (md_g4 gw) no).toInt := by
    rw [l_sub (x := (nI (sr_cu g no)).toInt64 * sr_sm g (md_g6 gw) no) (y := sr_sm g (md_g4 gw) no * sr_sm g (md_g4 gw) no) (by omega) (by omega), m1, n1]
  have e2 : (md_WD gw no g).toInt = (sr_cu g no : Int) * (sr_sm g (md_g6 gw) no).toInt - (sr_sm g (md_g4 gw) no).toInt * (sr_sm g (md_g4 gw) no).toInt - (sr_sm g (md_g5 gw) no).toInt * (sr_sm g (md_g5 gw) no).toInt := by
    show ((nI (sr_cu g no)).toInt64 * sr_sm g (md_g6 gw) no - sr_sm g (md_g4 gw) no * sr_sm g (md_g4 gw) no - sr_sm g (md_g5 gw) no * sr_sm g (md_g5 gw) no).toInt = _
    rw [l_sub (x := (nI (sr_cu g no)).toInt64 * sr_sm g (md_g6 gw) no - sr_sm g (md_g4 gw) no * sr_sm g (md_g4 gw) no) (y := sr_sm g (md_g5 gw) no * sr_sm g (md_g5 gw) no) (by omega) (by omega), e1, p1]
  rw [e2]
  omega
theorem wd_0 {gw : Nat → Int32} {no : Nat} {g : Nat → Int32} (h : sr_cu g no = 0) : md_WD gw no g = 0 := by
  have hz : ∀ (f : Nat → Int64) (n : Nat), sr_cu g n = 0 → sr_sm g f n = 0 := by
    intro f n
    induction n with
    | zero => intro _; rfl
    | succ n ih =>
      intro hq
      by_cases q : g n = 0
      · rw [sr_sm_f q]; rw [sr_cu_f q] at hq; exact ih hq
      · rw [sr_cu_t q] at hq; omega
  unfold md_WD sr_spread
  rw [hz _ no h, hz _ no h, hz _ no h]
  rw [Int64.mul_zero]
  decide
/-- where the spread is not 0: the divisor is above 0, and longs hold it -/
theorem wd_pos {gw g : Nat → Int32} {no : Nat} (hn : no ≤ 20) (hw : ∀ k, k < no → sr_near (gw (3 * k)) ∧ sr_near (gw (3 * k + 1))) (h : ¬ md_WD gw no g = 0) : 0 < md_GN no g * md_WD gw no g ∧ 0 < md_GN no g ∧ 0 < md_WD gw no g ∧ (md_GN no g * md_WD gw no g).toInt = (md_GN no g).toInt * (md_WD gw no g).toInt ∧ 1 ≤ (md_GN no g).toInt ∧ (md_GN no g).toInt ≤ 20 ∧ 1 ≤ (md_WD gw no g).toInt ∧ (md_WD gw no g).toInt ≤ 80000000000 := by
  have hc := sr_cu_le g no
  have b := wd_bd (g := g) hn hw
  have hN : (md_GN no g).toInt = (sr_cu g no : Int) := gn_int (by omega)
  have h0 : ¬ sr_cu g no = 0 := fun q => h (wd_0 q)
  have h1 : ¬ (md_WD gw no g).toInt = 0 := fun q => h (Int64.toInt_inj.mp (by rw [q]; rfl))
  obtain ⟨m1, m2, m3⟩ := l_mulb (x := md_GN no g) (y := md_WD gw no g) (A := 20) (B := 80000000000) (by omega) (by omega) (by decide)
  have p : 0 < (md_GN no g).toInt * (md_WD gw no g).toInt := Int.mul_pos (by omega) (by omega)
  refine ⟨?_, ?_, ?_, m1, by omega, by omega, by omega, by omega⟩
  · rw [Int64.lt_iff_toInt_lt, m1, Int64.toInt_zero]; exact p
  · rw [Int64.lt_iff_toInt_lt, Int64.toInt_zero]; omega
  · rw [Int64.lt_iff_toInt_lt, Int64.toInt_zero]; omega
theorem fd_scale {M X B : Int64} (hM : 0 < M.toInt) (e1 : (M * X).toInt = M.toInt * X.toInt) (e2 : (M * B).toInt = M.toInt * B.toInt) : sr_fd (M * X) (M * B) = sr_fd X B := by
  unfold sr_fd
  rw [e1, e2, Int.mul_ediv_mul_of_pos _ _ hM]
theorem dd_fd {x y : Int64} (h : 0 < y) : sr_dd x y = sr_fd x y := if_neg (Int64.not_le.mpr h)
/-- millionths of p and q: over n times the spread, or over the spread -/
theorem mil_eq {M P B : Int64} {fa : Nat → Int64} {k : Nat} (hfa : fa k = M * P) (hM : 1 ≤ M.toInt ∧ M.toInt ≤ 20) (hB : 1 ≤ B.toInt ∧ B.toInt ≤ 80000000000) (hP : -300000000000 ≤ P.toInt ∧ P.toInt ≤ 300000000000) (hMB : 0 < M * B) (eMB : (M * B).toInt = M.toInt * B.toInt) : sr_mil fa (M * B) k = md_mil P B := by
  have eMP : (M * P).toInt = M.toInt * P.toInt := (l_mulb (A := 20) (B := 300000000000) (by omega) hP (by decide)).1
  have w1 : sr_fd (M * P) (M * B) = sr_fd P B := fd_scale (by omega) eMP eMB
  have hq1 := Int.ediv_mul_le P.toInt (b := B.toInt) (by omega)
  have hq2 := Int.lt_ediv_add_one_mul_self P.toInt (b := B.toInt) (by omega)
  have hq3 : P.toInt / B.toInt ≤ 300000000000 ∧ -300000000000 ≤ P.toInt / B.toInt := by
    constructor
    · have := Int.ediv_le_ediv (c := B.toInt) (by omega) hP.2
      have h2 := Int.ediv_le_self (a := 300000000000) B.toInt (by decide)
      omega
    · rw [Int.le_ediv_iff_mul_le (by omega)]
      omega
  have ew : (sr_fd P B).toInt = P.toInt / B.toInt := by
    unfold sr_fd
    rw [Int64.toInt_ofInt, show Int64.size = 2 ^ 64 from rfl]
    apply Int.bmod_eq_of_le <;> omega
  have ewB : (sr_fd P B * B).toInt = P.toInt / B.toInt * B.toInt := by
    have e : (sr_fd P B).toInt * B.toInt = P.toInt / B.toInt * B.toInt := by rw [ew]
    have e3 : (P.toInt / B.toInt + 1) * B.toInt = P.toInt / B.toInt * B.toInt + B.toInt := by rw [Int.add_mul, Int.one_mul]
    rw [l_mul (x := sr_fd P B) (y := B) (by omega) (by omega), ew]
  have er : (P - sr_fd P B * B).toInt = P.toInt - P.toInt / B.toInt * B.toInt := by
    have e3 : (P.toInt / B.toInt + 1) * B.toInt = P.toInt / B.toInt * B.toInt + B.toInt := by rw [Int.add_mul, Int.one_mul]
    rw [l_sub (x := P) (y := sr_fd P B * B) (by omega) (by omega), ewB]
  have br : 0 ≤ (P - sr_fd P B * B).toInt ∧ (P - sr_fd P B * B).toInt < B.toInt := by
    have e3 : (P.toInt / B.toInt + 1) * B.toInt = P.toInt / B.toInt * B.toInt + B.toInt := by rw [Int.add_mul, Int.one_mul]
    omega
  generalize hr : P - sr_fd P B * B = r at er br
  have e6 : (1000000 * r).toInt = 1000000 * r.toInt := (l_mulb (x := 1000000) (y := r) (A := 1000000) (B := 80000000000) (by decide) (by omega) (by decide)).1
  have e7 : (M * (1000000 * r)).toInt = M.toInt * (1000000 * r).toInt := (l_mulb (A := 20) (B := 80000000000000000) (by omega) (by rw [e6]; omega) (by decide)).1
  have w2 : sr_fd (M * (1000000 * r)) (M * B) = sr_fd (1000000 * r) B := fd_scale (by omega) e7 eMB
  unfold sr_mil md_mil
  rw [hfa, dd_fd hMB, dd_fd hMB, w1, hr]
  have e8 : (M * P - sr_fd P B * (M * B)) * 1000000 = M * (1000000 * r) := by rw [← hr]; grind
  rw [e8, w2, Int64.mul_comm (sr_fd P B) 1000000]
