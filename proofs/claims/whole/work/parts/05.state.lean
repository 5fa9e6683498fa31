/-! THE STATE, in numbers: what the program's rows add up to -/
/-- how many of the first n are used -/
def sr_cu (us : Nat → Int32) : Nat → Nat
  | 0 => 0
  | n + 1 => sr_cu us n + (if us n = 0 then 0 else 1)
theorem sr_cu_t {us : Nat → Int32} {n : Nat} (h : ¬ us n = 0) : sr_cu us (n + 1) = sr_cu us n + 1 := by
  show sr_cu us n + _ = _
  rw [if_neg h]
theorem sr_cu_f {us : Nat → Int32} {n : Nat} (h : us n = 0) : sr_cu us (n + 1) = sr_cu us n := by
  show sr_cu us n + _ = _
  rw [if_pos h]
  rfl
theorem sr_cu_le (us : Nat → Int32) : ∀ n, sr_cu us n ≤ n
  | 0 => Nat.le_refl 0
  | n + 1 => by
    show sr_cu us n + _ ≤ n + 1
    have := sr_cu_le us n
    by_cases h : us n = 0
    · rw [if_pos h]; omega
    · rw [if_neg h]; omega
/-- the sum of g over the used ones of the first n -/
def sr_sm (us : Nat → Int32) (g : Nat → Int64) : Nat → Int64
  | 0 => 0
  | n + 1 => if us n = 0 then sr_sm us g n else sr_sm us g n + g n
theorem sr_sm_t {us : Nat → Int32} {g : Nat → Int64} {n : Nat} (h : ¬ us n = 0) : sr_sm us g (n + 1) = sr_sm us g n + g n := by
  show (if us n = 0 then _ else _) = _
  rw [if_neg h]
theorem sr_sm_f {us : Nat → Int32} {g : Nat → Int64} {n : Nat} (h : us n = 0) : sr_sm us g (n + 1) = sr_sm us g n := by
  show (if us n = 0 then _ else _) = _
  rw [if_pos h]
/-- what an observation adds to each of the nine sums -/
def sr_g2 (fx : Nat → Int32) : Nat → Int64 := fun i => (fx i).toInt64
def sr_g3 (fy : Nat → Int32) : Nat → Int64 := fun i => (fy i).toInt64
def sr_g4 (fu : Nat → Int32) : Nat → Int64 := fun i => (fu i).toInt64
def sr_g5 (fv : Nat → Int32) : Nat → Int64 := fun i => (fv i).toInt64
def sr_g6 (fu fv : Nat → Int32) : Nat → Int64 := fun i => (fu i).toInt64 * (fu i).toInt64 + (fv i).toInt64 * (fv i).toInt64
def sr_g7 (fx fy fu fv : Nat → Int32) : Nat → Int64 := fun i => (fu i).toInt64 * (fx i).toInt64 + (fv i).toInt64 * (fy i).toInt64
def sr_g8 (fx fy fu fv : Nat → Int32) : Nat → Int64 := fun i => (fu i).toInt64 * (fy i).toInt64 - (fv i).toInt64 * (fx i).toInt64
def sr_g9 (fz fw fp : Nat → Int32) : Nat → Int64 := fun i => (fz i - (fw i - fp i)).toInt64
def sr_spread (n u v q : Int64) : Int64 := n * q - u * u - v * v
def sr_cosine (n x y u v d : Int64) : Int64 := n * d - u * x - v * y
def sr_sine (n x y u v k : Int64) : Int64 := n * k - u * y + v * x
/-- the quotient rounded down -/
def sr_fd (x y : Int64) : Int64 := Int64.ofInt (x.toInt / y.toInt)
def sr_dd (x y : Int64) : Int64 := if y ≤ 0 then 0 else sr_fd x y
def sr_dv (n u v q : Int64) : Int64 := n * sr_spread n u v q
def sr_ht (n r : Int64) : Int32 := (sr_dd r n).toInt32
/-- the four parts, laid over what stood there -/
def sr_pt (n x y u v q d k : Int64) (f : Nat → Int64) : Nat → Int64 :=
  vp_updL (vp_updL (vp_updL (vp_updL f 0 (n * sr_cosine n x y u v d)) 1 (n * sr_sine n x y u v k)) 2 (x * sr_spread n u v q - sr_cosine n x y u v d * u + sr_sine n x y u v k * v)) 3 (y * sr_spread n u v q - sr_sine n x y u v k * u - sr_cosine n x y u v d * v)
def sr_px (fa : Nat → Int64) (dv : Int64) (a b : Int32) : Int32 := (sr_dd (fa 0 * a.toInt64 - fa 1 * b.toInt64 + fa 2) dv).toInt32
def sr_py (fa : Nat → Int64) (dv : Int64) (a b : Int32) : Int32 := (sr_dd (fa 1 * a.toInt64 + fa 0 * b.toInt64 + fa 3) dv).toInt32
def sr_mil (fa : Nat → Int64) (dv : Int64) (k : Nat) : Int64 := sr_dd (fa k) dv * 1000000 + sr_dd ((fa k - sr_dd (fa k) dv * dv) * 1000000) dv
/-- the first i cells are g's, the others f's -/
def sr_cp (i : Nat) (g f : Nat → Int32) : Nat → Int32 := fun j => if j < i then g j else f j
theorem sr_cp_0 (g f : Nat → Int32) : sr_cp 0 g f = f := by
  funext j
  exact if_neg (Nat.not_lt_zero j)
theorem sr_cp_s (i : Nat) (g f : Nat → Int32) : sr_cp (i + 1) g f = upd (sr_cp i g f) i (g i) := by
  funext j
  show (if j < i + 1 then g j else f j) = upd (sr_cp i g f) i (g i) j
  by_cases h : j = i
  · subst h
    rw [pk_us, if_pos (Nat.lt_succ_self j)]
  · rw [pk_un h]
    show _ = (if j < i then g j else f j)
    by_cases h2 : j < i
    · rw [if_pos h2, if_pos (Nat.lt_succ_of_lt h2)]
    · rw [if_neg h2, if_neg (by omega)]
def sr_m0 (i : Nat) (fx fu fv : Nat → Int32) (fa : Nat → Int64) (dv : Int64) (f : Nat → Int32) : Nat → Int32 := sr_cp i (fun j => fx j - sr_px fa dv (fu j) (fv j)) f
def sr_m1 (i : Nat) (fy fu fv : Nat → Int32) (fa : Nat → Int64) (dv : Int64) (f : Nat → Int32) : Nat → Int32 := sr_cp i (fun j => fy j - sr_py fa dv (fu j) (fv j)) f
def sr_m2 (i : Nat) (fz fw fp : Nat → Int32) (ht : Int32) (f : Nat → Int32) : Nat → Int32 := sr_cp i (fun j => fz j - (fw j - fp j + ht)) f
theorem sr_m0_0 (fx fu fv : Nat → Int32) (fa : Nat → Int64) (dv : Int64) (f : Nat → Int32) : sr_m0 0 fx fu fv fa dv f = f := sr_cp_0 _ _
theorem sr_m1_0 (fy fu fv : Nat → Int32) (fa : Nat → Int64) (dv : Int64) (f : Nat → Int32) : sr_m1 0 fy fu fv fa dv f = f := sr_cp_0 _ _
theorem sr_m2_0 (fz fw fp : Nat → Int32) (ht : Int32) (f : Nat → Int32) : sr_m2 0 fz fw fp ht f = f := sr_cp_0 _ _
theorem sr_m0_s (i : Nat) (fx fu fv : Nat → Int32) (fa : Nat → Int64) (dv : Int64) (f : Nat → Int32) : sr_m0 (i + 1) fx fu fv fa dv f = upd (sr_m0 i fx fu fv fa dv f) i (fx i - sr_px fa dv (fu i) (fv i)) := sr_cp_s _ _ _
theorem sr_m1_s (i : Nat) (fy fu fv : Nat → Int32) (fa : Nat → Int64) (dv : Int64) (f : Nat → Int32) : sr_m1 (i + 1) fy fu fv fa dv f = upd (sr_m1 i fy fu fv fa dv f) i (fy i - sr_py fa dv (fu i) (fv i)) := sr_cp_s _ _ _
theorem sr_m2_s (i : Nat) (fz fw fp : Nat → Int32) (ht : Int32) (f : Nat → Int32) : sr_m2 (i + 1) fz fw fp ht f = upd (sr_m2 i fz fw fp ht f) i (fz i - (fw i - fp i + ht)) := sr_cp_s _ _ _
theorem sr_nar01 {x : Int32} (h : x = 0 ∨ x = 1) : vp_nar .boolean x = x := by
  rcases h with h | h <;> rw [h] <;> rfl
theorem lc_gt {x y : Int64} : 0 < lg_cmp x y ↔ y < x := by
  unfold lg_cmp
  by_cases h1 : y < x
  · simp [h1]
  · by_cases h2 : x = y
    · simp [h1, h2]
    · simp [h1, h2]
/-- the used one that misses by most, and by how much -/
def sr_wo (n0 n1 fq : Nat → Int32) (bd : Int64) : Nat → Int64 × Int32
  | 0 => (bd, -1)
  | i + 1 => if ¬ fq i = 0 ∧ (sr_wo n0 n1 fq bd i).1 < (n0 i).toInt64 * (n0 i).toInt64 + (n1 i).toInt64 * (n1 i).toInt64 then ((n0 i).toInt64 * (n0 i).toInt64 + (n1 i).toInt64 * (n1 i).toInt64, nI i) else sr_wo n0 n1 fq bd i
def sr_ss (n0 n1 n2 fq : Nat → Int32) : Nat → Int64
  | 0 => 0
  | i + 1 => if fq i = 0 then sr_ss n0 n1 n2 fq i else sr_ss n0 n1 n2 fq i + ((n0 i).toInt64 * (n0 i).toInt64 + (n1 i).toInt64 * (n1 i).toInt64 + (n2 i).toInt64 * (n2 i).toInt64)
/-- the set-up as it was made: divisor, height, how many it knows, made, parts, misses, used -/
abbrev sr_St : Type := Int64 × Int32 × Nat × Int32 × (Nat → Int64) × (Nat → Int32) × (Nat → Int32) × (Nat → Int32) × (Nat → Int32)
def st_dv (S : sr_St) : Int64 := S.1
def st_ht (S : sr_St) : Int32 := S.2.1
def st_sc (S : sr_St) : Nat := S.2.2.1
def st_md (S : sr_St) : Int32 := S.2.2.2.1
def st_fa (S : sr_St) : Nat → Int64 := S.2.2.2.2.1
def st_n0 (S : sr_St) : Nat → Int32 := S.2.2.2.2.2.1
def st_n1 (S : sr_St) : Nat → Int32 := S.2.2.2.2.2.2.1
def st_n2 (S : sr_St) : Nat → Int32 := S.2.2.2.2.2.2.2.1
def st_fq (S : sr_St) : Nat → Int32 := S.2.2.2.2.2.2.2.2
def sr_sums (no : Nat) (fx fy fz fu fv fw fp fe : Nat → Int32) : Nat → Int64 := fun k => match k with
  | 1 => sr_sm fe (fun _ => 1) no
  | 2 => sr_sm fe (sr_g2 fx) no
  | 3 => sr_sm fe (sr_g3 fy) no
  | 4 => sr_sm fe (sr_g4 fu) no
  | 5 => sr_sm fe (sr_g5 fv) no
  | 6 => sr_sm fe (sr_g6 fu fv) no
  | 7 => sr_sm fe (sr_g7 fx fy fu fv) no
  | 8 => sr_sm fe (sr_g8 fx fy fu fv) no
  | _ => sr_sm fe (sr_g9 fz fw fp) no
def sr_sp (no : Nat) (fx fy fz fu fv fw fp fe : Nat → Int32) : Int64 := sr_spread (sr_sums no fx fy fz fu fv fw fp fe 1) (sr_sums no fx fy fz fu fv fw fp fe 4) (sr_sums no fx fy fz fu fv fw fp fe 5) (sr_sums no fx fy fz fu fv fw fp fe 6)
def sr_md (S : sr_St) (no : Nat) (fx fy fz fu fv fw fp fe : Nat → Int32) (s : Nat → Int64) : sr_St :=
  (sr_dv (s 1) (s 4) (s 5) (s 6), sr_ht (s 1) (s 9), no, 1, sr_pt (s 1) (s 2) (s 3) (s 4) (s 5) (s 6) (s 7) (s 8) (st_fa S),
   sr_m0 no fx fu fv (sr_pt (s 1) (s 2) (s 3) (s 4) (s 5) (s 6) (s 7) (s 8) (st_fa S)) (sr_dv (s 1) (s 4) (s 5) (s 6)) (st_n0 S),
   sr_m1 no fy fu fv (sr_pt (s 1) (s 2) (s 3) (s 4) (s 5) (s 6) (s 7) (s 8) (st_fa S)) (sr_dv (s 1) (s 4) (s 5) (s 6)) (st_n1 S),
   sr_m2 no fz fw fp (sr_ht (s 1) (s 9)) (st_n2 S), sr_cp no fe (st_fq S))
def sr_mk (S : sr_St) (no : Nat) (fx fy fz fu fv fw fp fe : Nat → Int32) : sr_St :=
  if 0 < sr_sp no fx fy fz fu fv fw fp fe then sr_md S no fx fy fz fu fv fw fp fe (sr_sums no fx fy fz fu fv fw fp fe) else S
theorem sr_mk_t (S : sr_St) (no : Nat) (fx fy fz fu fv fw fp fe : Nat → Int32) (h : 0 < sr_sp no fx fy fz fu fv fw fp fe) : sr_mk S no fx fy fz fu fv fw fp fe = sr_md S no fx fy fz fu fv fw fp fe (sr_sums no fx fy fz fu fv fw fp fe) := if_pos h
theorem sr_mk_f (S : sr_St) (no : Nat) (fx fy fz fu fv fw fp fe : Nat → Int32) (h : ¬ 0 < sr_sp no fx fy fz fu fv fw fp fe) : sr_mk S no fx fy fz fu fv fw fp fe = S := if_neg h
theorem sr_wo_u {n0 n1 fq : Nat → Int32} {bd : Int64} {i : Nat} (h : fq i = 0) : sr_wo n0 n1 fq bd (i + 1) = sr_wo n0 n1 fq bd i := if_neg (fun q => q.1 h)
theorem sr_wo_f {n0 n1 fq : Nat → Int32} {bd : Int64} {i : Nat} (h : (n0 i).toInt64 * (n0 i).toInt64 + (n1 i).toInt64 * (n1 i).toInt64 ≤ (sr_wo n0 n1 fq bd i).1) : sr_wo n0 n1 fq bd (i + 1) = sr_wo n0 n1 fq bd i := if_neg (fun q => Int64.not_le.mpr q.2 h)
theorem sr_wo_t {n0 n1 fq : Nat → Int32} {bd : Int64} {i : Nat} (h1 : ¬ fq i = 0) (h2 : ¬ (n0 i).toInt64 * (n0 i).toInt64 + (n1 i).toInt64 * (n1 i).toInt64 ≤ (sr_wo n0 n1 fq bd i).1) : sr_wo n0 n1 fq bd (i + 1) = ((n0 i).toInt64 * (n0 i).toInt64 + (n1 i).toInt64 * (n1 i).toInt64, nI i) := if_pos ⟨h1, Int64.not_le.mp h2⟩
theorem sr_ss_f {n0 n1 n2 fq : Nat → Int32} {i : Nat} (h : fq i = 0) : sr_ss n0 n1 n2 fq (i + 1) = sr_ss n0 n1 n2 fq i := if_pos h
theorem sr_ss_t {n0 n1 n2 fq : Nat → Int32} {i : Nat} (h : ¬ fq i = 0) : sr_ss n0 n1 n2 fq (i + 1) = sr_ss n0 n1 n2 fq i + ((n0 i).toInt64 * (n0 i).toInt64 + (n1 i).toInt64 * (n1 i).toInt64 + (n2 i).toInt64 * (n2 i).toInt64) := if_neg h
theorem lc_le {x y : Int64} : lg_cmp x y ≤ 0 ↔ x ≤ y := by
  rw [← Int32.not_lt, ← Int64.not_lt, lc_gt]
theorem lc_lt {x y : Int64} : lg_cmp x y < 0 ↔ x < y := by
  unfold lg_cmp
  by_cases h1 : y < x
  · have h2 : ¬ x < y := Int64.not_lt.mpr (Int64.le_of_lt h1)
    simp [h1, h2]
  · by_cases h2 : x = y
    · simp [h2]
    · have h3 : x < y := Int64.lt_of_le_of_ne (Int64.not_lt.mp h1) h2
      simp [h1, h2, h3]
theorem lc_ge {x y : Int64} : 0 ≤ lg_cmp x y ↔ y ≤ x := by
  rw [← Int32.not_lt, ← Int64.not_lt, lc_lt]
theorem lc_eq {x y : Int64} : lg_cmp x y = 0 ↔ x = y := by
  unfold lg_cmp
  by_cases h1 : y < x
  · have h2 : ¬ x = y := fun q => by subst q; exact Int64.lt_irrefl h1
    simp [h1, h2]
  · by_cases h2 : x = y
    · simp [h1, h2]
    · simp [h1, h2]
/-- rows of levels -/
def sr_su (fd : Nat → Int32) : Nat → Int32
  | 0 => 0
  | n + 1 => sr_su fd n + fd n
def sr_sl (fl : Nat → Int32) : Nat → Int64
  | 0 => 0
  | n + 1 => sr_sl fl n + (fl n).toInt64
def sr_sh (fd fl : Nat → Int32) (nl k : Nat) : Int64 := sr_dd ((sr_su fd nl).toInt64 * sr_sl fl (min k nl)) (sr_sl fl (min nl nl))
def sr_cd (fd fl : Nat → Int32) (nl k : Nat) : Int32 := ((fd k).toInt64 - (sr_sh fd fl nl (k + 1) - sr_sh fd fl nl k)).toInt32
/-- the signs of an int -/
def sr_sg (a : Int32) (k : Nat) : Int32 := ((((a.toUInt32 >>> ((nI k * 8).toUInt32 &&& Int32.toUInt32 31)).toInt32) &&& 255).toUInt32 % 65536).toInt32
theorem sr_sg_nar (a : Int32) (k : Nat) : vp_nar .char (sr_sg a k) = sr_sg a k := pk_vc _
def sr_si (a : Int32) : Nat → Nat
  | 0 => 0
  | n + 1 => sr_si a n + (if sr_sg a n = 0 then 0 else 1)
theorem sr_si_t {a : Int32} {n : Nat} (h : ¬ sr_sg a n = 0) : sr_si a (n + 1) = sr_si a n + 1 := by
  show sr_si a n + _ = _
  rw [if_neg h]
theorem sr_si_f {a : Int32} {n : Nat} (h : sr_sg a n = 0) : sr_si a (n + 1) = sr_si a n := by
  show sr_si a n + _ = _
  rw [if_pos h]
  rfl
abbrev sr_dig (c : Int32) : Prop := ¬ c < 48 ∧ ¬ 57 < c
/-- a sign of the pad, or none -/
def sr_gc (c : Int32) : Bool := decide (c = 0 ∨ c = 45 ∨ c = 32 ∨ c = 59 ∨ sr_dig c)
def sr_gd (a : Int32) : Nat → Bool
  | 0 => true
  | n + 1 => sr_gd a n && sr_gc (sr_sg a n)
theorem sr_gc_0 {c : Int32} (h : c = 0) : sr_gc c = true := decide_eq_true (Or.inl h)
theorem sr_gc_m {c : Int32} (h : c = 45) : sr_gc c = true := decide_eq_true (Or.inr (Or.inl h))
theorem sr_gc_b {c : Int32} (h : c = 32) : sr_gc c = true := decide_eq_true (Or.inr (Or.inr (Or.inl h)))
theorem sr_gc_s {c : Int32} (h : c = 59) : sr_gc c = true := decide_eq_true (Or.inr (Or.inr (Or.inr (Or.inl h))))
theorem sr_gc_d {c : Int32} (h : sr_dig c) : sr_gc c = true := decide_eq_true (Or.inr (Or.inr (Or.inr (Or.inr h))))
theorem sr_gc_n {c : Int32} (h1 : ¬ c = 0) (h2 : ¬ c = 45) (h3 : ¬ c = 32) (h4 : ¬ c = 59) (h5 : ¬ sr_dig c) : sr_gc c = false := decide_eq_false (fun q => by
  rcases q with q | q | q | q | q
  · exact h1 q
  · exact h2 q
  · exact h3 q
  · exact h4 q
  · exact h5 q)
theorem sr_gd_s {a : Int32} {i : Nat} (h : sr_gd a i = true) (h2 : sr_gc (sr_sg a i) = true) : sr_gd a (i + 1) = true := by
  show (sr_gd a i && sr_gc (sr_sg a i)) = true
  rw [h, h2]
  rfl
theorem sr_gd_f {a : Int32} {i : Nat} : ∀ {n : Nat}, i < n → sr_gc (sr_sg a i) = false → ¬ sr_gd a n = true
  | 0, h, _ => absurd h (Nat.not_lt_zero _)
  | n + 1, h, h2 => by
    show ¬ (sr_gd a n && sr_gc (sr_sg a n)) = true
    intro q
    rw [Bool.and_eq_true] at q
    rcases Nat.lt_or_ge i n with h3 | h3
    · exact sr_gd_f h3 h2 q.1
    · rw [show n = i by omega, h2] at q
      exact absurd q.2 (by decide)
/-- the pad with the signs of an int behind it -/
def sr_ad (a : Int32) (sg : Nat → Int32) (pn : Nat) : Nat → (Nat → Int32) × Nat
  | 0 => (sg, pn)
  | i + 1 => if ¬ sr_sg a i = 0 ∧ (sr_ad a sg pn i).2 < 200 then (upd (sr_ad a sg pn i).1 (sr_ad a sg pn i).2 (sr_sg a i), (sr_ad a sg pn i).2 + 1) else sr_ad a sg pn i
theorem sr_ad_0 {a : Int32} {sg : Nat → Int32} {pn i : Nat} (h : sr_sg a i = 0) : sr_ad a sg pn (i + 1) = sr_ad a sg pn i := if_neg (fun q => q.1 h)
theorem sr_ad_f {a : Int32} {sg : Nat → Int32} {pn i : Nat} (h : 200 ≤ (sr_ad a sg pn i).2) : sr_ad a sg pn (i + 1) = sr_ad a sg pn i := if_neg (fun q => absurd q.2 (Nat.not_lt.mpr h))
theorem sr_ad_t {a : Int32} {sg : Nat → Int32} {pn i : Nat} (h : ¬ sr_sg a i = 0) (h2 : (sr_ad a sg pn i).2 < 200) : sr_ad a sg pn (i + 1) = (upd (sr_ad a sg pn i).1 (sr_ad a sg pn i).2 (sr_sg a i), (sr_ad a sg pn i).2 + 1) := if_pos ⟨h, h2⟩
/-- where the reading stands behind a sign that may be skipped -/
def sr_sk (sg : Nat → Int32) (pn pt : Nat) (c : Int32) : Nat := if pt < pn ∧ sg pt = c then pt + 1 else pt
theorem sr_sk_le {sg : Nat → Int32} {pn pt : Nat} {c : Int32} (hc : pn ≤ 200) (ha : pt ≤ 200) : sr_sk sg pn pt c ≤ 200 := by
  unfold sr_sk
  by_cases h : pt < pn ∧ sg pt = c
  · rw [if_pos h]; have := h.1; omega
  · rw [if_neg h]; exact ha
/-- how many digits stand there, at most f -/
def sr_dn (sg : Nat → Int32) (pn : Nat) : Nat → Nat → Nat
  | _, 0 => 0
  | a, f + 1 => if a < pn ∧ sr_dig (sg a) then 1 + sr_dn sg pn (a + 1) f else 0
theorem sr_dn_le {sg : Nat → Int32} {pn : Nat} : ∀ (f a : Nat), a + sr_dn sg pn a f ≤ max a pn
  | 0, a => by show a + 0 ≤ _; omega
  | f + 1, a => by
    show a + (if _ then _ else _) ≤ _
    by_cases h : a < pn ∧ sr_dig (sg a)
    · rw [if_pos h]
      have := sr_dn_le (sg := sg) (pn := pn) f (a + 1)
      have h1 := h.1
      omega
    · rw [if_neg h]; omega
theorem sr_dn_s {sg : Nat → Int32} {pn b j D : Nat} (hj : j < 6) (h1 : b + j < pn) (h2 : sr_dig (sg (b + j))) (h : j + sr_dn sg pn (b + j) (6 - j) = D) : j + 1 + sr_dn sg pn (b + (j + 1)) (6 - (j + 1)) = D := by
  rw [show 6 - j = (6 - (j + 1)) + 1 by omega] at h
  rw [show sr_dn sg pn (b + j) (6 - (j + 1) + 1) = 1 + sr_dn sg pn (b + j + 1) (6 - (j + 1)) from if_pos ⟨h1, h2⟩] at h
  rw [show b + (j + 1) = b + j + 1 by omega]
  omega
theorem sr_dn_n {sg : Nat → Int32} {pn b j D : Nat} (h2 : ¬ sr_dig (sg (b + j))) (h : j + sr_dn sg pn (b + j) (6 - j) = D) : j = D := by
  cases hq : 6 - j with
  | zero => rw [hq] at h; exact h
  | succ f =>
    rw [hq, show sr_dn sg pn (b + j) (f + 1) = 0 from if_neg (fun q => h2 q.2)] at h
    exact h
theorem sr_dn_o {sg : Nat → Int32} {pn b j D : Nat} (h2 : pn ≤ b + j) (h : j + sr_dn sg pn (b + j) (6 - j) = D) : j = D := by
  cases hq : 6 - j with
  | zero => rw [hq] at h; exact h
  | succ f =>
    rw [hq, show sr_dn sg pn (b + j) (f + 1) = 0 from if_neg (fun q => absurd q.1 (Nat.not_lt.mpr h2))] at h
    exact h
theorem sr_dn_6 {sg : Nat → Int32} {pn b j D : Nat} (h2 : 6 ≤ j) (h : j + sr_dn sg pn (b + j) (6 - j) = D) : j = D := by
  rw [show 6 - j = 0 by omega] at h
  exact h
/-- the number that the j digits from b on are -/
def sr_va (sg : Nat → Int32) (b : Nat) : Nat → Int32
  | 0 => 0
  | j + 1 => sr_va sg b j * 10 + (sg (b + j) - 48)
def sr_nd (sg : Nat → Int32) (pn pt : Nat) : Nat := sr_dn sg pn (sr_sk sg pn pt 45) 6
def sr_np (sg : Nat → Int32) (pn pt : Nat) : Nat := sr_sk sg pn pt 45 + sr_nd sg pn pt
def sr_nv (sg : Nat → Int32) (pn pt : Nat) : Int32 := if pt < pn ∧ sg pt = 45 then -(sr_va sg (sr_sk sg pn pt 45) (sr_nd sg pn pt)) else sr_va sg (sr_sk sg pn pt 45) (sr_nd sg pn pt)
theorem sr_np_le {sg : Nat → Int32} {pn pt : Nat} (hc : pn ≤ 200) (ha : pt ≤ 200) : sr_np sg pn pt ≤ 200 := by
  have h1 := sr_sk_le (sg := sg) (c := 45) hc ha
  have h2 := sr_dn_le (sg := sg) (pn := pn) 6 (sr_sk sg pn pt 45)
  unfold sr_np sr_nd
  omega
def sr_b (i : Nat) : Int32 := if i < 3 then 32 else 59
theorem sr_b_t {i : Nat} (h : i < 3) : sr_b i = 32 := if_pos h
theorem sr_b_f {i : Nat} (h : 3 ≤ i) : sr_b i = 59 := if_neg (Nat.not_lt.mpr h)
/-- the first i numbers of a row: whether its form is right so far, where the reading stands, the numbers -/
def sr_rw (sg : Nat → Int32) (pn pt : Nat) (nu : Nat → Int32) : Nat → Bool × Nat × (Nat → Int32)
  | 0 => (true, pt, nu)
  | i + 1 => if (sr_rw sg pn pt nu i).1 = true then
      (if 0 < sr_nd sg pn (sr_rw sg pn pt nu i).2.1 then (decide (sr_np sg pn (sr_rw sg pn pt nu i).2.1 < pn ∧ sg (sr_np sg pn (sr_rw sg pn pt nu i).2.1) = sr_b i), sr_sk sg pn (sr_np sg pn (sr_rw sg pn pt nu i).2.1) (sr_b i), upd (sr_rw sg pn pt nu i).2.2 i (sr_nv sg pn (sr_rw sg pn pt nu i).2.1))
       else (false, sr_np sg pn (sr_rw sg pn pt nu i).2.1, upd (sr_rw sg pn pt nu i).2.2 i (sr_nv sg pn (sr_rw sg pn pt nu i).2.1)))
    else sr_rw sg pn pt nu i
section SRRW
variable {sg : Nat → Int32} {pn pt : Nat} {nu : Nat → Int32} {i : Nat} {c : Int32}
theorem sr_rw_t (hok : (sr_rw sg pn pt nu i).1 = true) (h1 : 0 < sr_nd sg pn (sr_rw sg pn pt nu i).2.1) (hb : sr_b i = c) (h2 : sr_np sg pn (sr_rw sg pn pt nu i).2.1 < pn ∧ sg (sr_np sg pn (sr_rw sg pn pt nu i).2.1) = c) :
    sr_rw sg pn pt nu (i + 1) = (true, sr_sk sg pn (sr_np sg pn (sr_rw sg pn pt nu i).2.1) c, upd (sr_rw sg pn pt nu i).2.2 i (sr_nv sg pn (sr_rw sg pn pt nu i).2.1)) := by
  subst hb
  show (if _ then (if _ then _ else _) else _) = _
  rw [if_pos hok, if_pos h1, decide_eq_true h2]
theorem sr_rw_f (hok : (sr_rw sg pn pt nu i).1 = true) (h1 : 0 < sr_nd sg pn (sr_rw sg pn pt nu i).2.1) (hb : sr_b i = c) (h2 : ¬ (sr_np sg pn (sr_rw sg pn pt nu i).2.1 < pn ∧ sg (sr_np sg pn (sr_rw sg pn pt nu i).2.1) = c)) :
    sr_rw sg pn pt nu (i + 1) = (false, sr_sk sg pn (sr_np sg pn (sr_rw sg pn pt nu i).2.1) c, upd (sr_rw sg pn pt nu i).2.2 i (sr_nv sg pn (sr_rw sg pn pt nu i).2.1)) := by
  subst hb
  show (if _ then (if _ then _ else _) else _) = _
  rw [if_pos hok, if_pos h1, decide_eq_false h2]
theorem sr_rw_n (hok : (sr_rw sg pn pt nu i).1 = true) (h1 : ¬ 0 < sr_nd sg pn (sr_rw sg pn pt nu i).2.1) :
    sr_rw sg pn pt nu (i + 1) = (false, sr_np sg pn (sr_rw sg pn pt nu i).2.1, upd (sr_rw sg pn pt nu i).2.2 i (sr_nv sg pn (sr_rw sg pn pt nu i).2.1)) := by
  show (if _ then (if _ then _ else _) else _) = _
  rw [if_pos hok, if_neg h1]
theorem sr_rw_st {t : Bool × Nat × (Nat → Int32)} (h : sr_rw sg pn pt nu i = t) (hf : t.1 = false) : ∀ k, sr_rw sg pn pt nu (i + k) = t
  | 0 => h
  | k + 1 => by
    have ih := sr_rw_st h hf k
    show (if (sr_rw sg pn pt nu (i + k)).1 = true then _ else sr_rw sg pn pt nu (i + k)) = t
    rw [ih, hf]
    exact if_neg (by decide)
theorem sr_rw_4 {p : Nat} {f : Nat → Int32} (h : sr_rw sg pn pt nu (i + 1) = (false, p, f)) (hi : i < 4) : sr_rw sg pn pt nu 4 = (false, p, f) := by
  have := sr_rw_st h rfl (3 - i)
  rw [show i + 1 + (3 - i) = 4 by omega] at this
  exact this
end SRRW
abbrev sr_near (a : Int32) : Prop := ¬ a < -10000 ∧ ¬ 10000 < a
/-- a residual, and a place, along an axis -/
def sr_res (S : sr_St) (j k : Nat) : Int32 := if j = 0 then st_n0 S k else if j = 1 then st_n1 S k else st_n2 S k
def sr_pl (S : sr_St) (j : Nat) (a b d : Int32) : Int32 := if j = 0 then sr_px (st_fa S) (st_dv S) a b else if j = 1 then sr_py (st_fa S) (st_dv S) a b else d + st_ht S
theorem sr_ad_le {a : Int32} {sg : Nat → Int32} {pn : Nat} (hc : pn ≤ 200) : ∀ i, (sr_ad a sg pn i).2 ≤ 200
  | 0 => hc
  | i + 1 => by
    have ih := sr_ad_le (a := a) (sg := sg) hc i
    show (if _ then _ else sr_ad a sg pn i : (Nat → Int32) × Nat).2 ≤ 200
    by_cases h : ¬ sr_sg a i = 0 ∧ (sr_ad a sg pn i).2 < 200
    · rw [if_pos h]
      have := h.2
      show (sr_ad a sg pn i).2 + 1 ≤ 200
      omega
    · rw [if_neg h]; exact ih
theorem sr_wo_in {n0 n1 fq : Nat → Int32} {bd : Int64} : ∀ n, (sr_wo n0 n1 fq bd n).2 = -1 ∨ ∃ w, w < n ∧ (sr_wo n0 n1 fq bd n).2 = nI w
  | 0 => Or.inl rfl
  | i + 1 => by
    have ih := sr_wo_in (n0 := n0) (n1 := n1) (fq := fq) (bd := bd) i
    by_cases h : ¬ fq i = 0 ∧ (sr_wo n0 n1 fq bd i).1 < (n0 i).toInt64 * (n0 i).toInt64 + (n1 i).toInt64 * (n1 i).toInt64
    · rw [show sr_wo n0 n1 fq bd (i + 1) = ((n0 i).toInt64 * (n0 i).toInt64 + (n1 i).toInt64 * (n1 i).toInt64, nI i) from if_pos h]
      exact Or.inr ⟨i, Nat.lt_succ_self i, rfl⟩
    · rw [show sr_wo n0 n1 fq bd (i + 1) = sr_wo n0 n1 fq bd i from if_neg h]
      rcases ih with q | ⟨w, q1, q2⟩
      · exact Or.inl q
      · exact Or.inr ⟨w, Nat.lt_succ_of_lt q1, q2⟩
theorem sr_01u {f : Nat → Int32} {k : Nat} {x : Int32} (h : ∀ k, f k = 0 ∨ f k = 1) (hx : x = 0 ∨ x = 1) : ∀ j, upd f k x j = 0 ∨ upd f k x j = 1 := by
  intro j
  by_cases e : j = k
  · subst e
    rw [pk_us]; exact hx
  · rw [pk_un e]; exact h j
abbrev sr_T : Type := sr_St × (Nat → Int64) × (Nat → Int32)
/-- the worst one is left out, if there is one to leave out -/
def sr_lo (bd : Int64) (no : Nat) (fx fy fz fu fv fw fp : Nat → Int32) (t : sr_T) : Bool × sr_T :=
  if sr_cu t.2.2 no ≤ 3 then (false, t)
  else if (sr_wo (st_n0 t.1) (st_n1 t.1) (st_fq t.1) bd (st_sc t.1)).2 = -1 then (false, t)
  else if 0 < sr_sp no fx fy fz fu fv fw fp (upd t.2.2 (sr_wo (st_n0 t.1) (st_n1 t.1) (st_fq t.1) bd (st_sc t.1)).2.toNatClampNeg 0) then
    (true, sr_mk t.1 no fx fy fz fu fv fw fp (upd t.2.2 (sr_wo (st_n0 t.1) (st_n1 t.1) (st_fq t.1) bd (st_sc t.1)).2.toNatClampNeg 0), sr_sums no fx fy fz fu fv fw fp (upd t.2.2 (sr_wo (st_n0 t.1) (st_n1 t.1) (st_fq t.1) bd (st_sc t.1)).2.toNatClampNeg 0), upd t.2.2 (sr_wo (st_n0 t.1) (st_n1 t.1) (st_fq t.1) bd (st_sc t.1)).2.toNatClampNeg 0)
  else (false, sr_mk t.1 no fx fy fz fu fv fw fp (upd t.2.2 (sr_wo (st_n0 t.1) (st_n1 t.1) (st_fq t.1) bd (st_sc t.1)).2.toNatClampNeg 0), sr_sums no fx fy fz fu fv fw fp (upd t.2.2 (sr_wo (st_n0 t.1) (st_n1 t.1) (st_fq t.1) bd (st_sc t.1)).2.toNatClampNeg 0), upd (upd t.2.2 (sr_wo (st_n0 t.1) (st_n1 t.1) (st_fq t.1) bd (st_sc t.1)).2.toNatClampNeg 0) (sr_wo (st_n0 t.1) (st_n1 t.1) (st_fq t.1) bd (st_sc t.1)).2.toNatClampNeg 1)
section SRLO
variable {bd : Int64} {no : Nat} {fx fy fz fu fv fw fp : Nat → Int32} {S : sr_St} {sf : Nat → Int64} {fe : Nat → Int32} {w : Nat}
theorem sr_lo_1 (h : sr_cu fe no ≤ 3) : sr_lo bd no fx fy fz fu fv fw fp (S, sf, fe) = (false, S, sf, fe) := if_pos h
theorem sr_lo_2 (h : 3 < sr_cu fe no) (h2 : (sr_wo (st_n0 S) (st_n1 S) (st_fq S) bd (st_sc S)).2 = -1) : sr_lo bd no fx fy fz fu fv fw fp (S, sf, fe) = (false, S, sf, fe) := by
  unfold sr_lo
  rw [if_neg (Nat.not_le.mpr h)]
  exact if_pos h2
theorem sr_lo_3 (h : 3 < sr_cu fe no) (h2 : ¬ (sr_wo (st_n0 S) (st_n1 S) (st_fq S) bd (st_sc S)).2 = -1) (hw : w < 2 ^ 31) (h3 : (sr_wo (st_n0 S) (st_n1 S) (st_fq S) bd (st_sc S)).2 = nI w) (h4 : 0 < sr_sp no fx fy fz fu fv fw fp (upd fe w 0)) :
    sr_lo bd no fx fy fz fu fv fw fp (S, sf, fe) = (true, sr_mk S no fx fy fz fu fv fw fp (upd fe w 0), sr_sums no fx fy fz fu fv fw fp (upd fe w 0), upd fe w 0) := by
  unfold sr_lo
  rw [if_neg (Nat.not_le.mpr h)]
  dsimp only
  rw [if_neg h2, h3, nI_clamp hw]
  exact if_pos h4
theorem sr_lo_4 (h : 3 < sr_cu fe no) (h2 : ¬ (sr_wo (st_n0 S) (st_n1 S) (st_fq S) bd (st_sc S)).2 = -1) (hw : w < 2 ^ 31) (h3 : (sr_wo (st_n0 S) (st_n1 S) (st_fq S) bd (st_sc S)).2 = nI w) (h4 : ¬ 0 < sr_sp no fx fy fz fu fv fw fp (upd fe w 0)) :
    sr_lo bd no fx fy fz fu fv fw fp (S, sf, fe) = (false, sr_mk S no fx fy fz fu fv fw fp (upd fe w 0), sr_sums no fx fy fz fu fv fw fp (upd fe w 0), upd (upd fe w 0) w 1) := by
  unfold sr_lo
  rw [if_neg (Nat.not_le.mpr h)]
  dsimp only
  rw [if_neg h2, h3, nI_clamp hw]
  exact if_neg h4
end SRLO
/-- blunders left out one at a time, at most f: how many, and what is then -/
def sr_bf (bd : Int64) (no : Nat) (fx fy fz fu fv fw fp : Nat → Int32) : Nat → sr_T → Nat × sr_T
  | 0, t => (0, t)
  | f + 1, t => if (sr_lo bd no fx fy fz fu fv fw fp t).1 = true then ((sr_bf bd no fx fy fz fu fv fw fp f (sr_lo bd no fx fy fz fu fv fw fp t).2).1 + 1, (sr_bf bd no fx fy fz fu fv fw fp f (sr_lo bd no fx fy fz fu fv fw fp t).2).2) else (0, (sr_lo bd no fx fy fz fu fv fw fp t).2)
section SRBF
variable {bd : Int64} {no k : Nat} {fx fy fz fu fv fw fp : Nat → Int32} {t : sr_T} {D : Nat × sr_T}
theorem sr_bf_s (hk : k < 20) (h : (sr_lo bd no fx fy fz fu fv fw fp t).1 = true) (hb : (k + (sr_bf bd no fx fy fz fu fv fw fp (20 - k) t).1, (sr_bf bd no fx fy fz fu fv fw fp (20 - k) t).2) = D) :
    (k + 1 + (sr_bf bd no fx fy fz fu fv fw fp (20 - (k + 1)) (sr_lo bd no fx fy fz fu fv fw fp t).2).1, (sr_bf bd no fx fy fz fu fv fw fp (20 - (k + 1)) (sr_lo bd no fx fy fz fu fv fw fp t).2).2) = D := by
  rw [← hb]
  have e : sr_bf bd no fx fy fz fu fv fw fp (20 - k) t = ((sr_bf bd no fx fy fz fu fv fw fp (20 - (k + 1)) (sr_lo bd no fx fy fz fu fv fw fp t).2).1 + 1, (sr_bf bd no fx fy fz fu fv fw fp (20 - (k + 1)) (sr_lo bd no fx fy fz fu fv fw fp t).2).2) := by
    rw [show 20 - k = 20 - (k + 1) + 1 by omega]
    exact if_pos h
  rw [e]
  refine Prod.ext ?_ rfl
  show k + 1 + _ = k + (_ + 1)
  omega
theorem sr_bf_x (hk : k < 20) (h : ¬ (sr_lo bd no fx fy fz fu fv fw fp t).1 = true) (hb : (k + (sr_bf bd no fx fy fz fu fv fw fp (20 - k) t).1, (sr_bf bd no fx fy fz fu fv fw fp (20 - k) t).2) = D) : (k, (sr_lo bd no fx fy fz fu fv fw fp t).2) = D := by
  rw [← hb]
  have e : sr_bf bd no fx fy fz fu fv fw fp (20 - k) t = (0, (sr_lo bd no fx fy fz fu fv fw fp t).2) := by
    rw [show 20 - k = 20 - (k + 1) + 1 by omega]
    exact if_neg h
  rw [e]
  rfl
theorem sr_bf_e (hk : 20 ≤ k) (hb : (k + (sr_bf bd no fx fy fz fu fv fw fp (20 - k) t).1, (sr_bf bd no fx fy fz fu fv fw fp (20 - k) t).2) = D) : (k, t) = D := by
  rw [← hb, show 20 - k = 0 by omega]
  rfl
theorem sr_mk_sc {S : sr_St} {fe : Nat → Int32} (hc : no ≤ 20) (hs : st_sc S ≤ 20) : st_sc (sr_mk S no fx fy fz fu fv fw fp fe) ≤ 20 := by
  unfold sr_mk
  by_cases h : 0 < sr_sp no fx fy fz fu fv fw fp fe
  · rw [if_pos h]; exact hc
  · rw [if_neg h]; exact hs
theorem sr_lo_sc (hc : no ≤ 20) (hs : st_sc t.1 ≤ 20) : st_sc (sr_lo bd no fx fy fz fu fv fw fp t).2.1 ≤ 20 := by
  unfold sr_lo
  split
  · exact hs
  · split
    · exact hs
    · split
      · exact sr_mk_sc hc hs
      · exact sr_mk_sc hc hs
theorem sr_lo_01 (h : ∀ j, t.2.2 j = 0 ∨ t.2.2 j = 1) : ∀ j, (sr_lo bd no fx fy fz fu fv fw fp t).2.2.2 j = 0 ∨ (sr_lo bd no fx fy fz fu fv fw fp t).2.2.2 j = 1 := by
  unfold sr_lo
  split
  · exact h
  · split
    · exact h
    · split
      · exact sr_01u h (Or.inl rfl)
      · exact sr_01u (sr_01u h (Or.inl rfl)) (Or.inr rfl)
end SRBF
/-- the observations: how many; x, y, z, u, v, w, prism, used -/
abbrev sr_Ob : Type := Nat × (Nat → Int32) × (Nat → Int32) × (Nat → Int32) × (Nat → Int32) × (Nat → Int32) × (Nat → Int32) × (Nat → Int32) × (Nat → Int32)
def ob_no (O : sr_Ob) : Nat := O.1
def ob_fx (O : sr_Ob) : Nat → Int32 := O.2.1
def ob_fy (O : sr_Ob) : Nat → Int32 := O.2.2.1
def ob_fz (O : sr_Ob) : Nat → Int32 := O.2.2.2.1
def ob_fu (O : sr_Ob) : Nat → Int32 := O.2.2.2.2.1
def ob_fv (O : sr_Ob) : Nat → Int32 := O.2.2.2.2.2.1
def ob_fw (O : sr_Ob) : Nat → Int32 := O.2.2.2.2.2.2.1
def ob_fp (O : sr_Ob) : Nat → Int32 := O.2.2.2.2.2.2.2.1
def ob_fe (O : sr_Ob) : Nat → Int32 := O.2.2.2.2.2.2.2.2
/-- a row's numbers can become an observation -/
abbrev sr_ok (nm : Nat) (nu : Nat → Int32) (no : Nat) : Prop := xin (nu 0) nm ∧ ¬ 20 ≤ no ∧ sr_near (nu 1) ∧ sr_near (nu 2) ∧ sr_near (nu 3)
def sr_ao (mx my mz : Nat → Int32) (k : Nat) (a b d : Int32) (O : sr_Ob) : sr_Ob :=
  (ob_no O + 1, upd (ob_fx O) (ob_no O) (mx k), upd (ob_fy O) (ob_no O) (my k), upd (ob_fz O) (ob_no O) (mz k), upd (ob_fu O) (ob_no O) a, upd (ob_fv O) (ob_no O) b, upd (ob_fw O) (ob_no O) d, upd (ob_fp O) (ob_no O) 0, upd (ob_fe O) (ob_no O) 1)
def sr_on (nm : Nat) (mx my mz nu : Nat → Int32) (O : sr_Ob) : sr_Ob :=
  if sr_ok nm nu (ob_no O) then sr_ao mx my mz (nu 0).toNatClampNeg (nu 1) (nu 2) (nu 3) O else O
theorem sr_on_t {nm : Nat} {mx my mz nu : Nat → Int32} {O : sr_Ob} {k : Nat} (h : sr_ok nm nu (ob_no O)) (hk : k < 2 ^ 31) (he : nu 0 = nI k) : sr_on nm mx my mz nu O = sr_ao mx my mz k (nu 1) (nu 2) (nu 3) O := by
  unfold sr_on
  rw [if_pos h, he, nI_clamp hk]
theorem sr_on_f {nm : Nat} {mx my mz nu : Nat → Int32} {O : sr_Ob} (h : ¬ sr_ok nm nu (ob_no O)) : sr_on nm mx my mz nu O = O := if_neg h
/-- the pad's rows from row i on, at most f of them: the first wrong one or -1; where the reading stands, the last numbers, the observations -/
def sr_ro (sg : Nat → Int32) (pn nm : Nat) (mx my mz : Nat → Int32) : Nat → Nat → Nat × (Nat → Int32) × sr_Ob → Int32 × Nat × (Nat → Int32) × sr_Ob
  | 0, _, t => (-1, t)
  | f + 1, i, t => if pn ≤ t.1 then (-1, t) else if (sr_rw sg pn t.1 t.2.1 4).1 = true ∧ sr_ok nm (sr_rw sg pn t.1 t.2.1 4).2.2 (ob_no t.2.2) then
      sr_ro sg pn nm mx my mz f (i + 1) ((sr_rw sg pn t.1 t.2.1 4).2.1, (sr_rw sg pn t.1 t.2.1 4).2.2, sr_on nm mx my mz (sr_rw sg pn t.1 t.2.1 4).2.2 t.2.2)
    else (nI i, (sr_rw sg pn t.1 t.2.1 4).2.1, (sr_rw sg pn t.1 t.2.1 4).2.2, t.2.2)
theorem sr_on_le {nm : Nat} {mx my mz nu : Nat → Int32} {O : sr_Ob} (h : ob_no O ≤ 20) : ob_no (sr_on nm mx my mz nu O) ≤ 20 := by
  unfold sr_on
  by_cases q : sr_ok nm nu (ob_no O)
  · rw [if_pos q]
    have := q.2.1
    show ob_no O + 1 ≤ 20
    omega
  · rw [if_neg q]; exact h
theorem sr_rw_le {sg : Nat → Int32} {pn pt : Nat} {nu : Nat → Int32} (hc : pn ≤ 200) (ha : pt ≤ 200) : ∀ i, (sr_rw sg pn pt nu i).2.1 ≤ 200
  | 0 => ha
  | i + 1 => by
    have ih := sr_rw_le (sg := sg) (nu := nu) hc ha i
    show (if _ then (if _ then _ else _) else sr_rw sg pn pt nu i : Bool × Nat × (Nat → Int32)).2.1 ≤ 200
    split
    · split
      · exact sr_sk_le hc (sr_np_le hc ih)
      · exact sr_np_le hc ih
    · exact ih
section SRRO
variable {sg : Nat → Int32} {pn nm : Nat} {mx my mz : Nat → Int32} {i z : Nat} {zn : Nat → Int32} {Z : sr_Ob} {D : Int32 × Nat × (Nat → Int32) × sr_Ob}
theorem sr_ro_e (hi : 200 ≤ i) (h : sr_ro sg pn nm mx my mz (200 - i) i (z, zn, Z) = D) : (-1, z, zn, Z) = D := by
  rw [← h, show 200 - i = 0 by omega]
  rfl
theorem sr_ro_o (hi : i < 200) (h1 : pn ≤ z) (h : sr_ro sg pn nm mx my mz (200 - i) i (z, zn, Z) = D) : (-1, z, zn, Z) = D := by
  rw [← h, show 200 - i = 200 - (i + 1) + 1 by omega]
  exact (if_pos h1).symm
theorem sr_ro_n (hi : i < 200) (h1 : ¬ pn ≤ z) (h2 : ¬ ((sr_rw sg pn z zn 4).1 = true ∧ sr_ok nm (sr_rw sg pn z zn 4).2.2 (ob_no Z))) (h : sr_ro sg pn nm mx my mz (200 - i) i (z, zn, Z) = D) : (nI i, (sr_rw sg pn z zn 4).2.1, (sr_rw sg pn z zn 4).2.2, Z) = D := by
  rw [← h, show 200 - i = 200 - (i + 1) + 1 by omega]
  show _ = (if pn ≤ z then _ else _)
  rw [if_neg h1]
  exact (if_neg h2).symm
theorem sr_ro_s (hi : i < 200) (h1 : ¬ pn ≤ z) (h2 : (sr_rw sg pn z zn 4).1 = true ∧ sr_ok nm (sr_rw sg pn z zn 4).2.2 (ob_no Z)) (h : sr_ro sg pn nm mx my mz (200 - i) i (z, zn, Z) = D) :
    sr_ro sg pn nm mx my mz (200 - (i + 1)) (i + 1) ((sr_rw sg pn z zn 4).2.1, (sr_rw sg pn z zn 4).2.2, sr_on nm mx my mz (sr_rw sg pn z zn 4).2.2 Z) = D := by
  rw [← h, show 200 - i = 200 - (i + 1) + 1 by omega]
  show _ = (if pn ≤ z then _ else _)
  rw [if_neg h1]
  exact (if_pos h2).symm
end SRRO
/-- so many observations as before, whatever stands behind them -/
def sr_bk (O O2 : sr_Ob) : sr_Ob := (ob_no O, O2.2)
def sr_rd (sg : Nat → Int32) (pn nm : Nat) (mx my mz nu : Nat → Int32) (O : sr_Ob) : sr_Ob :=
  if (sr_ro sg pn nm mx my mz 200 0 (0, nu, O)).1 = -1 then (sr_ro sg pn nm mx my mz 200 0 (0, nu, O)).2.2.2 else sr_bk O (sr_ro sg pn nm mx my mz 200 0 (0, nu, O)).2.2.2
