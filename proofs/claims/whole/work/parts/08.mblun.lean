/-! blunders of the reference -/
def md_GN (no : Nat) (g : Nat → Int32) : Int64 := (nI (sr_cu g no)).toInt64
def md_WD (gw : Nat → Int32) (no : Nat) (g : Nat → Int32) : Int64 := sr_spread ((nI (sr_cu g no)).toInt64) (sr_sm g (md_g4 gw) no) (sr_sm g (md_g5 gw) no) (sr_sm g (md_g6 gw) no)
def md_FL (gp gw : Nat → Int32) (mk : Nat → Nat) (no : Nat) (g : Nat → Int32) (k : Nat) : Int64 := md_fl gp gw mk (sr_cosine ((nI (sr_cu g no)).toInt64) (sr_sm g (md_g2 gp mk) no) (sr_sm g (md_g3 gp mk) no) (sr_sm g (md_g4 gw) no) (sr_sm g (md_g5 gw) no) (sr_sm g (md_g7 gp gw mk) no)) (sr_sine ((nI (sr_cu g no)).toInt64) (sr_sm g (md_g2 gp mk) no) (sr_sm g (md_g3 gp mk) no) (sr_sm g (md_g4 gw) no) (sr_sm g (md_g5 gw) no) (sr_sm g (md_g8 gp gw mk) no)) (sr_sm g (md_g2 gp mk) no * sr_spread ((nI (sr_cu g no)).toInt64) (sr_sm g (md_g4 gw) no) (sr_sm g (md_g5 gw) no) (sr_sm g (md_g6 gw) no) - sr_cosine ((nI (sr_cu g no)).toInt64) (sr_sm g (md_g2 gp mk) no) (sr_sm g (md_g3 gp mk) no) (sr_sm g (md_g4 gw) no) (sr_sm g (md_g5 gw) no) (sr_sm g (md_g7 gp gw mk) no) * sr_sm g (md_g4 gw) no + sr_sine ((nI (sr_cu g no)).toInt64) (sr_sm g (md_g2 gp mk) no) (sr_sm g (md_g3 gp mk) no) (sr_sm g (md_g4 gw) no) (sr_sm g (md_g5 gw) no) (sr_sm g (md_g8 gp gw mk) no) * sr_sm g (md_g5 gw) no) (sr_sm g (md_g3 gp mk) no * sr_spread ((nI (sr_cu g no)).toInt64) (sr_sm g (md_g4 gw) no) (sr_sm g (md_g5 gw) no) (sr_sm g (md_g6 gw) no) - sr_sine ((nI (sr_cu g no)).toInt64) (sr_sm g (md_g2 gp mk) no) (sr_sm g (md_g3 gp mk) no) (sr_sm g (md_g4 gw) no) (sr_sm g (md_g5 gw) no) (sr_sm g (md_g8 gp gw mk) no) * sr_sm g (md_g4 gw) no - sr_cosine ((nI (sr_cu g no)).toInt64) (sr_sm g (md_g2 gp mk) no) (sr_sm g (md_g3 gp mk) no) (sr_sm g (md_g4 gw) no) (sr_sm g (md_g5 gw) no) (sr_sm g (md_g7 gp gw mk) no) * sr_sm g (md_g5 gw) no) ((nI (sr_cu g no)).toInt64) (sr_spread ((nI (sr_cu g no)).toInt64) (sr_sm g (md_g4 gw) no) (sr_sm g (md_g5 gw) no) (sr_sm g (md_g6 gw) no)) k
def md_wo (fl : Nat → Int64) (g : Nat → Int32) : Nat → Nat
  | 0 => 0
  | i + 1 => if g i = 0 then md_wo fl g i else if md_wo fl g i = 0 ∨ ¬ fl i ≤ fl (md_wo fl g i - 1) then i + 1 else md_wo fl g i
def md_wi (w : Nat) : Int32 := if w = 0 then -1 else nI (w - 1)
section MDWO
variable {fl : Nat → Int64} {g : Nat → Int32} {i k : Nat}
theorem md_wi_s {w : Nat} (h : w = k + 1) : md_wi w = nI k := by
  subst h
  exact if_neg (by omega)
theorem md_wi_ne {w : Nat} (h : ¬ md_wi w = -1) : ∃ k, w = k + 1 := by
  cases w with
  | zero => exact absurd rfl h
  | succ k => exact ⟨k, rfl⟩
theorem md_wo_us : ∀ {n k : Nat}, md_wo fl g n = k + 1 → ¬ g k = 0 ∧ k < n
  | 0, k, h => by exact absurd h (by show ¬ 0 = k + 1; omega)
  | n + 1, k, h => by
    have h : (if g n = 0 then md_wo fl g n else if md_wo fl g n = 0 ∨ ¬ fl n ≤ fl (md_wo fl g n - 1) then n + 1 else md_wo fl g n) = k + 1 := h
    by_cases q : g n = 0
    · rw [if_pos q] at h
      have := md_wo_us h
      exact ⟨this.1, by omega⟩
    · rw [if_neg q] at h
      by_cases q2 : md_wo fl g n = 0 ∨ ¬ fl n ≤ fl (md_wo fl g n - 1)
      · rw [if_pos q2] at h
        have e : n = k := by omega
        subst e
        exact ⟨q, by omega⟩
      · rw [if_neg q2] at h
        have := md_wo_us h
        exact ⟨this.1, by omega⟩
theorem md_wb_z (h : g i = 0) : md_wi (md_wo fl g i) = md_wi (md_wo fl g (i + 1)) := congrArg md_wi (if_pos h).symm
theorem md_wb_n (hi : i < 2 ^ 31) (h : ¬ g i = 0) (h2 : md_wi (md_wo fl g i) = -1) : nI i = md_wi (md_wo fl g (i + 1)) := by
  have e : md_wo fl g i = 0 := by
    cases q : md_wo fl g i with
    | zero => rfl
    | succ k =>
      rw [md_wi_s q] at h2
      exact absurd h2 (nI_ne_m1 (by have := (md_wo_us q).2; omega))
  have e2 : md_wo fl g (i + 1) = i + 1 := by
    show (if g i = 0 then _ else if _ then _ else _) = _
    rw [if_neg h, if_pos (Or.inl e)]
  exact (md_wi_s e2).symm
theorem md_wb_g (h : ¬ g i = 0) (hk : md_wo fl g i = k + 1) (h2 : ¬ fl i ≤ fl k) : nI i = md_wi (md_wo fl g (i + 1)) := by
  have e2 : md_wo fl g (i + 1) = i + 1 := by
    show (if g i = 0 then _ else if _ then _ else _) = _
    rw [if_neg h, if_pos (Or.inr (by rw [hk]; exact h2))]
  exact (md_wi_s e2).symm
theorem md_wb_l (h : ¬ g i = 0) (hk : md_wo fl g i = k + 1) (h2 : fl i ≤ fl k) : nI k = md_wi (md_wo fl g (i + 1)) := by
  have e2 : md_wo fl g (i + 1) = k + 1 := by
    show (if g i = 0 then _ else if _ then _ else _) = _
    rw [if_neg h, if_neg (by rw [hk]; intro q; rcases q with q | q; exact absurd q (by omega); exact q h2)]
    exact hk
  exact (md_wi_s e2).symm
theorem md_wo_pos : ∀ {n : Nat}, 0 < sr_cu g n → ∃ k, md_wo fl g n = k + 1
  | 0, h => absurd h (by show ¬ 0 < 0; omega)
  | n + 1, h => by
    by_cases q : g n = 0
    · rw [sr_cu_f q] at h
      rw [show md_wo fl g (n + 1) = md_wo fl g n from if_pos q]
      exact md_wo_pos h
    · by_cases q2 : md_wo fl g n = 0 ∨ ¬ fl n ≤ fl (md_wo fl g n - 1)
      · exact ⟨n, by show (if g n = 0 then _ else if _ then _ else _) = _; rw [if_neg q, if_pos q2]⟩
      · refine ⟨md_wo fl g n - 1, ?_⟩
        show (if g n = 0 then _ else if _ then _ else _) = _
        rw [if_neg q, if_neg q2]
        have : ¬ md_wo fl g n = 0 := fun w => q2 (Or.inl w)
        omega
end MDWO

theorem md_cp2 (i : Nat) (g g2 f : Nat → Int32) : sr_cp i g (sr_cp i g2 f) = sr_cp i g f := by
  funext j
  unfold sr_cp
  by_cases h : j < i
  · rw [if_pos h, if_pos h]
  · rw [if_neg h, if_neg h, if_neg h]
theorem md_01 {g : Nat → Int32} {k : Nat} (h : ∀ j, g j = 0 ∨ g j = 1) : ∀ j, upd g k 0 j = 0 ∨ upd g k 0 j = 1 := by
  intro j
  unfold upd
  by_cases q : j = k
  · rw [if_pos q]; exact Or.inl rfl
  · rw [if_neg q]; exact h j
theorem md_uu {g : Nat → Int32} {k : Nat} (h : ∀ j, g j = 0 ∨ g j = 1) (hk : ¬ g k = 0) : upd (upd g k 0) k 1 = g := by
  funext j
  unfold upd
  by_cases q : j = k
  · rw [if_pos q, q]; exact ((h k).resolve_left hk).symm
  · rw [if_neg q, if_neg q]
theorem md_uz {g : Nat → Int32} {k : Nat} : upd (upd g k 0) k 0 = upd g k 0 := by
  funext j
  unfold upd
  by_cases q : j = k
  · rw [if_pos q, if_pos q]
  · rw [if_neg q, if_neg q]
theorem md_cu_o {g : Nat → Int32} {k : Nat} : ∀ {n : Nat}, n ≤ k → sr_cu (upd g k 0) n = sr_cu g n
  | 0, _ => rfl
  | n + 1, h => by
    have e : upd g k 0 n = g n := by unfold upd; rw [if_neg (by omega)]
    have ih := md_cu_o (g := g) (k := k) (n := n) (by omega)
    by_cases q : g n = 0
    · rw [sr_cu_f q, sr_cu_f (by rw [e]; exact q), ih]
    · rw [sr_cu_t q, sr_cu_t (by rw [e]; exact q), ih]
theorem md_cu_u {g : Nat → Int32} {k : Nat} (hk : ¬ g k = 0) : ∀ {n : Nat}, k < n → sr_cu (upd g k 0) n + 1 = sr_cu g n
  | 0, h => absurd h (Nat.not_lt_zero _)
  | n + 1, h => by
    by_cases q : k = n
    · subst q
      rw [sr_cu_t hk, sr_cu_f (by unfold upd; rw [if_pos rfl]), md_cu_o (Nat.le_refl _)]
    · have e : upd g k 0 n = g n := by unfold upd; rw [if_neg (by omega)]
      have ih := md_cu_u (g := g) (k := k) hk (n := n) (by omega)
      by_cases q : g n = 0
      · rw [sr_cu_f q, sr_cu_f (by rw [e]; exact q), ih]
      · rw [sr_cu_t q, sr_cu_t (by rw [e]; exact q), ← ih]
/-- blunders left out one at a time: how many, and the flags behind it -/
def md_bl (gp gw : Nat → Int32) (mk : Nat → Nat) (no : Nat) (a : Int32) : Nat → Nat → (Nat → Int32) → Nat × (Nat → Int32)
  | 0, n, g => (n, g)
  | f + 1, n, g => if 3 < sr_cu g no ∧ ¬ md_FL gp gw mk no g (md_wo (md_FL gp gw mk no g) g no - 1) ≤ a.toInt64 * a.toInt64 then
      if md_WD gw no (upd g (md_wo (md_FL gp gw mk no g) g no - 1) 0) = 0 then (n, g) else md_bl gp gw mk no a f (n + 1) (upd g (md_wo (md_FL gp gw mk no g) g no - 1) 0)
    else (n, g)
section MDBL
variable {gp gw : Nat → Int32} {mk : Nat → Nat} {no : Nat} {a : Int32} {f n : Nat} {g : Nat → Int32} {k : Nat}
theorem md_bl_3 (h : ¬ 3 < sr_cu g no) : md_bl gp gw mk no a (f + 1) n g = (n, g) := if_neg (fun q => h q.1)
theorem md_bl_l (hk : md_wo (md_FL gp gw mk no g) g no = k + 1) (h : md_FL gp gw mk no g k ≤ a.toInt64 * a.toInt64) : md_bl gp gw mk no a (f + 1) n g = (n, g) := if_neg (fun q => q.2 (by rw [hk]; exact h))
theorem md_bl_w (hk : md_wo (md_FL gp gw mk no g) g no = k + 1) (h : md_WD gw no (upd g k 0) = 0) : md_bl gp gw mk no a (f + 1) n g = (n, g) := by
  show (if _ then (if _ then _ else _) else _) = _
  rw [hk]
  show (if _ then (if md_WD gw no (upd g k 0) = 0 then _ else _) else _) = _
  rw [if_pos h]
  exact ite_self _
theorem md_bl_s (hk : md_wo (md_FL gp gw mk no g) g no = k + 1) (h3 : 3 < sr_cu g no) (hl : ¬ md_FL gp gw mk no g k ≤ a.toInt64 * a.toInt64) (h : ¬ md_WD gw no (upd g k 0) = 0) : md_bl gp gw mk no a (f + 1) n g = md_bl gp gw mk no a f (n + 1) (upd g k 0) := by
  show (if _ then (if _ then _ else _) else _) = _
  rw [hk]
  show (if 3 < sr_cu g no ∧ ¬ md_FL gp gw mk no g k ≤ _ then (if md_WD gw no (upd g k 0) = 0 then _ else md_bl gp gw mk no a f (n + 1) (upd g k 0)) else _) = _
  rw [if_pos ⟨h3, hl⟩, if_neg h]
end MDBL
