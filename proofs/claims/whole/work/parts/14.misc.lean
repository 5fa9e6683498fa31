/-! THE PURE PART, fifth: signs, levels, what is asked of a set-up -/
theorem sg_eq (a : Int32) (k : Nat) : sr_sg a k = md_sg a k := by
  unfold sr_sg md_sg
  rw [show nI k * 8 = nI (8 * k) from by show nI k * nI 8 = _; rw [pk_mul, Nat.mul_comm]]
  generalize (a.toUInt32 >>> ((nI (8 * k)).toUInt32 &&& Int32.toUInt32 31)).toInt32 = y
  rw [pk_char, pk_and y 8 (by decide)]
  have h : y.toBitVec.toNat % 2 ^ 8 < 2 ^ 8 := Nat.mod_lt _ (by decide)
  rw [pk_tn (by omega), Nat.mod_eq_of_lt (show y.toBitVec.toNat % 2 ^ 8 < 65536 by omega)]
theorem si_eq (a : Int32) : ∀ n, sr_si a n = md_si a n
  | 0 => rfl
  | n + 1 => by
    show sr_si a n + _ = md_si a n + _
    rw [si_eq a n, sg_eq]
theorem gd_eq (a : Int32) : ∀ n, sr_gd a n = md_gd a n
  | 0 => rfl
  | n + 1 => by
    show (sr_gd a n && _) = (md_gd a n && _)
    rw [gd_eq a n, sg_eq]
theorem ad_eq {a : Int32} {sg : Nat → Int32} {pn : Nat} (h : pn + md_si a 4 ≤ 200) : ∀ i, i ≤ 4 → sr_ad a sg pn i = (md_pd a sg pn i, pn + md_si a i)
  | 0, _ => rfl
  | i + 1, hi => by
    have ih := ad_eq (sg := sg) h i (by omega)
    by_cases q : md_sg a i = 0
    · rw [sr_ad_0 (by rw [sg_eq]; exact q), md_pd_f q, md_si_f q]
      exact ih
    · have hlt := md_si_lt (a := a) (i := i) (by omega) q
      rw [sr_ad_t (by rw [sg_eq]; exact q) (by rw [ih]; show pn + md_si a i < 200; omega), ih, md_pd_t q, md_si_t q, sg_eq]
      rfl
theorem unit_eq {a b : Int32} {sg : Nat → Int32} {pn : Nat} (h : pn + md_si a 4 + md_si b 4 ≤ 200) : sr_ad b (sr_ad a sg pn 4).1 (sr_ad a sg pn 4).2 4 = (md_pd b (md_pd a sg pn 4) (pn + md_si a 4) 4, pn + md_si a 4 + md_si b 4) := by
  rw [ad_eq (a := a) (sg := sg) (by omega) 4 (Nat.le_refl _)]
  exact ad_eq h 4 (Nat.le_refl _)
/-! levels -/
def Lv (nl : Nat) (fd fl : Nat → Int32) : Prop := ∀ k, k < nl → (-100000 ≤ (fd k).toInt ∧ (fd k).toInt ≤ 100000) ∧ (1 ≤ (fl k).toInt ∧ (fl k).toInt ≤ 10000)
theorem su_sl {nl : Nat} {fd fl : Nat → Int32} (h : Lv nl fd fl) : ∀ n, n ≤ nl → n ≤ 12 → (sr_su fd n).toInt = (sr_sl fd n).toInt ∧ -((n : Int) * 100000) ≤ (sr_sl fd n).toInt ∧ (sr_sl fd n).toInt ≤ (n : Int) * 100000
  | 0, _, _ => by
    show (0 : Int32).toInt = (0 : Int64).toInt ∧ -(((0 : Nat) : Int) * 100000) ≤ (0 : Int64).toInt ∧ (0 : Int64).toInt ≤ ((0 : Nat) : Int) * 100000
    decide
  | n + 1, h1, h2 => by
    obtain ⟨i1, i2, i3⟩ := su_sl h n (by omega) (by omega)
    have b := (h n (by omega)).1
    have e1 : (sr_su fd (n + 1)).toInt = (sr_su fd n).toInt + (fd n).toInt := by
      show (sr_su fd n + fd n).toInt = _
      rw [Int32.toInt_add]
      apply Int.bmod_eq_of_le <;> omega
    have e2 : (sr_sl fd (n + 1)).toInt = (sr_sl fd n).toInt + (fd n).toInt := by
      show (sr_sl fd n + (fd n).toInt64).toInt = _
      rw [l_add (x := sr_sl fd n) (y := (fd n).toInt64) (by rw [Int32.toInt_toInt64]; omega) (by rw [Int32.toInt_toInt64]; omega), Int32.toInt_toInt64]
    omega
theorem su64 {nl : Nat} {fd fl : Nat → Int32} (h : Lv nl fd fl) (h2 : nl ≤ 12) : (sr_su fd nl).toInt64 = sr_sl fd nl := by
  apply Int64.toInt_inj.mp
  rw [Int32.toInt_toInt64]
  exact (su_sl h nl (Nat.le_refl _) h2).1
theorem sl_bd {nl : Nat} {fd fl : Nat → Int32} (h : Lv nl fd fl) : ∀ n, n ≤ nl → n ≤ 12 → (n : Int) ≤ (sr_sl fl n).toInt ∧ (sr_sl fl n).toInt ≤ (n : Int) * 10000
  | 0, _, _ => by
    show ((0 : Nat) : Int) ≤ (0 : Int64).toInt ∧ (0 : Int64).toInt ≤ ((0 : Nat) : Int) * 10000
    decide
  | n + 1, h1, h2 => by
    obtain ⟨i2, i3⟩ := sl_bd h n (by omega) (by omega)
    have b := (h n (by omega)).2
    have e2 : (sr_sl fl (n + 1)).toInt = (sr_sl fl n).toInt + (fl n).toInt := by
      show (sr_sl fl n + (fl n).toInt64).toInt = _
      rw [l_add (x := sr_sl fl n) (y := (fl n).toInt64) (by rw [Int32.toInt_toInt64]; omega) (by rw [Int32.toInt_toInt64]; omega), Int32.toInt_toInt64]
    omega
theorem sl_pos {nl : Nat} {fd fl : Nat → Int32} (h : Lv nl fd fl) (h2 : nl ≤ 12) (h0 : 0 < nl) : 0 < sr_sl fl nl := by
  have := sl_bd h nl (Nat.le_refl _) h2
  rw [Int64.lt_iff_toInt_lt, Int64.toInt_zero]
  omega
theorem sh_eq {nl k : Nat} {fd fl : Nat → Int32} (h : Lv nl fd fl) (h2 : nl ≤ 12) (h0 : 0 < nl) : (sr_sh fd fl nl (k + 1)).toInt32 = md_sh fd fl nl k := by
  unfold sr_sh md_sh
  rw [Nat.min_self, dd_fd (sl_pos h h2 h0), su64 h h2, Nat.min_comm]
theorem sh_0 {nl : Nat} {fd fl : Nat → Int32} (h : Lv nl fd fl) (h2 : nl ≤ 12) (h0 : 0 < nl) : sr_sh fd fl nl 0 = 0 := by
  unfold sr_sh
  rw [Nat.min_self, dd_fd (sl_pos h h2 h0), Nat.zero_min]
  show sr_fd (_ * 0) _ = 0
  unfold sr_fd
  rw [Int64.mul_zero, Int64.toInt_zero, Int.zero_ediv]
  rfl
theorem cd_0 {nl : Nat} {fd fl : Nat → Int32} (h : Lv nl fd fl) (h2 : nl ≤ 12) (h0 : 0 < nl) : sr_cd fd fl nl 0 = fd 0 - md_sh fd fl nl 0 + 0 := by
  unfold sr_cd
  rw [sh_0 h h2 h0, Int64.sub_zero, Int64.toInt32_sub, Int32.toInt32_toInt64, sh_eq h h2 h0, Int32.add_zero]
theorem cd_s {nl k : Nat} {fd fl : Nat → Int32} (h : Lv nl fd fl) (h2 : nl ≤ 12) (h0 : 0 < nl) : sr_cd fd fl nl (k + 1) = fd (k + 1) - md_sh fd fl nl (k + 1) + md_sh fd fl nl k := by
  unfold sr_cd
  rw [Int64.toInt32_sub, Int64.toInt32_sub, Int32.toInt32_toInt64, sh_eq h h2 h0, sh_eq h h2 h0]
  grind
theorem Lv.add {nl : Nat} {fd fl : Nat → Int32} (h : Lv nl fd fl) {a b : Int32} (h1 : ¬ a < -100000) (h2 : a ≤ 100000) (h3 : ¬ b < 1) (h4 : b ≤ 10000) : Lv (nl + 1) (upd fd nl a) (upd fl nl b) := fun k hk => by
  rw [Int32.lt_iff_toInt_lt, show (-100000 : Int32).toInt = -100000 from by decide] at h1
  rw [Int32.le_iff_toInt_le, show (100000 : Int32).toInt = 100000 from by decide] at h2
  rw [Int32.lt_iff_toInt_lt, show (1 : Int32).toInt = 1 from by decide] at h3
  rw [Int32.le_iff_toInt_le, show (10000 : Int32).toInt = 10000 from by decide] at h4
  by_cases q : k = nl
  · rw [q, pk_us, pk_us]; omega
  · rw [pk_un q, pk_un q]; exact h k (by omega)
/-! what is asked of a set-up -/
section ASK
variable {O : sr_Ob} {S : sr_St} {kn : Int32} {P Q s t B M H : Int64} {ho hq gp gw gz gu : Nat → Int32} {mk : Nat → Nat}
theorem mil_st {fa : Nat → Int64} {k : Nat} {X Y : Int64} (h1 : fa k = X) (hY : 0 < Y) : sr_mil fa Y k = md_mil X Y := by
  unfold sr_mil md_mil
  rw [h1, dd_fd hY, dd_fd hY, Int64.mul_comm _ 1000000, Int64.mul_comm _ 1000000]
theorem Sr.t0 (h : Sr O S kn P Q s t B M H ho hq) : sr_mil (st_fa S) (st_dv S) 0 = md_mil P B := h.2.2.2.2.2.2.2.2.2.2.2.1
theorem Sr.t1 (h : Sr O S kn P Q s t B M H ho hq) : sr_mil (st_fa S) (st_dv S) 1 = md_mil Q B := h.2.2.2.2.2.2.2.2.2.2.2.2.1
theorem Sr.t2 (h : Sr O S kn P Q s t B M H ho hq) : sr_mil (st_fa S) (st_dv S) 2 = md_mil s (M * B) := by
  obtain ⟨h1, h2, h3, h4, h5, h6, h7, h8, h9, h10, h11, h12, h13, h14⟩ := h
  rw [h6]; exact mil_st h9 h4
theorem Sr.t3 (h : Sr O S kn P Q s t B M H ho hq) : sr_mil (st_fa S) (st_dv S) 3 = md_mil t (M * B) := by
  obtain ⟨h1, h2, h3, h4, h5, h6, h7, h8, h9, h10, h11, h12, h13, h14⟩ := h
  rw [h6]; exact mil_st h10 h4
theorem Sr.p0 (h : Sr O S kn P Q s t B M H ho hq) (a b d : Int32) : sr_pl S 0 a b d = md_p0 P Q s M B a b := by
  obtain ⟨h1, h2, h3, h4, h5, h6, h7, h8, h9, h10, h11, h12, h13, h14⟩ := h
  show sr_px (st_fa S) (st_dv S) a b = _
  rw [h6]; exact px_eq h7 h8 h9 h4 a b
theorem Sr.p1 (h : Sr O S kn P Q s t B M H ho hq) (a b d : Int32) : sr_pl S 1 a b d = md_p1 P Q t M B a b := by
  obtain ⟨h1, h2, h3, h4, h5, h6, h7, h8, h9, h10, h11, h12, h13, h14⟩ := h
  show sr_py (st_fa S) (st_dv S) a b = _
  rw [h6]; exact py_eq h7 h8 h10 h4 a b
theorem Sr.p2 (h : Sr O S kn P Q s t B M H ho hq) (a b d : Int32) : sr_pl S 2 a b d = d + H.toInt32 := by
  obtain ⟨h1, h2, h3, h4, h5, h6, h7, h8, h9, h10, h11, h12, h13, h14⟩ := h
  show d + st_ht S = _
  rw [h11]
theorem Sr.r0 (h : Sr O S kn P Q s t B M H ho hq) (hL : LkO O mk gp gw gz gu) {k : Nat} (hk : k < st_sc S) : st_n0 S k = md_x0 gp gw mk P Q s M B k := by
  obtain ⟨h1, h2, h3, h4, h5, h6, h7, h8, h9, h10, h11, h12, h13, h14⟩ := h
  obtain ⟨⟨l1, l2, l3⟩, ⟨l4, l5, l6⟩, -⟩ := hL k (by omega)
  rw [(h14 k hk).1, ← l1, ← l4, ← l5]
  rfl
theorem Sr.r1 (h : Sr O S kn P Q s t B M H ho hq) (hL : LkO O mk gp gw gz gu) {k : Nat} (hk : k < st_sc S) : st_n1 S k = md_x1 gp gw mk P Q t M B k := by
  obtain ⟨h1, h2, h3, h4, h5, h6, h7, h8, h9, h10, h11, h12, h13, h14⟩ := h
  obtain ⟨⟨l1, l2, l3⟩, ⟨l4, l5, l6⟩, -⟩ := hL k (by omega)
  rw [(h14 k hk).2.1, ← l2, ← l4, ← l5]
  rfl
theorem Sr.r2 (h : Sr O S kn P Q s t B M H ho hq) (hL : LkO O mk gp gw gz gu) {k : Nat} (hk : k < st_sc S) : st_n2 S k = md_x2 gp gw ho mk H k := by
  obtain ⟨h1, h2, h3, h4, h5, h6, h7, h8, h9, h10, h11, h12, h13, h14⟩ := h
  obtain ⟨⟨l1, l2, l3⟩, ⟨l4, l5, l6⟩, -⟩ := hL k (by omega)
  rw [(h14 k hk).2.2.1, ← l3, ← l6]
  rfl
theorem Sr.ss (h : Sr O S kn P Q s t B M H ho hq) (hL : LkO O mk gp gw gz gu) : ∀ n, n ≤ st_sc S → sr_ss (st_n0 S) (st_n1 S) (st_n2 S) (st_fq S) n = md_ss gp gw ho mk P Q s t M B H hq n
  | 0, _ => rfl
  | n + 1, hn => by
    have ih := Sr.ss h hL n (by omega)
    have e4 : st_fq S n = hq n := (h.2.2.2.2.2.2.2.2.2.2.2.2.2 n (by omega)).2.2.2
    by_cases q : hq n = 0
    · rw [sr_ss_f (by rw [e4]; exact q), md_ss_f q, ih]
    · rw [sr_ss_t (by rw [e4]; exact q), md_ss_t q, ih, h.r0 hL (k := n) (by omega), h.r1 hL (k := n) (by omega), h.r2 hL (k := n) (by omega), Int64.add_assoc (md_ss gp gw ho mk P Q s t M B H hq n)]
      rfl
/-- a set-up stays what it was when observations come, or change their prism or use -/
theorem Sr.keep {O' : sr_Ob} (h : Sr O S kn P Q s t B M H ho hq) (hn : ob_no O ≤ ob_no O') (hk : ∀ k, k < ob_no O → ob_fx O' k = ob_fx O k ∧ ob_fy O' k = ob_fy O k ∧ ob_fz O' k = ob_fz O k ∧ ob_fu O' k = ob_fu O k ∧ ob_fv O' k = ob_fv O k ∧ ob_fw O' k = ob_fw O k) : Sr O' S kn P Q s t B M H ho hq := by
  obtain ⟨h1, h2, h3, h4, h5, h6, h7, h8, h9, h10, h11, h12, h13, h14⟩ := h
  refine ⟨h1, h2, by omega, h4, h5, h6, h7, h8, h9, h10, h11, h12, h13, fun k hk9 => ?_⟩
  obtain ⟨e1, e2, e3, e4, e5, e6⟩ := hk k (by omega)
  rw [e1, e2, e3, e4, e5, e6]
  exact h14 k hk9
end ASK
theorem x3_add {gp mx my mz : Nat → Int32} (h : ∀ j, gp (3 * j) = mx j ∧ gp (3 * j + 1) = my j ∧ gp (3 * j + 2) = mz j) (n : Nat) (a b d : Int32) : ∀ j, upd (upd (upd gp (3 * n) a) (3 * n + 1) b) (3 * n + 2) d (3 * j) = upd mx n a j ∧ upd (upd (upd gp (3 * n) a) (3 * n + 1) b) (3 * n + 2) d (3 * j + 1) = upd my n b j ∧ upd (upd (upd gp (3 * n) a) (3 * n + 1) b) (3 * n + 2) d (3 * j + 2) = upd mz n d j := fun j => by
  by_cases q : j = n
  · subst q
    rw [pk_us, pk_us, pk_us]
    refine ⟨?_, ?_, ?_⟩
    · rw [pk_un (by omega), pk_un (by omega), pk_us]
    · rw [pk_un (by omega), pk_us]
    · rw [pk_us]
  · obtain ⟨h1, h2, h3⟩ := h j
    rw [pk_un q, pk_un q, pk_un q]
    refine ⟨?_, ?_, ?_⟩
    · rw [pk_un (by omega), pk_un (by omega), pk_un (by omega)]; exact h1
    · rw [pk_un (by omega), pk_un (by omega), pk_un (by omega)]; exact h2
    · rw [pk_un (by omega), pk_un (by omega), pk_un (by omega)]; exact h3
theorem le_nlt {a b : Int32} : a ≤ b ↔ ¬ b < a := Int32.not_lt.symm
