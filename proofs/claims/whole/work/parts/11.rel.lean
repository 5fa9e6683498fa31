/-! THE PURE PART, second: what the program's set-up is to the reference's -/
/-- the observations, in both -/
def Lk (no : Nat) (mk : Nat → Nat) (gp gw gz gu fx fy fz fu fv fw fp fe : Nat → Int32) : Prop := ∀ o, o < no → (gp (3 * mk o) = fx o ∧ gp (3 * mk o + 1) = fy o ∧ gp (3 * mk o + 2) = fz o) ∧ (gw (3 * o) = fu o ∧ gw (3 * o + 1) = fv o ∧ gw (3 * o + 2) = fw o) ∧ gz o = fp o ∧ gu o = fe o
def Bd (no : Nat) (fx fy fz fu fv fw fp : Nat → Int32) : Prop := ∀ o, o < no → (sr_near (fx o) ∧ sr_near (fy o) ∧ sr_near (fz o)) ∧ (sr_near (fu o) ∧ sr_near (fv o) ∧ sr_near (fw o)) ∧ ¬ fp o < 0 ∧ fp o ≤ 3000
theorem g9_eq {z w p : Int32} (hz : sr_near z) (hw : sr_near w) (h0 : ¬ p < 0) (h3 : p ≤ 3000) : (z - (w - p)).toInt64 = z.toInt64 - w.toInt64 + p.toInt64 := by
  have b1 := near_i hz
  have b2 := near_i hw
  rw [Int32.lt_iff_toInt_lt, Int32.toInt_zero] at h0
  rw [Int32.le_iff_toInt_le, show (3000 : Int32).toInt = 3000 from by decide] at h3
  have e1 : (w - p).toInt = w.toInt - p.toInt := by
    rw [Int32.toInt_sub]
    apply Int.bmod_eq_of_le <;> omega
  have e2 : (z - (w - p)).toInt = z.toInt - (w.toInt - p.toInt) := by
    rw [Int32.toInt_sub, e1]
    apply Int.bmod_eq_of_le <;> omega
  have f1 : z.toInt64.toInt = z.toInt := Int32.toInt_toInt64 z
  have f2 : w.toInt64.toInt = w.toInt := Int32.toInt_toInt64 w
  have f3 : p.toInt64.toInt = p.toInt := Int32.toInt_toInt64 p
  have e3 : (z.toInt64 - w.toInt64).toInt = z.toInt - w.toInt := by
    rw [l_sub (x := z.toInt64) (y := w.toInt64) (by omega) (by omega), f1, f2]
  apply Int64.toInt_inj.mp
  rw [Int32.toInt_toInt64, e2, l_add (x := z.toInt64 - w.toInt64) (y := p.toInt64) (by omega) (by omega), e3, f3]
  omega
section REL
variable {no : Nat} {mk : Nat → Nat} {gp gw gz gu fx fy fz fu fv fw fp fe : Nat → Int32}
def mv_P (gp gw gu : Nat → Int32) (mk : Nat → Nat) (no : Nat) : Int64 := sr_cosine ((nI (sr_cu gu no)).toInt64) (sr_sm gu (md_g2 gp mk) no) (sr_sm gu (md_g3 gp mk) no) (sr_sm gu (md_g4 gw) no) (sr_sm gu (md_g5 gw) no) (sr_sm gu (md_g7 gp gw mk) no)
def mv_Q (gp gw gu : Nat → Int32) (mk : Nat → Nat) (no : Nat) : Int64 := sr_sine ((nI (sr_cu gu no)).toInt64) (sr_sm gu (md_g2 gp mk) no) (sr_sm gu (md_g3 gp mk) no) (sr_sm gu (md_g4 gw) no) (sr_sm gu (md_g5 gw) no) (sr_sm gu (md_g8 gp gw mk) no)
def mv_S (gp gw gu : Nat → Int32) (mk : Nat → Nat) (no : Nat) : Int64 := sr_sm gu (md_g2 gp mk) no * md_WD gw no gu - mv_P gp gw gu mk no * sr_sm gu (md_g4 gw) no + mv_Q gp gw gu mk no * sr_sm gu (md_g5 gw) no
def mv_T (gp gw gu : Nat → Int32) (mk : Nat → Nat) (no : Nat) : Int64 := sr_sm gu (md_g3 gp mk) no * md_WD gw no gu - mv_Q gp gw gu mk no * sr_sm gu (md_g4 gw) no - mv_P gp gw gu mk no * sr_sm gu (md_g5 gw) no
def mv_H (gp gw gz gu : Nat → Int32) (mk : Nat → Nat) (no : Nat) : Int64 := sr_fd (sr_sm gu (md_g9 gp gw gz mk) no) ((nI (sr_cu gu no)).toInt64)
theorem Lk.near (hL : Lk no mk gp gw gz gu fx fy fz fu fv fw fp fe) (hB : Bd no fx fy fz fu fv fw fp) : ∀ k, k < no → sr_near (gw (3 * k)) ∧ sr_near (gw (3 * k + 1)) := fun k hk => by
  obtain ⟨-, ⟨h1, h2, -⟩, -⟩ := hL k hk
  rw [h1, h2]
  exact ⟨(hB k hk).2.1.1, (hB k hk).2.1.2.1⟩
theorem su_1 (hn : no ≤ 20) (hL : Lk no mk gp gw gz gu fx fy fz fu fv fw fp fe) : sr_sums no fx fy fz fu fv fw fp fe 1 = (nI (sr_cu gu no)).toInt64 := by
  show sr_sm fe (fun _ => 1) no = _
  rw [sm_one hn, cu_congr no (fun k hk => (hL k hk).2.2.2)]
theorem su_2 (hL : Lk no mk gp gw gz gu fx fy fz fu fv fw fp fe) : sr_sums no fx fy fz fu fv fw fp fe 2 = sr_sm gu (md_g2 gp mk) no := sm_congr no (fun k hk => ⟨(hL k hk).2.2.2.symm, by show (fx k).toInt64 = _; rw [← (hL k hk).1.1]; rfl⟩)
theorem su_3 (hL : Lk no mk gp gw gz gu fx fy fz fu fv fw fp fe) : sr_sums no fx fy fz fu fv fw fp fe 3 = sr_sm gu (md_g3 gp mk) no := sm_congr no (fun k hk => ⟨(hL k hk).2.2.2.symm, by show (fy k).toInt64 = _; rw [← (hL k hk).1.2.1]; rfl⟩)
theorem su_4 (hL : Lk no mk gp gw gz gu fx fy fz fu fv fw fp fe) : sr_sums no fx fy fz fu fv fw fp fe 4 = sr_sm gu (md_g4 gw) no := sm_congr no (fun k hk => ⟨(hL k hk).2.2.2.symm, by show (fu k).toInt64 = _; rw [← (hL k hk).2.1.1]; rfl⟩)
theorem su_5 (hL : Lk no mk gp gw gz gu fx fy fz fu fv fw fp fe) : sr_sums no fx fy fz fu fv fw fp fe 5 = sr_sm gu (md_g5 gw) no := sm_congr no (fun k hk => ⟨(hL k hk).2.2.2.symm, by show (fv k).toInt64 = _; rw [← (hL k hk).2.1.2.1]; rfl⟩)
theorem su_6 (hL : Lk no mk gp gw gz gu fx fy fz fu fv fw fp fe) : sr_sums no fx fy fz fu fv fw fp fe 6 = sr_sm gu (md_g6 gw) no := sm_congr no (fun k hk => ⟨(hL k hk).2.2.2.symm, by show sr_g6 fu fv k = md_g6 gw k; unfold sr_g6 md_g6; rw [(hL k hk).2.1.1, (hL k hk).2.1.2.1]⟩)
theorem su_7 (hL : Lk no mk gp gw gz gu fx fy fz fu fv fw fp fe) : sr_sums no fx fy fz fu fv fw fp fe 7 = sr_sm gu (md_g7 gp gw mk) no := sm_congr no (fun k hk => ⟨(hL k hk).2.2.2.symm, by show sr_g7 fx fy fu fv k = md_g7 gp gw mk k; unfold sr_g7 md_g7; rw [(hL k hk).2.1.1, (hL k hk).2.1.2.1, (hL k hk).1.1, (hL k hk).1.2.1]⟩)
theorem su_8 (hL : Lk no mk gp gw gz gu fx fy fz fu fv fw fp fe) : sr_sums no fx fy fz fu fv fw fp fe 8 = sr_sm gu (md_g8 gp gw mk) no := sm_congr no (fun k hk => ⟨(hL k hk).2.2.2.symm, by show sr_g8 fx fy fu fv k = md_g8 gp gw mk k; unfold sr_g8 md_g8; rw [(hL k hk).2.1.1, (hL k hk).2.1.2.1, (hL k hk).1.1, (hL k hk).1.2.1]⟩)
theorem su_9 (hL : Lk no mk gp gw gz gu fx fy fz fu fv fw fp fe) (hB : Bd no fx fy fz fu fv fw fp) : sr_sums no fx fy fz fu fv fw fp fe 9 = sr_sm gu (md_g9 gp gw gz mk) no := sm_congr no (fun k hk => ⟨(hL k hk).2.2.2.symm, by
  show sr_g9 fz fw fp k = md_g9 gp gw gz mk k
  unfold sr_g9 md_g9
  rw [(hL k hk).2.1.2.2, (hL k hk).1.2.2, (hL k hk).2.2.1]
  exact g9_eq (hB k hk).1.2.2 (hB k hk).2.1.2.2 (hB k hk).2.2.1 (hB k hk).2.2.2⟩)
theorem sp_eq (hn : no ≤ 20) (hL : Lk no mk gp gw gz gu fx fy fz fu fv fw fp fe) : sr_sp no fx fy fz fu fv fw fp fe = md_WD gw no gu := by
  unfold sr_sp md_WD
  rw [su_1 hn hL, su_4 hL, su_5 hL, su_6 hL]
theorem sp_pos (hn : no ≤ 20) (hL : Lk no mk gp gw gz gu fx fy fz fu fv fw fp fe) (hB : Bd no fx fy fz fu fv fw fp) : 0 < sr_sp no fx fy fz fu fv fw fp fe ↔ ¬ md_WD gw no gu = 0 := by
  rw [sp_eq hn hL]
  have b := wd_bd (g := gu) hn (hL.near hB)
  rw [Int64.lt_iff_toInt_lt, Int64.toInt_zero]
  constructor
  · intro h q
    rw [q] at h
    exact absurd h (by decide)
  · intro h
    have h1 : ¬ (md_WD gw no gu).toInt = 0 := fun q => h (Int64.toInt_inj.mp (by rw [q]; rfl))
    omega
theorem pq_bd (hn : no ≤ 20) (hL : Lk no mk gp gw gz gu fx fy fz fu fv fw fp fe) (hB : Bd no fx fy fz fu fv fw fp) {g : Nat → Int32} : (-300000000000 ≤ (mv_P gp gw g mk no).toInt ∧ (mv_P gp gw g mk no).toInt ≤ 300000000000) ∧ (-300000000000 ≤ (mv_Q gp gw g mk no).toInt ∧ (mv_Q gp gw g mk no).toInt ≤ 300000000000) := by
  have hc := sr_cu_le g no
  have hN : ((nI (sr_cu g no)).toInt64).toInt = (sr_cu g no : Int) := gn_int (by omega)
  have nb : ∀ {x : Int32}, sr_near x → -10000 ≤ (x.toInt64).toInt ∧ (x.toInt64).toInt ≤ 10000 := fun {x} h => by rw [Int32.toInt_toInt64]; exact near_i h
  have b2 : ∀ k, k < no → -10000 ≤ (md_g2 gp mk k).toInt ∧ (md_g2 gp mk k).toInt ≤ 10000 := fun k hk => nb (by rw [(hL k hk).1.1]; exact (hB k hk).1.1)
  have b3 : ∀ k, k < no → -10000 ≤ (md_g3 gp mk k).toInt ∧ (md_g3 gp mk k).toInt ≤ 10000 := fun k hk => nb (by rw [(hL k hk).1.2.1]; exact (hB k hk).1.2.1)
  have b4 : ∀ k, k < no → -10000 ≤ (md_g4 gw k).toInt ∧ (md_g4 gw k).toInt ≤ 10000 := fun k hk => nb (by rw [(hL k hk).2.1.1]; exact (hB k hk).2.1.1)
  have b5 : ∀ k, k < no → -10000 ≤ (md_g5 gw k).toInt ∧ (md_g5 gw k).toInt ≤ 10000 := fun k hk => nb (by rw [(hL k hk).2.1.2.1]; exact (hB k hk).2.1.2.1)
  have b7 : ∀ k, k < no → -200000000 ≤ (md_g7 gp gw mk k).toInt ∧ (md_g7 gp gw mk k).toInt ≤ 200000000 := fun k hk => by
    obtain ⟨m1, m2, m3⟩ := l_mulb (b4 k hk) (b2 k hk) (by decide)
    obtain ⟨n1, n2, n3⟩ := l_mulb (b5 k hk) (b3 k hk) (by decide)
    have e : (md_g7 gp gw mk k).toInt = (md_g4 gw k * md_g2 gp mk k).toInt + (md_g5 gw k * md_g3 gp mk k).toInt := l_add (x := md_g4 gw k * md_g2 gp mk k) (y := md_g5 gw k * md_g3 gp mk k) (by omega) (by omega)
    omega
  have b8 : ∀ k, k < no → -200000000 ≤ (md_g8 gp gw mk k).toInt ∧ (md_g8 gp gw mk k).toInt ≤ 200000000 := fun k hk => by
    obtain ⟨m1, m2, m3⟩ := l_mulb (b4 k hk) (b3 k hk) (by decide)
    obtain ⟨n1, n2, n3⟩ := l_mulb (b5 k hk) (b2 k hk) (by decide)
    have e : (md_g8 gp gw mk k).toInt = (md_g4 gw k * md_g3 gp mk k).toInt - (md_g5 gw k * md_g2 gp mk k).toInt := l_sub (x := md_g4 gw k * md_g3 gp mk k) (y := md_g5 gw k * md_g2 gp mk k) (by omega) (by omega)
    omega
  have c2 := sm_bd (us := g) (B := 10000) (by decide) (by decide) hn b2
  have c3 := sm_bd (us := g) (B := 10000) (by decide) (by decide) hn b3
  have c4 := sm_bd (us := g) (B := 10000) (by decide) (by decide) hn b4
  have c5 := sm_bd (us := g) (B := 10000) (by decide) (by decide) hn b5
  have c7 := sm_bd (us := g) (B := 200000000) (by decide) (by decide) hn b7
  have c8 := sm_bd (us := g) (B := 200000000) (by decide) (by decide) hn b8
  have hN2 : -20 ≤ ((nI (sr_cu g no)).toInt64).toInt ∧ ((nI (sr_cu g no)).toInt64).toInt ≤ 20 := by rw [hN]; omega
  obtain ⟨m1, m2, m3⟩ := l_mulb (x := (nI (sr_cu g no)).toInt64) (y := sr_sm g (md_g7 gp gw mk) no) (A := 20) (B := 4000000000) hN2 (by omega) (by decide)
  obtain ⟨n1, n2, n3⟩ := l_mulb (x := sr_sm g (md_g4 gw) no) (y := sr_sm g (md_g2 gp mk) no) (A := 200000) (B := 200000) (by omega) (by omega) (by decide)
  obtain ⟨p1, p2, p3⟩ := l_mulb (x := sr_sm g (md_g5 gw) no) (y := sr_sm g (md_g3 gp mk) no) (A := 200000) (B := 200000) (by omega) (by omega) (by decide)
  obtain ⟨q1, q2, q3⟩ := l_mulb (x := (nI (sr_cu g no)).toInt64) (y := sr_sm g (md_g8 gp gw mk) no) (A := 20) (B := 4000000000) hN2 (by omega) (by decide)
  obtain ⟨r1, r2, r3⟩ := l_mulb (x := sr_sm g (md_g4 gw) no) (y := sr_sm g (md_g3 gp mk) no) (A := 200000) (B := 200000) (by omega) (by omega) (by decide)
  obtain ⟨s1, s2, s3⟩ := l_mulb (x := sr_sm g (md_g5 gw) no) (y := sr_sm g (md_g2 gp mk) no) (A := 200000) (B := 200000) (by omega) (by omega) (by decide)
  have eP1 : ((nI (sr_cu g no)).toInt64 * sr_sm g (md_g7 gp gw mk) no - sr_sm g (md_g4 gw) no * sr_sm g (md_g2 gp mk) no).toInt = ((nI (sr_cu g no)).toInt64 * sr_sm g (md_g7 gp gw mk) no).toInt - (sr_sm g (md_g4 gw) no * sr_sm g (md_g2 gp mk) no).toInt := l_sub (x := (nI (sr_cu g no)).toInt64 * sr_sm g (md_g7 gp gw mk) no) (y := sr_sm g (md_g4 gw) no * sr_sm g (md_g2 gp mk) no) (by omega) (by omega)
  have eP2 : (mv_P gp gw g mk no).toInt = ((nI (sr_cu g no)).toInt64 * sr_sm g (md_g7 gp gw mk) no - sr_sm g (md_g4 gw) no * sr_sm g (md_g2 gp mk) no).toInt - (sr_sm g (md_g5 gw) no * sr_sm g (md_g3 gp mk) no).toInt := l_sub (x := (nI (sr_cu g no)).toInt64 * sr_sm g (md_g7 gp gw mk) no - sr_sm g (md_g4 gw) no * sr_sm g (md_g2 gp mk) no) (y := sr_sm g (md_g5 gw) no * sr_sm g (md_g3 gp mk) no) (by omega) (by omega)
  have eQ1 : ((nI (sr_cu g no)).toInt64 * sr_sm g (md_g8 gp gw mk) no - sr_sm g (md_g4 gw) no * sr_sm g (md_g3 gp mk) no).toInt = ((nI (sr_cu g no)).toInt64 * sr_sm g (md_g8 gp gw mk) no).toInt - (sr_sm g (md_g4 gw) no * sr_sm g (md_g3 gp mk) no).toInt := l_sub (x := (nI (sr_cu g no)).toInt64 * sr_sm g (md_g8 gp gw mk) no) (y := sr_sm g (md_g4 gw) no * sr_sm g (md_g3 gp mk) no) (by omega) (by omega)
  have eQ2 : (mv_Q gp gw g mk no).toInt = ((nI (sr_cu g no)).toInt64 * sr_sm g (md_g8 gp gw mk) no - sr_sm g (md_g4 gw) no * sr_sm g (md_g3 gp mk) no).toInt + (sr_sm g (md_g5 gw) no * sr_sm g (md_g2 gp mk) no).toInt := l_add (x := (nI (sr_cu g no)).toInt64 * sr_sm g (md_g8 gp gw mk) no - sr_sm g (md_g4 gw) no * sr_sm g (md_g3 gp mk) no) (y := sr_sm g (md_g5 gw) no * sr_sm g (md_g2 gp mk) no) (by omega) (by omega)
  omega
end REL
theorem px_eq {M P Q S B : Int64} {fa : Nat → Int64} (h0 : fa 0 = M * P) (h1 : fa 1 = M * Q) (h2 : fa 2 = S) (hMB : 0 < M * B) (a b : Int32) : sr_px fa (M * B) a b = md_p0 P Q S M B a b := by
  unfold sr_px md_p0
  rw [h0, h1, h2, dd_fd hMB, show M * P * a.toInt64 - M * Q * b.toInt64 + S = M * (P * a.toInt64 - Q * b.toInt64) + S by grind]
theorem py_eq {M P Q T B : Int64} {fa : Nat → Int64} (h0 : fa 0 = M * P) (h1 : fa 1 = M * Q) (h2 : fa 3 = T) (hMB : 0 < M * B) (a b : Int32) : sr_py fa (M * B) a b = md_p1 P Q T M B a b := by
  unfold sr_py md_p1
  rw [h0, h1, h2, dd_fd hMB, show M * Q * a.toInt64 + M * P * b.toInt64 + T = M * (Q * a.toInt64 + P * b.toInt64) + T by grind]
/-- the set-up as the program holds it, and as the reference does -/
def Sr (O : sr_Ob) (S : sr_St) (kn : Int32) (P Q s t B M H : Int64) (ho hq : Nat → Int32) : Prop :=
  ¬ st_md S = 0 ∧ kn = nI (st_sc S) ∧ st_sc S ≤ ob_no O ∧ 0 < M * B ∧ 0 < B ∧ st_dv S = M * B ∧ st_fa S 0 = M * P ∧ st_fa S 1 = M * Q ∧ st_fa S 2 = s ∧ st_fa S 3 = t ∧ st_ht S = H.toInt32 ∧ sr_mil (st_fa S) (st_dv S) 0 = md_mil P B ∧ sr_mil (st_fa S) (st_dv S) 1 = md_mil Q B ∧
  ∀ k, k < st_sc S → st_n0 S k = ob_fx O k - md_p0 P Q s M B (ob_fu O k) (ob_fv O k) ∧ st_n1 S k = ob_fy O k - md_p1 P Q t M B (ob_fu O k) (ob_fv O k) ∧ st_n2 S k = ob_fz O k - (ob_fw O k - ho k + H.toInt32) ∧ st_fq S k = hq k
abbrev LkO (O : sr_Ob) (mk : Nat → Nat) (gp gw gz gu : Nat → Int32) : Prop := Lk (ob_no O) mk gp gw gz gu (ob_fx O) (ob_fy O) (ob_fz O) (ob_fu O) (ob_fv O) (ob_fw O) (ob_fp O) (ob_fe O)
abbrev BdO (O : sr_Ob) : Prop := Bd (ob_no O) (ob_fx O) (ob_fy O) (ob_fz O) (ob_fu O) (ob_fv O) (ob_fw O) (ob_fp O)
set_option maxHeartbeats 2000000 in
/-- a set-up that was made just now -/
theorem set_rel {no : Nat} {mk : Nat → Nat} {gp gw gz gu fx fy fz fu fv fw fp fe ho hq : Nat → Int32} {S : sr_St} (hn : no ≤ 20) (hL : Lk no mk gp gw gz gu fx fy fz fu fv fw fp fe) (hB : Bd no fx fy fz fu fv fw fp) (h : 0 < sr_sp no fx fy fz fu fv fw fp fe) (hho : ∀ k, k < no → ho k = gz k) (hhq : ∀ k, k < no → hq k = gu k) :
    st_sc (sr_mk S no fx fy fz fu fv fw fp fe) = no ∧ Sr (no, fx, fy, fz, fu, fv, fw, fp, fe) (sr_mk S no fx fy fz fu fv fw fp fe) (nI no) (mv_P gp gw gu mk no) (mv_Q gp gw gu mk no) (mv_S gp gw gu mk no) (mv_T gp gw gu mk no) (md_WD gw no gu) (md_GN no gu) (mv_H gp gw gz gu mk no) ho hq := by
  rw [sr_mk_t S no fx fy fz fu fv fw fp fe h]
  have hw := (sp_pos hn hL hB).mp h
  obtain ⟨w1, w2, w3, w4, w5, w6, w7, w8⟩ := wd_pos (g := gu) hn (hL.near hB) hw
  obtain ⟨bP, bQ⟩ := pq_bd (g := gu) hn hL hB
  have e1 := su_1 hn hL
  have e2 := su_2 hL
  have e3 := su_3 hL
  have e4 := su_4 hL
  have e5 := su_5 hL
  have e6 := su_6 hL
  have e7 := su_7 hL
  have e8 := su_8 hL
  have e9 := su_9 hL hB
  have eB : sr_spread (sr_sums no fx fy fz fu fv fw fp fe 1) (sr_sums no fx fy fz fu fv fw fp fe 4) (sr_sums no fx fy fz fu fv fw fp fe 5) (sr_sums no fx fy fz fu fv fw fp fe 6) = md_WD gw no gu := sp_eq hn hL
  have eP : sr_cosine (sr_sums no fx fy fz fu fv fw fp fe 1) (sr_sums no fx fy fz fu fv fw fp fe 2) (sr_sums no fx fy fz fu fv fw fp fe 3) (sr_sums no fx fy fz fu fv fw fp fe 4) (sr_sums no fx fy fz fu fv fw fp fe 5) (sr_sums no fx fy fz fu fv fw fp fe 7) = mv_P gp gw gu mk no := by rw [e1, e2, e3, e4, e5, e7]; rfl
  have eQ : sr_sine (sr_sums no fx fy fz fu fv fw fp fe 1) (sr_sums no fx fy fz fu fv fw fp fe 2) (sr_sums no fx fy fz fu fv fw fp fe 3) (sr_sums no fx fy fz fu fv fw fp fe 4) (sr_sums no fx fy fz fu fv fw fp fe 5) (sr_sums no fx fy fz fu fv fw fp fe 8) = mv_Q gp gw gu mk no := by rw [e1, e2, e3, e4, e5, e8]; rfl
  generalize hM : md_GN no gu = M at w1 w2 w4 w5 w6
  have eM : sr_sums no fx fy fz fu fv fw fp fe 1 = M := e1.trans hM
  have eD : sr_dv (sr_sums no fx fy fz fu fv fw fp fe 1) (sr_sums no fx fy fz fu fv fw fp fe 4) (sr_sums no fx fy fz fu fv fw fp fe 5) (sr_sums no fx fy fz fu fv fw fp fe 6) = M * md_WD gw no gu := by
    unfold sr_dv
    rw [eB, eM]
  obtain ⟨fa, hfa⟩ : ∃ fa, fa = sr_pt (sr_sums no fx fy fz fu fv fw fp fe 1) (sr_sums no fx fy fz fu fv fw fp fe 2) (sr_sums no fx fy fz fu fv fw fp fe 3) (sr_sums no fx fy fz fu fv fw fp fe 4) (sr_sums no fx fy fz fu fv fw fp fe 5) (sr_sums no fx fy fz fu fv fw fp fe 6) (sr_sums no fx fy fz fu fv fw fp fe 7) (sr_sums no fx fy fz fu fv fw fp fe 8) (st_fa S) := ⟨_, rfl⟩
  have f0 : fa 0 = M * mv_P gp gw gu mk no := by
    rw [hfa, show ∀ n x y u v q d k f, sr_pt n x y u v q d k f 0 = n * sr_cosine n x y u v d from fun _ _ _ _ _ _ _ _ _ => rfl, eP, eM]
  have f1 : fa 1 = M * mv_Q gp gw gu mk no := by
    rw [hfa, show ∀ n x y u v q d k f, sr_pt n x y u v q d k f 1 = n * sr_sine n x y u v k from fun _ _ _ _ _ _ _ _ _ => rfl, eQ, eM]
  have f2 : fa 2 = mv_S gp gw gu mk no := by
    rw [hfa, show ∀ n x y u v q d k f, sr_pt n x y u v q d k f 2 = x * sr_spread n u v q - sr_cosine n x y u v d * u + sr_sine n x y u v k * v from fun _ _ _ _ _ _ _ _ _ => rfl, eP, eQ, eB, e2, e4, e5]
    rfl
  have f3 : fa 3 = mv_T gp gw gu mk no := by
    rw [hfa, show ∀ n x y u v q d k f, sr_pt n x y u v q d k f 3 = y * sr_spread n u v q - sr_sine n x y u v k * u - sr_cosine n x y u v d * v from fun _ _ _ _ _ _ _ _ _ => rfl, eP, eQ, eB, e3, e4, e5]
    rfl
  have eH : sr_ht (sr_sums no fx fy fz fu fv fw fp fe 1) (sr_sums no fx fy fz fu fv fw fp fe 9) = (mv_H gp gw gz gu mk no).toInt32 := by
    unfold sr_ht
    rw [e9, eM, dd_fd w2, ← hM]
    rfl
  have hS : sr_md S no fx fy fz fu fv fw fp fe (sr_sums no fx fy fz fu fv fw fp fe) = (M * md_WD gw no gu, (mv_H gp gw gz gu mk no).toInt32, no, 1, fa, sr_m0 no fx fu fv fa (M * md_WD gw no gu) (st_n0 S), sr_m1 no fy fu fv fa (M * md_WD gw no gu) (st_n1 S), sr_m2 no fz fw fp (mv_H gp gw gz gu mk no).toInt32 (st_n2 S), sr_cp no fe (st_fq S)) := by
    unfold sr_md
    rw [eD, eH, ← hfa]
  rw [hS]
  refine ⟨rfl, (by decide : ¬ (1 : Int32) = 0), rfl, Nat.le_refl _, w1, w3, rfl, f0, f1, f2, f3, rfl, mil_eq f0 ⟨w5, w6⟩ ⟨w7, w8⟩ bP w1 w4, mil_eq f1 ⟨w5, w6⟩ ⟨w7, w8⟩ bQ w1 w4, fun k hk => ⟨?_, ?_, ?_, ?_⟩⟩
  · show sr_m0 no fx fu fv fa (M * md_WD gw no gu) (st_n0 S) k = fx k - md_p0 _ _ _ _ _ (fu k) (fv k)
    rw [show sr_m0 no fx fu fv fa (M * md_WD gw no gu) (st_n0 S) k = fx k - sr_px fa (M * md_WD gw no gu) (fu k) (fv k) from if_pos hk, px_eq f0 f1 f2 w1]
  · show sr_m1 no fy fu fv fa (M * md_WD gw no gu) (st_n1 S) k = fy k - md_p1 _ _ _ _ _ (fu k) (fv k)
    rw [show sr_m1 no fy fu fv fa (M * md_WD gw no gu) (st_n1 S) k = fy k - sr_py fa (M * md_WD gw no gu) (fu k) (fv k) from if_pos hk, py_eq f0 f1 f3 w1]
  · show sr_m2 no fz fw fp (mv_H gp gw gz gu mk no).toInt32 (st_n2 S) k = fz k - (fw k - ho k + (mv_H gp gw gz gu mk no).toInt32)
    rw [show sr_m2 no fz fw fp (mv_H gp gw gz gu mk no).toInt32 (st_n2 S) k = fz k - (fw k - fp k + (mv_H gp gw gz gu mk no).toInt32) from if_pos hk, hho k hk, (hL k hk).2.2.1]
  · show sr_cp no fe (st_fq S) k = hq k
    rw [show sr_cp no fe (st_fq S) k = fe k from if_pos hk, hhq k hk, (hL k hk).2.2.2]
