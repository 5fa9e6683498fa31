/-! THE PURE PART, third: blunders -/
section WOEQ
variable {n0 n1 fq g : Nat → Int32} {fl : Nat → Int64} {bd : Int64}
/-- the worst one: the first greatest above the bound, or none; by the reference: the first greatest -/
theorem wo_eq : ∀ (n : Nat), (∀ k, k < n → (fq k = 0 ↔ g k = 0) ∧ (n0 k).toInt64 * (n0 k).toInt64 + (n1 k).toInt64 * (n1 k).toInt64 = fl k) →
    (md_wo fl g n = 0 → sr_wo n0 n1 fq bd n = (bd, -1)) ∧ (∀ j, md_wo fl g n = j + 1 → (fl j ≤ bd → sr_wo n0 n1 fq bd n = (bd, -1)) ∧ (¬ fl j ≤ bd → sr_wo n0 n1 fq bd n = (fl j, nI j)))
  | 0, _ => ⟨fun _ => rfl, fun j h => absurd h (by show ¬ 0 = j + 1; omega)⟩
  | n + 1, h => by
    obtain ⟨ih1, ih2⟩ := wo_eq n (fun k hk => h k (by omega))
    obtain ⟨hu, hf⟩ := h n (by omega)
    by_cases q : g n = 0
    · have e1 : md_wo fl g (n + 1) = md_wo fl g n := if_pos q
      rw [e1, sr_wo_u (hu.mpr q)]
      exact ⟨ih1, ih2⟩
    · have qf : ¬ fq n = 0 := fun z => q (hu.mp z)
      have e0 : md_wo fl g (n + 1) = if md_wo fl g n = 0 ∨ ¬ fl n ≤ fl (md_wo fl g n - 1) then n + 1 else md_wo fl g n := if_neg q
      cases hm : md_wo fl g n with
      | zero =>
        have e1 : md_wo fl g (n + 1) = n + 1 := by rw [e0]; exact if_pos (Or.inl hm)
        have i1 := ih1 hm
        rw [e1]
        refine ⟨fun z => absurd z (by omega), fun j hj => ?_⟩
        have ej : j = n := by omega
        subst ej
        constructor
        · intro hle
          rw [sr_wo_f (by rw [hf, i1]; exact hle)]
          exact i1
        · intro hgt
          rw [sr_wo_t qf (by rw [hf, i1]; exact hgt), hf]
      | succ j0 =>
        obtain ⟨i1, i2⟩ := ih2 j0 hm
        by_cases c : fl n ≤ fl j0
        · have e1 : md_wo fl g (n + 1) = j0 + 1 := by
            rw [e0, hm]
            exact if_neg (fun z => z.elim (fun z => absurd z (by omega)) (fun z => z c))
          rw [e1]
          refine ⟨fun z => absurd z (by omega), fun j hj => ?_⟩
          have ej : j = j0 := by omega
          subst ej
          constructor
          · intro hle
            rw [sr_wo_f (by rw [hf, i1 hle]; exact Int64.le_trans c hle)]
            exact i1 hle
          · intro hgt
            rw [sr_wo_f (by rw [hf, i2 hgt]; exact c)]
            exact i2 hgt
        · have e1 : md_wo fl g (n + 1) = n + 1 := by
            rw [e0, hm]
            exact if_pos (Or.inr c)
          rw [e1]
          refine ⟨fun z => absurd z (by omega), fun j hj => ?_⟩
          have ej : j = n := by omega
          subst ej
          have cl : fl j0 < fl j := Int64.not_le.mp c
          constructor
          · intro hle
            have h0 : fl j0 ≤ bd := Int64.le_trans (Int64.le_of_lt cl) hle
            rw [sr_wo_f (by rw [hf, i1 h0]; exact hle)]
            exact i1 h0
          · intro hgt
            by_cases h0 : fl j0 ≤ bd
            · rw [sr_wo_t qf (by rw [hf, i1 h0]; exact hgt), hf]
            · rw [sr_wo_t qf (by rw [hf, i2 h0]; exact c), hf]
end WOEQ
/-- made just now, by the flags g -/
def Mb (no : Nat) (mk : Nat → Nat) (gp gw gz fx fy fz fu fv fw fp : Nat → Int32) (g fe : Nat → Int32) (S : sr_St) : Prop :=
  st_sc S = no ∧ ∀ ho hq : Nat → Int32, (∀ k, k < no → ho k = gz k) → (∀ k, k < no → hq k = g k) → Sr (no, fx, fy, fz, fu, fv, fw, fp, fe) S (nI no) (mv_P gp gw g mk no) (mv_Q gp gw g mk no) (mv_S gp gw g mk no) (mv_T gp gw g mk no) (md_WD gw no g) (md_GN no g) (mv_H gp gw gz g mk no) ho hq
section BLEQ
variable {no : Nat} {mk : Nat → Nat} {gp gw gz fx fy fz fu fv fw fp : Nat → Int32}
theorem Lk.upd0 {gu fe : Nat → Int32} (hL : Lk no mk gp gw gz gu fx fy fz fu fv fw fp fe) (w : Nat) (x : Int32) : Lk no mk gp gw gz (upd gu w x) fx fy fz fu fv fw fp (upd fe w x) := fun o ho => by
  obtain ⟨h1, h2, h3, h4⟩ := hL o ho
  refine ⟨h1, h2, h3, ?_⟩
  by_cases q : o = w
  · subst q; rw [pk_us, pk_us]
  · rw [pk_un q, pk_un q]; exact h4
theorem Mb.of {gu fe : Nat → Int32} {S : sr_St} (hn : no ≤ 20) (hL : Lk no mk gp gw gz gu fx fy fz fu fv fw fp fe) (hB : Bd no fx fy fz fu fv fw fp) (h : 0 < sr_sp no fx fy fz fu fv fw fp fe) : Mb no mk gp gw gz fx fy fz fu fv fw fp gu fe (sr_mk S no fx fy fz fu fv fw fp fe) :=
  ⟨(set_rel hn hL hB h (fun _ _ => rfl) (fun _ _ => rfl)).1, fun _ _ h1 h2 => (set_rel hn hL hB h h1 h2).2⟩
set_option maxHeartbeats 2000000 in
theorem bl_eq {a : Int32} (hn : no ≤ 20) (hB : Bd no fx fy fz fu fv fw fp) : ∀ (f1 f2 n : Nat) (S : sr_St) (sf : Nat → Int64) (gu fe : Nat → Int32), sr_cu gu no ≤ f1 → sr_cu gu no + 1 ≤ f2 → (∀ k, gu k = 0 ∨ gu k = 1) → (∀ k, fe k = 0 ∨ fe k = 1) → Lk no mk gp gw gz gu fx fy fz fu fv fw fp fe → Mb no mk gp gw gz fx fy fz fu fv fw fp gu fe S →
    ∃ (c : Nat) (S' : sr_St) (sf' : Nat → Int64) (gu' fe' : Nat → Int32), sr_bf (a.toInt64 * a.toInt64) no fx fy fz fu fv fw fp f1 (S, sf, fe) = (c, S', sf', fe') ∧ md_bl gp gw mk no a f2 n gu = (n + c, gu') ∧ (∀ k, gu' k = 0 ∨ gu' k = 1) ∧ (∀ k, fe' k = 0 ∨ fe' k = 1) ∧ Lk no mk gp gw gz gu' fx fy fz fu fv fw fp fe' ∧ Mb no mk gp gw gz fx fy fz fu fv fw fp gu' fe' S'
  | f1, 0, n, S, sf, gu, fe, _, h2, _, _, _, _ => absurd h2 (by omega)
  | 0, f2 + 1, n, S, sf, gu, fe, h1, _, h3, h4, hL, hM => by
    refine ⟨0, S, sf, gu, fe, rfl, ?_, h3, h4, hL, hM⟩
    rw [md_bl_3 (by omega)]
    rfl
  | f1 + 1, f2 + 1, n, S, sf, gu, fe, h1, h2, h3, h4, hL, hM => by
    have hcu : sr_cu fe no = sr_cu gu no := (cu_congr no (fun k hk => (hL k hk).2.2.2)).symm
    obtain ⟨hsc, hMS⟩ := hM
    have hS := hMS gz gu (fun _ _ => rfl) (fun _ _ => rfl)
    obtain ⟨s1, s2, s3, s4, s5, s6, s7, s8, s9, s10, s11, s12, s13, hk⟩ := id hS
    have stop : ∀ sf2 : Nat → Int64, sr_lo (a.toInt64 * a.toInt64) no fx fy fz fu fv fw fp (S, sf, fe) = (false, S, sf2, fe) → md_bl gp gw mk no a (f2 + 1) n gu = (n, gu) → ∃ (c : Nat) (S' : sr_St) (sf' : Nat → Int64) (gu' fe' : Nat → Int32), sr_bf (a.toInt64 * a.toInt64) no fx fy fz fu fv fw fp (f1 + 1) (S, sf, fe) = (c, S', sf', fe') ∧ md_bl gp gw mk no a (f2 + 1) n gu = (n + c, gu') ∧ (∀ k, gu' k = 0 ∨ gu' k = 1) ∧ (∀ k, fe' k = 0 ∨ fe' k = 1) ∧ Lk no mk gp gw gz gu' fx fy fz fu fv fw fp fe' ∧ Mb no mk gp gw gz fx fy fz fu fv fw fp gu' fe' S' := fun sf2 q1 q2 => by
      refine ⟨0, S, sf2, gu, fe, ?_, q2, h3, h4, hL, hsc, hMS⟩
      show (if (sr_lo _ _ _ _ _ _ _ _ _ (S, sf, fe)).1 = true then _ else _) = _
      rw [q1]
      rfl
    by_cases c3 : 3 < sr_cu gu no
    · obtain ⟨k, hk9⟩ := md_wo_pos (fl := md_FL gp gw mk no gu) (g := gu) (n := no) (by omega)
      obtain ⟨hk8, hk7⟩ := md_wo_us hk9
      have hw := wo_eq (n0 := st_n0 S) (n1 := st_n1 S) (fq := st_fq S) (g := gu) (fl := md_FL gp gw mk no gu) (bd := a.toInt64 * a.toInt64) no (fun j hj => by
        obtain ⟨k1, k2, k3, k4⟩ := hk j (by rw [hsc]; exact hj)
        refine ⟨by rw [k4], ?_⟩
        rw [k1, k2]
        obtain ⟨⟨l1, l2, l3⟩, ⟨l4, l5, l6⟩, -⟩ := hL j hj
        show (fx j - md_p0 _ _ _ _ _ (fu j) (fv j)).toInt64 * (fx j - md_p0 _ _ _ _ _ (fu j) (fv j)).toInt64 + (fy j - md_p1 _ _ _ _ _ (fu j) (fv j)).toInt64 * (fy j - md_p1 _ _ _ _ _ (fu j) (fv j)).toInt64 = _
        rw [← l1, ← l2, ← l4, ← l5]
        rfl)
      obtain ⟨-, hw2⟩ := hw
      obtain ⟨w1, w2⟩ := hw2 k hk9
      by_cases cb : md_FL gp gw mk no gu k ≤ a.toInt64 * a.toInt64
      · exact stop sf (sr_lo_2 (by omega) (by rw [hsc, w1 cb])) (md_bl_l hk9 cb)
      · have hwn : (sr_wo (st_n0 S) (st_n1 S) (st_fq S) (a.toInt64 * a.toInt64) (st_sc S)).2 = nI k := by rw [hsc, w2 cb]
        have hne : ¬ (sr_wo (st_n0 S) (st_n1 S) (st_fq S) (a.toInt64 * a.toInt64) (st_sc S)).2 = -1 := by rw [hwn]; exact nI_ne_m1 (by omega)
        have hL0 := hL.upd0 k 0
        by_cases cw : md_WD gw no (upd gu k 0) = 0
        · have hsp : ¬ 0 < sr_sp no fx fy fz fu fv fw fp (upd fe k 0) := fun z => (sp_pos hn hL0 hB).mp z cw
          have hfk : ¬ fe k = 0 := fun z => hk8 ((hL k hk7).2.2.2.trans z)
          refine stop (sr_sums no fx fy fz fu fv fw fp (upd fe k 0)) ?_ (md_bl_w hk9 cw)
          rw [sr_lo_4 (by omega) hne (by omega) hwn hsp, sr_mk_f S no fx fy fz fu fv fw fp _ hsp, md_uu h4 hfk]
        · have hsp : 0 < sr_sp no fx fy fz fu fv fw fp (upd fe k 0) := (sp_pos hn hL0 hB).mpr cw
          have hcu2 := md_cu_u hk8 hk7
          obtain ⟨c, S', sf', gu', fe', r1, r2, r3⟩ := bl_eq hn hB f1 f2 (n + 1) (sr_mk S no fx fy fz fu fv fw fp (upd fe k 0)) (sr_sums no fx fy fz fu fv fw fp (upd fe k 0)) (upd gu k 0) (upd fe k 0) (by omega) (by omega) (md_01 h3) (md_01 h4) hL0 (Mb.of hn hL0 hB hsp)
          refine ⟨c + 1, S', sf', gu', fe', ?_, ?_, r3⟩
          · show (if (sr_lo _ _ _ _ _ _ _ _ _ (S, sf, fe)).1 = true then _ else _) = _
            rw [sr_lo_3 (by omega) hne (by omega) hwn hsp]
            show ((sr_bf _ _ _ _ _ _ _ _ _ f1 (_, _, _)).1 + 1, (sr_bf _ _ _ _ _ _ _ _ _ f1 (_, _, _)).2) = _
            rw [r1]
          · rw [md_bl_s hk9 c3 cb cw, r2]
            refine Prod.ext ?_ rfl
            show n + 1 + c = n + (c + 1)
            omega
    · exact stop sf (sr_lo_1 (by omega)) (md_bl_3 c3)
end BLEQ
