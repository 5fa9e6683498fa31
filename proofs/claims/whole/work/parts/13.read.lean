/-! THE PURE PART, fourth: the pad's rows, read by the program and by the reference -/
section RD
variable {sg : Nat → Int32} {pn : Nat}
theorem dn_s {a f : Nat} (h : a < pn ∧ sr_dig (sg a)) : sr_dn sg pn a (f + 1) = 1 + sr_dn sg pn (a + 1) f := if_pos h
theorem dn_0 {a f : Nat} (h : ¬ (a < pn ∧ sr_dig (sg a))) : sr_dn sg pn a (f + 1) = 0 := if_neg h
theorem dn_min : ∀ (f F a : Nat), f ≤ F → sr_dn sg pn a f = min (sr_dn sg pn a F) f
  | 0, F, a, _ => by show 0 = _; omega
  | f + 1, 0, a, h => absurd h (by omega)
  | f + 1, F + 1, a, h => by
    by_cases q : a < pn ∧ sr_dig (sg a)
    · rw [dn_s q, dn_s q, dn_min f F (a + 1) (by omega)]
      omega
    · rw [dn_0 q, dn_0 q]
      omega
theorem dn_at : ∀ (j F a : Nat), j < sr_dn sg pn a F → a + j < pn ∧ sr_dig (sg (a + j))
  | j, 0, a, h => absurd h (by show ¬ j < 0; omega)
  | j, F + 1, a, h => by
    by_cases q : a < pn ∧ sr_dig (sg a)
    · rw [dn_s q] at h
      cases j with
      | zero => exact q
      | succ j =>
        have := dn_at j F (a + 1) (by omega)
        rw [show a + (j + 1) = a + 1 + j by omega]
        exact this
    · rw [dn_0 q] at h
      omega
theorem nd_min (pt : Nat) : sr_nd sg pn pt = min (md_nd sg pn pt) 6 := dn_min 6 201 _ (by omega)
/-- a number and the sign behind it -/
theorem rs_eq {pt : Nat} {c : Int32} (hc : c = 32 ∨ c = 59) : (0 < sr_nd sg pn pt ∧ sr_np sg pn pt < pn ∧ sg (sr_np sg pn pt) = c) ↔ md_rs sg pn pt c := by
  have hm := nd_min (sg := sg) (pn := pn) pt
  by_cases h7 : md_nd sg pn pt < 7
  · have e1 : sr_nd sg pn pt = md_nd sg pn pt := by omega
    have e2 : sr_np sg pn pt = md_np sg pn pt := by unfold sr_np md_np; rw [e1]
    rw [e1, e2]
    exact ⟨fun h => ⟨h.1, h7, h.2⟩, fun h => ⟨h.1, h.2.2⟩⟩
  · have e1 : sr_nd sg pn pt = 6 := by omega
    have hd : sr_dig (sg (sr_np sg pn pt)) := by
      have := (dn_at (sg := sg) (pn := pn) 6 201 (sr_sk sg pn pt 45) (by show 6 < md_nd sg pn pt; omega)).2
      unfold sr_np
      rw [e1]
      exact this
    constructor
    · intro h
      exfalso
      rw [h.2.2] at hd
      rcases hc with rfl | rfl
      · exact absurd hd (by decide)
      · exact absurd hd (by decide)
    · intro h
      exact absurd h.2.1 h7
theorem rs_np {pt : Nat} {c : Int32} (h : md_rs sg pn pt c) : sr_np sg pn pt = md_np sg pn pt ∧ sr_nv sg pn pt = md_nv sg pn pt := by
  have hm := nd_min (sg := sg) (pn := pn) pt
  have e1 : sr_nd sg pn pt = md_nd sg pn pt := by have := h.2.1; omega
  refine ⟨by unfold sr_np md_np; rw [e1], ?_⟩
  unfold sr_nv md_nv
  rw [e1, Nat.min_eq_left (by have := h.2.1; omega), Int32.zero_sub]
theorem sk_yes {pt : Nat} {c : Int32} (h : pt < pn ∧ sg pt = c) : sr_sk sg pn pt c = pt + 1 := if_pos h
/-- one step of a row that is right so far -/
theorem rw_y {pt : Nat} {nu : Nat → Int32} {i p : Nat} {f : Nat → Int32} {c : Int32} (hc : c = 32 ∨ c = 59) (hb : sr_b i = c) (e : sr_rw sg pn pt nu i = (true, p, f)) (h : md_rs sg pn p c) : sr_rw sg pn pt nu (i + 1) = (true, md_np sg pn p + 1, upd f i (md_nv sg pn p)) := by
  obtain ⟨h1, h2⟩ := (rs_eq hc).mpr h
  have e1 : (sr_rw sg pn pt nu i).2.1 = p := by rw [e]
  have r := sr_rw_t (sg := sg) (pn := pn) (pt := pt) (nu := nu) (i := i) (by rw [e]) (by rw [e1]; exact h1) hb (by rw [e1]; exact h2)
  rw [r, e]
  show (true, sr_sk sg pn (sr_np sg pn p) c, upd f i (sr_nv sg pn p)) = _
  rw [sk_yes h2, (rs_np h).1, (rs_np h).2]
theorem rw_no {pt : Nat} {nu : Nat → Int32} {i p : Nat} {f : Nat → Int32} {c : Int32} (hc : c = 32 ∨ c = 59) (hb : sr_b i = c) (e : sr_rw sg pn pt nu i = (true, p, f)) (h : ¬ md_rs sg pn p c) (hi : i < 4) : (sr_rw sg pn pt nu 4).1 = false := by
  have e1 : (sr_rw sg pn pt nu i).2.1 = p := by rw [e]
  by_cases h1 : 0 < sr_nd sg pn p
  · have h2 : ¬ (sr_np sg pn p < pn ∧ sg (sr_np sg pn p) = c) := fun z => h ((rs_eq hc).mp ⟨h1, z⟩)
    have r := sr_rw_f (sg := sg) (pn := pn) (pt := pt) (nu := nu) (i := i) (by rw [e]) (by rw [e1]; exact h1) hb (by rw [e1]; exact h2)
    rw [sr_rw_4 r hi]
  · have r := sr_rw_n (sg := sg) (pn := pn) (pt := pt) (nu := nu) (i := i) (by rw [e]) (by rw [e1]; exact h1)
    rw [sr_rw_4 r hi]
/-- a row: it is right in the program just where it is right in the reference -/
theorem row_eq {pt nm bf : Nat} {nu : Nat → Int32} (hm : nm < 2 ^ 31) :
    (md_r4 sg pn pt nm bf ↔ ((sr_rw sg pn pt nu 4).1 = true ∧ sr_ok nm (sr_rw sg pn pt nu 4).2.2 bf)) ∧
    (md_r4 sg pn pt nm bf → (sr_rw sg pn pt nu 4).2.1 = md_t4 sg pn pt ∧ (sr_rw sg pn pt nu 4).2.2 0 = md_nv sg pn pt ∧ (sr_rw sg pn pt nu 4).2.2 1 = md_nv sg pn (md_t1 sg pn pt) ∧ (sr_rw sg pn pt nu 4).2.2 2 = md_nv sg pn (md_t2 sg pn pt) ∧ (sr_rw sg pn pt nu 4).2.2 3 = md_nv sg pn (md_t3 sg pn pt)) := by
  have b0 : sr_b 0 = 32 := rfl
  have b1 : sr_b 1 = 32 := rfl
  have b2 : sr_b 2 = 32 := rfl
  have b3 : sr_b 3 = 59 := rfl
  have hno : (sr_rw sg pn pt nu 4).1 = false → ¬ md_r4 sg pn pt nm bf → (md_r4 sg pn pt nm bf ↔ ((sr_rw sg pn pt nu 4).1 = true ∧ sr_ok nm (sr_rw sg pn pt nu 4).2.2 bf)) := fun q z => ⟨fun y => absurd y z, fun y => absurd y.1 (by rw [q]; decide)⟩
  by_cases h0 : md_rs sg pn pt 32
  · have r1 := rw_y (nu := nu) (Or.inl rfl) b0 (show sr_rw sg pn pt nu 0 = (true, pt, nu) from rfl) h0
    by_cases h1 : md_rs sg pn (md_t1 sg pn pt) 32
    · have r2 := rw_y (Or.inl rfl) b1 r1 h1
      by_cases h2 : md_rs sg pn (md_t2 sg pn pt) 32
      · have r3 := rw_y (Or.inl rfl) b2 r2 h2
        by_cases h3 : md_rs sg pn (md_t3 sg pn pt) 59
        · have r4 := rw_y (Or.inr rfl) b3 r3 h3
          have n0 : (sr_rw sg pn pt nu 4).2.2 0 = md_nv sg pn pt := by rw [r4]; rfl
          have n1 : (sr_rw sg pn pt nu 4).2.2 1 = md_nv sg pn (md_t1 sg pn pt) := by rw [r4]; rfl
          have n2 : (sr_rw sg pn pt nu 4).2.2 2 = md_nv sg pn (md_t2 sg pn pt) := by rw [r4]; rfl
          have n3 : (sr_rw sg pn pt nu 4).2.2 3 = md_nv sg pn (md_t3 sg pn pt) := by rw [r4]; rfl
          have w : ∀ x : Int32, md_win x (-10000) 10000 ↔ sr_near x := fun x => Iff.rfl
          refine ⟨⟨fun h => ⟨by rw [r4], ?_⟩, fun h => ?_⟩, fun _ => ⟨by rw [r4], n0, n1, n2, n3⟩⟩
          · show xin _ nm ∧ ¬ 20 ≤ bf ∧ sr_near _ ∧ sr_near _ ∧ sr_near _
            rw [n0, n1, n2, n3]
            exact ⟨(md_win_in hm).mp h.1.1.1.2.1, Nat.not_le.mpr h.1.1.1.2.2, h.1.1.2.2, h.1.2.2, h.2.2⟩
          · obtain ⟨-, k1, k2, k3, k4, k5⟩ := h
            rw [n0] at k1
            rw [n1] at k3
            rw [n2] at k4
            rw [n3] at k5
            exact ⟨⟨⟨⟨h0, (md_win_in hm).mpr k1, Nat.not_le.mp k2⟩, h1, k3⟩, h2, k4⟩, h3, k5⟩
        · have z : ¬ md_r4 sg pn pt nm bf := fun y => h3 y.2.1
          exact ⟨hno (rw_no (Or.inr rfl) b3 r3 h3 (by decide)) z, fun y => absurd y z⟩
      · have z : ¬ md_r4 sg pn pt nm bf := fun y => h2 y.1.2.1
        exact ⟨hno (rw_no (Or.inl rfl) b2 r2 h2 (by decide)) z, fun y => absurd y z⟩
    · have z : ¬ md_r4 sg pn pt nm bf := fun y => h1 y.1.1.2.1
      exact ⟨hno (rw_no (Or.inl rfl) b1 r1 h1 (by decide)) z, fun y => absurd y z⟩
  · have z : ¬ md_r4 sg pn pt nm bf := fun y => h0 y.1.1.1.1
    exact ⟨hno (rw_no (Or.inl rfl) b0 (show sr_rw sg pn pt nu 0 = (true, pt, nu) from rfl) h0 (by decide)) z, fun y => absurd y z⟩
end RD
/-- so far alike: the first no observations stand as they did -/
def Ke (no : Nat) (O Z : sr_Ob) : Prop := ∀ k, k < no → ob_fx Z k = ob_fx O k ∧ ob_fy Z k = ob_fy O k ∧ ob_fz Z k = ob_fz O k ∧ ob_fu Z k = ob_fu O k ∧ ob_fv Z k = ob_fv O k ∧ ob_fw Z k = ob_fw O k ∧ ob_fp Z k = ob_fp O k ∧ ob_fe Z k = ob_fe O k
theorem Ke.ao {no : Nat} {O Z : sr_Ob} (h : Ke no O Z) (hn : no ≤ ob_no Z) (mx my mz : Nat → Int32) (k : Nat) (a b d : Int32) : Ke no O (sr_ao mx my mz k a b d Z) := fun j hj => by
  have e : j ≠ ob_no Z := by omega
  obtain ⟨h1, h2, h3, h4, h5, h6, h7, h8⟩ := h j hj
  refine ⟨?_, ?_, ?_, ?_, ?_, ?_, ?_, ?_⟩
  · show upd _ _ _ j = _; rw [pk_un e]; exact h1
  · show upd _ _ _ j = _; rw [pk_un e]; exact h2
  · show upd _ _ _ j = _; rw [pk_un e]; exact h3
  · show upd _ _ _ j = _; rw [pk_un e]; exact h4
  · show upd _ _ _ j = _; rw [pk_un e]; exact h5
  · show upd _ _ _ j = _; rw [pk_un e]; exact h6
  · show upd _ _ _ j = _; rw [pk_un e]; exact h7
  · show upd _ _ _ j = _; rw [pk_un e]; exact h8
def upN (f : Nat → Nat) (i x : Nat) : Nat → Nat := fun j => if j = i then x else f j
theorem mk_upd (mk : Nat → Nat) (i x : Nat) : upd (md_mk mk) i (nI x) = md_mk (upN mk i x) := by
  funext j
  unfold upd md_mk upN
  by_cases h : j = i
  · rw [if_pos h, if_pos h]
  · rw [if_neg h, if_neg h]
/-- one observation more, in both -/
theorem Lk.add {O : sr_Ob} {mk : Nat → Nat} {gp gw gz gu mx my mz : Nat → Int32} {k : Nat} {a b d : Int32} (hL : LkO O mk gp gw gz gu) (hgp : ∀ j, gp (3 * j) = mx j ∧ gp (3 * j + 1) = my j ∧ gp (3 * j + 2) = mz j) (hz : gz (ob_no O) = 0) :
    LkO (sr_ao mx my mz k a b d O) (upN mk (ob_no O) k) gp (upd (upd (upd gw (3 * ob_no O) a) (3 * ob_no O + 1) b) (3 * ob_no O + 2) d) gz (upd gu (ob_no O) 1) := fun o ho => by
  have ho : o < ob_no O + 1 := ho
  show (gp (3 * upN mk (ob_no O) k o) = upd (ob_fx O) (ob_no O) (mx k) o ∧ gp (3 * upN mk (ob_no O) k o + 1) = upd (ob_fy O) (ob_no O) (my k) o ∧ gp (3 * upN mk (ob_no O) k o + 2) = upd (ob_fz O) (ob_no O) (mz k) o) ∧
    (_ = upd (ob_fu O) (ob_no O) a o ∧ _ = upd (ob_fv O) (ob_no O) b o ∧ _ = upd (ob_fw O) (ob_no O) d o) ∧ gz o = upd (ob_fp O) (ob_no O) 0 o ∧ upd gu (ob_no O) 1 o = upd (ob_fe O) (ob_no O) 1 o
  by_cases q : o = ob_no O
  · have e : upN mk (ob_no O) k o = k := if_pos q
    rw [e, q]
    obtain ⟨p1, p2, p3⟩ := hgp k
    refine ⟨⟨by rw [pk_us]; exact p1, by rw [pk_us]; exact p2, by rw [pk_us]; exact p3⟩, ⟨?_, ?_, ?_⟩, by rw [pk_us]; exact hz, by rw [pk_us, pk_us]⟩
    · rw [pk_un (by omega), pk_un (by omega), pk_us, pk_us]
    · rw [pk_un (by omega), pk_us, pk_us]
    · rw [pk_us, pk_us]
  · have e : upN mk (ob_no O) k o = mk o := if_neg q
    obtain ⟨⟨l1, l2, l3⟩, ⟨l4, l5, l6⟩, l7, l8⟩ := hL o (by omega)
    rw [e, pk_un q, pk_un q, pk_un q, pk_un q, pk_un q, pk_un q, pk_un q, pk_un q, pk_un q]
    refine ⟨⟨l1, l2, l3⟩, ⟨?_, ?_, ?_⟩, l7, l8⟩
    · rw [pk_un (by omega), pk_un (by omega), pk_un (by omega)]; exact l4
    · rw [pk_un (by omega), pk_un (by omega), pk_un (by omega)]; exact l5
    · rw [pk_un (by omega), pk_un (by omega), pk_un (by omega)]; exact l6
theorem Bd.add {O : sr_Ob} {mx my mz : Nat → Int32} {k : Nat} {a b d : Int32} (hB : BdO O) (hm : ∀ j, sr_near (mx j) ∧ sr_near (my j) ∧ sr_near (mz j)) (hn : sr_near a ∧ sr_near b ∧ sr_near d) : BdO (sr_ao mx my mz k a b d O) := fun o ho => by
  have ho : o < ob_no O + 1 := ho
  show (sr_near (upd (ob_fx O) (ob_no O) (mx k) o) ∧ sr_near (upd (ob_fy O) (ob_no O) (my k) o) ∧ sr_near (upd (ob_fz O) (ob_no O) (mz k) o)) ∧ (sr_near (upd (ob_fu O) (ob_no O) a o) ∧ sr_near (upd (ob_fv O) (ob_no O) b o) ∧ sr_near (upd (ob_fw O) (ob_no O) d o)) ∧ ¬ upd (ob_fp O) (ob_no O) 0 o < 0 ∧ upd (ob_fp O) (ob_no O) 0 o ≤ 3000
  by_cases q : o = ob_no O
  · rw [q, pk_us, pk_us, pk_us, pk_us, pk_us, pk_us, pk_us]
    exact ⟨hm k, hn, by decide, by decide⟩
  · rw [pk_un q, pk_un q, pk_un q, pk_un q, pk_un q, pk_un q, pk_un q]
    exact hB o (by omega)
section RDL
variable {sg : Nat → Int32} {pn nm : Nat} {mx my mz gp gz : Nat → Int32}
/-- what both hold behind i rows -/
def Ri (sg : Nat → Int32) (pn nm : Nat) (O : sr_Ob) (gp gz : Nat → Int32) (mk : Nat → Nat) (gw gu : Nat → Int32) (i : Nat) (Z : sr_Ob) : Prop :=
  ob_no Z = ob_no O + i ∧ ob_no O + i ≤ 20 ∧ Ke (ob_no O) O Z ∧ BdO Z ∧ (∀ k, ob_fe Z k = 0 ∨ ob_fe Z k = 1) ∧
  ∃ mk', md_rm sg pn nm (ob_no O) (md_mk mk) i = md_mk mk' ∧ (∀ o, o < ob_no O + i → mk' o < nm) ∧ LkO Z mk' gp (md_rv sg pn nm (ob_no O) gw i) gz (md_ru (ob_no O) gu i)
set_option maxHeartbeats 2000000 in
theorem ro_eq {O : sr_Ob} {mk : Nat → Nat} {gw gu : Nat → Int32} (hm : nm ≤ 12) (hmn : ∀ j, sr_near (mx j) ∧ sr_near (my j) ∧ sr_near (mz j)) (hgp : ∀ j, gp (3 * j) = mx j ∧ gp (3 * j + 1) = my j ∧ gp (3 * j + 2) = mz j) (hz : ∀ o, ob_no O ≤ o → gz o = 0) :
    ∀ (f i z : Nat) (zn : Nat → Int32) (Z : sr_Ob), i + f = 200 → z = md_ps sg pn nm (ob_no O) i → Ri sg pn nm O gp gz mk gw gu i Z → (∀ k, k < i → md_ps sg pn nm (ob_no O) k < pn ∧ md_r4 sg pn (md_ps sg pn nm (ob_no O) k) nm (ob_no O + k)) →
    ∃ (nr z' : Nat) (zn' : Nat → Int32) (Z' : sr_Ob), Ri sg pn nm O gp gz mk gw gu nr Z' ∧ (∀ k, k < nr → md_ps sg pn nm (ob_no O) k < pn ∧ md_r4 sg pn (md_ps sg pn nm (ob_no O) k) nm (ob_no O + k)) ∧
      ((pn ≤ md_ps sg pn nm (ob_no O) nr ∧ sr_ro sg pn nm mx my mz f i (z, zn, Z) = (-1, z', zn', Z')) ∨
       ((md_ps sg pn nm (ob_no O) nr < pn ∧ ¬ md_r4 sg pn (md_ps sg pn nm (ob_no O) nr) nm (ob_no O + nr)) ∧ sr_ro sg pn nm mx my mz f i (z, zn, Z) = (nI nr, z', zn', Z')))
  | 0, i, z, zn, Z, hf, _, hR, _ => absurd hR.2.1 (by omega)
  | f + 1, i, z, zn, Z, hf, hzp, hR, hg => by
    subst hzp
    by_cases q : pn ≤ md_ps sg pn nm (ob_no O) i
    · exact ⟨i, _, zn, Z, hR, hg, Or.inl ⟨q, if_pos q⟩⟩
    · obtain ⟨r1, r2⟩ := row_eq (sg := sg) (pn := pn) (pt := md_ps sg pn nm (ob_no O) i) (nm := nm) (bf := ob_no O + i) (nu := zn) (by omega)
      have hnoZ := hR.1
      by_cases h4 : md_r4 sg pn (md_ps sg pn nm (ob_no O) i) nm (ob_no O + i)
      · obtain ⟨t1, t2, t3, t4, t5⟩ := r2 h4
        have hok := r1.mp h4
        rw [← hnoZ] at hok
        obtain ⟨k, hk, hek⟩ := vp_in_of hok.2.1 (by omega)
        have hon : sr_on nm mx my mz (sr_rw sg pn (md_ps sg pn nm (ob_no O) i) zn 4).2.2 Z = sr_ao mx my mz k ((sr_rw sg pn (md_ps sg pn nm (ob_no O) i) zn 4).2.2 1) ((sr_rw sg pn (md_ps sg pn nm (ob_no O) i) zn 4).2.2 2) ((sr_rw sg pn (md_ps sg pn nm (ob_no O) i) zn 4).2.2 3) Z := sr_on_t hok.2 (by omega) hek
        have hps : md_ps sg pn nm (ob_no O) (i + 1) = md_t4 sg pn (md_ps sg pn nm (ob_no O) i) := md_ta4 h4.1
        obtain ⟨-, hR2, hR3, hR4, hR5, mk', hR6, hR7, hR8⟩ := hR
        have hlt : ob_no O + i < 20 := h4.1.1.1.2.2
        have hL2 := Lk.add (k := k) (a := md_nv sg pn (md_t1 sg pn (md_ps sg pn nm (ob_no O) i))) (b := md_nv sg pn (md_t2 sg pn (md_ps sg pn nm (ob_no O) i))) (d := md_nv sg pn (md_t3 sg pn (md_ps sg pn nm (ob_no O) i))) hR8 hgp (hz _ (by omega))
        rw [hnoZ] at hL2
        have hnew : Ri sg pn nm O gp gz mk gw gu (i + 1) (sr_ao mx my mz k (md_nv sg pn (md_t1 sg pn (md_ps sg pn nm (ob_no O) i))) (md_nv sg pn (md_t2 sg pn (md_ps sg pn nm (ob_no O) i))) (md_nv sg pn (md_t3 sg pn (md_ps sg pn nm (ob_no O) i))) Z) := by
          refine ⟨?_, by omega, hR3.ao (by omega) mx my mz k _ _ _, hR4.add hmn ⟨h4.1.1.2.2, h4.1.2.2, h4.2.2⟩, ?_, upN mk' (ob_no O + i) k, ?_, ?_, hL2⟩
          · show ob_no Z + 1 = _
            omega
          · exact sr_01u hR5 (Or.inr rfl)
          · show upd (md_rm sg pn nm (ob_no O) (md_mk mk) i) (ob_no O + i) (md_nv sg pn (md_ps sg pn nm (ob_no O) i)) = _
            rw [hR6, ← t2, hek, mk_upd]
          · intro o ho
            unfold upN
            by_cases e : o = ob_no O + i
            · rw [if_pos e]; exact hk
            · rw [if_neg e]; exact hR7 o (by omega)
        obtain ⟨nr, z', zn', Z', c1, c2, c3⟩ := ro_eq hm hmn hgp hz f (i + 1) (md_t4 sg pn (md_ps sg pn nm (ob_no O) i)) (sr_rw sg pn (md_ps sg pn nm (ob_no O) i) zn 4).2.2 _ (by omega) hps.symm hnew (fun j hj => by
          rcases Nat.lt_or_eq_of_le (Nat.le_of_lt_succ hj) with w | w
          · exact hg j w
          · subst w; exact ⟨by omega, h4⟩)
        have hstep : sr_ro sg pn nm mx my mz (f + 1) i (md_ps sg pn nm (ob_no O) i, zn, Z) = sr_ro sg pn nm mx my mz f (i + 1) (md_t4 sg pn (md_ps sg pn nm (ob_no O) i), (sr_rw sg pn (md_ps sg pn nm (ob_no O) i) zn 4).2.2, sr_ao mx my mz k (md_nv sg pn (md_t1 sg pn (md_ps sg pn nm (ob_no O) i))) (md_nv sg pn (md_t2 sg pn (md_ps sg pn nm (ob_no O) i))) (md_nv sg pn (md_t3 sg pn (md_ps sg pn nm (ob_no O) i))) Z) := by
          show (if pn ≤ md_ps sg pn nm (ob_no O) i then _ else _) = _
          rw [if_neg q]
          show (if (sr_rw sg pn (md_ps sg pn nm (ob_no O) i) zn 4).1 = true ∧ sr_ok nm (sr_rw sg pn (md_ps sg pn nm (ob_no O) i) zn 4).2.2 (ob_no Z) then _ else _) = _
          rw [if_pos hok]
          show sr_ro sg pn nm mx my mz f (i + 1) ((sr_rw sg pn (md_ps sg pn nm (ob_no O) i) zn 4).2.1, (sr_rw sg pn (md_ps sg pn nm (ob_no O) i) zn 4).2.2, sr_on nm mx my mz (sr_rw sg pn (md_ps sg pn nm (ob_no O) i) zn 4).2.2 Z) = _
          rw [hon, t1, t3, t4, t5]
        rw [hstep]
        exact ⟨nr, z', zn', Z', c1, c2, c3⟩
      · have hbad : ¬ ((sr_rw sg pn (md_ps sg pn nm (ob_no O) i) zn 4).1 = true ∧ sr_ok nm (sr_rw sg pn (md_ps sg pn nm (ob_no O) i) zn 4).2.2 (ob_no Z)) := fun y => h4 (r1.mpr (by rw [← hnoZ]; exact y))
        refine ⟨i, (sr_rw sg pn (md_ps sg pn nm (ob_no O) i) zn 4).2.1, (sr_rw sg pn (md_ps sg pn nm (ob_no O) i) zn 4).2.2, Z, hR, hg, Or.inr ⟨⟨by omega, h4⟩, ?_⟩⟩
        show (if pn ≤ md_ps sg pn nm (ob_no O) i then _ else _) = _
        rw [if_neg q]
        exact if_neg hbad
end RDL
