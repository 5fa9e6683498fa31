/-! THE PURE PART, last: what holds between the program and the reference, call by call -/
def x3 (gp mx my mz : Nat → Int32) : Prop := ∀ j, gp (3 * j) = mx j ∧ gp (3 * j + 1) = my j ∧ gp (3 * j + 2) = mz j
def n3 (mx my mz : Nat → Int32) : Prop := ∀ j, sr_near (mx j) ∧ sr_near (my j) ∧ sr_near (mz j)
def St (O : sr_Ob) (S : sr_St) (kn : Int32) (P Q s t B M H : Int64) (ho hq : Nat → Int32) : Prop := (st_md S = 0 ∧ kn = -1) ∨ Sr O S kn P Q s t B M H ho hq
def Inv (nm np nl pn pt : Nat) (mx my mz px py pz fd fl : Nat → Int32) (O : sr_Ob) (S : sr_St) (kn : Int32) (gp gw gz gu ho hq gy : Nat → Int32) (mk : Nat → Nat) (P Q s t B M H : Int64) : Prop :=
  (nm ≤ 12 ∧ np ≤ 30 ∧ ob_no O ≤ 20 ∧ nl ≤ 12 ∧ pn ≤ 200 ∧ pt ≤ 200 ∧ st_sc S ≤ 20) ∧ x3 gp mx my mz ∧ x3 gy px py pz ∧ n3 mx my mz ∧ (∀ o, o < ob_no O → mk o < nm) ∧ LkO O mk gp gw gz gu ∧ BdO O ∧ (∀ o, ob_no O ≤ o → gz o = 0) ∧ (∀ k, ob_fe O k = 0 ∨ ob_fe O k = 1) ∧ (∀ k, gu k = 0 ∨ gu k = 1) ∧ Lv nl fd fl ∧ St O S kn P Q s t B M H ho hq
section INV
variable {nm np nl pn pt : Nat} {mx my mz px py pz fd fl : Nat → Int32} {O : sr_Ob} {S : sr_St} {kn : Int32} {gp gw gz gu ho hq gy : Nat → Int32} {mk : Nat → Nat} {P Q s t B M H : Int64}
theorem x3.add {gp mx my mz : Nat → Int32} (h : x3 gp mx my mz) (n : Nat) (a b d : Int32) : x3 (upd (upd (upd gp (3 * n) a) (3 * n + 1) b) (3 * n + 2) d) (upd mx n a) (upd my n b) (upd mz n d) := x3_add h n a b d
theorem n3.add {mx my mz : Nat → Int32} (h : n3 mx my mz) (n : Nat) {a b d : Int32} (hn : sr_near a ∧ sr_near b ∧ sr_near d) : n3 (upd mx n a) (upd my n b) (upd mz n d) := fun j => by
  by_cases q : j = n
  · subst q; rw [pk_us, pk_us, pk_us]; exact hn
  · rw [pk_un q, pk_un q, pk_un q]; exact h j
theorem Inv.mark (h : Inv nm np nl pn pt mx my mz px py pz fd fl O S kn gp gw gz gu ho hq gy mk P Q s t B M H) {a b d : Int32} (hc : nm < 12) (hn : sr_near a ∧ sr_near b ∧ sr_near d) : Inv (nm + 1) np nl pn pt (upd mx nm a) (upd my nm b) (upd mz nm d) px py pz fd fl O S kn (upd (upd (upd gp (3 * nm) a) (3 * nm + 1) b) (3 * nm + 2) d) gw gz gu ho hq gy mk P Q s t B M H := by
  obtain ⟨⟨b1, b2⟩, h2, h3, h4, h5, h6, h7⟩ := h
  refine ⟨⟨hc, b2⟩, h2.add nm a b d, h3, h4.add nm hn, fun o ho => Nat.lt_succ_of_lt (h5 o ho), fun o ho => ?_, h7⟩
  obtain ⟨⟨l1, l2, l3⟩, l4⟩ := h6 o ho
  have hm := h5 o ho
  refine ⟨⟨?_, ?_, ?_⟩, l4⟩
  · rw [pk_un (by omega), pk_un (by omega), pk_un (by omega)]; exact l1
  · rw [pk_un (by omega), pk_un (by omega), pk_un (by omega)]; exact l2
  · rw [pk_un (by omega), pk_un (by omega), pk_un (by omega)]; exact l3
theorem St.keep {O' : sr_Ob} (h : St O S kn P Q s t B M H ho hq) (hn : ob_no O ≤ ob_no O') (hk : ∀ k, k < ob_no O → ob_fx O' k = ob_fx O k ∧ ob_fy O' k = ob_fy O k ∧ ob_fz O' k = ob_fz O k ∧ ob_fu O' k = ob_fu O k ∧ ob_fv O' k = ob_fv O k ∧ ob_fw O' k = ob_fw O k) : St O' S kn P Q s t B M H ho hq := h.imp id (fun h => h.keep hn hk)
theorem St.ke {O' : sr_Ob} (h : St O S kn P Q s t B M H ho hq) (hn : ob_no O ≤ ob_no O') (hk : Ke (ob_no O) O O') : St O' S kn P Q s t B M H ho hq := h.keep hn (fun k q => ⟨(hk k q).1, (hk k q).2.1, (hk k q).2.2.1, (hk k q).2.2.2.1, (hk k q).2.2.2.2.1, (hk k q).2.2.2.2.2.1⟩)
theorem Ke.refl {no : Nat} {O : sr_Ob} : Ke no O O := fun _ _ => ⟨rfl, rfl, rfl, rfl, rfl, rfl, rfl, rfl⟩
theorem Inv.observe (h : Inv nm np nl pn pt mx my mz px py pz fd fl O S kn gp gw gz gu ho hq gy mk P Q s t B M H) {k : Nat} {a b d : Int32} (hk : k < nm) (hc : ob_no O < 20) (hn : sr_near a ∧ sr_near b ∧ sr_near d) :
    Inv nm np nl pn pt mx my mz px py pz fd fl (sr_ao mx my mz k a b d O) S kn gp (upd (upd (upd gw (3 * ob_no O) a) (3 * ob_no O + 1) b) (3 * ob_no O + 2) d) gz (upd gu (ob_no O) 1) ho hq gy (upN mk (ob_no O) k) P Q s t B M H := by
  obtain ⟨⟨b1, b2, b3, b4⟩, h2, h3, h4, h5, h6, h7, h8, h9, h10, h11, h12⟩ := h
  refine ⟨⟨b1, b2, hc, b4⟩, h2, h3, h4, fun o ho => ?_, h6.add h2 (h8 _ (Nat.le_refl _)), h7.add h4 hn, fun o ho => h8 o (by have : ob_no O + 1 ≤ o := ho; omega), sr_01u h9 (Or.inr rfl), sr_01u h10 (Or.inr rfl), h11, h12.ke (Nat.le_succ _) (Ke.refl.ao (Nat.le_refl _) mx my mz k a b d)⟩
  have ho : o < ob_no O + 1 := ho
  unfold upN
  by_cases e : o = ob_no O
  · rw [if_pos e]; exact hk
  · rw [if_neg e]; exact h5 o (by omega)
/-- the observations with another row of prisms, or of flags -/
def ob_sp (O : sr_Ob) (f : Nat → Int32) : sr_Ob := (ob_no O, ob_fx O, ob_fy O, ob_fz O, ob_fu O, ob_fv O, ob_fw O, f, ob_fe O)
def ob_se (O : sr_Ob) (f : Nat → Int32) : sr_Ob := (ob_no O, ob_fx O, ob_fy O, ob_fz O, ob_fu O, ob_fv O, ob_fw O, ob_fp O, f)
theorem Inv.prism (h : Inv nm np nl pn pt mx my mz px py pz fd fl O S kn gp gw gz gu ho hq gy mk P Q s t B M H) {k : Nat} {a : Int32} (hk : k < ob_no O) (h0 : ¬ a < 0) (h3000 : a ≤ 3000) :
    Inv nm np nl pn pt mx my mz px py pz fd fl (ob_sp O (upd (ob_fp O) k a)) S kn gp gw (upd gz k a) gu ho hq gy mk P Q s t B M H := by
  obtain ⟨h1, h2, h3, h4, h5, h6, h7, h8, h9, h10, h11, h12⟩ := h
  refine ⟨h1, h2, h3, h4, h5, fun o ho => ?_, fun o ho => ?_, fun o ho => ?_, h9, h10, h11, h12.keep (Nat.le_refl _) (fun _ _ => ⟨rfl, rfl, rfl, rfl, rfl, rfl⟩)⟩
  · obtain ⟨l1, l2, l3, l4⟩ := h6 o ho
    refine ⟨l1, l2, ?_, l4⟩
    show upd gz k a o = upd (ob_fp O) k a o
    by_cases q : o = k
    · subst q; rw [pk_us, pk_us]
    · rw [pk_un q, pk_un q]; exact l3
  · obtain ⟨l1, l2, l3, l4⟩ := h7 o ho
    refine ⟨l1, l2, ?_⟩
    show ¬ upd (ob_fp O) k a o < 0 ∧ upd (ob_fp O) k a o ≤ 3000
    by_cases q : o = k
    · subst q; rw [pk_us]; exact ⟨h0, h3000⟩
    · rw [pk_un q]; exact ⟨l3, l4⟩
  · have ho : ob_no O ≤ o := ho
    rw [pk_un (by omega)]
    exact h8 o ho
theorem Inv.flags (h : Inv nm np nl pn pt mx my mz px py pz fd fl O S kn gp gw gz gu ho hq gy mk P Q s t B M H) {fe' gu' : Nat → Int32} (hL : Lk (ob_no O) mk gp gw gz gu' (ob_fx O) (ob_fy O) (ob_fz O) (ob_fu O) (ob_fv O) (ob_fw O) (ob_fp O) fe') (h1' : ∀ k, fe' k = 0 ∨ fe' k = 1) (h2' : ∀ k, gu' k = 0 ∨ gu' k = 1) :
    Inv nm np nl pn pt mx my mz px py pz fd fl (ob_se O fe') S kn gp gw gz gu' ho hq gy mk P Q s t B M H := by
  obtain ⟨h1, h2, h3, h4, h5, h6, h7, h8, h9, h10, h11, h12⟩ := h
  exact ⟨h1, h2, h3, h4, h5, hL, h7, h8, h1', h2', h11, h12.keep (Nat.le_refl _) (fun _ _ => ⟨rfl, rfl, rfl, rfl, rfl, rfl⟩)⟩
theorem Inv.use (h : Inv nm np nl pn pt mx my mz px py pz fd fl O S kn gp gw gz gu ho hq gy mk P Q s t B M H) {k : Nat} {a : Int32} (h01 : a = 0 ∨ a = 1) : Inv nm np nl pn pt mx my mz px py pz fd fl (ob_se O (upd (ob_fe O) k a)) S kn gp gw gz (upd gu k a) ho hq gy mk P Q s t B M H :=
  h.flags (h.2.2.2.2.2.1.upd0 k a) (sr_01u h.2.2.2.2.2.2.2.2.1 h01) (sr_01u h.2.2.2.2.2.2.2.2.2.1 h01)
theorem Inv.set (h : Inv nm np nl pn pt mx my mz px py pz fd fl O S kn gp gw gz gu ho hq gy mk P Q s t B M H) {S' : sr_St} {kn' : Int32} {P' Q' s' t' B' M' H' : Int64} {ho' hq' : Nat → Int32} (hs : st_sc S' ≤ 20) (hS : Sr O S' kn' P' Q' s' t' B' M' H' ho' hq') :
    Inv nm np nl pn pt mx my mz px py pz fd fl O S' kn' gp gw gz gu ho' hq' gy mk P' Q' s' t' B' M' H' := by
  obtain ⟨⟨b1, b2, b3, b4, b5, b6, b7⟩, h2, h3, h4, h5, h6, h7, h8, h9, h10, h11, h12⟩ := h
  exact ⟨⟨b1, b2, b3, b4, b5, b6, hs⟩, h2, h3, h4, h5, h6, h7, h8, h9, h10, h11, Or.inr hS⟩
theorem Inv.point (h : Inv nm np nl pn pt mx my mz px py pz fd fl O S kn gp gw gz gu ho hq gy mk P Q s t B M H) {a b d : Int32} (hc : np < 30) : Inv nm (np + 1) nl pn pt mx my mz (upd px np a) (upd py np b) (upd pz np d) fd fl O S kn gp gw gz gu ho hq (upd (upd (upd gy (3 * np) a) (3 * np + 1) b) (3 * np + 2) d) mk P Q s t B M H := by
  obtain ⟨⟨b1, b2, b3⟩, h2, h3, h4⟩ := h
  exact ⟨⟨b1, hc, b3⟩, h2, h3.add np a b d, h4⟩
theorem Inv.level (h : Inv nm np nl pn pt mx my mz px py pz fd fl O S kn gp gw gz gu ho hq gy mk P Q s t B M H) {a b : Int32} (hc : nl < 12) (h1' : ¬ a < -100000) (h2' : a ≤ 100000) (h3' : ¬ b < 1) (h4' : b ≤ 10000) : Inv nm np (nl + 1) pn pt mx my mz px py pz (upd fd nl a) (upd fl nl b) O S kn gp gw gz gu ho hq gy mk P Q s t B M H := by
  obtain ⟨⟨b1, b2, b3, b4, b5⟩, h2, h3, h4, h5, h6, h7, h8, h9, h10, h11, h12⟩ := h
  exact ⟨⟨b1, b2, b3, hc, b5⟩, h2, h3, h4, h5, h6, h7, h8, h9, h10, h11.add h1' h2' h3' h4', h12⟩
theorem Inv.open0 (h : Inv nm np nl pn pt mx my mz px py pz fd fl O S kn gp gw gz gu ho hq gy mk P Q s t B M H) : Inv nm np 0 pn pt mx my mz px py pz fd fl O S kn gp gw gz gu ho hq gy mk P Q s t B M H := by
  obtain ⟨⟨b1, b2, b3, b4, b5⟩, h2, h3, h4, h5, h6, h7, h8, h9, h10, h11, h12⟩ := h
  exact ⟨⟨b1, b2, b3, by omega, b5⟩, h2, h3, h4, h5, h6, h7, h8, h9, h10, fun k hk => absurd hk (Nat.not_lt_zero _), h12⟩
theorem Inv.pad (h : Inv nm np nl pn pt mx my mz px py pz fd fl O S kn gp gw gz gu ho hq gy mk P Q s t B M H) {pn' pt' : Nat} (h1' : pn' ≤ 200) (h2' : pt' ≤ 200) : Inv nm np nl pn' pt' mx my mz px py pz fd fl O S kn gp gw gz gu ho hq gy mk P Q s t B M H := by
  obtain ⟨⟨b1, b2, b3, b4, b5, b6, b7⟩, h2⟩ := h
  exact ⟨⟨b1, b2, b3, b4, h1', h2', b7⟩, h2⟩
/-- rows that became observations -/
theorem Inv.rows (h : Inv nm np nl pn pt mx my mz px py pz fd fl O S kn gp gw gz gu ho hq gy mk P Q s t B M H) {sg : Nat → Int32} {nr : Nat} {Z : sr_Ob} {mk' : Nat → Nat} (hn : ob_no Z = ob_no O + nr) (hle : ob_no O + nr ≤ 20) (hK : Ke (ob_no O) O Z) (hB : BdO Z) (h01 : ∀ k, ob_fe Z k = 0 ∨ ob_fe Z k = 1) (hm : ∀ o, o < ob_no O + nr → mk' o < nm) (hL : LkO Z mk' gp (md_rv sg pn nm (ob_no O) gw nr) gz (md_ru (ob_no O) gu nr)) :
    Inv nm np nl pn pt mx my mz px py pz fd fl Z S kn gp (md_rv sg pn nm (ob_no O) gw nr) gz (md_ru (ob_no O) gu nr) ho hq gy mk' P Q s t B M H := by
  obtain ⟨⟨b1, b2, b3, b4⟩, h2, h3, h4, h5, h6, h7, h8, h9, h10, h11, h12⟩ := h
  refine ⟨⟨b1, b2, by omega, b4⟩, h2, h3, h4, fun o ho => hm o (by omega), hL, hB, fun o ho => h8 o (by omega), h01, ?_, h11, h12.ke (by omega) hK⟩
  have : ∀ n, ∀ k, md_ru (ob_no O) gu n k = 0 ∨ md_ru (ob_no O) gu n k = 1 := by
    intro n
    induction n with
    | zero => exact h10
    | succ n ih => exact sr_01u ih (Or.inr rfl)
  exact this nr
/-- so many observations as before, whatever stands behind them -/
theorem Inv.back (h : Inv nm np nl pn pt mx my mz px py pz fd fl O S kn gp gw gz gu ho hq gy mk P Q s t B M H) {Z : sr_Ob} (hK : Ke (ob_no O) O Z) (h01 : ∀ k, ob_fe Z k = 0 ∨ ob_fe Z k = 1) :
    Inv nm np nl pn pt mx my mz px py pz fd fl (sr_bk O Z) S kn gp gw gz gu ho hq gy mk P Q s t B M H := by
  obtain ⟨h1, h2, h3, h4, h5, h6, h7, h8, h9, h10, h11, h12⟩ := h
  refine ⟨h1, h2, h3, h4, h5, fun o ho => ?_, fun o ho => ?_, h8, h01, h10, h11, h12.ke (Nat.le_refl _) hK⟩
  · obtain ⟨k1, k2, k3, k4, k5, k6, k7, k8⟩ := hK o ho
    obtain ⟨⟨l1, l2, l3⟩, ⟨l4, l5, l6⟩, l7, l8⟩ := h6 o ho
    exact ⟨⟨l1.trans k1.symm, l2.trans k2.symm, l3.trans k3.symm⟩, ⟨l4.trans k4.symm, l5.trans k5.symm, l6.trans k6.symm⟩, l7.trans k7.symm, l8.trans k8.symm⟩
  · obtain ⟨k1, k2, k3, k4, k5, k6, k7, k8⟩ := hK o ho
    show (sr_near (ob_fx Z o) ∧ sr_near (ob_fy Z o) ∧ sr_near (ob_fz Z o)) ∧ (sr_near (ob_fu Z o) ∧ sr_near (ob_fv Z o) ∧ sr_near (ob_fw Z o)) ∧ ¬ ob_fp Z o < 0 ∧ ob_fp Z o ≤ 3000
    rw [k1, k2, k3, k4, k5, k6, k7]
    exact h7 o ho
/-- both set up, or neither -/
theorem Inv.setUp (h : Inv nm np nl pn pt mx my mz px py pz fd fl O S kn gp gw gz gu ho hq gy mk P Q s t B M H) (hw : ¬ md_WD gw (ob_no O) gu = 0) :
    Inv nm np nl pn pt mx my mz px py pz fd fl O (sr_mk S (ob_no O) (ob_fx O) (ob_fy O) (ob_fz O) (ob_fu O) (ob_fv O) (ob_fw O) (ob_fp O) (ob_fe O)) (nI (ob_no O)) gp gw gz gu (sr_cp 20 gz ho) (sr_cp 20 gu hq) gy mk (mv_P gp gw gu mk (ob_no O)) (mv_Q gp gw gu mk (ob_no O)) (mv_S gp gw gu mk (ob_no O)) (mv_T gp gw gu mk (ob_no O)) (md_WD gw (ob_no O) gu) (md_GN (ob_no O) gu) (mv_H gp gw gz gu mk (ob_no O)) := by
  have hn : ob_no O ≤ 20 := h.1.2.2.1
  have hL := h.2.2.2.2.2.1
  have hB := h.2.2.2.2.2.2.1
  have hr := set_rel (S := S) (ho := sr_cp 20 gz ho) (hq := sr_cp 20 gu hq) hn hL hB ((sp_pos hn hL hB).mpr hw) (fun k hk => if_pos (by omega)) (fun k hk => if_pos (by omega))
  exact h.set (by rw [hr.1]; exact hn) hr.2
theorem Inv.sp (h : Inv nm np nl pn pt mx my mz px py pz fd fl O S kn gp gw gz gu ho hq gy mk P Q s t B M H) : 0 < sr_sp (ob_no O) (ob_fx O) (ob_fy O) (ob_fz O) (ob_fu O) (ob_fv O) (ob_fw O) (ob_fp O) (ob_fe O) ↔ ¬ md_WD gw (ob_no O) gu = 0 := sp_pos h.1.2.2.1 h.2.2.2.2.2.1 h.2.2.2.2.2.2.1
theorem Inv.pos (h : Inv nm np nl pn pt mx my mz px py pz fd fl O S kn gp gw gz gu ho hq gy mk P Q s t B M H) : ∀ g, (∀ k, g k = 0 ∨ g k = 1) → ¬ md_WD gw (ob_no O) g = 0 → 0 < md_GN (ob_no O) g * md_WD gw (ob_no O) g ∧ 0 < md_GN (ob_no O) g := fun g _ hw => by
  have := wd_pos (g := g) h.1.2.2.1 (h.2.2.2.2.2.1.near h.2.2.2.2.2.2.1) hw
  exact ⟨this.1, this.2.1⟩
set_option maxHeartbeats 2000000 in
/-- blunders, where both set up -/
theorem Inv.blun (h : Inv nm np nl pn pt mx my mz px py pz fd fl O S kn gp gw gz gu ho hq gy mk P Q s t B M H) (a : Int32) (hw : ¬ md_WD gw (ob_no O) gu = 0) {c : Nat} {S' : sr_St} {sf' : Nat → Int64} {fe' gu' : Nat → Int32} {sf0 : Nat → Int64}
    (e1 : sr_bf (a.toInt64 * a.toInt64) (ob_no O) (ob_fx O) (ob_fy O) (ob_fz O) (ob_fu O) (ob_fv O) (ob_fw O) (ob_fp O) 20 (sr_mk S (ob_no O) (ob_fx O) (ob_fy O) (ob_fz O) (ob_fu O) (ob_fv O) (ob_fw O) (ob_fp O) (ob_fe O), sf0, ob_fe O) = (c, S', sf', fe')) (e2 : (md_bl gp gw mk (ob_no O) a 21 0 gu).2 = gu') :
    (md_bl gp gw mk (ob_no O) a 21 0 gu).1 = c ∧ Inv nm np nl pn pt mx my mz px py pz fd fl (ob_se O fe') S' (nI (ob_no O)) gp gw gz gu' (sr_cp 20 gz ho) (sr_cp 20 gu' hq) gy mk (mv_P gp gw gu' mk (ob_no O)) (mv_Q gp gw gu' mk (ob_no O)) (mv_S gp gw gu' mk (ob_no O)) (mv_T gp gw gu' mk (ob_no O)) (md_WD gw (ob_no O) gu') (md_GN (ob_no O) gu') (mv_H gp gw gz gu' mk (ob_no O)) := by
  have hn : ob_no O ≤ 20 := h.1.2.2.1
  have hL := h.2.2.2.2.2.1
  have hB := h.2.2.2.2.2.2.1
  have hc := sr_cu_le gu (ob_no O)
  obtain ⟨c1, S1, sf1, g1, f1, r1, r2, r3, r4, r5, r6⟩ := bl_eq (a := a) hn hB 20 21 0 _ sf0 gu (ob_fe O) (by omega) (by omega) h.2.2.2.2.2.2.2.2.2.1 h.2.2.2.2.2.2.2.2.1 hL (Mb.of (S := S) hn hL hB (h.sp.mpr hw))
  rw [e1] at r1
  cases r1
  rw [r2] at e2
  cases e2
  rw [r2]
  refine ⟨by show 0 + c = c; omega, ?_⟩
  have hI := h.flags r5 r4 r3
  exact hI.set (O := ob_se O fe') (by rw [r6.1]; exact hn) (r6.2 _ _ (fun k hk => if_pos (by omega)) (fun k hk => if_pos (by omega)))
end INV
def O0 : sr_Ob := (0, fun _ => 0, fun _ => 0, fun _ => 0, fun _ => 0, fun _ => 0, fun _ => 0, fun _ => 0, fun _ => 0)
def S0 : sr_St := (0, 0, 0, 0, fun _ => 0, fun _ => 0, fun _ => 0, fun _ => 0, fun _ => 0)
theorem inv0 {P Q s t B M H : Int64} : Inv 0 0 0 0 0 (fun _ => 0) (fun _ => 0) (fun _ => 0) (fun _ => 0) (fun _ => 0) (fun _ => 0) (fun _ => 0) (fun _ => 0) O0 S0 (-1) (fun _ => 0) (fun _ => 0) (fun _ => 0) (fun _ => 0) (fun _ => 0) (fun _ => 0) (fun _ => 0) (fun _ => 0) P Q s t B M H :=
  ⟨⟨by decide, by decide, by decide, by decide, by decide, by decide, by decide⟩, fun _ => ⟨rfl, rfl, rfl⟩, fun _ => ⟨rfl, rfl, rfl⟩, fun _ => ⟨(show sr_near 0 by decide), (show sr_near 0 by decide), (show sr_near 0 by decide)⟩, fun o ho => absurd ho (Nat.not_lt_zero o), fun o ho => absurd ho (Nat.not_lt_zero o), fun o ho => absurd ho (Nat.not_lt_zero o), fun _ _ => rfl, fun _ => Or.inl rfl, fun _ => Or.inl rfl, fun k hk => absurd hk (Nat.not_lt_zero k), Or.inl ⟨rfl, rfl⟩⟩
