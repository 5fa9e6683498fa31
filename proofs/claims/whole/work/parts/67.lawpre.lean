/-! THE LAW: what stands ahead of its cases -/
def LC (p : Program) (l : Launch) (s : State) (m : MethodId) (c : Code) (b L : Nat) (xs : Nat → Int32) (A : Nat → Prop) : Prop :=
  p.tables.exec = Jvm.exec ∧ c.code = code ∧ c.maxLocals = 8 ∧ s.vm.findClass xR_LA = some m.cls ∧ (∀ w ∈ Cond.tt :: xall, w.before #[Value.ref b] s = true) ∧ xZ s ∧ l.stackTraces = false ∧ va_X b L xs s s.heap ∧ b < s.heap.size ∧ ¬ A b ∧ (∀ q : Nat, s.heap.size ≤ q → A q) ∧ xHA A s ∧ L ≤ 2560
theorem w4 {a : Int32} : md_win a 0 3 ↔ xin a 4 := by
  have h := md_win_in (a := a) (n := 4) (by decide)
  rw [show nI 4 - 1 = 3 by decide] at h
  exact h
theorem w3 {a : Int32} : md_win a 0 2 ↔ xin a 3 := by
  have h := md_win_in (a := a) (n := 3) (by decide)
  rw [show nI 3 - 1 = 2 by decide] at h
  exact h
theorem w6 {a : Int32} : md_win a 0 5 ↔ xin a 6 := by
  have h := md_win_in (a := a) (n := 6) (by decide)
  rw [show nI 6 - 1 = 5 by decide] at h
  exact h
theorem xin_ge {a : Int32} {n k : Nat} (h1 : xin a n) (h2 : ¬ xin a k) (hk : k ≤ 20) : nI k ≤ a := by
  have h1 : vp_in a n := h1
  have h2 : ¬ vp_in a k := h2
  rw [vp_in_iff] at h1 h2
  rw [Int32.le_iff_toInt_le, nI_toInt (by omega)]
  omega
theorem wcl_m {n : Nat} (h : n ≤ 12) : md_win (-1) (-1) (nI n - 1) := by
  refine ⟨by decide, ?_⟩
  rw [Int32.lt_iff_toInt_lt, nI_m1 (by omega), show (-1 : Int32).toInt = -1 from by decide]
  omega
theorem wcl_k {k n : Nat} (h1 : k < n) (h : n ≤ 12) : md_win (nI k) (-1) (nI n - 1) := by
  unfold md_win
  rw [Int32.lt_iff_toInt_lt, Int32.lt_iff_toInt_lt, nI_m1 (by omega), nI_toInt (by omega), show (-1 : Int32).toInt = -1 from by decide]
  omega
theorem wcl_in {a : Int32} {n : Nat} (h : n ≤ 12) (hw : md_win a (-1) (nI n - 1)) : a = -1 ∨ xin a n := by
  unfold md_win at hw
  rw [Int32.lt_iff_toInt_lt, Int32.lt_iff_toInt_lt, nI_m1 (by omega), show (-1 : Int32).toInt = -1 from by decide] at hw
  by_cases q : a.toInt = -1
  · exact Or.inl (Int32.toInt_inj.mp (by rw [q]; decide))
  · refine Or.inr ?_
    show vp_in a n
    rw [vp_in_iff]
    omega
theorem ro_le {sg : Nat → Int32} {pn nm : Nat} {mx my mz : Nat → Int32} (hp : pn ≤ 200) : ∀ (f i z : Nat) (zn : Nat → Int32) (Z : sr_Ob), z ≤ 200 → (sr_ro sg pn nm mx my mz f i (z, zn, Z)).2.1 ≤ 200
  | 0, i, z, zn, Z, h => h
  | f + 1, i, z, zn, Z, h => by
    have hr := sr_rw_le (sg := sg) (nu := zn) hp h 4
    show (if pn ≤ z then _ else _ : Int32 × Nat × (Nat → Int32) × sr_Ob).2.1 ≤ 200
    by_cases q : pn ≤ z
    · rw [if_pos q]; exact h
    · rw [if_neg q]
      show (if (sr_rw sg pn z zn 4).1 = true ∧ sr_ok nm (sr_rw sg pn z zn 4).2.2 (ob_no Z) then _ else _ : Int32 × Nat × (Nat → Int32) × sr_Ob).2.1 ≤ 200
      by_cases q2 : (sr_rw sg pn z zn 4).1 = true ∧ sr_ok nm (sr_rw sg pn z zn 4).2.2 (ob_no Z)
      · rw [if_pos q2]; exact ro_le hp f (i + 1) _ _ _ hr
      · rw [if_neg q2]; exact hr
section XSLD
variable {p : Program} {l : Launch} {e : Env} {R : Room} {s : State} {m : MethodId} {args : Array Value} {below : List Frame} {meth : Method} {c : Code} {H : Heap} {locs : List Loc} {cells slots : Nat} {Q : State → Prop}
variable {cc : ByteArray} {pc : Nat} {ls : Array Slot} {rest : List Value} {A : Nat → Prop} {H0 : Heap}
theorem xa_sld (hexec : p.tables.exec = Jvm.exec) (hb : c.code = cc) {b L : Nat} {xs : Nat → Int32} (hX : va_X b L xs s H0) (hbl : b < H0.size) (hbA : ¬ A b) (hS : va_S A H0 H locs) {i v : Int32} (k : Nat) (hi : i = nI k) (hk : k < L) (hL : L < 2 ^ 31) (hv : xs k = v) (hdg : decode cc pc = .ok (.iaload, 1))
    (kk : W p l e R s m args below meth c H locs cells slots Q (F0 m (pc + 1) ls (.int v :: rest))) : W p l e R s m args below meth c H locs cells slots Q (F0 m pc ls (.int i :: .ref b :: rest)) := by
  subst hi
  refine va_sld hexec hb hX hbl hbA hS (vp_in_nI hk hL) hdg ?_
  rw [nI_clamp (Nat.lt_trans hk hL), hv]
  exact kk
end XSLD
theorem lw_gt {L i : Nat} (hL : L ≤ 2560) (hi : i ≤ 2560) : nI L - 5 < nI i ↔ L < i + 5 := by
  have e : (nI L - 5).toInt = (L : Int) - 5 := by
    rw [Int32.toInt_sub, nI_toInt (by omega), show (5 : Int32).toInt = 5 from by decide]
    apply Int.bmod_eq_of_le <;> omega
  rw [Int32.lt_iff_toInt_lt, e, nI_toInt (by omega)]
  omega

