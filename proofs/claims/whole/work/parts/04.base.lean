/-! BASE: what a boolean answer is; Nat facts out of compares; contracts of methods that only read (xr_, xp_r) and of methods that write (xp_w, xb_w); array rows at a Nat place (xa_) -/
/-- in range: vp_in, so that it can be decided -/
abbrev xin (i : Int32) (n : Nat) : Prop := ¬ (i < 0 ∨ n ≤ i.toNatClampNeg)
def bI (P : Prop) [Decidable P] : Int32 := if P then 1 else 0
theorem bI_t {P : Prop} [Decidable P] {r : Int32} (h : r = bI P) (c : ¬ r = 0) : P := by
  unfold bI at h
  by_cases hp : P
  · exact hp
  · rw [if_neg hp] at h; exact absurd h c
theorem bI_f {P : Prop} [Decidable P] {r : Int32} (h : r = bI P) (c : r = 0) : ¬ P := by
  intro hp
  unfold bI at h
  rw [if_pos hp] at h
  rw [h] at c
  exact absurd c (by decide)
theorem bI_p {P : Prop} [Decidable P] (h : P) : (1 : Int32) = bI P := (if_pos h).symm
theorem bI_n {P : Prop} [Decidable P] (h : ¬ P) : (0 : Int32) = bI P := (if_neg h).symm
theorem bI_01 (P : Prop) [Decidable P] : bI P = 0 ∨ bI P = 1 := by
  unfold bI
  by_cases hp : P
  · rw [if_pos hp]; exact Or.inr rfl
  · rw [if_neg hp]; exact Or.inl rfl
theorem bI_nar (P : Prop) [Decidable P] : narrow .boolean (.int (bI P)) = .int (bI P) := by
  rcases bI_01 P with h | h <;> rw [h] <;> rfl
theorem bI_narr {P : Prop} [Decidable P] {r : Int32} (h : r = bI P) : narrow .boolean (.int r) = .int r := by
  rw [h]; exact bI_nar P
theorem bI_congr {P Q : Prop} [Decidable P] [Decidable Q] (h : P ↔ Q) : bI P = bI Q := by
  unfold bI
  by_cases hp : P
  · rw [if_pos hp, if_pos (h.mp hp)]
  · rw [if_neg hp, if_neg (fun q => hp (h.mpr q))]
theorem xn_le {a b : Nat} {x y : Int32} (c : x ≤ y) (hx : x = nI a) (hy : y = nI b) (ha : a < 2 ^ 31) (hb : b < 2 ^ 31) : a ≤ b := by
  subst hx; subst hy; exact (nI_leI ha hb).mp c
theorem xn_nle {a b : Nat} {x y : Int32} (c : ¬ x ≤ y) (hx : x = nI a) (hy : y = nI b) (ha : a < 2 ^ 31) (hb : b < 2 ^ 31) : b < a := by
  subst hx; subst hy; exact Nat.not_le.mp (fun q => c ((nI_leI ha hb).mpr q))
theorem xn_lt {a b : Nat} {x y : Int32} (c : x < y) (hx : x = nI a) (hy : y = nI b) (ha : a < 2 ^ 31) (hb : b < 2 ^ 31) : a < b := by
  subst hx; subst hy; exact (nI_ltI ha hb).mp c
theorem xn_nlt {a b : Nat} {x y : Int32} (c : ¬ x < y) (hx : x = nI a) (hy : y = nI b) (ha : a < 2 ^ 31) (hb : b < 2 ^ 31) : b ≤ a := by
  subst hx; subst hy; exact Nat.not_lt.mp (fun q => c ((nI_ltI ha hb).mpr q))
theorem xn_eq {a b : Nat} {x y : Int32} (c : x = y) (hx : x = nI a) (hy : y = nI b) (ha : a < 2 ^ 31) (hb : b < 2 ^ 31) : a = b := by
  subst hx; subst hy; exact (nI_eq ha hb).mp c
theorem xn_ne {a b : Nat} {x y : Int32} (c : ¬ x = y) (hx : x = nI a) (hy : y = nI b) (ha : a < 2 ^ 31) (hb : b < 2 ^ 31) : a ≠ b := by
  subst hx; subst hy; exact fun q => c ((nI_eq ha hb).mpr q)
/-- a number that is not below 0 and below nI n is in range -/
theorem xn_in {x : Int32} {n : Nat} (h0 : ¬ x < 0) (h1 : x < nI n) (hn : n < 2 ^ 31) : xin x n := by
  show vp_in x n
  rw [vp_in_iff]
  rw [Int32.lt_iff_toInt_lt, Int32.toInt_zero] at h0
  rw [Int32.lt_iff_toInt_lt, nI_toInt hn] at h1
  omega
theorem xn_notin0 {x : Int32} {n : Nat} (h0 : x < 0) : ¬ xin x n := fun h => h (Or.inl h0)
theorem xn_notin1 {x : Int32} {n : Nat} (h1 : nI n ≤ x) (hn : n < 2 ^ 31) : ¬ xin x n := by
  show ¬ vp_in x n
  rw [vp_in_iff]
  rw [Int32.le_iff_toInt_le, nI_toInt hn] at h1
  omega
/-- links inside the nest, and the texts of exceptions: what the tables say beside the good words -/
def xAO (U : State) : Prop := (Cond.arrayOver (.array .int)).before #[] U = true
theorem xAO.moved {u U : State} (hvm : u.vm.Alike U.vm) (h : xAO u) : xAO U := by
  have h1 : (Cond.arrayOver (.array .int)).before #[] (u.setVm U.vm) = true := by
    rw [Cond.arrayOver_setVmC hvm]
    exact h
  exact h1
def xZ (U : State) : Prop := (∀ q ∈ x_nest, va_Nw (.methodLinkNest q.1 q.2.1 q.2.2 "StationRounds") U) ∧ (∀ q ∈ x_strs, ∃ a : Nat, vk_R q.1 q.2.1 q.2.2 a U) ∧ (∀ w ∈ x_face, va_Nw w U) ∧ (∀ q ∈ x_nc, va_Nc q.1 q.2 U) ∧ xAO U
theorem xZ.nest {U : State} (hz : xZ U) {own : String} {idx : Nat} {y : MethodName} (h : (own, idx, y) ∈ x_nest) : va_Nw (.methodLinkNest own idx y "StationRounds") U := hz.1 _ h
theorem xZ.str {U : State} (hz : xZ U) {own : String} {idx : Nat} {tx : String} (h : (own, idx, tx) ∈ x_strs) : ∃ a : Nat, vk_R own idx tx a U := hz.2.1 _ h
theorem xZ.face {U : State} (hz : xZ U) {w : Cond} (h : w ∈ x_face) : va_Nw w U := hz.2.2.1 w h
theorem xZ.nc {U : State} (hz : xZ U) {E nm : String} (h : (E, nm) ∈ x_nc) : va_Nc E nm U := hz.2.2.2.1 _ h
theorem xZ.ao {U : State} (hz : xZ U) : xAO U := hz.2.2.2.2
theorem xF_on {w : Cond} (h : w ∈ x_face) : w.onTables = true ∧ w.keepsFace = true := by
  have h1 := (List.mem_filter.mp h).2
  simpa only [Bool.and_eq_true] using h1
/-- a word of x_face lasts -/
theorem xF_warm {w : Cond} {s U : State} (h : w ∈ x_face) (hW : s.WarmedH U.vm) (hw : va_Nw w s) : va_Nw w U :=
  va_tabs (xF_on h).1 (rfl : (s.setVm U.vm).vm = U.vm) (Cond.before_shiftedFace (State.Shifted.of_warmed hW) w (xF_on h).2 hw)
theorem xZ.warm {s U : State} (hW : s.WarmedH U.vm) (hz : xZ s) : xZ U := ⟨fun q h => va_Nw.warmM hW (hz.1 q h), fun q h => by
  obtain ⟨a, ha⟩ := hz.2.1 q h
  exact ⟨a, ha.warm hW⟩, fun w h => xF_warm h hW (hz.2.2.1 w h), fun q h => va_Nc.moved hW.alike (hz.2.2.2.1 q h), xAO.moved hW.alike hz.2.2.2.2⟩
theorem xZ.same {u U : State} (h : U.vm = u.vm) (hz : xZ u) : xZ U := ⟨fun q hq => va_Nw.same rfl h.symm (hz.1 q hq), fun q hq => by
  obtain ⟨a, ha⟩ := hz.2.1 q hq
  exact ⟨a, ha.same h⟩, fun w hw => va_Nw.same (xF_on hw).1 h.symm (hz.2.2.1 w hw), fun q hq => va_Nc.moved (by rw [h]; exact Vm.Alike.refl u.vm) (hz.2.2.2.1 q hq), xAO.moved (by rw [h]; exact Vm.Alike.refl u.vm) hz.2.2.2.2⟩
theorem xg {cA cB : Cond} (hB : cB ∈ xall) : GoodIn (cA :: xall) (cB :: xall) := fun w hw => by
  have h : w ∈ xall := (List.mem_cons.mp hw).elim (fun e => e ▸ hB) id
  exact ⟨List.mem_cons_of_mem _ h, good_of_word (List.mem_filter.mp h).2⟩
theorem xg1 {cA w : Cond} (h : w ∈ xall) : w ∈ cA :: xall ∧ ((w.onTables && w.keeps) = true ∨ ∃ ty, w = .arrayClass ty) := ⟨List.mem_cons_of_mem _ h, good_of_word (List.mem_filter.mp h).2⟩
theorem xgV {cA cB : Cond} {own C : String} {idx : Nat} {y : MethodName} (h1 : .methodLink own idx y ∈ xall) (h2 : .instanceMethod y ∈ xall) (h3 : .selects C y y ∈ xall) (h4 : .initialized C ∈ xall) (hB : cB ∈ xall) : GoodIn (cA :: xall) (wsV own idx C y (cB :: xall)) := fun w hw => by
  rcases List.mem_append.mp hw with hw | hw
  · simp only [List.mem_cons, List.not_mem_nil, or_false] at hw
    rcases hw with rfl | rfl | rfl | rfl
    · exact xg1 h1
    · exact xg1 h2
    · exact xg1 h3
    · exact xg1 h4
  · exact xg hB w hw
theorem xgS {cA cB : Cond} {own : String} {idx : Nat} {y : MethodName} (h1 : .methodLink own idx y ∈ xall) (h2 : .static y ∈ xall) (h3 : .initialized y.cls ∈ xall) (hB : cB ∈ xall) : GoodIn (cA :: xall) (va_wsS own idx y (cB :: xall)) := fun w hw => by
  rcases List.mem_append.mp hw with hw | hw
  · simp only [List.mem_cons, List.not_mem_nil, or_false] at hw
    rcases hw with rfl | rfl | rfl
    · exact xg1 h1
    · exact xg1 h2
    · exact xg1 h3
  · exact xg hB w hw
def xp_r (av : List Value) (D : va_G) (cl : List vw_C) (ws : va_W) (tys : List (ClassId × FieldType)) : Array Value → State → Prop := va_Pc av (fun U => xZ U ∧ va_P D cl ws U.heap ∧ va_K D cl tys U)
def xp_w (av : List Value) (sz : Nat) (D : va_G) (cl : List vw_C) (ws : va_W) (tys : List (ClassId × FieldType)) : Array Value → State → Prop := va_Pc av (fun U => U.heap.size = sz ∧ xZ U ∧ va_P D cl ws U.heap ∧ va_K D cl tys U ∧ va_D (fun _ => True) ws)
def xb_w (D : va_G) (cl : List vw_C) (ws : va_W) (tys : List (ClassId × FieldType)) (A : Nat → Prop) (t : State) : Prop := va_P D cl ws t.heap ∧ va_K D cl tys t ∧ va_D A ws
theorem xp_blind {av : List Value} {D : va_G} {cl : List vw_C} {ws : va_W} {tys : List (ClassId × FieldType)} : FrameBlind (xp_r av D cl ws tys) := fun a U g mk q => by
  obtain ⟨q0, qZ, qP, qK⟩ := q
  exact ⟨q0, xZ.same (u := U) rfl qZ, qP, va_K.moved (u := U) (U := U.calling g mk a) (Vm.Alike.refl U.vm) qK⟩
theorem xw_blind {av : List Value} {sz : Nat} {D : va_G} {cl : List vw_C} {ws : va_W} {tys : List (ClassId × FieldType)} : FrameBlind (xp_w av sz D cl ws tys) := fun a U g mk q => by
  obtain ⟨q0, q1, qZ, qP, qK, qD⟩ := q
  exact ⟨q0, q1, xZ.same (u := U) rfl qZ, qP, va_K.moved (u := U) (U := U.calling g mk a) (Vm.Alike.refl U.vm) qK, qD⟩
abbrev xr_i (post : Int32 → Prop) := vp_Si post
abbrev xr_l (post : Int64 → Prop) := vp_Sl post
section XR
variable {p : Program} {l : Launch} {e : Env} {R : Room} {s : State} {m : MethodId} {args : Array Value} {below : List Frame} {meth : Method} {c : Code} {H : Heap} {locs : List Loc} {cells slots : Nat} {Q : State → Prop}
variable {pc : Nat} {ls : Array Slot} {rest st0 : List Value} {a : Array Value} {cc : ByteArray}
/-- the number on top, written otherwise -/
theorem xv_i {x y : Int32} (h : x = y) (k : W p l e R s m args below meth c H locs cells slots Q (F0 m pc ls (.int y :: rest))) : W p l e R s m args below meth c H locs cells slots Q (F0 m pc ls (.int x :: rest)) := by
  subst h
  exact k
theorem xv_l {x y : Int64} (h : x = y) (k : W p l e R s m args below meth c H locs cells slots Q (F0 m pc ls (.long y :: rest))) : W p l e R s m args below meth c H locs cells slots Q (F0 m pc ls (.long x :: rest)) := by
  subst h
  exact k
theorem xr_calli {post : Int32 → Prop} (hr : va_Run p l e R s m args below meth c H locs cells slots 0 0 (F0 m pc ls st0) rest (xr_i post a) (fun _ => False)) (go : ∀ r : Int32, post r → W p l e R s m args below meth c H locs cells slots Q (F0 m (pc + 3) ls (.int r :: rest))) :
    W p l e R s m args below meth c H locs cells slots Q (F0 m pc ls st0) := vp_callSi hr.run go
theorem xr_calll {post : Int64 → Prop} (hr : va_Run p l e R s m args below meth c H locs cells slots 0 0 (F0 m pc ls st0) rest (xr_l post a) (fun _ => False)) (go : ∀ r : Int64, post r → W p l e R s m args below meth c H locs cells slots Q (F0 m (pc + 3) ls (.long r :: rest))) :
    W p l e R s m args below meth c H locs cells slots Q (F0 m pc ls st0) := vp_callSl hr.run go
theorem xr_iret {post : Int32 → Prop} {v : Int32} {free : Addr → Prop} (hexec : p.tables.exec = Jvm.exec) (hb : c.code = cc) (hr : meth.sig.returnType = some .int) (hp : post v) (hdg : decode cc pc = .ok (.ireturn, 1)) (hlocks : meth.locks = false) :
    W p l e R s m args below meth c s.heap [] cells slots (MQ below (xr_i post) args s cells slots free) (F0 m pc ls [.int v]) :=
  W.iret hexec hb hr (fun t ht _ => ⟨v, rfl, hp, ht⟩) (fun q hq => nomatch hq) hdg hlocks
theorem xr_zret {post : Int32 → Prop} {v : Int32} {ty : FieldType} {free : Addr → Prop} (hexec : p.tables.exec = Jvm.exec) (hb : c.code = cc) (hr : meth.sig.returnType = some ty) (hn : narrow ty (.int v) = .int v) (hp : post v) (hdg : decode cc pc = .ok (.ireturn, 1)) (hlocks : meth.locks = false) :
    W p l e R s m args below meth c s.heap [] cells slots (MQ below (xr_i post) args s cells slots free) (F0 m pc ls [.int v]) :=
  W.zret hexec hb hr hn (fun t ht _ => ⟨v, rfl, hp, ht⟩) (fun q hq => nomatch hq) hdg hlocks
theorem xr_lret {post : Int64 → Prop} {v : Int64} {free : Addr → Prop} (hexec : p.tables.exec = Jvm.exec) (hb : c.code = cc) (hr : meth.sig.returnType = some .long) (hp : post v) (hdg : decode cc pc = .ok (.lreturn, 1)) (hlocks : meth.locks = false) :
    W p l e R s m args below meth c s.heap [] cells slots (MQ below (xr_l post) args s cells slots free) (F0 m pc ls [.long v]) :=
  W.lret hexec hb hr (fun t ht _ => ⟨v, rfl, hp, ht⟩) (fun q hq => nomatch hq) hdg hlocks
end XR
section XA
variable {p : Program} {l : Launch} {e : Env} {R : Room} {s : State} {m : MethodId} {args : Array Value} {below : List Frame} {meth : Method} {c : Code} {H : Heap} {locs : List Loc} {cells slots : Nat} {Q : State → Prop}
variable {cc : ByteArray} {pc : Nat} {ls : Array Slot} {rest : List Value} {D : va_G} {cl : List vw_C} {A : Nat → Prop} {a : Nat} {tys : List (ClassId × FieldType)} {ws : va_W} {H0 : Heap}
theorem xa_iald (hexec : p.tables.exec = Jvm.exec) (hb : c.code = cc) (hK : va_K D cl tys s) (hP : va_P D cl ws H) (q0 t0 : Nat) {cA : ClassId} {n : Nat} {f : Nat → Int32} (ha : ws[q0]? = some (a, .inl (cA, n, .inl f))) (ht : tys[t0]? = some (cA, .int)) {i : Int32} (k : Nat) (hi : i = nI k) (hk : k < n) (hn : n < 2 ^ 31) (hdg : decode cc pc = .ok (.iaload, 1))
    (kk : W p l e R s m args below meth c H locs cells slots Q (F0 m (pc + 1) ls (.int (f k) :: rest))) : W p l e R s m args below meth c H locs cells slots Q (F0 m pc ls (.int i :: .ref a :: rest)) := by
  subst hi
  refine va_iald hexec hb hK hP q0 t0 ha ht (vp_in_nI hk hn) hdg ?_
  rw [nI_clamp (Nat.lt_trans hk hn)]
  exact kk
theorem xa_zald (hexec : p.tables.exec = Jvm.exec) (hb : c.code = cc) (hK : va_K D cl tys s) (hP : va_P D cl ws H) (q0 t0 : Nat) {cA : ClassId} {n : Nat} {f : Nat → Int32} (ha : ws[q0]? = some (a, .inl (cA, n, .inl f))) (ht : tys[t0]? = some (cA, .boolean)) {i : Int32} (k : Nat) (hi : i = nI k) (hk : k < n) (hn : n < 2 ^ 31) (hdg : decode cc pc = .ok (.baload, 1))
    (kk : W p l e R s m args below meth c H locs cells slots Q (F0 m (pc + 1) ls (.int (f k) :: rest))) : W p l e R s m args below meth c H locs cells slots Q (F0 m pc ls (.int i :: .ref a :: rest)) := by
  subst hi
  refine va_zald hexec hb hK hP q0 t0 ha ht (vp_in_nI hk hn) hdg ?_
  rw [nI_clamp (Nat.lt_trans hk hn)]
  exact kk
theorem xa_cald (hexec : p.tables.exec = Jvm.exec) (hb : c.code = cc) (hK : va_K D cl tys s) (hP : va_P D cl ws H) (q0 t0 : Nat) {cA : ClassId} {n : Nat} {f : Nat → Int32} (ha : ws[q0]? = some (a, .inl (cA, n, .inl f))) (ht : tys[t0]? = some (cA, .char)) {i : Int32} (k : Nat) (hi : i = nI k) (hk : k < n) (hn : n < 2 ^ 31) (hdg : decode cc pc = .ok (.caload, 1))
    (kk : W p l e R s m args below meth c H locs cells slots Q (F0 m (pc + 1) ls (.int (f k) :: rest))) : W p l e R s m args below meth c H locs cells slots Q (F0 m pc ls (.int i :: .ref a :: rest)) := by
  subst hi
  refine va_cald hexec hb hK hP q0 t0 ha ht (vp_in_nI hk hn) hdg ?_
  rw [nI_clamp (Nat.lt_trans hk hn)]
  exact kk
theorem xa_lald (hexec : p.tables.exec = Jvm.exec) (hb : c.code = cc) (hK : va_K D cl tys s) (hP : va_P D cl ws H) (q0 t0 : Nat) {cA : ClassId} {n : Nat} {f : Nat → Int64} (ha : ws[q0]? = some (a, .inl (cA, n, .inr (.inl f)))) (ht : tys[t0]? = some (cA, .long)) {i : Int32} (k : Nat) (hi : i = nI k) (hk : k < n) (hn : n < 2 ^ 31) (hdg : decode cc pc = .ok (.laload, 1))
    (kk : W p l e R s m args below meth c H locs cells slots Q (F0 m (pc + 1) ls (.long (f k) :: rest))) : W p l e R s m args below meth c H locs cells slots Q (F0 m pc ls (.int i :: .ref a :: rest)) := by
  subst hi
  refine va_lald hexec hb hK hP q0 t0 ha ht (vp_in_nI hk hn) hdg ?_
  rw [nI_clamp (Nat.lt_trans hk hn)]
  exact kk
theorem xa_iast (hexec : p.tables.exec = Jvm.exec) (hb : c.code = cc) (hK : va_K D cl tys s) (hP : va_P D cl ws H) (hD : va_D A ws) (hS : va_S A H0 H locs) (q0 t0 : Nat) {cA : ClassId} {n : Nat} {f : Nat → Int32} (ha : ws[q0]? = some (a, .inl (cA, n, .inl f))) (ht : tys[t0]? = some (cA, .int)) {i : Int32} {x : Int32} (k : Nat) (hi : i = nI k) (hk : k < n) (hn : n < 2 ^ 31) (hdg : decode cc pc = .ok (.iastore, 1))
    (kk : ∀ (H1 : Heap) (locs1 : List Loc), va_P D cl (ws.set q0 (a, .inl (cA, n, .inl (upd f k x)))) H1 → va_D A (ws.set q0 (a, .inl (cA, n, .inl (upd f k x)))) → va_S A H0 H1 locs1 → W p l e R s m args below meth c H1 locs1 cells slots Q (F0 m (pc + 1) ls rest)) : W p l e R s m args below meth c H locs cells slots Q (F0 m pc ls (.int x :: .int i :: .ref a :: rest)) := by
  subst hi
  refine va_iast hexec hb hK hP hD hS q0 t0 ha ht (vp_in_nI hk hn) hdg ?_
  rw [nI_clamp (Nat.lt_trans hk hn)]
  exact kk
theorem xa_zast (hexec : p.tables.exec = Jvm.exec) (hb : c.code = cc) (hK : va_K D cl tys s) (hP : va_P D cl ws H) (hD : va_D A ws) (hS : va_S A H0 H locs) (q0 t0 : Nat) {cA : ClassId} {n : Nat} {f : Nat → Int32} (ha : ws[q0]? = some (a, .inl (cA, n, .inl f))) (ht : tys[t0]? = some (cA, .boolean)) {i : Int32} {x : Int32} (k : Nat) (hi : i = nI k) (hk : k < n) (hn : n < 2 ^ 31) (hx : vp_nar .boolean x = x) (hdg : decode cc pc = .ok (.bastore, 1))
    (kk : ∀ (H1 : Heap) (locs1 : List Loc), va_P D cl (ws.set q0 (a, .inl (cA, n, .inl (upd f k x)))) H1 → va_D A (ws.set q0 (a, .inl (cA, n, .inl (upd f k x)))) → va_S A H0 H1 locs1 → W p l e R s m args below meth c H1 locs1 cells slots Q (F0 m (pc + 1) ls rest)) : W p l e R s m args below meth c H locs cells slots Q (F0 m pc ls (.int x :: .int i :: .ref a :: rest)) := by
  subst hi
  refine va_zast hexec hb hK hP hD hS q0 t0 ha ht (vp_in_nI hk hn) hdg ?_
  rw [nI_clamp (Nat.lt_trans hk hn), hx]
  exact kk
theorem xa_cast (hexec : p.tables.exec = Jvm.exec) (hb : c.code = cc) (hK : va_K D cl tys s) (hP : va_P D cl ws H) (hD : va_D A ws) (hS : va_S A H0 H locs) (q0 t0 : Nat) {cA : ClassId} {n : Nat} {f : Nat → Int32} (ha : ws[q0]? = some (a, .inl (cA, n, .inl f))) (ht : tys[t0]? = some (cA, .char)) {i : Int32} {x : Int32} (k : Nat) (hi : i = nI k) (hk : k < n) (hn : n < 2 ^ 31) (hx : vp_nar .char x = x) (hdg : decode cc pc = .ok (.castore, 1))
    (kk : ∀ (H1 : Heap) (locs1 : List Loc), va_P D cl (ws.set q0 (a, .inl (cA, n, .inl (upd f k x)))) H1 → va_D A (ws.set q0 (a, .inl (cA, n, .inl (upd f k x)))) → va_S A H0 H1 locs1 → W p l e R s m args below meth c H1 locs1 cells slots Q (F0 m (pc + 1) ls rest)) : W p l e R s m args below meth c H locs cells slots Q (F0 m pc ls (.int x :: .int i :: .ref a :: rest)) := by
  subst hi
  refine va_cast hexec hb hK hP hD hS q0 t0 ha ht (vp_in_nI hk hn) hdg ?_
  rw [nI_clamp (Nat.lt_trans hk hn), hx]
  exact kk
theorem xa_last (hexec : p.tables.exec = Jvm.exec) (hb : c.code = cc) (hK : va_K D cl tys s) (hP : va_P D cl ws H) (hD : va_D A ws) (hS : va_S A H0 H locs) (q0 t0 : Nat) {cA : ClassId} {n : Nat} {f : Nat → Int64} (ha : ws[q0]? = some (a, .inl (cA, n, .inr (.inl f)))) (ht : tys[t0]? = some (cA, .long)) {i : Int32} {x : Int64} (k : Nat) (hi : i = nI k) (hk : k < n) (hn : n < 2 ^ 31) (hdg : decode cc pc = .ok (.lastore, 1))
    (kk : ∀ (H1 : Heap) (locs1 : List Loc), va_P D cl (ws.set q0 (a, .inl (cA, n, .inr (.inl (vp_updL f k x))))) H1 → va_D A (ws.set q0 (a, .inl (cA, n, .inr (.inl (vp_updL f k x))))) → va_S A H0 H1 locs1 → W p l e R s m args below meth c H1 locs1 cells slots Q (F0 m (pc + 1) ls rest)) : W p l e R s m args below meth c H locs cells slots Q (F0 m pc ls (.long x :: .int i :: .ref a :: rest)) := by
  subst hi
  refine va_last hexec hb hK hP hD hS q0 t0 ha ht (vp_in_nI hk hn) hdg ?_
  rw [nI_clamp (Nat.lt_trans hk hn)]
  exact kk
/-- a row out of an array of rows -/
theorem xa_aald (hexec : p.tables.exec = Jvm.exec) (hb : c.code = cc) (hK : va_K D cl tys s) (hP : va_P D cl ws H) (q0 t0 : Nat) {cA : ClassId} {n : Nat} {f : Nat → Option Nat} (ha : ws[q0]? = some (a, .inl (cA, n, .inr (.inr (.inr (.inr f)))))) {ty : FieldType} (ht : tys[t0]? = some (cA, .array ty)) {i : Int32} (k : Nat) (hi : i = nI k) (hk : k < n) (hn : n < 2 ^ 31) {b : Nat} (hf : f k = some b) (hdg : decode cc pc = .ok (.aaload, 1))
    (kk : W p l e R s m args below meth c H locs cells slots Q (F0 m (pc + 1) ls (.ref b :: rest))) : W p l e R s m args below meth c H locs cells slots Q (F0 m pc ls (.int i :: .ref a :: rest)) := by
  subst hi
  have size : (arrV cA n fun j => va_rf (f j)).slots.size = n := arrV_size ..
  have at_k : (nI k).toNatClampNeg = k := nI_clamp (Nat.lt_trans hk hn)
  have there : (arrV cA n fun j => va_rf (f j)).slots[(nI k).toNatClampNeg]? = some (.ref b) := by rw [at_k, arrV_read _ _ hk, hf]; rfl
  have inside : ¬ (nI k < 0 ∨ (arrV cA n fun j => va_rf (f j)).slots.size ≤ (nI k).toNatClampNeg) := by rw [size]; exact vp_in_nI hk hn
  exact W.aald hexec hb (hP q0 _ ha) ((hK.2 t0 _ ht).1 n (fun j => va_rf (f j))) rfl (fun q => nomatch q) inside there rfl rfl hdg kk
end XA
/-- the three rows of an array of rows -/
def xm_3 (a b c : Nat) : Nat → Option Nat := fun i => if i = 0 then some a else if i = 1 then some b else if i = 2 then some c else none
