/-! EXCEPTIONS, by the library's own laws of throwing calls. xt_Met: the contract of a method that always throws a new E and leaves every old cell as it is; xt_ofW: a body pays it; xt_throwS: such a body's end; xt_catchV: a call of such a method, caught by a row of the caller's own table. -/
def xt_Is (E : String) (st : State) (o : Outcome) (t : State) : Prop := ∃ (q : Addr) (x : Cell), o = .threw q ∧ t.heap[q]? = some x ∧ x.vm = .none ∧ st.vm.findClass E = some x.cls
def xt_Q (E : String) (mc ms : Nat) : Array Value → State → Outcome → State → Prop := fun _ st o t => xt_Is E st o t ∧ FrameEndT st o t [] mc ms
/-- what a walk that ends in a throw owes -/
def xt_Z (E : String) (mc ms : Nat) (below : List Frame) (a : Array Value) (s : State) : State → Prop := fun t => t.status = .running ∧ ∃ o, Ended t below o ∧ xt_Q E mc ms a s o t
def xt_Met (l : Launch) (y : MethodName) (ws : List Cond) (rm : Room) (Pc : Array Value → State → Prop) (E : String) (mc ms : Nat) : Prop := MetFree l y (headSpec ws rm) Pc (fun _ _ _ _ _ => True) (xt_Q E mc ms)
abbrev xt_Body (l : Launch) (y : MethodName) (ws : List Cond) (rm : Room) (Pc : Array Value → State → Prop) (E : String) (mc ms : Nat) (cc : ByteArray) (n : Nat) (ret : Option FieldType) : Prop :=
  ∀ (p : Program) (e : Env) (s : State) (m : MethodId) (a : Array Value) (below : List Frame) (M : Method) (c : Code) (u : State),
    BodyLoose p l y (headSpec ws rm) cc n ret e s m a below M c u → c.maxLocals = n → Pc a s → W p l e (headSpec ws rm).room s m a below M c s.heap [] 0 0 (xt_Z E mc ms below a s) (entryFrame m a n)
theorem xt_shape {y : MethodName} {cc : ByteArray} {n : Nat} {ret : Option FieldType} {a : Array Value} {s : State} {m : MethodId} (hn : s.methodNamed? y = some m) (h : (Cond.code y cc n ret).before a s = true) :
    ∃ M D, s.vm.method? m = some M ∧ M.code = some D ∧ D.code = cc ∧ D.maxLocals = n ∧ M.sig.returnType = ret ∧ M.locks = false :=
  let ⟨M, D, z⟩ := Cond.code_spec hn h
  ⟨M, D, z.1, z.2.1, z.2.2.1, z.2.2.2.1, z.2.2.2.2.1, z.2.2.2.2.2.1⟩
theorem xt_ofW {l : Launch} {y : MethodName} {ws ws' : List Cond} {rm : Room} {Pc : Array Value → State → Prop} {E : String} {mc ms : Nat} {cc : ByteArray} {maxL : Nat} {ret : Option FieldType}
    (plain : plainName y.cls = true) (head : ws = Cond.code y cc maxL ret :: ws') (body : xt_Body l y ws rm Pc E mc ms cc maxL ret) : xt_Met l y ws rm Pc E mc ms :=
  MetFree.of_bodyS plain (fun _ _ _ hpre hnm => xt_shape hnm (atoms_spec (ws := ws) hpre _ (by simp [head])))
    (fun p e s m a below M c u B hn hP _ =>
      let ⟨t, go, run, o, fin, q⟩ := body p e s m a below M c u B hn hP u ((congrArg State.heap B.state).trans rfl) (Stand.of_body B)
      ⟨t, o, go, run, fin, q⟩)
section XT
variable {p : Program} {l : Launch} {e : Env} {R : Room} {s : State} {m : MethodId} {args : Array Value} {below : List Frame}
variable {meth : Method} {c : Code} {cc : ByteArray} {pc : Nat} {ls : Array Slot} {rest : List Value}
/-- the constructor's call and the throw; the new cell lies behind all others -/
theorem xt_last (hexec : p.tables.exec = Jvm.exec) (hb : c.code = cc) (hl9 : l.stackTraces = false) {own E : String} {names : List String} {ic : Nat} {v : Value} (hv : v.isRef = true) (hown : s.vm.findClass own = some m.cls)
    (hE : Bundle.fit E = true) (hnames : ∀ n ∈ names, Bundle.fit n = true) (hat : ∀ w ∈ Bundle.ownAtoms own ic E names, w.before args s = true) (hml : c.maxLocals = ls.size) (hout : c.exceptionTable.isEmpty = true) (hlocks : meth.locks = false)
    {k : ClassId} {K : Class} (hk : s.vm.findClass E = some k) (hK : s.vm.classes[k]? = some K) (call : decode cc pc = .ok (.invokespecial ic, 3)) (thr : decode cc (pc + 3) = .ok (.athrow, 1))
    (hRf : names.length + 3 < R.frames) (hRl : (rest.map fun v => v.category).sum + (13 * (names.length + 1) + 43) ≤ R.locals) :
    W p l e R s m args below meth c (s.heap.push (freshCell k K)) [] 1 6 (xt_Z E 1 6 below args s) (F0 m pc ls (v :: .ref s.heap.size :: .ref s.heap.size :: rest)) := by
  intro T hT X
  subst hb
  have open9 : ∀ z ∈ c.exceptionTable.toList, covers z (pc + 3) = false := fun z hz => by
    rw [Array.isEmpty_iff.mp hout] at hz
    exact nomatch hz
  obtain ⟨U, go, run, fin, warm, same, x, hx, own9⟩ := X.ctorThrowS hexec (by rw [X.admits.platform]; exact hl9) hown hE hnames hat (fun z hz => nomatch hz) hk hK (a := s.heap.size) (by rw [hT]; first | exact Array.getElem?_push_size | simp [Array.getElem?_push]) (Nat.le_refl _) hv
    (g := F0 m pc ls (v :: .ref s.heap.size :: .ref s.heap.size :: rest)) rfl hml.symm rfl rfl rfl call thr open9 hRf
    (by show 2 * 0 + (1 + (rest.map fun v => v.category).sum) + _ ≤ _; omega) hlocks
  exact ⟨U, go, run, .threw s.heap.size, fin, ⟨_, x, rfl, hx, own9.vm, own9.cls⟩, ⟨_, rfl⟩, warm, same⟩
/-- the five steps of 'throw new E("..")' -/
abbrev xt_Five (cc : ByteArray) (pc ik is ic : Nat) : Prop :=
  (decode cc pc = .ok (.new ik, 3) ∧ decode cc (pc + 3) = .ok (.dup, 1)) ∧ decode cc (pc + 4) = .ok (.ldc is, 2) ∧ decode cc (pc + 6) = .ok (.invokespecial ic, 3) ∧ decode cc (pc + 6 + 3) = .ok (.athrow, 1)
theorem xt_throwS (hexec : p.tables.exec = Jvm.exec) (hb : c.code = cc) (hl9 : l.stackTraces = false) {own E text : String} {names : List String} {ik is ic sa : Nat} (five : xt_Five cc pc ik is ic) (hown : s.vm.findClass own = some m.cls)
    (hE : Bundle.fit E = true) (hnames : ∀ n ∈ names, Bundle.fit n = true) (hlink : (Cond.classLink own ik E).before args s = true) (hini : (Cond.initialized E).before args s = true) (htext : vk_R own is text sa s)
    (hat : ∀ w ∈ Bundle.ownAtoms own ic E names, w.before args s = true) (hml : c.maxLocals = ls.size) (hout : c.exceptionTable.isEmpty = true) (hlocks : meth.locks = false)
    (room : names.length + 3 < R.frames ∧ (rest.map fun v => v.category).sum + (13 * (names.length + 1) + 43) ≤ R.locals ∧ 1 ≤ R.cells ∧ 6 ≤ R.slots) :
    W p l e R s m args below meth c s.heap [] 0 0 (xt_Z E 1 6 below args s) (F0 m pc ls rest) := by
  obtain ⟨r1, r2, r3, r4⟩ := room
  refine W.newc (n := 6) hexec hb hown hlink (hat _ (by simp [Bundle.ownAtoms])) hini (g := F0 m pc ls rest) rfl five.1.1 (by omega) (by omega) fun k K hk hK _ _ => ?_
  refine lv_dup hexec hb five.1.2 rfl ?_
  refine va_ldcS hexec hb hown htext five.2.1 ?_
  exact xt_last (pc := pc + 6) hexec hb hl9 rfl hown hE hnames hat hml hout hlocks hk hK five.2.2.1 five.2.2.2 r1 r2
end XT
/-! the words of a throw: the tables' own (xZ), and four that speak of Throwable's statics (xH): these ride where the cells of statics are kept -/
def xh_ws : List Cond := [.isRef (.static Bundle.tN "UNASSIGNED_STACK" Bundle.steD), .isRef (.static Bundle.tN "SUPPRESSED_SENTINEL" Bundle.listD), .laysStatic Bundle.tN "UNASSIGNED_STACK" Bundle.steD, .laysStatic Bundle.tN "SUPPRESSED_SENTINEL" Bundle.listD]
def xH (U : State) : Prop := ∀ w ∈ xh_ws, w.before #[] U = true
theorem xH.of {s : State} {a : Array Value} (h : ∀ w ∈ xh_ws, w.before a s = true) : xH s := rideK_all (A := xh_ws) (State.WarmedH.refl s) (fun _ _ q _ => q) (by decide) h
theorem xH.use {s : State} {a : Array Value} (h : xH s) : ∀ w ∈ xh_ws, w.before a s = true := rideK_all (A := xh_ws) (State.WarmedH.refl s) (fun _ _ q _ => q) (by decide) h
theorem xH.same {s U : State} (h : xH s) (hW : s.WarmedH U.vm) (hU : U.heap = s.heap) : xH U := rideK_all (A := xh_ws) hW (fun _ _ q _ => by rw [hU]; exact q) (by decide) h
/-- .. in a walk that may change the cells of A, of which none was there when it began -/
def xHA (A : Nat → Prop) (s : State) : Prop := xH s ∧ ∀ q : Nat, q < s.heap.size → ¬ A q
theorem xHA.now {A : Nat → Prop} {s U : State} {H : Heap} {locs : List Loc} (h : xHA A s) (hS : va_S A s.heap H locs) (hW : s.WarmedH U.vm) (hU : U.heap = H) : xH U :=
  rideK_all (A := xh_ws) hW (fun y _ q _ => by
    have hy : y < s.heap.size := (Array.getElem?_eq_some_iff.mp q).1
    rw [hU, hS.2.1 y hy (h.2 y hy)]
    exact q) (by decide) h.1
theorem xt_atoms {L : List Cond} {s : State} {args : Array Value} (hL : ∀ w ∈ L, w ∈ x_face ∨ w ∈ xh_ws) (hz : xZ s) (hH : xH s) : ∀ w ∈ L, w.before args s = true := fun w hw => (hL w hw).elim (fun h => va_Nw.use (xF_on h).1 (hz.face h)) (fun h => hH.use w h)
def xp_t (av : List Value) (D : va_G) (cl : List vw_C) (ws : va_W) (tys : List (ClassId × FieldType)) : Array Value → State → Prop := va_Pc av (fun U => xZ U ∧ xH U ∧ va_P D cl ws U.heap ∧ va_K D cl tys U)
theorem xt_blind {av : List Value} {D : va_G} {cl : List vw_C} {ws : va_W} {tys : List (ClassId × FieldType)} : FrameBlind (xp_t av D cl ws tys) := fun a U g mk q => by
  obtain ⟨q0, qZ, qH, qP, qK⟩ := q
  exact ⟨q0, xZ.same (u := U) rfl qZ, qH.same (U := U.calling g mk a) (State.WarmedH.refl U) rfl, qP, va_K.moved (u := U) (U := U.calling g mk a) (Vm.Alike.refl U.vm) qK⟩
def xp_x (av : List Value) (sz : Nat) (D : va_G) (cl : List vw_C) (ws : va_W) (tys : List (ClassId × FieldType)) : Array Value → State → Prop := va_Pc av (fun U => U.heap.size = sz ∧ xZ U ∧ xH U ∧ va_P D cl ws U.heap ∧ va_K D cl tys U ∧ va_D (fun _ => True) ws)
theorem xx_blind {av : List Value} {sz : Nat} {D : va_G} {cl : List vw_C} {ws : va_W} {tys : List (ClassId × FieldType)} : FrameBlind (xp_x av sz D cl ws tys) := fun a U g mk q => by
  obtain ⟨q0, q1, qZ, qH, qP, qK, qD⟩ := q
  exact ⟨q0, q1, xZ.same (u := U) rfl qZ, qH.same (U := U.calling g mk a) (State.WarmedH.refl U) rfl, qP, va_K.moved (u := U) (U := U.calling g mk a) (Vm.Alike.refl U.vm) qK, qD⟩
section XB
variable {p : Program} {l : Launch} {y : MethodName} {S : Spec} {cc : ByteArray} {n : Nat} {ret : Option FieldType} {e : Env} {s u : State} {m : MethodId} {a : Array Value} {below : List Frame} {M : Method} {c : Code}
/-- the code that a body runs is the code of the method that bears the name -/
theorem xt_one (B : BodyLoose p l y S cc n ret e s m a below M c u) {M1 : Method} {c1 : Code} (h : s.vm.method? m = some M1 ∧ M1.code = some c1) : c1 = c := by
  have hM : M1 = M := Option.some.inj (h.1.symm.trans B.method)
  have hc : M.code = some c1 := hM ▸ h.2
  exact Option.some.inj (hc.symm.trans (Stand.of_body B).code)
/-- the table of a method without handlers is empty -/
theorem xt_empty (B : BodyLoose p l y S cc n ret e s m a below M c u) {b1 : ByteArray} {n1 : Nat} {r1 : Option FieldType} (h : (Cond.code y b1 n1 r1).before a s = true) : c.exceptionTable.isEmpty = true :=
  let ⟨_, _, z⟩ := Cond.code_spec B.named h
  xt_one B ⟨z.1, z.2.1⟩ ▸ z.2.2.2.2.2.2.1
theorem xt_table (B : BodyLoose p l y S cc n ret e s m a below M c u) {b1 : ByteArray} {n1 : Nat} {r1 : Option FieldType} {rows : List (Nat × Nat × Nat × Nat)} (h : (Cond.codeWith y b1 n1 r1 rows).before a s = true) : c.exceptionTable.toList = tableOf rows := by
  obtain ⟨m1, M1, c1, z⟩ := Cond.codeWith_spec h
  obtain rfl : m1 = m := Option.some.inj (z.1.symm.trans B.named)
  obtain rfl : c1 = c := xt_one B ⟨z.2.1, z.2.2.1⟩
  exact (table_eq _).symm.trans (congrArg tableOf z.2.2.2.2.2.1)
end XB
/-- cells that are new change none of a world's -/
theorem xt_keepP {D : va_G} {cl : List vw_C} {ws : va_W} {H H1 : Heap} (hP : va_P D cl ws H) (hk : ∀ a : Nat, a < H.size → H1[a]? = H[a]?) : va_P D cl ws H1 := fun k q hq => (hP k q hq).kept (hk q.1 (hP k q hq).lt)
theorem xt_keepS {A : Nat → Prop} {H0 H H1 : Heap} {locs : List Loc} (hS : va_S A H0 H locs) (hsz : H.size ≤ H1.size) (hk : ∀ a : Nat, a < H.size → H1[a]? = H[a]?) : va_S A H0 H1 locs :=
  ⟨Nat.le_trans hS.1 hsz, fun q h1 h2 => by rw [hk q (Nat.lt_of_lt_of_le h1 hS.1)]; exact hS.2.1 q h1 h2, hS.2.2⟩
theorem xt_old {s U : State} {k n : Nat} (h : s.sameButNew U [] k n) : s.heap.size ≤ U.heap.size ∧ ∀ q : Nat, q < s.heap.size → U.heap[q]? = s.heap[q]? :=
  ⟨h.2.1, fun q hq => (h.old_cell (Array.getElem?_eq_getElem hq)).trans (Array.getElem?_eq_getElem hq).symm⟩
theorem xt_decl {y : MethodName} {a : Array Value} {s : State} {b1 : ByteArray} {n1 : Nat} {r1 : Option FieldType} (h : (Cond.instanceMethod y).before a s = true) (h' : (Cond.code y b1 n1 r1).before a s = true) : (Cond.declares y).before a s = true := by
  obtain ⟨k, M, z1, z2, z3, -⟩ := Cond.instanceMethod_spec h
  obtain ⟨M1, D, w⟩ := Cond.code_spec z1 h'
  obtain rfl : M1 = M := Option.some.inj (w.1.symm.trans z2)
  have sg := w.2.2.2.2.2.2.2
  simp [Cond.before, Cond.holds, Cond.value, z1, z2, z3, sg]
/-- a row of a table that names a class of which no E is -/
def xt_Skip (own E : String) (a : Array Value) (s : State) (z : ExceptionTableEntry) : Prop := ∃ nm : String, va_Nc E nm s ∧ z.catchType ≠ 0 ∧ (Cond.classLink own z.catchType nm).before a s = true
theorem xt_Skip.row {own E : String} {a : Array Value} {s : State} {z : ExceptionTableEntry} {pl : Platform} {d k : ClassId} {pc : Nat} (h : xt_Skip own E a s z) (hpl : pl.magicAccessors = ({} : Platform).magicAccessors) (hd : s.vm.findClass own = some d) (hk : s.vm.findClass E = some k) : RowPassed pl s d pc k z := by
  obtain ⟨nm, ⟨k1, j, g1, g2, g3⟩, h0, hl⟩ := h
  obtain ⟨j1, w1, w2⟩ := Cond.classLink_spec hd hl pl hpl
  obtain rfl : k1 = k := Option.some.inj (g1.symm.trans hk)
  obtain rfl : j1 = j := Option.some.inj (w1.symm.trans g2)
  exact .inr ⟨h0, j1, w2, g3⟩
section XC
variable {p : Program} {l : Launch} {e : Env} {R : Room} {s : State} {m : MethodId} {args : Array Value} {below : List Frame}
variable {meth : Method} {c : Code} {H : Heap} {locs : List Loc} {cells slots : Nat} {Q : State → Prop}
/-- what lies behind a throw: the object q, an E; the old cells as they were -/
def xt_Left (E : String) (s : State) (mc ms : Nat) (A : Pt) (_ : Array Value) (q : Addr) (B : Pt) : Prop :=
  (B.locs = A.locs ∧ B.cells = A.cells + mc ∧ B.slots = A.slots + ms) ∧ (∃ x : Cell, B.U.heap[q]? = some x ∧ x.vm = .none ∧ s.vm.findClass E = some x.cls) ∧ A.U.heap.size ≤ B.U.heap.size ∧ ∀ k : Nat, k < A.U.heap.size → B.U.heap[k]? = A.U.heap[k]?
theorem xt_back {y : MethodName} {bytes : ByteArray} {maxL mc ms n index : Nat} {ret : Option FieldType} {ws : List Cond} {rm : Room} {Pc : Array Value → State → Prop} {E own : String} (hM : xt_Met l y ws rm Pc E mc ms) (hbl : FrameBlind Pc)
    (cb : CallB R s args own index y bytes maxL ret ws rm mc ms n) : BackT l R p e below s args y 3 8 (PreOf R mc ms Pc) (xt_Left E s mc ms) := by
  obtain ⟨c1, c2, c3, c4, c5, c6, -, c8, -⟩ := cb
  refine BackT.of_free (bytes := bytes) (maxL := maxL) (ret := ret) (E := fun _ _ _ _ L k n => L = [] ∧ k = mc ∧ n = ms) hM c3 c4 ?_ (fun _ _ _ _ _ _ _ _ hp => hbl _ _ _ _ hp.2.2) (fun _ _ _ _ _ _ _ _ _ => trivial) (fun _ _ _ _ hq => ⟨[], mc, ms, hq.2, rfl, rfl, rfl⟩) ?_
  · intro _ _ _ A a X hp
    have r1 : A.cells + rm.cells ≤ R.cells := by rw [c1]; exact hp.1
    have r2 : A.slots + rm.slots ≤ R.slots := by rw [c2]; exact hp.2.1
    exact ⟨atoms_intro fun w hw => c5 w hw _ _ X.warmed, c5 _ c6 _ _ X.warmed, word_at X.warmed (.inl rfl) c8, r1, r2⟩
  · intro _ _ _ A a g mk v t L k n X hp hq hF hE
    obtain ⟨rfl, rfl, rfl⟩ := hE
    obtain ⟨⟨q, x, hv, z1, z2, z3⟩, -⟩ := hq
    obtain rfl : v = q := by cases hv; rfl
    have z4 : A.U.vm.findClass E = some x.cls := z3
    rw [X.warmed.alike.findClass] at z4
    exact ⟨⟨List.append_nil _, rfl, rfl⟩, ⟨x, z1, z2, z4⟩, (xt_old hF.2.2).1, (xt_old hF.2.2).2⟩
/-- a call of a method that always throws E, caught by the row x of this method's own table -/
theorem xt_catchV {y : MethodName} {bytes cc : ByteArray} {maxL nL mc ms n index pc : Nat} {ret : Option FieldType} {ws : List Cond} {rm : Room} {Pc : Array Value → State → Prop} {E name : String} {Ts : List Cond} {own C : String} {b : Nat} {As rest st0 : List Value} {ls : Array Slot}
    (S : CallFix p m c cc nL s args Ts own) (hM : xt_Met l y ws rm Pc E mc ms) (cw : CallW R s args own C index y bytes maxL ret ws rm mc ms n) (hp : PreV s H C b Pc As) (hn : As.length = n) (hsize : ls.size = nL) (hstack : st0 = As.reverse ++ .ref b :: rest)
    (hW : (rest.map fun v => v.category).sum ≤ 8) (hdg : decode cc pc = .ok (.invokevirtual index, 3)) (hf : cells + mc ≤ R.cells ∧ slots + ms ≤ R.slots)
    (ahead : List ExceptionTableEntry) (x : ExceptionTableEntry) (behind : List ExceptionTableEntry) (htab : c.exceptionTable.toList = ahead ++ x :: behind) (skips : ∀ z ∈ ahead, xt_Skip own E args s z)
    (over : covers x pc = true) (typed : x.catchType ≠ 0) (hlink : (Cond.classLink own x.catchType name).before args s = true) (hcast : (Cond.castable E name).before args s = true)
    (kk : ∀ (q : Nat) (H1 : Heap), H.size ≤ H1.size → (∀ a : Nat, a < H.size → H1[a]? = H[a]?) → W p l e R s m args below meth c H1 locs (cells + mc) (slots + ms) Q (F0 m x.handlerPc ls [.ref q])) :
    W p l e R s m args below meth c H locs cells slots Q (F0 m pc ls st0) := by
  obtain ⟨hx, hb, hml, hown, -⟩ := S
  obtain ⟨cb, w1, w2⟩ := cw
  obtain ⟨hbl, ⟨x0, i1, i2, i3⟩, hPc⟩ := hp
  have hK := xt_back (p := p) (e := e) (below := below) hM hbl cb
  obtain ⟨-, -, -, -, -, -, hcode, -, hy, hlen, hlk⟩ := cb
  intro T hT X
  subst hb
  obtain ⟨q, vm1, ⟨U, L1, n1, n2⟩, hW1, X1, ⟨⟨e1, e2, e3⟩, ⟨z, z1, z2, z3⟩, o1, o2⟩, st⟩ := X.virtualThrows hx hown hlk (xt_decl w1 hcode) (notFace_of_selects w2) w2 w1 hy hK i3 ⟨x0, by rw [hT]; exact i1, rfl, i2⟩
    (g := F0 m pc ls st0) rfl (hsize.trans hml.symm) (Steps.refl _) (argsL := As) (rest := rest) (fun sig h9 => hn.trans (hlen sig h9)) hstack (by show 2 * 0 + _ ≤ 8; omega) hdg (fun vm9 hW9 => ⟨hf.1, hf.2, hPc (T.setVm vm9) hT hW9⟩)
  obtain rfl : L1 = locs := e1
  obtain rfl : n1 = cells + mc := e2
  obtain rfl : n2 = slots + ms := e3
  obtain ⟨k1, k2, f1, f2, f3⟩ := Cond.castable_spec hcast
  obtain rfl : k1 = z.cls := Option.some.inj (f1.symm.trans z3)
  obtain ⟨takes, lives⟩ := X1.catches_of_link hown typed hlink f2 f3
  have hpl : e.platform.magicAccessors = ({} : Platform).magicAccessors := (congrArg Platform.magicAccessors X.admits.platform).trans rfl
  obtain ⟨vm2, X2, st2⟩ := X1.thenCaughtThrough q (g := F0 m pc ls rest) rfl st z1 (by rw [z2]; rfl) lives ahead x behind htab (fun r hr => (skips r hr).row hpl hown z3) over takes
  have hTH : (T.setVm vm1).heap = H := hT
  have o1 : (T.setVm vm1).heap.size ≤ U.heap.size := o1
  have o2 : ∀ k : Nat, k < (T.setVm vm1).heap.size → U.heap[k]? = (T.setVm vm1).heap[k]? := o2
  rw [hTH] at o1 o2
  obtain ⟨t, go, fin⟩ := kk q U.heap o1 o2 (U.setVm vm2) rfl X2
  exact ⟨t, st2.trans go, fin⟩
/-- what a static call of a method with a table of its own asks: its words, its face, room -/
abbrev xs_Words (s : State) (args : Array Value) (own : String) (index : Nat) (y : MethodName) : Prop := (Cond.methodLink own index y).before args s = true ∧ (Cond.static y).before args s = true ∧ (Cond.initialized y.cls).before args s = true
abbrev xs_Face (y : MethodName) (n : Nat) : Prop := (y.cls ≠ "java/lang/invoke/MethodHandle" ∧ y.cls ≠ "java/lang/invoke/VarHandle") ∧ (parseMethodDescriptor y.desc).map (fun d => d.parameters.length) = some n
abbrev xs_Fits (R rm : Room) (maxL mc ms : Nat) : Prop := (rm.cells = mc ∧ rm.slots = ms) ∧ rm.frames + 1 ≤ R.frames ∧ 8 + (maxL + 11) + rm.locals ≤ R.locals
theorem xs_run {y : MethodName} {bytes cc : ByteArray} {maxL nL mc ms n index : Nat} {ret : Option FieldType} {rows : List (Nat × Nat × Nat × Nat)} {ws' : List Cond} {rm : Room} {Pc : Array Value → State → Prop} {Qc : Array Value → State → Outcome → State → Prop} {free : Addr → Prop} {Ts : List Cond} {own : String} {As rest : List Value} {g : JFrame}
    (S : CallFix p m c cc nL s args Ts own) (hM : Met l y (.codeWith y bytes maxL ret rows :: ws') rm Pc Qc mc ms free) (good : GoodIn Ts (.codeWith y bytes maxL ret rows :: ws')) (words : xs_Words s args own index y) (face : xs_Face y n) (fits : xs_Fits R rm maxL mc ms) (hp : PreS s H Pc As)
    (hg : g.method = m) (hn : As.length = n) (hsize : g.locals.size = nL) (hstack : g.stack = As.reverse ++ rest) (hW : 2 * g.monitorRoom + (rest.map fun v => v.category).sum ≤ 8) (hdg : decode cc g.pc = .ok (.invokestatic index, 3)) (hf : cells + mc ≤ R.cells ∧ slots + ms ≤ R.slots) :
    va_Run p l e R s m args below meth c H locs cells slots mc ms g rest (Qc As.toArray) free := by
  obtain ⟨hx, hb, hml, hown, hts⟩ := S
  subst hb
  obtain ⟨k, M, D, z⟩ := Cond.codeWith_spec (hts _ (good _ List.mem_cons_self).1)
  have comes := va_backW (p := p) (e := e) (below := below) (R := R) (sargs := args) (len := 3) (W := 8) hM hp.1 fits.1.1 fits.1.2 fits.2.1 fits.2.2 (pay_in hts good) List.mem_cons_self (fun _ _ hW9 => word_at hW9 (.inl rfl) words.2.2)
  intro T hT X
  obtain ⟨v, vm1, ⟨U, L1, n1, n2⟩, -, X1, ⟨g1, mk, t, L, e1, e2, hq, e3, hL, e4, e5⟩, st⟩ := X.staticBack hx hown words.1 words.2.1 words.2.2 z.1 z.2.1 z.2.2.2.2.2.2.2.2 face.1 comes hg (hsize.trans hml.symm) (Steps.refl _) (argsL := As) (rest := rest)
    (fun sig h9 => by have h8 := face.2; rw [h9] at h8; exact hn.trans (Option.some.inj h8).symm) hstack hW hdg (fun vm9 hW9 => ⟨hf.1, hf.2, hp.2 (T.setVm vm9) hT hW9⟩)
  obtain rfl : L1 = locs ++ L := e3
  obtain rfl : n1 = cells + mc := e4
  obtain rfl : n2 = slots + ms := e5
  exact ⟨v, (T.setVm vm1).calling g1 mk As.toArray, t, U, L, hT, X1, hL, e1, e2, hq, fun _ h => st.trans h⟩
end XC
theorem xe_81 : ∀ w ∈ Bundle.ownAtoms xR_SR 81 "java/lang/IndexOutOfBoundsException" ["java/lang/RuntimeException", "java/lang/Exception"], w ∈ x_face ∨ w ∈ xh_ws := by decide +kernel
theorem xe_57 : ∀ w ∈ Bundle.ownAtoms xR_SR 57 "java/lang/IllegalStateException" ["java/lang/RuntimeException", "java/lang/Exception"], w ∈ x_face ∨ w ∈ xh_ws := by decide +kernel
theorem xe_68 : ∀ w ∈ Bundle.ownAtoms xR_SR 68 "java/lang/IllegalArgumentException" ["java/lang/RuntimeException", "java/lang/Exception"], w ∈ x_face ∨ w ∈ xh_ws := by decide +kernel
theorem xc_IndexOutOfBoundsException : Cond.castable "java/lang/IndexOutOfBoundsException" "java/lang/IndexOutOfBoundsException" ∈ x_face := by decide +kernel
theorem xc_IllegalStateException : Cond.castable "java/lang/IllegalStateException" "java/lang/IllegalStateException" ∈ x_face := by decide +kernel
theorem xc_IllegalArgumentException : Cond.castable "java/lang/IllegalArgumentException" "java/lang/IllegalArgumentException" ∈ x_face := by decide +kernel
theorem xt_out6 {a : Int32} (h : ¬ xin a 6) : a.toInt < 0 ∨ 5 < a.toInt := by
  have h : ¬ vp_in a 6 := h
  rw [vp_in_iff] at h
  omega
def xo_z (P : Prop) [Decidable P] : Int64 := if P then 1 else 0
