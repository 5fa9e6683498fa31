/-! new int[3][20] -/
theorem xm_cell (c : ClassId) (h0 : Nat) : Jvm.Free.Multi.outerC c 3 h0 3 = vp_cell c (3, .inr (.inr (.inr (.inr (xm_3 (h0 + 1) (h0 + 2) (h0 + 3)))))) := by
  rw [vp_cell_q]
  show Cell.setSlot (Cell.setSlot (Cell.setSlot ({ cls := c, slots := Array.replicate 3 .null, vm := .none } : Cell) 0 (.ref (h0 + 1 + 0))) 1 (.ref (h0 + 1 + 1))) 2 (.ref (h0 + 1 + 2)) = _
  rw [arrV_new, arrV_store, arrV_store, arrV_store]
  refine congrArg (arrV c 3) (funext fun j => ?_)
  unfold updV xm_3
  by_cases e2 : j = 2
  · subst e2; rfl
  · by_cases e1 : j = 1
    · subst e1; rfl
    · by_cases e0 : j = 0
      · subst e0; rfl
      · simp [e0, e1, e2, va_rf]
/-- the four cells: the row of rows, and its three rows of twenty zeros -/
abbrev xm_4 (q q0 q1 q2 : Nat) (cA cB : ClassId) : va_W :=
  [(q, .inl (cA, 3, .inr (.inr (.inr (.inr (xm_3 q0 q1 q2)))))), (q0, .inl (cB, 20, .inl fun _ => 0)), (q1, .inl (cB, 20, .inl fun _ => 0)), (q2, .inl (cB, 20, .inl fun _ => 0))]
theorem xm_at {n : Nat} {cA cB : ClassId} : ∀ (k : Nat) (q : Nat × va_E), (xm_4 n (n + 1) (n + 2) (n + 3) cA cB)[k]? = some q → q.1 = n + k
  | 0, _, h => by cases h; rfl
  | 1, _, h => by cases h; rfl
  | 2, _, h => by cases h; rfl
  | 3, _, h => by cases h; rfl
  | _ + 4, _, h => nomatch h
/-- of what class a cell is an array does not hang on what it holds -/
theorem xm_arr {s : State} {x y : Cell} {ty : FieldType} (h : s.isArrayOf x ty) (hc : x.cls = y.cls) (hv : y.vm = .none) : s.isArrayOf y ty := by
  obtain ⟨-, k, h1, z⟩ := h
  rw [hc] at h1
  exact ⟨fun j hj => (nomatch hv.symm.trans hj), k, h1, z⟩
theorem xm_rows {D : va_G} {cl : List vw_C} {U : State} {cA cB : ClassId} {n : Nat} (hn : U.heap.size = n) : va_P D cl (xm_4 n (n + 1) (n + 2) (n + 3) cA cB) (Jvm.Free.Multi.fill U cA cB 3 20 (defaultValue .int) 3).heap := by
  subst hn
  have out := (Jvm.Free.Multi.fill_facts U cA cB 3 20 (defaultValue .int) 3).2.1
  rw [xm_cell] at out
  have zeros : Jvm.Free.Multi.innerC cB 20 (defaultValue .int) = vp_cell cB (20, .inl fun _ => 0) := (arrV_new cB 20 _).trans (vp_cell_i ..).symm
  have row := Jvm.Free.Multi.fill_inner U cA cB 3 20 (defaultValue .int) 3
  rw [zeros] at row
  intro k q h
  match k, h with
  | 0, h => cases h; exact out
  | 1, h => cases h; exact row 0 (by decide)
  | 2, h => cases h; exact row 1 (by decide)
  | 3, h => cases h; exact row 2 (by decide)
  | _ + 4, h => exact nomatch h
section XGRID
variable {p : Program} {l : Launch} {e : Env} {R : Room} {s : State} {m : MethodId} {args : Array Value} {below : List Frame} {meth : Method} {c : Code} {H H0 : Heap} {locs : List Loc} {cells slots : Nat} {Q : State → Prop}
variable {cc : ByteArray} {pc : Nat} {ls : Array Slot} {rest : List Value} {D : va_G} {cl : List vw_C} {A : Nat → Prop} {tys : List (ClassId × FieldType)} {ws : va_W}
theorem xm_new (hexec : p.tables.exec = Jvm.exec) (hb : c.code = cc) {own : String} {index : Nat} (hown : s.vm.findClass own = some m.cls) (hclink : (Cond.classLink own index "[[I").before args s = true) (hover : xAO s) (harr : (Cond.arrayClass .int).before args s = true)
    (hK : va_K D cl tys s) (hP : va_P D cl ws H) (hD : va_D A ws) (hS : va_S A H0 H locs) (hA : ∀ q, H0.size ≤ q → A q) (hcells : cells + 4 ≤ R.cells) (hslots : slots + 63 ≤ R.slots) (hdg : decode cc pc = .ok (.multianewarray index 2, 4))
    (kk : ∀ (q q0 q1 q2 : Nat) (cA cB : ClassId) (H1 : Heap), va_K D cl (tys ++ [(cA, .array .int), (cB, .int)]) s → va_P D cl (ws ++ xm_4 q q0 q1 q2 cA cB) H1 → va_D A (ws ++ xm_4 q q0 q1 q2 cA cB) → va_S A H0 H1 locs →
      W p l e R s m args below meth c H1 locs (cells + 4) (slots + 63) Q (F0 m (pc + 4) ls (.ref q :: rest))) : W p l e R s m args below meth c H locs cells slots Q (F0 m pc ls (.int 20 :: .int 3 :: rest)) := by
  intro T hT X
  subst hb hT
  have three : (3 : Int32).toNatClampNeg = 3 := by decide
  have twenty : (20 : Int32).toNatClampNeg = 20 := by decide
  obtain ⟨vm1, cA, cB, -, fA, fB, outer, inner, X1, go⟩ := X.multianewarray2F hexec (ty := .int) hown hclink (show (Cond.arrayOver (.array .int)).before args s = true from hover) harr (g := F0 m pc ls (.int 20 :: .int 3 :: rest)) rfl hdg rfl
    (by decide) (by decide) (by decide) (by decide) (by decide) rfl rfl (by rw [three]; exact hcells) (by rw [three, twenty]; exact hslots)
  rw [three, twenty] at X1 go
  have size : (Jvm.Free.Multi.fill (T.setVm vm1) cA cB 3 20 (defaultValue .int) 3).heap.size = T.heap.size + 1 + 3 := (Jvm.Free.Multi.fill_facts (T.setVm vm1) cA cB 3 20 (defaultValue .int) 3).1
  have kept : ∀ x : Nat, x < T.heap.size → (Jvm.Free.Multi.fill (T.setVm vm1) cA cB 3 20 (defaultValue .int) 3).heap[x]? = T.heap[x]? := fun x hx => Jvm.Free.Multi.fill_old (T.setVm vm1) cA cB 3 20 (defaultValue .int) hx 3
  have types : va_K D cl [(cA, .array .int), (cB, .int)] s := by
    refine ⟨hK.1, fun k q h => ?_⟩
    match k, h with
    | 0, h => cases h; exact ⟨fun _ _ => xm_arr (outer 0 0 0).1 rfl rfl, fA⟩
    | 1, h => cases h; exact ⟨fun _ _ => xm_arr (inner 0 .null).1 rfl rfl, fB⟩
    | _ + 2, h => exact nomatch h
  have news : va_D A (xm_4 T.heap.size (T.heap.size + 1) (T.heap.size + 2) (T.heap.size + 3) cA cB) := by
    refine ⟨fun i j x y hi hj hxy => ?_, fun k x hx => hA _ ?_⟩
    · have := xm_at i x hi; have := xm_at j y hj; omega
    · have := xm_at k x hx; have := hS.1; omega
  have apart : ∀ (i j : Nat) (x y : Nat × va_E), ws[i]? = some x → (xm_4 T.heap.size (T.heap.size + 1) (T.heap.size + 2) (T.heap.size + 3) cA cB)[j]? = some y → x.1 ≠ y.1 := fun i j x y hi hj hxy => by
    have := (hP i x hi).lt; have := xm_at j y hj; omega
  have hS1 : va_S A H0 (Jvm.Free.Multi.fill (T.setVm vm1) cA cB 3 20 (defaultValue .int) 3).heap locs := ⟨by have := hS.1; omega, fun x h1 h2 => (kept x (Nat.lt_of_lt_of_le h1 hS.1)).trans (hS.2.1 x h1 h2), hS.2.2⟩
  obtain ⟨t, steps, fin⟩ := kk _ _ _ _ cA cB _ (hK.app types) ((hP.kept fun k x hx => kept x.1 (hP k x hx).lt).app (xm_rows rfl)) (hD.app news apart) hS1 _ rfl X1
  exact ⟨t, go t steps, fin⟩
end XGRID
