/-! new int[3][20] -/
theorem xm_cell (c : ClassId) (h0 : Nat) : Jvm.Free.Multi.outerC c 3 h0 3 = vp_cell c (3, .inr (.inr (.inr (.inr (xm_3 (h0 + 1) (h0 + 2) (h0 + 3)))))) := by
  rw [vp_cell_q]
  show Cell.setSlot (Cell.setSlot (Cell.setSlot ({ cls := c, slots := Array.replicate 3 .null, vm := .none } : Cell) 0 (.ref (h0 + 1 + 0))) 1 (.ref (h0 + 1 + 1))) 2 (.ref (h0 + 1 + 2)) = _
  rw [arrV_new, arrV_store, arrV_store, arrV_store]
  refine congrArg (arrV c 3) (funext fun j => ?_)
  unfold updV xm_3
  by_cases e2 : j = 2
  · subst e2; rfl
  · by_cases e1 : j = 1
    · subst e1; rfl
    · by_cases e0 : j = 0
      · subst e0; rfl
      · simp [e0, e1, e2, va_rf]
section XGRID
variable {p : Program} {l : Launch} {e : Env} {R : Room} {s : State} {m : MethodId} {args : Array Value} {below : List Frame} {meth : Method} {c : Code} {H : Heap} {locs : List Loc} {cells slots : Nat} {Q : State → Prop}
variable {cc : ByteArray} {pc : Nat} {ls : Array Slot} {rest : List Value} {D : va_G} {cl : List vw_C} {A : Nat → Prop} {tys : List (ClassId × FieldType)} {ws : va_W} {H0 : Heap}
set_option maxHeartbeats 2000000 in
theorem xm_new (hexec : p.tables.exec = Jvm.exec) (hb : c.code = cc) {own : String} {index : Nat} (hown : s.vm.findClass own = some m.cls) (hclink : (Cond.classLink own index "[[I").before args s = true) (hover : xAO s) (harr : (Cond.arrayClass .int).before args s = true)
    (hK : va_K D cl tys s) (hP : va_P D cl ws H) (hD : va_D A ws) (hS : va_S A H0 H locs) (hA : ∀ q, H0.size ≤ q → A q) (hcells : cells + 4 ≤ R.cells) (hslots : slots + 63 ≤ R.slots) (hdg : decode cc pc = .ok (.multianewarray index 2, 4))
    (kk : ∀ (q q0 q1 q2 : Nat) (cA cB : ClassId) (H1 : Heap), va_K D cl (tys ++ [(cA, .array .int), (cB, .int)]) s →
      va_P D cl (ws ++ [(q, .inl (cA, 3, .inr (.inr (.inr (.inr (xm_3 q0 q1 q2))))))] ++ [(q0, .inl (cB, 20, .inl (fun _ => 0)))] ++ [(q1, .inl (cB, 20, .inl (fun _ => 0)))] ++ [(q2, .inl (cB, 20, .inl (fun _ => 0)))]) H1 →
      va_D A (ws ++ [(q, .inl (cA, 3, .inr (.inr (.inr (.inr (xm_3 q0 q1 q2))))))] ++ [(q0, .inl (cB, 20, .inl (fun _ => 0)))] ++ [(q1, .inl (cB, 20, .inl (fun _ => 0)))] ++ [(q2, .inl (cB, 20, .inl (fun _ => 0)))]) → va_S A H0 H1 locs →
      W p l e R s m args below meth c H1 locs (cells + 4) (slots + 63) Q (F0 m (pc + 4) ls (.ref q :: rest))) : W p l e R s m args below meth c H locs cells slots Q (F0 m pc ls (.int 20 :: .int 3 :: rest)) := by
  intro T hT X
  have h3 : (3 : Int32).toNatClampNeg = 3 := by decide
  have h20 : (20 : Int32).toNatClampNeg = 20 := by decide
  obtain ⟨vm₁, cA, cB, -, fA, fC, hO, hI, X', step⟩ := X.multianewarray2F hexec (ty := .int) (n := 3) (k := 20) hown hclink (show (Cond.arrayOver (.array .int)).before args s = true from hover) harr (g := F0 m pc ls (.int 20 :: .int 3 :: rest)) rfl (by rw [hb]; exact hdg) rfl (by decide) (by decide) (by decide) (by decide) (by decide) rfl rfl (by rw [h3]; exact hcells) (by rw [h3, h20]; exact hslots)
  rw [h3, h20] at X' step
  generalize hF : Jvm.Free.Multi.fill (T.setVm vm₁) cA cB 3 20 (defaultValue .int) 3 = F at X' step
  have hTh : (T.setVm vm₁).heap = H := hT
  obtain ⟨f1, f2, -, -⟩ := Jvm.Free.Multi.fill_facts (T.setVm vm₁) cA cB 3 20 (defaultValue .int) 3
  rw [hF, hTh] at f1 f2
  rw [xm_cell] at f2
  have hold : ∀ x : Nat, x < H.size → F.heap[x]? = H[x]? := fun x hx => by
    have := Jvm.Free.Multi.fill_old (T.setVm vm₁) cA cB 3 20 (defaultValue .int) (a := x) (by rw [hTh]; exact hx) 3
    rw [hF, hTh] at this
    exact this
  have hz : Jvm.Free.Multi.innerC cB 20 (defaultValue .int) = vp_cell cB (20, .inl (fun _ => 0)) := by
    rw [vp_cell_i]
    exact arrV_new cB 20 _
  have hrow : ∀ j : Nat, j < 3 → F.heap[H.size + 1 + j]? = some (vp_cell cB (20, .inl (fun _ => 0))) := fun j hj => by
    have := Jvm.Free.Multi.fill_inner (T.setVm vm₁) cA cB 3 20 (defaultValue .int) 3 j hj
    rw [hF, hTh, hz] at this
    exact this
  have hP0 : va_P D cl ws F.heap := hP.kept (fun k9 x hx => hold x.1 ((hP k9 x hx).lt))
  have lt : ∀ {w : va_W}, va_P D cl w F.heap → ∀ {a : Nat} {x : va_E}, va_at D cl (a, x) F.heap → va_P D cl (w ++ [(a, x)]) F.heap := fun {w} hw {a} {x} h1 => hw.app (fun k9 y hy => by
    have h0 : k9 < 1 := (List.getElem?_eq_some_iff.mp hy).1
    rw [show k9 = 0 by omega] at hy
    cases hy
    exact h1)
  have hP1 := lt hP0 (a := H.size) (x := .inl (cA, 3, .inr (.inr (.inr (.inr (xm_3 (H.size + 1) (H.size + 2) (H.size + 3))))))) f2
  have hP2 := lt hP1 (a := H.size + 1) (x := .inl (cB, 20, .inl (fun _ => 0))) (hrow 0 (by omega))
  have hP3 := lt hP2 (a := H.size + 2) (x := .inl (cB, 20, .inl (fun _ => 0))) (hrow 1 (by omega))
  have hP4 := lt hP3 (a := H.size + 3) (x := .inl (cB, 20, .inl (fun _ => 0))) (hrow 2 (by omega))
  have pushD : ∀ {w : va_W} {n : Nat} {x : va_E}, va_D A w → (∀ (k9 : Nat) (y : Nat × va_E), w[k9]? = some y → y.1 < n) → H.size ≤ n → va_D A (w ++ [(n, x)]) ∧ ∀ (k9 : Nat) (y : Nat × va_E), (w ++ [(n, x)])[k9]? = some y → y.1 < n + 1 := fun {w} {n} {x} hw hl hn => by
    have hat : ∀ (k9 : Nat) (y : Nat × va_E), (w ++ [(n, x)])[k9]? = some y → (k9 < w.length ∧ w[k9]? = some y) ∨ (k9 = w.length ∧ y = (n, x)) := fun k9 y hy => by
      by_cases h : k9 < w.length
      · rw [List.getElem?_append_left h] at hy
        exact Or.inl ⟨h, hy⟩
      · rw [List.getElem?_append_right (by omega)] at hy
        have h0 : k9 - w.length < 1 := (List.getElem?_eq_some_iff.mp hy).1
        rw [show k9 - w.length = 0 by omega] at hy
        cases hy
        exact Or.inr ⟨by omega, rfl⟩
    refine ⟨⟨fun i j y z hi hj hyz => ?_, fun k9 y hy => ?_⟩, fun k9 y hy => ?_⟩
    · rcases hat i y hi with ⟨a1, a2⟩ | ⟨a1, a2⟩ <;> rcases hat j z hj with ⟨b1, b2⟩ | ⟨b1, b2⟩
      · exact hw.1 i j y z a2 b2 hyz
      · have := hl i y a2
        rw [b2] at hyz
        exact absurd hyz (by show ¬ y.1 = n; omega)
      · have := hl j z b2
        rw [a2] at hyz
        exact absurd hyz (by show ¬ n = z.1; omega)
      · omega
    · rcases hat k9 y hy with ⟨a1, a2⟩ | ⟨a1, a2⟩
      · exact hw.2 k9 y a2
      · rw [a2]; exact hA _ (Nat.le_trans hS.1 hn)
    · rcases hat k9 y hy with ⟨a1, a2⟩ | ⟨a1, a2⟩
      · have := hl k9 y a2; omega
      · rw [a2]; exact Nat.lt_succ_self n
  obtain ⟨d1, e1⟩ := pushD (x := .inl (cA, 3, .inr (.inr (.inr (.inr (xm_3 (H.size + 1) (H.size + 2) (H.size + 3))))))) hD (fun k9 y hy => (hP k9 y hy).lt) (Nat.le_refl _)
  obtain ⟨d2, e2⟩ := pushD (x := .inl (cB, 20, .inl (fun _ => 0))) d1 e1 (Nat.le_succ _)
  obtain ⟨d3, e3⟩ := pushD (x := .inl (cB, 20, .inl (fun _ => 0))) d2 e2 (by omega)
  obtain ⟨d4, e4⟩ := pushD (x := .inl (cB, 20, .inl (fun _ => 0))) d3 e3 (by omega)
  have hK2 : va_K D cl [(cA, .array .int), (cB, .int)] s := ⟨hK.1, fun k9 y hy => by
    have h0 : k9 < 2 := (List.getElem?_eq_some_iff.mp hy).1
    rcases (show k9 = 0 ∨ k9 = 1 by omega) with rfl | rfl
    · cases hy
      obtain ⟨k1, k2⟩ := hO 3 0 3
      obtain ⟨q1, q2⟩ := hO 0 0 0
      refine ⟨?_, fA⟩
      intro n f
      obtain ⟨_, kA, hkA, comp, hkc⟩ := q1
      exact ⟨(fun q hq => by cases hq), kA, hkA, comp, hkc⟩
    · cases hy
      obtain ⟨q1, q2⟩ := hI 0 .null
      refine ⟨?_, fC⟩
      intro n f
      obtain ⟨_, kA, hkA, comp, hkc⟩ := q1
      exact ⟨(fun q hq => by cases hq), kA, hkA, comp, hkc⟩⟩
  obtain ⟨t, a1, b1⟩ := kk H.size (H.size + 1) (H.size + 2) (H.size + 3) cA cB F.heap (hK.app hK2) hP4 d4 ⟨by rw [f1]; have := hS.1; omega, fun x g1 g2 => by rw [hold x (Nat.lt_of_lt_of_le g1 hS.1)]; exact hS.2.1 x g1 g2, hS.2.2⟩ F rfl X'
  rw [hT] at step
  exact ⟨t, step t a1, b1⟩
end XGRID
