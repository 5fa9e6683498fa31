theorem lw_k {s : State} {args : Array Value} (hts : ∀ w ∈ lw_tbl, w.before args s = true) : ∃ (dC : Nat → ClassId) (dI : Nat → Nat → Nat), ∀ (k : Nat) (q : vw_C), xCl[k]? = some q → u_Kn s q.1 q.2.1 q.2.2 (dC k) (dI k) := by
  obtain ⟨c0, i0, h0⟩ := u_known (C := xR_SR) (T := xT_SR) (N := 6) (n := 6) hts (fun w h => (List.mem_filter.mp (iw_SR w h)).1) (hts (.instantiable xR_SR 6) (by decide +kernel))
  obtain ⟨c1, i1, h1⟩ := u_known (C := xR_SP) (T := xT_SP) (N := 4) (n := 4) hts (fun w h => (List.mem_filter.mp (iw_SP w h)).1) (hts (.instantiable xR_SP 4) (by decide +kernel))
  obtain ⟨c2, i2, h2⟩ := u_known (C := xR_OB) (T := xT_OB) (N := 9) (n := 9) hts (fun w h => (List.mem_filter.mp (iw_OB w h)).1) (hts (.instantiable xR_OB 9) (by decide +kernel))
  obtain ⟨c3, i3, h3⟩ := u_known (C := xR_SM) (T := xT_SM) (N := 9) (n := 9) hts (fun w h => (List.mem_filter.mp (iw_SM w h)).1) (hts (.instantiable xR_SM 9) (by decide +kernel))
  obtain ⟨c4, i4, h4⟩ := u_known (C := xR_SU) (T := xT_SU) (N := 8) (n := 8) hts (fun w h => (List.mem_filter.mp (iw_SU w h)).1) (hts (.instantiable xR_SU 8) (by decide +kernel))
  obtain ⟨c5, i5, h5⟩ := u_known (C := xR_LE) (T := xT_LE) (N := 3) (n := 3) hts (fun w h => (List.mem_filter.mp (iw_LE w h)).1) (hts (.instantiable xR_LE 3) (by decide +kernel))
  obtain ⟨c6, i6, h6⟩ := u_known (C := xR_PA) (T := xT_PA) (N := 4) (n := 4) hts (fun w h => (List.mem_filter.mp (iw_PA w h)).1) (hts (.instantiable xR_PA 4) (by decide +kernel))
  obtain ⟨c7, i7, h7⟩ := u_known (C := xR_MD) (T := xT_MD) (N := 27) (n := 27) hts (fun w h => (List.mem_filter.mp (iw_MD w h)).1) (hts (.instantiable xR_MD 27) (by decide +kernel))
  refine ⟨fun k => if k = 0 then c0 else if k = 1 then c1 else if k = 2 then c2 else if k = 3 then c3 else if k = 4 then c4 else if k = 5 then c5 else if k = 6 then c6 else c7, fun k => if k = 0 then i0 else if k = 1 then i1 else if k = 2 then i2 else if k = 3 then i3 else if k = 4 then i4 else if k = 5 then i5 else if k = 6 then i6 else i7, ?_⟩
  intro k q hq
  match k, hq with
  | 0, hq => cases hq; exact h0
  | 1, hq => cases hq; exact h1
  | 2, hq => cases hq; exact h2
  | 3, hq => cases hq; exact h3
  | 4, hq => cases hq; exact h4
  | 5, hq => cases hq; exact h5
  | 6, hq => cases hq; exact h6
  | 7, hq => cases hq; exact h7
  | k + 8, hq => simp [xCl] at hq
theorem xstr_of {s : State} {A : Array Value} {own tx : String} {k : Nat} (h0 : (Cond.stringRef own k tx).before A s = true) : ∃ a : Nat, vk_R own k tx a s := by
  have h := h0
  obtain ⟨a, ha⟩ : ∃ a : Nat, s.resolvedAt? own k = some (.string a) := by
    simp only [Cond.before, Cond.holds, Cond.value] at h
    cases hc : s.vm.findClass own with
    | none => simp [hc] at h
    | some c =>
      rw [hc] at h
      cases hr : s.resolvedAt? own k with
      | none => simp [hr] at h
      | some r => cases r <;> first | exact ⟨_, rfl⟩ | simp [hr] at h
  exact ⟨a, vk_R.of h0 (by
    simp only [State.resolvedAt?] at ha
    cases hc : s.vm.findClass own with
    | none => simp [hc] at ha
    | some c =>
      cases hk : s.vm.classes[c]? with
      | none => simp [hc, hk] at ha
      | some kk =>
        simp [hc, hk] at ha
        simp [Term.eval, hc, hk, ha])⟩
theorem lw_str {s : State} {b : Nat} (hts : ∀ w ∈ lw_tbl, w.before #[Value.ref b] s = true) : ∀ q ∈ x_strs, ∃ a : Nat, vk_R q.1 q.2.1 q.2.2 a s := fun q hq => xstr_of (hts _ ((by decide +kernel : ∀ q ∈ x_strs, Cond.stringRef q.1 q.2.1 q.2.2 ∈ lw_tbl) q hq))
theorem lw_z {s : State} {b : Nat} (hts : ∀ w ∈ lw_tbl, w.before #[Value.ref b] s = true) (hgv : (Jvm.Cond.and given_1 narrow_1).before #[Value.ref b] s = true) : xZ s := by
  have hs := flat_of_before _ hgv
  refine ⟨fun q hq => va_Nw.of rfl (hts _ ((by decide +kernel : ∀ q ∈ x_nest, Cond.methodLinkNest q.1 q.2.1 q.2.2 "StationRounds" ∈ lw_tbl) q hq)), fun q hq => ?_, fun w hw => va_Nw.of (xF_on hw).1 (hts w (List.mem_filter.mp hw).1), fun q hq => ?_, ?_⟩
  · exact lw_str hts q hq
  · exact va_Nc.of (hs _ ((by decide +kernel : ∀ q ∈ x_nc, Cond.not (.castable q.1 q.2) ∈ flatC (Jvm.Cond.and given_1 narrow_1)) q hq))
  · have h9 : (Cond.arrayOver (.array .int)).before #[Value.ref b] s = true := by first | exact hts _ (by decide +kernel) | exact hs _ (by decide +kernel)
    exact h9
theorem lw_h {s : State} {b : Nat} {A : Nat → Prop} (hts : ∀ w ∈ lw_tbl, w.before #[Value.ref b] s = true) (hgv : (Jvm.Cond.and given_1 narrow_1).before #[Value.ref b] s = true) (hA : ∀ a : Nat, a < s.heap.size → ¬ A a) : xHA A s := by
  have hs := flat_of_before _ hgv
  have both : ∀ w ∈ xh_ws, w ∈ flatC (Jvm.Cond.and given_1 narrow_1) ∨ w ∈ lw_tbl := by decide +kernel
  exact ⟨xH.of fun w hw => (both w hw).elim (hs w) (hts w), hA⟩
