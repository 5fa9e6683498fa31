
set_option maxHeartbeats 4000000 in
set_option maxRecDepth 100000 in
/-- the law: mark, which throws -/
theorem c_LA_mark_x1 (l : Launch) (hl9 : l.stackTraces = false) (dC : Nat → ClassId) (dI : Nat → Nat → Nat) (sz : Nat) (h0 : Nat) (gm : Nat) (gp : Nat) (go : Nat) (gs : Nat) (gl : Nat) (gd : Nat) (ma : Nat) (mb : Nat) (md : Nat) (nm : Nat) (ka : ClassId) (kb : ClassId) (kd : ClassId) (mx : Nat → Int32) (my : Nat → Int32) (mz : Nat → Int32) (a : Int32) (b : Int32) (d : Int32) (ow : Nat) (co : ClassId) (fo : Nat → Int64) (hc : nm ≤ 12) (hf : 12 ≤ nm) : Met l xy_LA_mark xw_LA_mark ({ frames := 7, cells := 1, slots := 6, locals := 105 }) (xp_x [.ref h0, .int a, .int b, .int d, .ref ow] sz (dC, dI) xCl [(h0, .inr (0, [.ref gm, .ref gp, .ref go, .ref gs, .ref gl, .ref gd])), (gm, .inr (1, [.ref ma, .ref mb, .ref md, .int (nI nm)])), (ma, .inl (ka, 12, .inl mx)), (mb, .inl (kb, 12, .inl my)), (md, .inl (kd, 12, .inl mz)), (ow, .inl (co, 1, .inr (.inl fo)))] [(ka, .int), (kb, .int), (kd, .int), (co, .long)]) (va_Qi (fun (r : Int32) (_ : Unit) => r = 1) (fun _ t => xb_w (dC, dI) xCl [(h0, .inr (0, [.ref gm, .ref gp, .ref go, .ref gs, .ref gl, .ref gd])), (gm, .inr (1, [.ref ma, .ref mb, .ref md, .int (nI nm)])), (ma, .inl (ka, 12, .inl mx)), (mb, .inl (kb, 12, .inl my)), (md, .inl (kd, 12, .inl mz)), (ow, .inl (co, 1, .inr (.inl fo)))] [(ka, .int), (kb, .int), (kd, .int), (co, .long)] (va_A [(h0, .inr (0, [.ref gm, .ref gp, .ref go, .ref gs, .ref gl, .ref gd])), (gm, .inr (1, [.ref ma, .ref mb, .ref md, .int (nI nm)])), (ma, .inl (ka, 12, .inl mx)), (mb, .inl (kb, 12, .inl my)), (md, .inl (kd, 12, .inl mz)), (ow, .inl (co, 1, .inr (.inl fo)))] sz) t) (va_A [(h0, .inr (0, [.ref gm, .ref gp, .ref go, .ref gs, .ref gl, .ref gd])), (gm, .inr (1, [.ref ma, .ref mb, .ref md, .int (nI nm)])), (ma, .inl (ka, 12, .inl mx)), (mb, .inl (kb, 12, .inl my)), (md, .inl (kd, 12, .inl mz)), (ow, .inl (co, 1, .inr (.inl fo)))] sz)) 1 6 (va_A [(h0, .inr (0, [.ref gm, .ref gp, .ref go, .ref gs, .ref gl, .ref gd])), (gm, .inr (1, [.ref ma, .ref mb, .ref md, .int (nI nm)])), (ma, .inl (ka, 12, .inl mx)), (mb, .inl (kb, 12, .inl my)), (md, .inl (kd, 12, .inl mz)), (ow, .inl (co, 1, .inr (.inl fo)))] sz) := by
  refine va_MetW (cc := method_3_code) (maxL := 6) (ret := (some .int)) (by decide) rfl ?_
  intro p e s m args below meth c s₁ B hml hv
  obtain ⟨rfl, hsz, hz, hH, hP, hK, hD0⟩ := hv
  have hx := B.exec
  have hb := B.bytes
  have hr := B.returns
  have hts := atoms_spec (ws := xw_LA_mark) B.pre
  have hown : s.vm.findClass xR_LA = some m.cls := findClass_of_methodNamed B.named
  have hlocks := B.notSynchronized
  have htab := xt_table B (hts _ List.mem_cons_self)
  subst hsz
  have hD := hD0.self (sz := s.heap.size)
  generalize hAe : va_A [(h0, .inr (0, [.ref gm, .ref gp, .ref go, .ref gs, .ref gl, .ref gd])), (gm, .inr (1, [.ref ma, .ref mb, .ref md, .int (nI nm)])), (ma, .inl (ka, 12, .inl mx)), (mb, .inl (kb, 12, .inl my)), (md, .inl (kd, 12, .inl mz)), (ow, .inl (co, 1, .inr (.inl fo)))] s.heap.size = A at hD ⊢
  have hA : ∀ q : Nat, s.heap.size ≤ q → A q := fun q h => by rw [← hAe]; exact Or.inr h
  have hS : va_S A s.heap s.heap [] := va_S.rf
  have hP : va_P (dC, dI) xCl [(h0, .inr (0, [.ref gm, .ref gp, .ref go, .ref gs, .ref gl, .ref gd])), (gm, .inr (1, [.ref ma, .ref mb, .ref md, .int (nI nm)])), (ma, .inl (ka, 12, .inl mx)), (mb, .inl (kb, 12, .inl my)), (md, .inl (kd, 12, .inl mz)), (ow, .inl (co, 1, .inr (.inl fo)))] s.heap := hP
  have hl := lv_entry ([.ref h0, .int a, .int b, .int d, .ref ow]) (n := 6) (Nat.le_of_ble_eq_true rfl)
  rw [lg_entry_eq]
  generalize (lg_sl ([.ref h0, .int a, .int b, .int d, .ref ow]) ++ List.replicate (6 - (lg_sl ([.ref h0, .int a, .int b, .int d, .ref ow])).length) Slot.unset).toArray = ls at hl ⊢
  have hl : lv_has ls 6 [(0, .ref h0), (1, .int a), (2, .int b), (3, .int d), (4, .ref ow)] := hl
  refine lv_aload hx hb d_LA_mark_0 (lv_at hl 4 rfl) ?_
  refine lv_iconst (v := 0) hx hb d_LA_mark_2 (by decide) ?_
  refine lv_aload_n hx hb d_LA_mark_3 rfl (lv_at hl 0 rfl) ?_
  refine lv_iload_n hx hb d_LA_mark_4 rfl (lv_at hl 1 rfl) ?_
  refine lv_iload_n hx hb d_LA_mark_5 rfl (lv_at hl 2 rfl) ?_
  refine lv_iload_n hx hb d_LA_mark_6 rfl (lv_at hl 3 rfl) ?_
  have hPc := hP.sub (ws' := [(h0, .inr (0, [.ref gm, .ref gp, .ref go, .ref gs, .ref gl, .ref gd])), (gm, .inr (1, [.ref ma, .ref mb, .ref md, .int (nI nm)])), (ma, .inl (ka, 12, .inl mx)), (mb, .inl (kb, 12, .inl my)), (md, .inl (kd, 12, .inl mz))]) [0, 1, 2, 3, 4] rfl
  have hKc := hK.sub (tys' := [(ka, .int), (kb, .int), (kd, .int)]) [0, 1, 2] rfl
  refine xt_catchV (As := [.int a, .int b, .int d]) (rest := [.int 0, .ref ow]) (name := "java/lang/IllegalStateException") ⟨hx, hb, hml, hown, hts⟩ (c_SR_mark_x1 l hl9 dC dI h0 gm gp go gs gl gd ma mb md nm ka kb kd mx my mz a b d hc hf) (cwV 3 hts (xgV wm_386 wm_387 wm_388 wm_26 wm_389) rfl rfl rfl (by decide +kernel) ⟨Nat.le_of_ble_eq_true rfl, Nat.le_of_ble_eq_true rfl⟩) ⟨xt_blind, va_recv hKc hPc (ci := 0) (q0 := 0) rfl rfl, fun U hU hW => ⟨rfl, hz.warm hW, hH.same hW hU, by rw [hU]; exact hPc, va_K.moved hW.alike hKc⟩⟩ rfl hl.1 rfl (Nat.le_of_ble_eq_true rfl) d_LA_mark_7 ⟨Nat.le_of_ble_eq_true rfl, Nat.le_of_ble_eq_true rfl⟩ (tableOf []) ⟨0, 12, 15, 13⟩ (tableOf [(0, 12, 19, 15)]) htab (fun z hz9 => nomatch hz9) (by decide) (by decide) (hts _ (List.mem_cons_of_mem _ wm_384)) (va_Nw.use rfl (hz.face xc_IllegalStateException)) (fun q_1 H hsz9 hkp9 => ?_)
  have hP := xt_keepP hP hkp9
  have hS := xt_keepS hS hsz9 hkp9
  refine W.widen (k := 1) (n := 6) (by decide) (by decide) ?_
  refine lv_astore (lv' := [(5, .ref q_1), (0, .ref h0), (1, .int a), (2, .int b), (3, .int d), (4, .ref ow)]) hx hb d_LA_mark_15 hl (by decide) rfl (fun ls hl => ?_)
  refine lv_iconst (v := 1) hx hb d_LA_mark_17 (by decide) ?_
  have hP9 := hP.sub (ws' := [(h0, .inr (0, [.ref gm, .ref gp, .ref go, .ref gs, .ref gl, .ref gd])), (gm, .inr (1, [.ref ma, .ref mb, .ref md, .int (nI nm)])), (ma, .inl (ka, 12, .inl mx)), (mb, .inl (kb, 12, .inl my)), (md, .inl (kd, 12, .inl mz)), (ow, .inl (co, 1, .inr (.inl fo)))]) [0, 1, 2, 3, 4, 5] rfl
  have hD9 := hD.sub (ws' := [(h0, .inr (0, [.ref gm, .ref gp, .ref go, .ref gs, .ref gl, .ref gd])), (gm, .inr (1, [.ref ma, .ref mb, .ref md, .int (nI nm)])), (ma, .inl (ka, 12, .inl mx)), (mb, .inl (kb, 12, .inl my)), (md, .inl (kd, 12, .inl mz)), (ow, .inl (co, 1, .inr (.inl fo)))]) [0, 1, 2, 3, 4, 5] (by decide) rfl
  have hK9 := hK.sub (tys' := [(ka, .int), (kb, .int), (kd, .int), (co, .long)]) [0, 1, 2, 3] rfl
  exact W.iret (v := 1) hx hb hr (fun t ht hW => ⟨⟨1, (), rfl, rfl, ⟨by rw [ht]; exact hP9, va_K.moved hW.alike hK9, by exact hD9⟩⟩, hS.F ht⟩) hS.2.2 d_LA_mark_18 hlocks
set_option maxHeartbeats 4000000 in
set_option maxRecDepth 100000 in
/-- the law: mark, which throws -/
theorem c_LA_mark_x2 (l : Launch) (hl9 : l.stackTraces = false) (dC : Nat → ClassId) (dI : Nat → Nat → Nat) (sz : Nat) (h0 : Nat) (gm : Nat) (gp : Nat) (go : Nat) (gs : Nat) (gl : Nat) (gd : Nat) (ma : Nat) (mb : Nat) (md : Nat) (nm : Nat) (ka : ClassId) (kb : ClassId) (kd : ClassId) (mx : Nat → Int32) (my : Nat → Int32) (mz : Nat → Int32) (a : Int32) (b : Int32) (d : Int32) (ow : Nat) (co : ClassId) (fo : Nat → Int64) (hc : nm < 12) (hn : ¬ (sr_near a ∧ sr_near b ∧ sr_near d)) : Met l xy_LA_mark xw_LA_mark ({ frames := 7, cells := 1, slots := 6, locals := 105 }) (xp_x [.ref h0, .int a, .int b, .int d, .ref ow] sz (dC, dI) xCl [(h0, .inr (0, [.ref gm, .ref gp, .ref go, .ref gs, .ref gl, .ref gd])), (gm, .inr (1, [.ref ma, .ref mb, .ref md, .int (nI nm)])), (ma, .inl (ka, 12, .inl mx)), (mb, .inl (kb, 12, .inl my)), (md, .inl (kd, 12, .inl mz)), (ow, .inl (co, 1, .inr (.inl fo)))] [(ka, .int), (kb, .int), (kd, .int), (co, .long)]) (va_Qi (fun (r : Int32) (_ : Unit) => r = 2) (fun _ t => xb_w (dC, dI) xCl [(h0, .inr (0, [.ref gm, .ref gp, .ref go, .ref gs, .ref gl, .ref gd])), (gm, .inr (1, [.ref ma, .ref mb, .ref md, .int (nI nm)])), (ma, .inl (ka, 12, .inl mx)), (mb, .inl (kb, 12, .inl my)), (md, .inl (kd, 12, .inl mz)), (ow, .inl (co, 1, .inr (.inl fo)))] [(ka, .int), (kb, .int), (kd, .int), (co, .long)] (va_A [(h0, .inr (0, [.ref gm, .ref gp, .ref go, .ref gs, .ref gl, .ref gd])), (gm, .inr (1, [.ref ma, .ref mb, .ref md, .int (nI nm)])), (ma, .inl (ka, 12, .inl mx)), (mb, .inl (kb, 12, .inl my)), (md, .inl (kd, 12, .inl mz)), (ow, .inl (co, 1, .inr (.inl fo)))] sz) t) (va_A [(h0, .inr (0, [.ref gm, .ref gp, .ref go, .ref gs, .ref gl, .ref gd])), (gm, .inr (1, [.ref ma, .ref mb, .ref md, .int (nI nm)])), (ma, .inl (ka, 12, .inl mx)), (mb, .inl (kb, 12, .inl my)), (md, .inl (kd, 12, .inl mz)), (ow, .inl (co, 1, .inr (.inl fo)))] sz)) 1 6 (va_A [(h0, .inr (0, [.ref gm, .ref gp, .ref go, .ref gs, .ref gl, .ref gd])), (gm, .inr (1, [.ref ma, .ref mb, .ref md, .int (nI nm)])), (ma, .inl (ka, 12, .inl mx)), (mb, .inl (kb, 12, .inl my)), (md, .inl (kd, 12, .inl mz)), (ow, .inl (co, 1, .inr (.inl fo)))] sz) := by
  refine va_MetW (cc := method_3_code) (maxL := 6) (ret := (some .int)) (by decide) rfl ?_
  intro p e s m args below meth c s₁ B hml hv
  obtain ⟨rfl, hsz, hz, hH, hP, hK, hD0⟩ := hv
  have hx := B.exec
  have hb := B.bytes
  have hr := B.returns
  have hts := atoms_spec (ws := xw_LA_mark) B.pre
  have hown : s.vm.findClass xR_LA = some m.cls := findClass_of_methodNamed B.named
  have hlocks := B.notSynchronized
  have htab := xt_table B (hts _ List.mem_cons_self)
  subst hsz
  have hD := hD0.self (sz := s.heap.size)
  generalize hAe : va_A [(h0, .inr (0, [.ref gm, .ref gp, .ref go, .ref gs, .ref gl, .ref gd])), (gm, .inr (1, [.ref ma, .ref mb, .ref md, .int (nI nm)])), (ma, .inl (ka, 12, .inl mx)), (mb, .inl (kb, 12, .inl my)), (md, .inl (kd, 12, .inl mz)), (ow, .inl (co, 1, .inr (.inl fo)))] s.heap.size = A at hD ⊢
  have hA : ∀ q : Nat, s.heap.size ≤ q → A q := fun q h => by rw [← hAe]; exact Or.inr h
  have hS : va_S A s.heap s.heap [] := va_S.rf
  have hP : va_P (dC, dI) xCl [(h0, .inr (0, [.ref gm, .ref gp, .ref go, .ref gs, .ref gl, .ref gd])), (gm, .inr (1, [.ref ma, .ref mb, .ref md, .int (nI nm)])), (ma, .inl (ka, 12, .inl mx)), (mb, .inl (kb, 12, .inl my)), (md, .inl (kd, 12, .inl mz)), (ow, .inl (co, 1, .inr (.inl fo)))] s.heap := hP
  have hl := lv_entry ([.ref h0, .int a, .int b, .int d, .ref ow]) (n := 6) (Nat.le_of_ble_eq_true rfl)
  rw [lg_entry_eq]
  generalize (lg_sl ([.ref h0, .int a, .int b, .int d, .ref ow]) ++ List.replicate (6 - (lg_sl ([.ref h0, .int a, .int b, .int d, .ref ow])).length) Slot.unset).toArray = ls at hl ⊢
  have hl : lv_has ls 6 [(0, .ref h0), (1, .int a), (2, .int b), (3, .int d), (4, .ref ow)] := hl
  refine lv_aload hx hb d_LA_mark_0 (lv_at hl 4 rfl) ?_
  refine lv_iconst (v := 0) hx hb d_LA_mark_2 (by decide) ?_
  refine lv_aload_n hx hb d_LA_mark_3 rfl (lv_at hl 0 rfl) ?_
  refine lv_iload_n hx hb d_LA_mark_4 rfl (lv_at hl 1 rfl) ?_
  refine lv_iload_n hx hb d_LA_mark_5 rfl (lv_at hl 2 rfl) ?_
  refine lv_iload_n hx hb d_LA_mark_6 rfl (lv_at hl 3 rfl) ?_
  have hPc := hP.sub (ws' := [(h0, .inr (0, [.ref gm, .ref gp, .ref go, .ref gs, .ref gl, .ref gd])), (gm, .inr (1, [.ref ma, .ref mb, .ref md, .int (nI nm)])), (ma, .inl (ka, 12, .inl mx)), (mb, .inl (kb, 12, .inl my)), (md, .inl (kd, 12, .inl mz))]) [0, 1, 2, 3, 4] rfl
  have hKc := hK.sub (tys' := [(ka, .int), (kb, .int), (kd, .int)]) [0, 1, 2] rfl
  refine xt_catchV (As := [.int a, .int b, .int d]) (rest := [.int 0, .ref ow]) (name := "java/lang/IllegalArgumentException") ⟨hx, hb, hml, hown, hts⟩ (c_SR_mark_x2 l hl9 dC dI h0 gm gp go gs gl gd ma mb md nm ka kb kd mx my mz a b d hc hn) (cwV 3 hts (xgV wm_386 wm_387 wm_388 wm_26 wm_389) rfl rfl rfl (by decide +kernel) ⟨Nat.le_of_ble_eq_true rfl, Nat.le_of_ble_eq_true rfl⟩) ⟨xt_blind, va_recv hKc hPc (ci := 0) (q0 := 0) rfl rfl, fun U hU hW => ⟨rfl, hz.warm hW, hH.same hW hU, by rw [hU]; exact hPc, va_K.moved hW.alike hKc⟩⟩ rfl hl.1 rfl (Nat.le_of_ble_eq_true rfl) d_LA_mark_7 ⟨Nat.le_of_ble_eq_true rfl, Nat.le_of_ble_eq_true rfl⟩ (tableOf [(0, 12, 15, 13)]) ⟨0, 12, 19, 15⟩ (tableOf []) htab (fun z hz9 => by
      simp only [tableOf, List.map_cons, List.map_nil, List.mem_cons, List.not_mem_nil, or_false] at hz9
      rcases hz9 with rfl
      · exact ⟨"java/lang/IllegalStateException", hz.nc (by decide +kernel), by decide, (hts _ (List.mem_cons_of_mem _ wm_384))⟩) (by decide) (by decide) (hts _ (List.mem_cons_of_mem _ wm_385)) (va_Nw.use rfl (hz.face xc_IllegalArgumentException)) (fun q_1 H hsz9 hkp9 => ?_)
  have hP := xt_keepP hP hkp9
  have hS := xt_keepS hS hsz9 hkp9
  refine W.widen (k := 1) (n := 6) (by decide) (by decide) ?_
  refine lv_astore (lv' := [(5, .ref q_1), (0, .ref h0), (1, .int a), (2, .int b), (3, .int d), (4, .ref ow)]) hx hb d_LA_mark_19 hl (by decide) rfl (fun ls hl => ?_)
  refine lv_iconst (v := 2) hx hb d_LA_mark_21 (by decide) ?_
  have hP9 := hP.sub (ws' := [(h0, .inr (0, [.ref gm, .ref gp, .ref go, .ref gs, .ref gl, .ref gd])), (gm, .inr (1, [.ref ma, .ref mb, .ref md, .int (nI nm)])), (ma, .inl (ka, 12, .inl mx)), (mb, .inl (kb, 12, .inl my)), (md, .inl (kd, 12, .inl mz)), (ow, .inl (co, 1, .inr (.inl fo)))]) [0, 1, 2, 3, 4, 5] rfl
  have hD9 := hD.sub (ws' := [(h0, .inr (0, [.ref gm, .ref gp, .ref go, .ref gs, .ref gl, .ref gd])), (gm, .inr (1, [.ref ma, .ref mb, .ref md, .int (nI nm)])), (ma, .inl (ka, 12, .inl mx)), (mb, .inl (kb, 12, .inl my)), (md, .inl (kd, 12, .inl mz)), (ow, .inl (co, 1, .inr (.inl fo)))]) [0, 1, 2, 3, 4, 5] (by decide) rfl
  have hK9 := hK.sub (tys' := [(ka, .int), (kb, .int), (kd, .int), (co, .long)]) [0, 1, 2, 3] rfl
  exact W.iret (v := 2) hx hb hr (fun t ht hW => ⟨⟨2, (), rfl, rfl, ⟨by rw [ht]; exact hP9, va_K.moved hW.alike hK9, by exact hD9⟩⟩, hS.F ht⟩) hS.2.2 d_LA_mark_22 hlocks
set_option maxHeartbeats 4000000 in
set_option maxRecDepth 100000 in
/-- the law: observe, which throws -/
theorem c_LA_observe_x1 (l : Launch) (hl9 : l.stackTraces = false) (dC : Nat → ClassId) (dI : Nat → Nat → Nat) (sz : Nat) (h0 : Nat) (gm : Nat) (gp : Nat) (go : Nat) (gs : Nat) (gl : Nat) (gd : Nat) (ma : Nat) (mb : Nat) (md : Nat) (nm : Nat) (ka : ClassId) (kb : ClassId) (kd : ClassId) (mx : Nat → Int32) (my : Nat → Int32) (mz : Nat → Int32) (qx : Nat) (qy : Nat) (qz : Nat) (qu : Nat) (qv : Nat) (qw : Nat) (qp : Nat) (qe : Nat) (no : Nat) (i0 : Int32) (a : Int32) (b : Int32) (d : Int32) (ow : Nat) (co : ClassId) (fo : Nat → Int64) (hm : nm ≤ 12) (hno : no ≤ 20) (hv : ¬ xin i0 nm) : Met l xy_LA_observe xw_LA_observe ({ frames := 7, cells := 1, slots := 6, locals := 106 }) (xp_x [.ref h0, .int i0, .int a, .int b, .int d, .ref ow] sz (dC, dI) xCl [(h0, .inr (0, [.ref gm, .ref gp, .ref go, .ref gs, .ref gl, .ref gd])), (gm, .inr (1, [.ref ma, .ref mb, .ref md, .int (nI nm)])), (ma, .inl (ka, 12, .inl mx)), (mb, .inl (kb, 12, .inl my)), (md, .inl (kd, 12, .inl mz)), (go, .inr (2, [.ref qx, .ref qy, .ref qz, .ref qu, .ref qv, .ref qw, .ref qp, .ref qe, .int (nI no)])), (ow, .inl (co, 1, .inr (.inl fo)))] [(ka, .int), (kb, .int), (kd, .int), (co, .long)]) (va_Qi (fun (r : Int32) (_ : Unit) => r = 1) (fun _ t => xb_w (dC, dI) xCl [(h0, .inr (0, [.ref gm, .ref gp, .ref go, .ref gs, .ref gl, .ref gd])), (gm, .inr (1, [.ref ma, .ref mb, .ref md, .int (nI nm)])), (ma, .inl (ka, 12, .inl mx)), (mb, .inl (kb, 12, .inl my)), (md, .inl (kd, 12, .inl mz)), (go, .inr (2, [.ref qx, .ref qy, .ref qz, .ref qu, .ref qv, .ref qw, .ref qp, .ref qe, .int (nI no)])), (ow, .inl (co, 1, .inr (.inl fo)))] [(ka, .int), (kb, .int), (kd, .int), (co, .long)] (va_A [(h0, .inr (0, [.ref gm, .ref gp, .ref go, .ref gs, .ref gl, .ref gd])), (gm, .inr (1, [.ref ma, .ref mb, .ref md, .int (nI nm)])), (ma, .inl (ka, 12, .inl mx)), (mb, .inl (kb, 12, .inl my)), (md, .inl (kd, 12, .inl mz)), (go, .inr (2, [.ref qx, .ref qy, .ref qz, .ref qu, .ref qv, .ref qw, .ref qp, .ref qe, .int (nI no)])), (ow, .inl (co, 1, .inr (.inl fo)))] sz) t) (va_A [(h0, .inr (0, [.ref gm, .ref gp, .ref go, .ref gs, .ref gl, .ref gd])), (gm, .inr (1, [.ref ma, .ref mb, .ref md, .int (nI nm)])), (ma, .inl (ka, 12, .inl mx)), (mb, .inl (kb, 12, .inl my)), (md, .inl (kd, 12, .inl mz)), (go, .inr (2, [.ref qx, .ref qy, .ref qz, .ref qu, .ref qv, .ref qw, .ref qp, .ref qe, .int (nI no)])), (ow, .inl (co, 1, .inr (.inl fo)))] sz)) 1 6 (va_A [(h0, .inr (0, [.ref gm, .ref gp, .ref go, .ref gs, .ref gl, .ref gd])), (gm, .inr (1, [.ref ma, .ref mb, .ref md, .int (nI nm)])), (ma, .inl (ka, 12, .inl mx)), (mb, .inl (kb, 12, .inl my)), (md, .inl (kd, 12, .inl mz)), (go, .inr (2, [.ref qx, .ref qy, .ref qz, .ref qu, .ref qv, .ref qw, .ref qp, .ref qe, .int (nI no)])), (ow, .inl (co, 1, .inr (.inl fo)))] sz) := by
  refine va_MetW (cc := method_4_code) (maxL := 7) (ret := (some .int)) (by decide) rfl ?_
  intro p e s m args below meth c s₁ B hml hv
  obtain ⟨rfl, hsz, hz, hH, hP, hK, hD0⟩ := hv
  have hx := B.exec
  have hb := B.bytes
  have hr := B.returns
  have hts := atoms_spec (ws := xw_LA_observe) B.pre
  have hown : s.vm.findClass xR_LA = some m.cls := findClass_of_methodNamed B.named
  have hlocks := B.notSynchronized
  have htab := xt_table B (hts _ List.mem_cons_self)
  subst hsz
  have hD := hD0.self (sz := s.heap.size)
  generalize hAe : va_A [(h0, .inr (0, [.ref gm, .ref gp, .ref go, .ref gs, .ref gl, .ref gd])), (gm, .inr (1, [.ref ma, .ref mb, .ref md, .int (nI nm)])), (ma, .inl (ka, 12, .inl mx)), (mb, .inl (kb, 12, .inl my)), (md, .inl (kd, 12, .inl mz)), (go, .inr (2, [.ref qx, .ref qy, .ref qz, .ref qu, .ref qv, .ref qw, .ref qp, .ref qe, .int (nI no)])), (ow, .inl (co, 1, .inr (.inl fo)))] s.heap.size = A at hD ⊢
  have hA : ∀ q : Nat, s.heap.size ≤ q → A q := fun q h => by rw [← hAe]; exact Or.inr h
  have hS : va_S A s.heap s.heap [] := va_S.rf
  have hP : va_P (dC, dI) xCl [(h0, .inr (0, [.ref gm, .ref gp, .ref go, .ref gs, .ref gl, .ref gd])), (gm, .inr (1, [.ref ma, .ref mb, .ref md, .int (nI nm)])), (ma, .inl (ka, 12, .inl mx)), (mb, .inl (kb, 12, .inl my)), (md, .inl (kd, 12, .inl mz)), (go, .inr (2, [.ref qx, .ref qy, .ref qz, .ref qu, .ref qv, .ref qw, .ref qp, .ref qe, .int (nI no)])), (ow, .inl (co, 1, .inr (.inl fo)))] s.heap := hP
  have hl := lv_entry ([.ref h0, .int i0, .int a, .int b, .int d, .ref ow]) (n := 7) (Nat.le_of_ble_eq_true rfl)
  rw [lg_entry_eq]
  generalize (lg_sl ([.ref h0, .int i0, .int a, .int b, .int d, .ref ow]) ++ List.replicate (7 - (lg_sl ([.ref h0, .int i0, .int a, .int b, .int d, .ref ow])).length) Slot.unset).toArray = ls at hl ⊢
  have hl : lv_has ls 7 [(0, .ref h0), (1, .int i0), (2, .int a), (3, .int b), (4, .int d), (5, .ref ow)] := hl
  refine lv_aload hx hb d_LA_observe_0 (lv_at hl 5 rfl) ?_
  refine lv_iconst (v := 0) hx hb d_LA_observe_2 (by decide) ?_
  refine lv_aload_n hx hb d_LA_observe_3 rfl (lv_at hl 0 rfl) ?_
  refine lv_iload_n hx hb d_LA_observe_4 rfl (lv_at hl 1 rfl) ?_
  refine lv_iload_n hx hb d_LA_observe_5 rfl (lv_at hl 2 rfl) ?_
  refine lv_iload_n hx hb d_LA_observe_6 rfl (lv_at hl 3 rfl) ?_
  refine lv_iload hx hb d_LA_observe_7 (lv_at hl 4 rfl) ?_
  have hPc := hP.sub (ws' := [(h0, .inr (0, [.ref gm, .ref gp, .ref go, .ref gs, .ref gl, .ref gd])), (gm, .inr (1, [.ref ma, .ref mb, .ref md, .int (nI nm)])), (ma, .inl (ka, 12, .inl mx)), (mb, .inl (kb, 12, .inl my)), (md, .inl (kd, 12, .inl mz)), (go, .inr (2, [.ref qx, .ref qy, .ref qz, .ref qu, .ref qv, .ref qw, .ref qp, .ref qe, .int (nI no)]))]) [0, 1, 2, 3, 4, 5] rfl
  have hKc := hK.sub (tys' := [(ka, .int), (kb, .int), (kd, .int)]) [0, 1, 2] rfl
  refine xt_catchV (As := [.int i0, .int a, .int b, .int d]) (rest := [.int 0, .ref ow]) (name := "java/lang/IndexOutOfBoundsException") ⟨hx, hb, hml, hown, hts⟩ (c_SR_observe_x1 l hl9 dC dI h0 gm gp go gs gl gd ma mb md nm ka kb kd mx my mz qx qy qz qu qv qw qp qe no i0 a b d hm hno hv) (cwV 4 hts (xgV wm_486 wm_487 wm_488 wm_26 wm_489) rfl rfl rfl (by decide +kernel) ⟨Nat.le_of_ble_eq_true rfl, Nat.le_of_ble_eq_true rfl⟩) ⟨xt_blind, va_recv hKc hPc (ci := 0) (q0 := 0) rfl rfl, fun U hU hW => ⟨rfl, hz.warm hW, hH.same hW hU, by rw [hU]; exact hPc, va_K.moved hW.alike hKc⟩⟩ rfl hl.1 rfl (Nat.le_of_ble_eq_true rfl) d_LA_observe_9 ⟨Nat.le_of_ble_eq_true rfl, Nat.le_of_ble_eq_true rfl⟩ (tableOf []) ⟨0, 14, 17, 21⟩ (tableOf [(0, 14, 21, 13), (0, 14, 25, 15)]) htab (fun z hz9 => nomatch hz9) (by decide) (by decide) (hts _ (List.mem_cons_of_mem _ wm_485)) (va_Nw.use rfl (hz.face xc_IndexOutOfBoundsException)) (fun q_1 H hsz9 hkp9 => ?_)
  have hP := xt_keepP hP hkp9
  have hS := xt_keepS hS hsz9 hkp9
  refine W.widen (k := 1) (n := 6) (by decide) (by decide) ?_
  refine lv_astore (lv' := [(6, .ref q_1), (0, .ref h0), (1, .int i0), (2, .int a), (3, .int b), (4, .int d), (5, .ref ow)]) hx hb d_LA_observe_17 hl (by decide) rfl (fun ls hl => ?_)
  refine lv_iconst (v := 1) hx hb d_LA_observe_19 (by decide) ?_
  have hP9 := hP.sub (ws' := [(h0, .inr (0, [.ref gm, .ref gp, .ref go, .ref gs, .ref gl, .ref gd])), (gm, .inr (1, [.ref ma, .ref mb, .ref md, .int (nI nm)])), (ma, .inl (ka, 12, .inl mx)), (mb, .inl (kb, 12, .inl my)), (md, .inl (kd, 12, .inl mz)), (go, .inr (2, [.ref qx, .ref qy, .ref qz, .ref qu, .ref qv, .ref qw, .ref qp, .ref qe, .int (nI no)])), (ow, .inl (co, 1, .inr (.inl fo)))]) [0, 1, 2, 3, 4, 5, 6] rfl
  have hD9 := hD.sub (ws' := [(h0, .inr (0, [.ref gm, .ref gp, .ref go, .ref gs, .ref gl, .ref gd])), (gm, .inr (1, [.ref ma, .ref mb, .ref md, .int (nI nm)])), (ma, .inl (ka, 12, .inl mx)), (mb, .inl (kb, 12, .inl my)), (md, .inl (kd, 12, .inl mz)), (go, .inr (2, [.ref qx, .ref qy, .ref qz, .ref qu, .ref qv, .ref qw, .ref qp, .ref qe, .int (nI no)])), (ow, .inl (co, 1, .inr (.inl fo)))]) [0, 1, 2, 3, 4, 5, 6] (by decide) rfl
  have hK9 := hK.sub (tys' := [(ka, .int), (kb, .int), (kd, .int), (co, .long)]) [0, 1, 2, 3] rfl
  exact W.iret (v := 1) hx hb hr (fun t ht hW => ⟨⟨1, (), rfl, rfl, ⟨by rw [ht]; exact hP9, va_K.moved hW.alike hK9, by exact hD9⟩⟩, hS.F ht⟩) hS.2.2 d_LA_observe_20 hlocks
set_option maxHeartbeats 4000000 in
set_option maxRecDepth 100000 in
/-- the law: observe, which throws -/
theorem c_LA_observe_x2 (l : Launch) (hl9 : l.stackTraces = false) (dC : Nat → ClassId) (dI : Nat → Nat → Nat) (sz : Nat) (h0 : Nat) (gm : Nat) (gp : Nat) (go : Nat) (gs : Nat) (gl : Nat) (gd : Nat) (ma : Nat) (mb : Nat) (md : Nat) (nm : Nat) (ka : ClassId) (kb : ClassId) (kd : ClassId) (mx : Nat → Int32) (my : Nat → Int32) (mz : Nat → Int32) (qx : Nat) (qy : Nat) (qz : Nat) (qu : Nat) (qv : Nat) (qw : Nat) (qp : Nat) (qe : Nat) (no : Nat) (i0 : Int32) (a : Int32) (b : Int32) (d : Int32) (ow : Nat) (co : ClassId) (fo : Nat → Int64) (hm : nm ≤ 12) (hno : no ≤ 20) (hv : xin i0 nm) (hf : 20 ≤ no) : Met l xy_LA_observe xw_LA_observe ({ frames := 7, cells := 1, slots := 6, locals := 106 }) (xp_x [.ref h0, .int i0, .int a, .int b, .int d, .ref ow] sz (dC, dI) xCl [(h0, .inr (0, [.ref gm, .ref gp, .ref go, .ref gs, .ref gl, .ref gd])), (gm, .inr (1, [.ref ma, .ref mb, .ref md, .int (nI nm)])), (ma, .inl (ka, 12, .inl mx)), (mb, .inl (kb, 12, .inl my)), (md, .inl (kd, 12, .inl mz)), (go, .inr (2, [.ref qx, .ref qy, .ref qz, .ref qu, .ref qv, .ref qw, .ref qp, .ref qe, .int (nI no)])), (ow, .inl (co, 1, .inr (.inl fo)))] [(ka, .int), (kb, .int), (kd, .int), (co, .long)]) (va_Qi (fun (r : Int32) (_ : Unit) => r = 2) (fun _ t => xb_w (dC, dI) xCl [(h0, .inr (0, [.ref gm, .ref gp, .ref go, .ref gs, .ref gl, .ref gd])), (gm, .inr (1, [.ref ma, .ref mb, .ref md, .int (nI nm)])), (ma, .inl (ka, 12, .inl mx)), (mb, .inl (kb, 12, .inl my)), (md, .inl (kd, 12, .inl mz)), (go, .inr (2, [.ref qx, .ref qy, .ref qz, .ref qu, .ref qv, .ref qw, .ref qp, .ref qe, .int (nI no)])), (ow, .inl (co, 1, .inr (.inl fo)))] [(ka, .int), (kb, .int), (kd, .int), (co, .long)] (va_A [(h0, .inr (0, [.ref gm, .ref gp, .ref go, .ref gs, .ref gl, .ref gd])), (gm, .inr (1, [.ref ma, .ref mb, .ref md, .int (nI nm)])), (ma, .inl (ka, 12, .inl mx)), (mb, .inl (kb, 12, .inl my)), (md, .inl (kd, 12, .inl mz)), (go, .inr (2, [.ref qx, .ref qy, .ref qz, .ref qu, .ref qv, .ref qw, .ref qp, .ref qe, .int (nI no)])), (ow, .inl (co, 1, .inr (.inl fo)))] sz) t) (va_A [(h0, .inr (0, [.ref gm, .ref gp, .ref go, .ref gs, .ref gl, .ref gd])), (gm, .inr (1, [.ref ma, .ref mb, .ref md, .int (nI nm)])), (ma, .inl (ka, 12, .inl mx)), (mb, .inl (kb, 12, .inl my)), (md, .inl (kd, 12, .inl mz)), (go, .inr (2, [.ref qx, .ref qy, .ref qz, .ref qu, .ref qv, .ref qw, .ref qp, .ref qe, .int (nI no)])), (ow, .inl (co, 1, .inr (.inl fo)))] sz)) 1 6 (va_A [(h0, .inr (0, [.ref gm, .ref gp, .ref go, .ref gs, .ref gl, .ref gd])), (gm, .inr (1, [.ref ma, .ref mb, .ref md, .int (nI nm)])), (ma, .inl (ka, 12, .inl mx)), (mb, .inl (kb, 12, .inl my)), (md, .inl (kd, 12, .inl mz)), (go, .inr (2, [.ref qx, .ref qy, .ref qz, .ref qu, .ref qv, .ref qw, .ref qp, .ref qe, .int (nI no)])), (ow, .inl (co, 1, .inr (.inl fo)))] sz) := by
  refine va_MetW (cc := method_4_code) (maxL := 7) (ret := (some .int)) (by decide) rfl ?_
  intro p e s m args below meth c s₁ B hml hv
  obtain ⟨rfl, hsz, hz, hH, hP, hK, hD0⟩ := hv
  have hx := B.exec
  have hb := B.bytes
  have hr := B.returns
  have hts := atoms_spec (ws := xw_LA_observe) B.pre
  have hown : s.vm.findClass xR_LA = some m.cls := findClass_of_methodNamed B.named
  have hlocks := B.notSynchronized
  have htab := xt_table B (hts _ List.mem_cons_self)
  subst hsz
  have hD := hD0.self (sz := s.heap.size)
  generalize hAe : va_A [(h0, .inr (0, [.ref gm, .ref gp, .ref go, .ref gs, .ref gl, .ref gd])), (gm, .inr (1, [.ref ma, .ref mb, .ref md, .int (nI nm)])), (ma, .inl (ka, 12, .inl mx)), (mb, .inl (kb, 12, .inl my)), (md, .inl (kd, 12, .inl mz)), (go, .inr (2, [.ref qx, .ref qy, .ref qz, .ref qu, .ref qv, .ref qw, .ref qp, .ref qe, .int (nI no)])), (ow, .inl (co, 1, .inr (.inl fo)))] s.heap.size = A at hD ⊢
  have hA : ∀ q : Nat, s.heap.size ≤ q → A q := fun q h => by rw [← hAe]; exact Or.inr h
  have hS : va_S A s.heap s.heap [] := va_S.rf
  have hP : va_P (dC, dI) xCl [(h0, .inr (0, [.ref gm, .ref gp, .ref go, .ref gs, .ref gl, .ref gd])), (gm, .inr (1, [.ref ma, .ref mb, .ref md, .int (nI nm)])), (ma, .inl (ka, 12, .inl mx)), (mb, .inl (kb, 12, .inl my)), (md, .inl (kd, 12, .inl mz)), (go, .inr (2, [.ref qx, .ref qy, .ref qz, .ref qu, .ref qv, .ref qw, .ref qp, .ref qe, .int (nI no)])), (ow, .inl (co, 1, .inr (.inl fo)))] s.heap := hP
  have hl := lv_entry ([.ref h0, .int i0, .int a, .int b, .int d, .ref ow]) (n := 7) (Nat.le_of_ble_eq_true rfl)
  rw [lg_entry_eq]
  generalize (lg_sl ([.ref h0, .int i0, .int a, .int b, .int d, .ref ow]) ++ List.replicate (7 - (lg_sl ([.ref h0, .int i0, .int a, .int b, .int d, .ref ow])).length) Slot.unset).toArray = ls at hl ⊢
  have hl : lv_has ls 7 [(0, .ref h0), (1, .int i0), (2, .int a), (3, .int b), (4, .int d), (5, .ref ow)] := hl
  refine lv_aload hx hb d_LA_observe_0 (lv_at hl 5 rfl) ?_
  refine lv_iconst (v := 0) hx hb d_LA_observe_2 (by decide) ?_
  refine lv_aload_n hx hb d_LA_observe_3 rfl (lv_at hl 0 rfl) ?_
  refine lv_iload_n hx hb d_LA_observe_4 rfl (lv_at hl 1 rfl) ?_
  refine lv_iload_n hx hb d_LA_observe_5 rfl (lv_at hl 2 rfl) ?_
  refine lv_iload_n hx hb d_LA_observe_6 rfl (lv_at hl 3 rfl) ?_
  refine lv_iload hx hb d_LA_observe_7 (lv_at hl 4 rfl) ?_
  have hPc := hP.sub (ws' := [(h0, .inr (0, [.ref gm, .ref gp, .ref go, .ref gs, .ref gl, .ref gd])), (gm, .inr (1, [.ref ma, .ref mb, .ref md, .int (nI nm)])), (ma, .inl (ka, 12, .inl mx)), (mb, .inl (kb, 12, .inl my)), (md, .inl (kd, 12, .inl mz)), (go, .inr (2, [.ref qx, .ref qy, .ref qz, .ref qu, .ref qv, .ref qw, .ref qp, .ref qe, .int (nI no)]))]) [0, 1, 2, 3, 4, 5] rfl
  have hKc := hK.sub (tys' := [(ka, .int), (kb, .int), (kd, .int)]) [0, 1, 2] rfl
  refine xt_catchV (As := [.int i0, .int a, .int b, .int d]) (rest := [.int 0, .ref ow]) (name := "java/lang/IllegalStateException") ⟨hx, hb, hml, hown, hts⟩ (c_SR_observe_x2 l hl9 dC dI h0 gm gp go gs gl gd ma mb md nm ka kb kd mx my mz qx qy qz qu qv qw qp qe no i0 a b d hm hno hv hf) (cwV 4 hts (xgV wm_486 wm_487 wm_488 wm_26 wm_489) rfl rfl rfl (by decide +kernel) ⟨Nat.le_of_ble_eq_true rfl, Nat.le_of_ble_eq_true rfl⟩) ⟨xt_blind, va_recv hKc hPc (ci := 0) (q0 := 0) rfl rfl, fun U hU hW => ⟨rfl, hz.warm hW, hH.same hW hU, by rw [hU]; exact hPc, va_K.moved hW.alike hKc⟩⟩ rfl hl.1 rfl (Nat.le_of_ble_eq_true rfl) d_LA_observe_9 ⟨Nat.le_of_ble_eq_true rfl, Nat.le_of_ble_eq_true rfl⟩ (tableOf [(0, 14, 17, 21)]) ⟨0, 14, 21, 13⟩ (tableOf [(0, 14, 25, 15)]) htab (fun z hz9 => by
      simp only [tableOf, List.map_cons, List.map_nil, List.mem_cons, List.not_mem_nil, or_false] at hz9
      rcases hz9 with rfl
      · exact ⟨"java/lang/IndexOutOfBoundsException", hz.nc (by decide +kernel), by decide, (hts _ (List.mem_cons_of_mem _ wm_485))⟩) (by decide) (by decide) (hts _ (List.mem_cons_of_mem _ wm_384)) (va_Nw.use rfl (hz.face xc_IllegalStateException)) (fun q_1 H hsz9 hkp9 => ?_)
  have hP := xt_keepP hP hkp9
  have hS := xt_keepS hS hsz9 hkp9
  refine W.widen (k := 1) (n := 6) (by decide) (by decide) ?_
  refine lv_astore (lv' := [(6, .ref q_1), (0, .ref h0), (1, .int i0), (2, .int a), (3, .int b), (4, .int d), (5, .ref ow)]) hx hb d_LA_observe_21 hl (by decide) rfl (fun ls hl => ?_)
  refine lv_iconst (v := 2) hx hb d_LA_observe_23 (by decide) ?_
  have hP9 := hP.sub (ws' := [(h0, .inr (0, [.ref gm, .ref gp, .ref go, .ref gs, .ref gl, .ref gd])), (gm, .inr (1, [.ref ma, .ref mb, .ref md, .int (nI nm)])), (ma, .inl (ka, 12, .inl mx)), (mb, .inl (kb, 12, .inl my)), (md, .inl (kd, 12, .inl mz)), (go, .inr (2, [.ref qx, .ref qy, .ref qz, .ref qu, .ref qv, .ref qw, .ref qp, .ref qe, .int (nI no)])), (ow, .inl (co, 1, .inr (.inl fo)))]) [0, 1, 2, 3, 4, 5, 6] rfl
  have hD9 := hD.sub (ws' := [(h0, .inr (0, [.ref gm, .ref gp, .ref go, .ref gs, .ref gl, .ref gd])), (gm, .inr (1, [.ref ma, .ref mb, .ref md, .int (nI nm)])), (ma, .inl (ka, 12, .inl mx)), (mb, .inl (kb, 12, .inl my)), (md, .inl (kd, 12, .inl mz)), (go, .inr (2, [.ref qx, .ref qy, .ref qz, .ref qu, .ref qv, .ref qw, .ref qp, .ref qe, .int (nI no)])), (ow, .inl (co, 1, .inr (.inl fo)))]) [0, 1, 2, 3, 4, 5, 6] (by decide) rfl
  have hK9 := hK.sub (tys' := [(ka, .int), (kb, .int), (kd, .int), (co, .long)]) [0, 1, 2, 3] rfl
  exact W.iret (v := 2) hx hb hr (fun t ht hW => ⟨⟨2, (), rfl, rfl, ⟨by rw [ht]; exact hP9, va_K.moved hW.alike hK9, by exact hD9⟩⟩, hS.F ht⟩) hS.2.2 d_LA_observe_24 hlocks
set_option maxHeartbeats 4000000 in
set_option maxRecDepth 100000 in
/-- the law: observe, which throws -/
theorem c_LA_observe_x3 (l : Launch) (hl9 : l.stackTraces = false) (dC : Nat → ClassId) (dI : Nat → Nat → Nat) (sz : Nat) (h0 : Nat) (gm : Nat) (gp : Nat) (go : Nat) (gs : Nat) (gl : Nat) (gd : Nat) (ma : Nat) (mb : Nat) (md : Nat) (nm : Nat) (ka : ClassId) (kb : ClassId) (kd : ClassId) (mx : Nat → Int32) (my : Nat → Int32) (mz : Nat → Int32) (qx : Nat) (qy : Nat) (qz : Nat) (qu : Nat) (qv : Nat) (qw : Nat) (qp : Nat) (qe : Nat) (no : Nat) (i0 : Int32) (a : Int32) (b : Int32) (d : Int32) (ow : Nat) (co : ClassId) (fo : Nat → Int64) (hm : nm ≤ 12) (hv : xin i0 nm) (hc : no < 20) (hn : ¬ (sr_near a ∧ sr_near b ∧ sr_near d)) : Met l xy_LA_observe xw_LA_observe ({ frames := 7, cells := 1, slots := 6, locals := 106 }) (xp_x [.ref h0, .int i0, .int a, .int b, .int d, .ref ow] sz (dC, dI) xCl [(h0, .inr (0, [.ref gm, .ref gp, .ref go, .ref gs, .ref gl, .ref gd])), (gm, .inr (1, [.ref ma, .ref mb, .ref md, .int (nI nm)])), (ma, .inl (ka, 12, .inl mx)), (mb, .inl (kb, 12, .inl my)), (md, .inl (kd, 12, .inl mz)), (go, .inr (2, [.ref qx, .ref qy, .ref qz, .ref qu, .ref qv, .ref qw, .ref qp, .ref qe, .int (nI no)])), (ow, .inl (co, 1, .inr (.inl fo)))] [(ka, .int), (kb, .int), (kd, .int), (co, .long)]) (va_Qi (fun (r : Int32) (_ : Unit) => r = 3) (fun _ t => xb_w (dC, dI) xCl [(h0, .inr (0, [.ref gm, .ref gp, .ref go, .ref gs, .ref gl, .ref gd])), (gm, .inr (1, [.ref ma, .ref mb, .ref md, .int (nI nm)])), (ma, .inl (ka, 12, .inl mx)), (mb, .inl (kb, 12, .inl my)), (md, .inl (kd, 12, .inl mz)), (go, .inr (2, [.ref qx, .ref qy, .ref qz, .ref qu, .ref qv, .ref qw, .ref qp, .ref qe, .int (nI no)])), (ow, .inl (co, 1, .inr (.inl fo)))] [(ka, .int), (kb, .int), (kd, .int), (co, .long)] (va_A [(h0, .inr (0, [.ref gm, .ref gp, .ref go, .ref gs, .ref gl, .ref gd])), (gm, .inr (1, [.ref ma, .ref mb, .ref md, .int (nI nm)])), (ma, .inl (ka, 12, .inl mx)), (mb, .inl (kb, 12, .inl my)), (md, .inl (kd, 12, .inl mz)), (go, .inr (2, [.ref qx, .ref qy, .ref qz, .ref qu, .ref qv, .ref qw, .ref qp, .ref qe, .int (nI no)])), (ow, .inl (co, 1, .inr (.inl fo)))] sz) t) (va_A [(h0, .inr (0, [.ref gm, .ref gp, .ref go, .ref gs, .ref gl, .ref gd])), (gm, .inr (1, [.ref ma, .ref mb, .ref md, .int (nI nm)])), (ma, .inl (ka, 12, .inl mx)), (mb, .inl (kb, 12, .inl my)), (md, .inl (kd, 12, .inl mz)), (go, .inr (2, [.ref qx, .ref qy, .ref qz, .ref qu, .ref qv, .ref qw, .ref qp, .ref qe, .int (nI no)])), (ow, .inl (co, 1, .inr (.inl fo)))] sz)) 1 6 (va_A [(h0, .inr (0, [.ref gm, .ref gp, .ref go, .ref gs, .ref gl, .ref gd])), (gm, .inr (1, [.ref ma, .ref mb, .ref md, .int (nI nm)])), (ma, .inl (ka, 12, .inl mx)), (mb, .inl (kb, 12, .inl my)), (md, .inl (kd, 12, .inl mz)), (go, .inr (2, [.ref qx, .ref qy, .ref qz, .ref qu, .ref qv, .ref qw, .ref qp, .ref qe, .int (nI no)])), (ow, .inl (co, 1, .inr (.inl fo)))] sz) := by
  refine va_MetW (cc := method_4_code) (maxL := 7) (ret := (some .int)) (by decide) rfl ?_
  intro p e s m args below meth c s₁ B hml hv
  obtain ⟨rfl, hsz, hz, hH, hP, hK, hD0⟩ := hv
  have hx := B.exec
  have hb := B.bytes
  have hr := B.returns
  have hts := atoms_spec (ws := xw_LA_observe) B.pre
  have hown : s.vm.findClass xR_LA = some m.cls := findClass_of_methodNamed B.named
  have hlocks := B.notSynchronized
  have htab := xt_table B (hts _ List.mem_cons_self)
  subst hsz
  have hD := hD0.self (sz := s.heap.size)
  generalize hAe : va_A [(h0, .inr (0, [.ref gm, .ref gp, .ref go, .ref gs, .ref gl, .ref gd])), (gm, .inr (1, [.ref ma, .ref mb, .ref md, .int (nI nm)])), (ma, .inl (ka, 12, .inl mx)), (mb, .inl (kb, 12, .inl my)), (md, .inl (kd, 12, .inl mz)), (go, .inr (2, [.ref qx, .ref qy, .ref qz, .ref qu, .ref qv, .ref qw, .ref qp, .ref qe, .int (nI no)])), (ow, .inl (co, 1, .inr (.inl fo)))] s.heap.size = A at hD ⊢
  have hA : ∀ q : Nat, s.heap.size ≤ q → A q := fun q h => by rw [← hAe]; exact Or.inr h
  have hS : va_S A s.heap s.heap [] := va_S.rf
  have hP : va_P (dC, dI) xCl [(h0, .inr (0, [.ref gm, .ref gp, .ref go, .ref gs, .ref gl, .ref gd])), (gm, .inr (1, [.ref ma, .ref mb, .ref md, .int (nI nm)])), (ma, .inl (ka, 12, .inl mx)), (mb, .inl (kb, 12, .inl my)), (md, .inl (kd, 12, .inl mz)), (go, .inr (2, [.ref qx, .ref qy, .ref qz, .ref qu, .ref qv, .ref qw, .ref qp, .ref qe, .int (nI no)])), (ow, .inl (co, 1, .inr (.inl fo)))] s.heap := hP
  have hl := lv_entry ([.ref h0, .int i0, .int a, .int b, .int d, .ref ow]) (n := 7) (Nat.le_of_ble_eq_true rfl)
  rw [lg_entry_eq]
  generalize (lg_sl ([.ref h0, .int i0, .int a, .int b, .int d, .ref ow]) ++ List.replicate (7 - (lg_sl ([.ref h0, .int i0, .int a, .int b, .int d, .ref ow])).length) Slot.unset).toArray = ls at hl ⊢
  have hl : lv_has ls 7 [(0, .ref h0), (1, .int i0), (2, .int a), (3, .int b), (4, .int d), (5, .ref ow)] := hl
  refine lv_aload hx hb d_LA_observe_0 (lv_at hl 5 rfl) ?_
  refine lv_iconst (v := 0) hx hb d_LA_observe_2 (by decide) ?_
  refine lv_aload_n hx hb d_LA_observe_3 rfl (lv_at hl 0 rfl) ?_
  refine lv_iload_n hx hb d_LA_observe_4 rfl (lv_at hl 1 rfl) ?_
  refine lv_iload_n hx hb d_LA_observe_5 rfl (lv_at hl 2 rfl) ?_
  refine lv_iload_n hx hb d_LA_observe_6 rfl (lv_at hl 3 rfl) ?_
  refine lv_iload hx hb d_LA_observe_7 (lv_at hl 4 rfl) ?_
  have hPc := hP.sub (ws' := [(h0, .inr (0, [.ref gm, .ref gp, .ref go, .ref gs, .ref gl, .ref gd])), (gm, .inr (1, [.ref ma, .ref mb, .ref md, .int (nI nm)])), (ma, .inl (ka, 12, .inl mx)), (mb, .inl (kb, 12, .inl my)), (md, .inl (kd, 12, .inl mz)), (go, .inr (2, [.ref qx, .ref qy, .ref qz, .ref qu, .ref qv, .ref qw, .ref qp, .ref qe, .int (nI no)]))]) [0, 1, 2, 3, 4, 5] rfl
  have hKc := hK.sub (tys' := [(ka, .int), (kb, .int), (kd, .int)]) [0, 1, 2] rfl
  refine xt_catchV (As := [.int i0, .int a, .int b, .int d]) (rest := [.int 0, .ref ow]) (name := "java/lang/IllegalArgumentException") ⟨hx, hb, hml, hown, hts⟩ (c_SR_observe_x3 l hl9 dC dI h0 gm gp go gs gl gd ma mb md nm ka kb kd mx my mz qx qy qz qu qv qw qp qe no i0 a b d hm hv hc hn) (cwV 4 hts (xgV wm_486 wm_487 wm_488 wm_26 wm_489) rfl rfl rfl (by decide +kernel) ⟨Nat.le_of_ble_eq_true rfl, Nat.le_of_ble_eq_true rfl⟩) ⟨xt_blind, va_recv hKc hPc (ci := 0) (q0 := 0) rfl rfl, fun U hU hW => ⟨rfl, hz.warm hW, hH.same hW hU, by rw [hU]; exact hPc, va_K.moved hW.alike hKc⟩⟩ rfl hl.1 rfl (Nat.le_of_ble_eq_true rfl) d_LA_observe_9 ⟨Nat.le_of_ble_eq_true rfl, Nat.le_of_ble_eq_true rfl⟩ (tableOf [(0, 14, 17, 21), (0, 14, 21, 13)]) ⟨0, 14, 25, 15⟩ (tableOf []) htab (fun z hz9 => by
      simp only [tableOf, List.map_cons, List.map_nil, List.mem_cons, List.not_mem_nil, or_false] at hz9
      rcases hz9 with rfl | rfl
      · exact ⟨"java/lang/IndexOutOfBoundsException", hz.nc (by decide +kernel), by decide, (hts _ (List.mem_cons_of_mem _ wm_485))⟩
      · exact ⟨"java/lang/IllegalStateException", hz.nc (by decide +kernel), by decide, (hts _ (List.mem_cons_of_mem _ wm_384))⟩) (by decide) (by decide) (hts _ (List.mem_cons_of_mem _ wm_385)) (va_Nw.use rfl (hz.face xc_IllegalArgumentException)) (fun q_1 H hsz9 hkp9 => ?_)
  have hP := xt_keepP hP hkp9
  have hS := xt_keepS hS hsz9 hkp9
  refine W.widen (k := 1) (n := 6) (by decide) (by decide) ?_
  refine lv_astore (lv' := [(6, .ref q_1), (0, .ref h0), (1, .int i0), (2, .int a), (3, .int b), (4, .int d), (5, .ref ow)]) hx hb d_LA_observe_25 hl (by decide) rfl (fun ls hl => ?_)
  refine lv_iconst (v := 3) hx hb d_LA_observe_27 (by decide) ?_
  have hP9 := hP.sub (ws' := [(h0, .inr (0, [.ref gm, .ref gp, .ref go, .ref gs, .ref gl, .ref gd])), (gm, .inr (1, [.ref ma, .ref mb, .ref md, .int (nI nm)])), (ma, .inl (ka, 12, .inl mx)), (mb, .inl (kb, 12, .inl my)), (md, .inl (kd, 12, .inl mz)), (go, .inr (2, [.ref qx, .ref qy, .ref qz, .ref qu, .ref qv, .ref qw, .ref qp, .ref qe, .int (nI no)])), (ow, .inl (co, 1, .inr (.inl fo)))]) [0, 1, 2, 3, 4, 5, 6] rfl
  have hD9 := hD.sub (ws' := [(h0, .inr (0, [.ref gm, .ref gp, .ref go, .ref gs, .ref gl, .ref gd])), (gm, .inr (1, [.ref ma, .ref mb, .ref md, .int (nI nm)])), (ma, .inl (ka, 12, .inl mx)), (mb, .inl (kb, 12, .inl my)), (md, .inl (kd, 12, .inl mz)), (go, .inr (2, [.ref qx, .ref qy, .ref qz, .ref qu, .ref qv, .ref qw, .ref qp, .ref qe, .int (nI no)])), (ow, .inl (co, 1, .inr (.inl fo)))]) [0, 1, 2, 3, 4, 5, 6] (by decide) rfl
  have hK9 := hK.sub (tys' := [(ka, .int), (kb, .int), (kd, .int), (co, .long)]) [0, 1, 2, 3] rfl
  exact W.iret (v := 3) hx hb hr (fun t ht hW => ⟨⟨3, (), rfl, rfl, ⟨by rw [ht]; exact hP9, va_K.moved hW.alike hK9, by exact hD9⟩⟩, hS.F ht⟩) hS.2.2 d_LA_observe_28 hlocks
set_option maxHeartbeats 4000000 in
set_option maxRecDepth 100000 in
/-- the law: prism, which throws -/
theorem c_LA_prism_x1 (l : Launch) (hl9 : l.stackTraces = false) (dC : Nat → ClassId) (dI : Nat → Nat → Nat) (sz : Nat) (h0 : Nat) (gm : Nat) (gp : Nat) (go : Nat) (gs : Nat) (gl : Nat) (gd : Nat) (qx : Nat) (qy : Nat) (qz : Nat) (qu : Nat) (qv : Nat) (qw : Nat) (qp : Nat) (qe : Nat) (no : Nat) (i0 : Int32) (a : Int32) (ow : Nat) (co : ClassId) (fo : Nat → Int64) (hno : no ≤ 20) (hv : ¬ xin i0 no) : Met l xy_LA_prism xw_LA_prism ({ frames := 7, cells := 1, slots := 6, locals := 105 }) (xp_x [.ref h0, .int i0, .int a, .ref ow] sz (dC, dI) xCl [(h0, .inr (0, [.ref gm, .ref gp, .ref go, .ref gs, .ref gl, .ref gd])), (go, .inr (2, [.ref qx, .ref qy, .ref qz, .ref qu, .ref qv, .ref qw, .ref qp, .ref qe, .int (nI no)])), (ow, .inl (co, 1, .inr (.inl fo)))] [(co, .long)]) (va_Qi (fun (r : Int32) (_ : Unit) => r = 1) (fun _ t => xb_w (dC, dI) xCl [(h0, .inr (0, [.ref gm, .ref gp, .ref go, .ref gs, .ref gl, .ref gd])), (go, .inr (2, [.ref qx, .ref qy, .ref qz, .ref qu, .ref qv, .ref qw, .ref qp, .ref qe, .int (nI no)])), (ow, .inl (co, 1, .inr (.inl fo)))] [(co, .long)] (va_A [(h0, .inr (0, [.ref gm, .ref gp, .ref go, .ref gs, .ref gl, .ref gd])), (go, .inr (2, [.ref qx, .ref qy, .ref qz, .ref qu, .ref qv, .ref qw, .ref qp, .ref qe, .int (nI no)])), (ow, .inl (co, 1, .inr (.inl fo)))] sz) t) (va_A [(h0, .inr (0, [.ref gm, .ref gp, .ref go, .ref gs, .ref gl, .ref gd])), (go, .inr (2, [.ref qx, .ref qy, .ref qz, .ref qu, .ref qv, .ref qw, .ref qp, .ref qe, .int (nI no)])), (ow, .inl (co, 1, .inr (.inl fo)))] sz)) 1 6 (va_A [(h0, .inr (0, [.ref gm, .ref gp, .ref go, .ref gs, .ref gl, .ref gd])), (go, .inr (2, [.ref qx, .ref qy, .ref qz, .ref qu, .ref qv, .ref qw, .ref qp, .ref qe, .int (nI no)])), (ow, .inl (co, 1, .inr (.inl fo)))] sz) := by
  refine va_MetW (cc := method_5_code) (maxL := 5) (ret := (some .int)) (by decide) rfl ?_
  intro p e s m args below meth c s₁ B hml hv
  obtain ⟨rfl, hsz, hz, hH, hP, hK, hD0⟩ := hv
  have hx := B.exec
  have hb := B.bytes
  have hr := B.returns
  have hts := atoms_spec (ws := xw_LA_prism) B.pre
  have hown : s.vm.findClass xR_LA = some m.cls := findClass_of_methodNamed B.named
  have hlocks := B.notSynchronized
  have htab := xt_table B (hts _ List.mem_cons_self)
  subst hsz
  have hD := hD0.self (sz := s.heap.size)
  generalize hAe : va_A [(h0, .inr (0, [.ref gm, .ref gp, .ref go, .ref gs, .ref gl, .ref gd])), (go, .inr (2, [.ref qx, .ref qy, .ref qz, .ref qu, .ref qv, .ref qw, .ref qp, .ref qe, .int (nI no)])), (ow, .inl (co, 1, .inr (.inl fo)))] s.heap.size = A at hD ⊢
  have hA : ∀ q : Nat, s.heap.size ≤ q → A q := fun q h => by rw [← hAe]; exact Or.inr h
  have hS : va_S A s.heap s.heap [] := va_S.rf
  have hP : va_P (dC, dI) xCl [(h0, .inr (0, [.ref gm, .ref gp, .ref go, .ref gs, .ref gl, .ref gd])), (go, .inr (2, [.ref qx, .ref qy, .ref qz, .ref qu, .ref qv, .ref qw, .ref qp, .ref qe, .int (nI no)])), (ow, .inl (co, 1, .inr (.inl fo)))] s.heap := hP
  have hl := lv_entry ([.ref h0, .int i0, .int a, .ref ow]) (n := 5) (Nat.le_of_ble_eq_true rfl)
  rw [lg_entry_eq]
  generalize (lg_sl ([.ref h0, .int i0, .int a, .ref ow]) ++ List.replicate (5 - (lg_sl ([.ref h0, .int i0, .int a, .ref ow])).length) Slot.unset).toArray = ls at hl ⊢
  have hl : lv_has ls 5 [(0, .ref h0), (1, .int i0), (2, .int a), (3, .ref ow)] := hl
  refine lv_aload_n hx hb d_LA_prism_0 rfl (lv_at hl 3 rfl) ?_
  refine lv_iconst (v := 0) hx hb d_LA_prism_1 (by decide) ?_
  refine lv_aload_n hx hb d_LA_prism_2 rfl (lv_at hl 0 rfl) ?_
  refine lv_iload_n hx hb d_LA_prism_3 rfl (lv_at hl 1 rfl) ?_
  refine lv_iload_n hx hb d_LA_prism_4 rfl (lv_at hl 2 rfl) ?_
  have hPc := hP.sub (ws' := [(h0, .inr (0, [.ref gm, .ref gp, .ref go, .ref gs, .ref gl, .ref gd])), (go, .inr (2, [.ref qx, .ref qy, .ref qz, .ref qu, .ref qv, .ref qw, .ref qp, .ref qe, .int (nI no)]))]) [0, 1] rfl
  have hKc := hK.sub (tys' := []) [] rfl
  refine xt_catchV (As := [.int i0, .int a]) (rest := [.int 0, .ref ow]) (name := "java/lang/IndexOutOfBoundsException") ⟨hx, hb, hml, hown, hts⟩ (c_SR_prism_x1 l hl9 dC dI h0 gm gp go gs gl gd qx qy qz qu qv qw qp qe no i0 a hno hv) (cwV 2 hts (xgV wm_511 wm_512 wm_513 wm_26 wm_514) rfl rfl rfl (by decide +kernel) ⟨Nat.le_of_ble_eq_true rfl, Nat.le_of_ble_eq_true rfl⟩) ⟨xt_blind, va_recv hKc hPc (ci := 0) (q0 := 0) rfl rfl, fun U hU hW => ⟨rfl, hz.warm hW, hH.same hW hU, by rw [hU]; exact hPc, va_K.moved hW.alike hKc⟩⟩ rfl hl.1 rfl (Nat.le_of_ble_eq_true rfl) d_LA_prism_5 ⟨Nat.le_of_ble_eq_true rfl, Nat.le_of_ble_eq_true rfl⟩ (tableOf []) ⟨0, 10, 13, 21⟩ (tableOf [(0, 10, 17, 15)]) htab (fun z hz9 => nomatch hz9) (by decide) (by decide) (hts _ (List.mem_cons_of_mem _ wm_485)) (va_Nw.use rfl (hz.face xc_IndexOutOfBoundsException)) (fun q_1 H hsz9 hkp9 => ?_)
  have hP := xt_keepP hP hkp9
  have hS := xt_keepS hS hsz9 hkp9
  refine W.widen (k := 1) (n := 6) (by decide) (by decide) ?_
  refine lv_astore (lv' := [(4, .ref q_1), (0, .ref h0), (1, .int i0), (2, .int a), (3, .ref ow)]) hx hb d_LA_prism_13 hl (by decide) rfl (fun ls hl => ?_)
  refine lv_iconst (v := 1) hx hb d_LA_prism_15 (by decide) ?_
  have hP9 := hP.sub (ws' := [(h0, .inr (0, [.ref gm, .ref gp, .ref go, .ref gs, .ref gl, .ref gd])), (go, .inr (2, [.ref qx, .ref qy, .ref qz, .ref qu, .ref qv, .ref qw, .ref qp, .ref qe, .int (nI no)])), (ow, .inl (co, 1, .inr (.inl fo)))]) [0, 1, 2] rfl
  have hD9 := hD.sub (ws' := [(h0, .inr (0, [.ref gm, .ref gp, .ref go, .ref gs, .ref gl, .ref gd])), (go, .inr (2, [.ref qx, .ref qy, .ref qz, .ref qu, .ref qv, .ref qw, .ref qp, .ref qe, .int (nI no)])), (ow, .inl (co, 1, .inr (.inl fo)))]) [0, 1, 2] (by decide) rfl
  have hK9 := hK.sub (tys' := [(co, .long)]) [0] rfl
  exact W.iret (v := 1) hx hb hr (fun t ht hW => ⟨⟨1, (), rfl, rfl, ⟨by rw [ht]; exact hP9, va_K.moved hW.alike hK9, by exact hD9⟩⟩, hS.F ht⟩) hS.2.2 d_LA_prism_16 hlocks
set_option maxHeartbeats 4000000 in
set_option maxRecDepth 100000 in
/-- the law: prism, which throws -/
theorem c_LA_prism_x2 (l : Launch) (hl9 : l.stackTraces = false) (dC : Nat → ClassId) (dI : Nat → Nat → Nat) (sz : Nat) (h0 : Nat) (gm : Nat) (gp : Nat) (go : Nat) (gs : Nat) (gl : Nat) (gd : Nat) (qx : Nat) (qy : Nat) (qz : Nat) (qu : Nat) (qv : Nat) (qw : Nat) (qp : Nat) (qe : Nat) (no : Nat) (i0 : Int32) (a : Int32) (ow : Nat) (co : ClassId) (fo : Nat → Int64) (hno : no ≤ 20) (hv : xin i0 no) (hn : ¬ (¬ a < 0 ∧ a ≤ 3000)) : Met l xy_LA_prism xw_LA_prism ({ frames := 7, cells := 1, slots := 6, locals := 105 }) (xp_x [.ref h0, .int i0, .int a, .ref ow] sz (dC, dI) xCl [(h0, .inr (0, [.ref gm, .ref gp, .ref go, .ref gs, .ref gl, .ref gd])), (go, .inr (2, [.ref qx, .ref qy, .ref qz, .ref qu, .ref qv, .ref qw, .ref qp, .ref qe, .int (nI no)])), (ow, .inl (co, 1, .inr (.inl fo)))] [(co, .long)]) (va_Qi (fun (r : Int32) (_ : Unit) => r = 2) (fun _ t => xb_w (dC, dI) xCl [(h0, .inr (0, [.ref gm, .ref gp, .ref go, .ref gs, .ref gl, .ref gd])), (go, .inr (2, [.ref qx, .ref qy, .ref qz, .ref qu, .ref qv, .ref qw, .ref qp, .ref qe, .int (nI no)])), (ow, .inl (co, 1, .inr (.inl fo)))] [(co, .long)] (va_A [(h0, .inr (0, [.ref gm, .ref gp, .ref go, .ref gs, .ref gl, .ref gd])), (go, .inr (2, [.ref qx, .ref qy, .ref qz, .ref qu, .ref qv, .ref qw, .ref qp, .ref qe, .int (nI no)])), (ow, .inl (co, 1, .inr (.inl fo)))] sz) t) (va_A [(h0, .inr (0, [.ref gm, .ref gp, .ref go, .ref gs, .ref gl, .ref gd])), (go, .inr (2, [.ref qx, .ref qy, .ref qz, .ref qu, .ref qv, .ref qw, .ref qp, .ref qe, .int (nI no)])), (ow, .inl (co, 1, .inr (.inl fo)))] sz)) 1 6 (va_A [(h0, .inr (0, [.ref gm, .ref gp, .ref go, .ref gs, .ref gl, .ref gd])), (go, .inr (2, [.ref qx, .ref qy, .ref qz, .ref qu, .ref qv, .ref qw, .ref qp, .ref qe, .int (nI no)])), (ow, .inl (co, 1, .inr (.inl fo)))] sz) := by
  refine va_MetW (cc := method_5_code) (maxL := 5) (ret := (some .int)) (by decide) rfl ?_
  intro p e s m args below meth c s₁ B hml hv
  obtain ⟨rfl, hsz, hz, hH, hP, hK, hD0⟩ := hv
  have hx := B.exec
  have hb := B.bytes
  have hr := B.returns
  have hts := atoms_spec (ws := xw_LA_prism) B.pre
  have hown : s.vm.findClass xR_LA = some m.cls := findClass_of_methodNamed B.named
  have hlocks := B.notSynchronized
  have htab := xt_table B (hts _ List.mem_cons_self)
  subst hsz
  have hD := hD0.self (sz := s.heap.size)
  generalize hAe : va_A [(h0, .inr (0, [.ref gm, .ref gp, .ref go, .ref gs, .ref gl, .ref gd])), (go, .inr (2, [.ref qx, .ref qy, .ref qz, .ref qu, .ref qv, .ref qw, .ref qp, .ref qe, .int (nI no)])), (ow, .inl (co, 1, .inr (.inl fo)))] s.heap.size = A at hD ⊢
  have hA : ∀ q : Nat, s.heap.size ≤ q → A q := fun q h => by rw [← hAe]; exact Or.inr h
  have hS : va_S A s.heap s.heap [] := va_S.rf
  have hP : va_P (dC, dI) xCl [(h0, .inr (0, [.ref gm, .ref gp, .ref go, .ref gs, .ref gl, .ref gd])), (go, .inr (2, [.ref qx, .ref qy, .ref qz, .ref qu, .ref qv, .ref qw, .ref qp, .ref qe, .int (nI no)])), (ow, .inl (co, 1, .inr (.inl fo)))] s.heap := hP
  have hl := lv_entry ([.ref h0, .int i0, .int a, .ref ow]) (n := 5) (Nat.le_of_ble_eq_true rfl)
  rw [lg_entry_eq]
  generalize (lg_sl ([.ref h0, .int i0, .int a, .ref ow]) ++ List.replicate (5 - (lg_sl ([.ref h0, .int i0, .int a, .ref ow])).length) Slot.unset).toArray = ls at hl ⊢
  have hl : lv_has ls 5 [(0, .ref h0), (1, .int i0), (2, .int a), (3, .ref ow)] := hl
  refine lv_aload_n hx hb d_LA_prism_0 rfl (lv_at hl 3 rfl) ?_
  refine lv_iconst (v := 0) hx hb d_LA_prism_1 (by decide) ?_
  refine lv_aload_n hx hb d_LA_prism_2 rfl (lv_at hl 0 rfl) ?_
  refine lv_iload_n hx hb d_LA_prism_3 rfl (lv_at hl 1 rfl) ?_
  refine lv_iload_n hx hb d_LA_prism_4 rfl (lv_at hl 2 rfl) ?_
  have hPc := hP.sub (ws' := [(h0, .inr (0, [.ref gm, .ref gp, .ref go, .ref gs, .ref gl, .ref gd])), (go, .inr (2, [.ref qx, .ref qy, .ref qz, .ref qu, .ref qv, .ref qw, .ref qp, .ref qe, .int (nI no)]))]) [0, 1] rfl
  have hKc := hK.sub (tys' := []) [] rfl
  refine xt_catchV (As := [.int i0, .int a]) (rest := [.int 0, .ref ow]) (name := "java/lang/IllegalArgumentException") ⟨hx, hb, hml, hown, hts⟩ (c_SR_prism_x2 l hl9 dC dI h0 gm gp go gs gl gd qx qy qz qu qv qw qp qe no i0 a hno hv hn) (cwV 2 hts (xgV wm_511 wm_512 wm_513 wm_26 wm_514) rfl rfl rfl (by decide +kernel) ⟨Nat.le_of_ble_eq_true rfl, Nat.le_of_ble_eq_true rfl⟩) ⟨xt_blind, va_recv hKc hPc (ci := 0) (q0 := 0) rfl rfl, fun U hU hW => ⟨rfl, hz.warm hW, hH.same hW hU, by rw [hU]; exact hPc, va_K.moved hW.alike hKc⟩⟩ rfl hl.1 rfl (Nat.le_of_ble_eq_true rfl) d_LA_prism_5 ⟨Nat.le_of_ble_eq_true rfl, Nat.le_of_ble_eq_true rfl⟩ (tableOf [(0, 10, 13, 21)]) ⟨0, 10, 17, 15⟩ (tableOf []) htab (fun z hz9 => by
      simp only [tableOf, List.map_cons, List.map_nil, List.mem_cons, List.not_mem_nil, or_false] at hz9
      rcases hz9 with rfl
      · exact ⟨"java/lang/IndexOutOfBoundsException", hz.nc (by decide +kernel), by decide, (hts _ (List.mem_cons_of_mem _ wm_485))⟩) (by decide) (by decide) (hts _ (List.mem_cons_of_mem _ wm_385)) (va_Nw.use rfl (hz.face xc_IllegalArgumentException)) (fun q_1 H hsz9 hkp9 => ?_)
  have hP := xt_keepP hP hkp9
  have hS := xt_keepS hS hsz9 hkp9
  refine W.widen (k := 1) (n := 6) (by decide) (by decide) ?_
  refine lv_astore (lv' := [(4, .ref q_1), (0, .ref h0), (1, .int i0), (2, .int a), (3, .ref ow)]) hx hb d_LA_prism_17 hl (by decide) rfl (fun ls hl => ?_)
  refine lv_iconst (v := 2) hx hb d_LA_prism_19 (by decide) ?_
  have hP9 := hP.sub (ws' := [(h0, .inr (0, [.ref gm, .ref gp, .ref go, .ref gs, .ref gl, .ref gd])), (go, .inr (2, [.ref qx, .ref qy, .ref qz, .ref qu, .ref qv, .ref qw, .ref qp, .ref qe, .int (nI no)])), (ow, .inl (co, 1, .inr (.inl fo)))]) [0, 1, 2] rfl
  have hD9 := hD.sub (ws' := [(h0, .inr (0, [.ref gm, .ref gp, .ref go, .ref gs, .ref gl, .ref gd])), (go, .inr (2, [.ref qx, .ref qy, .ref qz, .ref qu, .ref qv, .ref qw, .ref qp, .ref qe, .int (nI no)])), (ow, .inl (co, 1, .inr (.inl fo)))]) [0, 1, 2] (by decide) rfl
  have hK9 := hK.sub (tys' := [(co, .long)]) [0] rfl
  exact W.iret (v := 2) hx hb hr (fun t ht hW => ⟨⟨2, (), rfl, rfl, ⟨by rw [ht]; exact hP9, va_K.moved hW.alike hK9, by exact hD9⟩⟩, hS.F ht⟩) hS.2.2 d_LA_prism_20 hlocks
set_option maxHeartbeats 4000000 in
set_option maxRecDepth 100000 in
/-- the law: use, which throws -/
theorem c_LA_use_x1 (l : Launch) (hl9 : l.stackTraces = false) (dC : Nat → ClassId) (dI : Nat → Nat → Nat) (sz : Nat) (h0 : Nat) (gm : Nat) (gp : Nat) (go : Nat) (gs : Nat) (gl : Nat) (gd : Nat) (qx : Nat) (qy : Nat) (qz : Nat) (qu : Nat) (qv : Nat) (qw : Nat) (qp : Nat) (qe : Nat) (no : Nat) (i0 : Int32) (a : Int32) (ow : Nat) (co : ClassId) (fo : Nat → Int64) (hno : no ≤ 20) (hv : ¬ xin i0 no) : Met l xy_LA_use xw_LA_use ({ frames := 7, cells := 1, slots := 6, locals := 105 }) (xp_x [.ref h0, .int i0, .int a, .ref ow] sz (dC, dI) xCl [(h0, .inr (0, [.ref gm, .ref gp, .ref go, .ref gs, .ref gl, .ref gd])), (go, .inr (2, [.ref qx, .ref qy, .ref qz, .ref qu, .ref qv, .ref qw, .ref qp, .ref qe, .int (nI no)])), (ow, .inl (co, 1, .inr (.inl fo)))] [(co, .long)]) (va_Qi (fun (r : Int32) (_ : Unit) => r = 1) (fun _ t => xb_w (dC, dI) xCl [(h0, .inr (0, [.ref gm, .ref gp, .ref go, .ref gs, .ref gl, .ref gd])), (go, .inr (2, [.ref qx, .ref qy, .ref qz, .ref qu, .ref qv, .ref qw, .ref qp, .ref qe, .int (nI no)])), (ow, .inl (co, 1, .inr (.inl fo)))] [(co, .long)] (va_A [(h0, .inr (0, [.ref gm, .ref gp, .ref go, .ref gs, .ref gl, .ref gd])), (go, .inr (2, [.ref qx, .ref qy, .ref qz, .ref qu, .ref qv, .ref qw, .ref qp, .ref qe, .int (nI no)])), (ow, .inl (co, 1, .inr (.inl fo)))] sz) t) (va_A [(h0, .inr (0, [.ref gm, .ref gp, .ref go, .ref gs, .ref gl, .ref gd])), (go, .inr (2, [.ref qx, .ref qy, .ref qz, .ref qu, .ref qv, .ref qw, .ref qp, .ref qe, .int (nI no)])), (ow, .inl (co, 1, .inr (.inl fo)))] sz)) 1 6 (va_A [(h0, .inr (0, [.ref gm, .ref gp, .ref go, .ref gs, .ref gl, .ref gd])), (go, .inr (2, [.ref qx, .ref qy, .ref qz, .ref qu, .ref qv, .ref qw, .ref qp, .ref qe, .int (nI no)])), (ow, .inl (co, 1, .inr (.inl fo)))] sz) := by
  refine va_MetW (cc := method_6_code) (maxL := 5) (ret := (some .int)) (by decide) rfl ?_
  intro p e s m args below meth c s₁ B hml hv
  obtain ⟨rfl, hsz, hz, hH, hP, hK, hD0⟩ := hv
  have hx := B.exec
  have hb := B.bytes
  have hr := B.returns
  have hts := atoms_spec (ws := xw_LA_use) B.pre
  have hown : s.vm.findClass xR_LA = some m.cls := findClass_of_methodNamed B.named
  have hlocks := B.notSynchronized
  have htab := xt_table B (hts _ List.mem_cons_self)
  subst hsz
  have hD := hD0.self (sz := s.heap.size)
  generalize hAe : va_A [(h0, .inr (0, [.ref gm, .ref gp, .ref go, .ref gs, .ref gl, .ref gd])), (go, .inr (2, [.ref qx, .ref qy, .ref qz, .ref qu, .ref qv, .ref qw, .ref qp, .ref qe, .int (nI no)])), (ow, .inl (co, 1, .inr (.inl fo)))] s.heap.size = A at hD ⊢
  have hA : ∀ q : Nat, s.heap.size ≤ q → A q := fun q h => by rw [← hAe]; exact Or.inr h
  have hS : va_S A s.heap s.heap [] := va_S.rf
  have hP : va_P (dC, dI) xCl [(h0, .inr (0, [.ref gm, .ref gp, .ref go, .ref gs, .ref gl, .ref gd])), (go, .inr (2, [.ref qx, .ref qy, .ref qz, .ref qu, .ref qv, .ref qw, .ref qp, .ref qe, .int (nI no)])), (ow, .inl (co, 1, .inr (.inl fo)))] s.heap := hP
  have hl := lv_entry ([.ref h0, .int i0, .int a, .ref ow]) (n := 5) (Nat.le_of_ble_eq_true rfl)
  rw [lg_entry_eq]
  generalize (lg_sl ([.ref h0, .int i0, .int a, .ref ow]) ++ List.replicate (5 - (lg_sl ([.ref h0, .int i0, .int a, .ref ow])).length) Slot.unset).toArray = ls at hl ⊢
  have hl : lv_has ls 5 [(0, .ref h0), (1, .int i0), (2, .int a), (3, .ref ow)] := hl
  refine lv_aload_n hx hb d_LA_use_0 rfl (lv_at hl 3 rfl) ?_
  refine lv_iconst (v := 0) hx hb d_LA_use_1 (by decide) ?_
  refine lv_aload_n hx hb d_LA_use_2 rfl (lv_at hl 0 rfl) ?_
  refine lv_iload_n hx hb d_LA_use_3 rfl (lv_at hl 1 rfl) ?_
  refine lv_iload_n hx hb d_LA_use_4 rfl (lv_at hl 2 rfl) ?_
  have hPc := hP.sub (ws' := [(h0, .inr (0, [.ref gm, .ref gp, .ref go, .ref gs, .ref gl, .ref gd])), (go, .inr (2, [.ref qx, .ref qy, .ref qz, .ref qu, .ref qv, .ref qw, .ref qp, .ref qe, .int (nI no)]))]) [0, 1] rfl
  have hKc := hK.sub (tys' := []) [] rfl
  refine xt_catchV (As := [.int i0, .int a]) (rest := [.int 0, .ref ow]) (name := "java/lang/IndexOutOfBoundsException") ⟨hx, hb, hml, hown, hts⟩ (c_SR_use_x1 l hl9 dC dI h0 gm gp go gs gl gd qx qy qz qu qv qw qp qe no i0 a hno hv) (cwV 2 hts (xgV wm_524 wm_525 wm_526 wm_26 wm_527) rfl rfl rfl (by decide +kernel) ⟨Nat.le_of_ble_eq_true rfl, Nat.le_of_ble_eq_true rfl⟩) ⟨xt_blind, va_recv hKc hPc (ci := 0) (q0 := 0) rfl rfl, fun U hU hW => ⟨rfl, hz.warm hW, hH.same hW hU, by rw [hU]; exact hPc, va_K.moved hW.alike hKc⟩⟩ rfl hl.1 rfl (Nat.le_of_ble_eq_true rfl) d_LA_use_5 ⟨Nat.le_of_ble_eq_true rfl, Nat.le_of_ble_eq_true rfl⟩ (tableOf []) ⟨0, 17, 20, 21⟩ (tableOf []) htab (fun z hz9 => nomatch hz9) (by decide) (by decide) (hts _ (List.mem_cons_of_mem _ wm_485)) (va_Nw.use rfl (hz.face xc_IndexOutOfBoundsException)) (fun q_1 H hsz9 hkp9 => ?_)
  have hP := xt_keepP hP hkp9
  have hS := xt_keepS hS hsz9 hkp9
  refine W.widen (k := 1) (n := 6) (by decide) (by decide) ?_
  refine lv_astore (lv' := [(4, .ref q_1), (0, .ref h0), (1, .int i0), (2, .int a), (3, .ref ow)]) hx hb d_LA_use_20 hl (by decide) rfl (fun ls hl => ?_)
  refine lv_iconst (v := 1) hx hb d_LA_use_22 (by decide) ?_
  have hP9 := hP.sub (ws' := [(h0, .inr (0, [.ref gm, .ref gp, .ref go, .ref gs, .ref gl, .ref gd])), (go, .inr (2, [.ref qx, .ref qy, .ref qz, .ref qu, .ref qv, .ref qw, .ref qp, .ref qe, .int (nI no)])), (ow, .inl (co, 1, .inr (.inl fo)))]) [0, 1, 2] rfl
  have hD9 := hD.sub (ws' := [(h0, .inr (0, [.ref gm, .ref gp, .ref go, .ref gs, .ref gl, .ref gd])), (go, .inr (2, [.ref qx, .ref qy, .ref qz, .ref qu, .ref qv, .ref qw, .ref qp, .ref qe, .int (nI no)])), (ow, .inl (co, 1, .inr (.inl fo)))]) [0, 1, 2] (by decide) rfl
  have hK9 := hK.sub (tys' := [(co, .long)]) [0] rfl
  exact W.iret (v := 1) hx hb hr (fun t ht hW => ⟨⟨1, (), rfl, rfl, ⟨by rw [ht]; exact hP9, va_K.moved hW.alike hK9, by exact hD9⟩⟩, hS.F ht⟩) hS.2.2 d_LA_use_23 hlocks
set_option maxHeartbeats 4000000 in
set_option maxRecDepth 100000 in
/-- the law: turned, which throws -/
theorem c_LA_turned_x1 (l : Launch) (hl9 : l.stackTraces = false) (dC : Nat → ClassId) (dI : Nat → Nat → Nat) (sz : Nat) (h0 : Nat) (gm : Nat) (gp : Nat) (go : Nat) (gs : Nat) (gl : Nat) (gd : Nat) (su : Nat) (sp : Nat) (sm : Nat) (se : Nat) (m0 : Nat) (m1 : Nat) (m2 : Nat) (ca : ClassId) (cm : ClassId) (cm0 : ClassId) (cm1 : ClassId) (cm2 : ClassId) (cq : ClassId) (S : sr_St) (sf : Nat → Int64) (i0 : Int32) (ow : Nat) (co : ClassId) (fo : Nat → Int64) (hv : ¬ xin i0 4) : Met l xy_LA_turned xw_LA_turned ({ frames := 7, cells := 1, slots := 6, locals := 103 }) (xp_x [.ref h0, .int i0, .ref ow] sz (dC, dI) xCl [(h0, .inr (0, [.ref gm, .ref gp, .ref go, .ref gs, .ref gl, .ref gd])), (gs, .inr (4, [.ref su, .ref sp, .ref sm, .ref se, .long (st_dv S), .int (st_ht S), .int (nI (st_sc S)), .int (st_md S)])), (sp, .inl (ca, 4, .inr (.inl (st_fa S)))), (sm, .inl (cm, 3, .inr (.inr (.inr (.inr (xm_3 m0 m1 m2)))))), (m0, .inl (cm0, 20, .inl (st_n0 S))), (m1, .inl (cm1, 20, .inl (st_n1 S))), (m2, .inl (cm2, 20, .inl (st_n2 S))), (se, .inl (cq, 20, .inl (st_fq S))), (su, .inr (3, [.long (sf 1), .long (sf 2), .long (sf 3), .long (sf 4), .long (sf 5), .long (sf 6), .long (sf 7), .long (sf 8), .long (sf 9)])), (ow, .inl (co, 1, .inr (.inl fo)))] [(ca, .long), (cm, .array .int), (cm0, .int), (cm1, .int), (cm2, .int), (cq, .boolean), (co, .long)]) (va_Qi (fun (r : Int32) (_ : Unit) => r = 1) (fun _ t => xb_w (dC, dI) xCl [(h0, .inr (0, [.ref gm, .ref gp, .ref go, .ref gs, .ref gl, .ref gd])), (gs, .inr (4, [.ref su, .ref sp, .ref sm, .ref se, .long (st_dv S), .int (st_ht S), .int (nI (st_sc S)), .int (st_md S)])), (sp, .inl (ca, 4, .inr (.inl (st_fa S)))), (sm, .inl (cm, 3, .inr (.inr (.inr (.inr (xm_3 m0 m1 m2)))))), (m0, .inl (cm0, 20, .inl (st_n0 S))), (m1, .inl (cm1, 20, .inl (st_n1 S))), (m2, .inl (cm2, 20, .inl (st_n2 S))), (se, .inl (cq, 20, .inl (st_fq S))), (su, .inr (3, [.long (sf 1), .long (sf 2), .long (sf 3), .long (sf 4), .long (sf 5), .long (sf 6), .long (sf 7), .long (sf 8), .long (sf 9)])), (ow, .inl (co, 1, .inr (.inl fo)))] [(ca, .long), (cm, .array .int), (cm0, .int), (cm1, .int), (cm2, .int), (cq, .boolean), (co, .long)] (va_A [(h0, .inr (0, [.ref gm, .ref gp, .ref go, .ref gs, .ref gl, .ref gd])), (gs, .inr (4, [.ref su, .ref sp, .ref sm, .ref se, .long (st_dv S), .int (st_ht S), .int (nI (st_sc S)), .int (st_md S)])), (sp, .inl (ca, 4, .inr (.inl (st_fa S)))), (sm, .inl (cm, 3, .inr (.inr (.inr (.inr (xm_3 m0 m1 m2)))))), (m0, .inl (cm0, 20, .inl (st_n0 S))), (m1, .inl (cm1, 20, .inl (st_n1 S))), (m2, .inl (cm2, 20, .inl (st_n2 S))), (se, .inl (cq, 20, .inl (st_fq S))), (su, .inr (3, [.long (sf 1), .long (sf 2), .long (sf 3), .long (sf 4), .long (sf 5), .long (sf 6), .long (sf 7), .long (sf 8), .long (sf 9)])), (ow, .inl (co, 1, .inr (.inl fo)))] sz) t) (va_A [(h0, .inr (0, [.ref gm, .ref gp, .ref go, .ref gs, .ref gl, .ref gd])), (gs, .inr (4, [.ref su, .ref sp, .ref sm, .ref se, .long (st_dv S), .int (st_ht S), .int (nI (st_sc S)), .int (st_md S)])), (sp, .inl (ca, 4, .inr (.inl (st_fa S)))), (sm, .inl (cm, 3, .inr (.inr (.inr (.inr (xm_3 m0 m1 m2)))))), (m0, .inl (cm0, 20, .inl (st_n0 S))), (m1, .inl (cm1, 20, .inl (st_n1 S))), (m2, .inl (cm2, 20, .inl (st_n2 S))), (se, .inl (cq, 20, .inl (st_fq S))), (su, .inr (3, [.long (sf 1), .long (sf 2), .long (sf 3), .long (sf 4), .long (sf 5), .long (sf 6), .long (sf 7), .long (sf 8), .long (sf 9)])), (ow, .inl (co, 1, .inr (.inl fo)))] sz)) 1 6 (va_A [(h0, .inr (0, [.ref gm, .ref gp, .ref go, .ref gs, .ref gl, .ref gd])), (gs, .inr (4, [.ref su, .ref sp, .ref sm, .ref se, .long (st_dv S), .int (st_ht S), .int (nI (st_sc S)), .int (st_md S)])), (sp, .inl (ca, 4, .inr (.inl (st_fa S)))), (sm, .inl (cm, 3, .inr (.inr (.inr (.inr (xm_3 m0 m1 m2)))))), (m0, .inl (cm0, 20, .inl (st_n0 S))), (m1, .inl (cm1, 20, .inl (st_n1 S))), (m2, .inl (cm2, 20, .inl (st_n2 S))), (se, .inl (cq, 20, .inl (st_fq S))), (su, .inr (3, [.long (sf 1), .long (sf 2), .long (sf 3), .long (sf 4), .long (sf 5), .long (sf 6), .long (sf 7), .long (sf 8), .long (sf 9)])), (ow, .inl (co, 1, .inr (.inl fo)))] sz) := by
  refine va_MetW (cc := method_7_code) (maxL := 4) (ret := (some .int)) (by decide) rfl ?_
  intro p e s m args below meth c s₁ B hml hv
  obtain ⟨rfl, hsz, hz, hH, hP, hK, hD0⟩ := hv
  have hx := B.exec
  have hb := B.bytes
  have hr := B.returns
  have hts := atoms_spec (ws := xw_LA_turned) B.pre
  have hown : s.vm.findClass xR_LA = some m.cls := findClass_of_methodNamed B.named
  have hlocks := B.notSynchronized
  have htab := xt_table B (hts _ List.mem_cons_self)
  subst hsz
  have hD := hD0.self (sz := s.heap.size)
  generalize hAe : va_A [(h0, .inr (0, [.ref gm, .ref gp, .ref go, .ref gs, .ref gl, .ref gd])), (gs, .inr (4, [.ref su, .ref sp, .ref sm, .ref se, .long (st_dv S), .int (st_ht S), .int (nI (st_sc S)), .int (st_md S)])), (sp, .inl (ca, 4, .inr (.inl (st_fa S)))), (sm, .inl (cm, 3, .inr (.inr (.inr (.inr (xm_3 m0 m1 m2)))))), (m0, .inl (cm0, 20, .inl (st_n0 S))), (m1, .inl (cm1, 20, .inl (st_n1 S))), (m2, .inl (cm2, 20, .inl (st_n2 S))), (se, .inl (cq, 20, .inl (st_fq S))), (su, .inr (3, [.long (sf 1), .long (sf 2), .long (sf 3), .long (sf 4), .long (sf 5), .long (sf 6), .long (sf 7), .long (sf 8), .long (sf 9)])), (ow, .inl (co, 1, .inr (.inl fo)))] s.heap.size = A at hD ⊢
  have hA : ∀ q : Nat, s.heap.size ≤ q → A q := fun q h => by rw [← hAe]; exact Or.inr h
  have hS : va_S A s.heap s.heap [] := va_S.rf
  have hP : va_P (dC, dI) xCl [(h0, .inr (0, [.ref gm, .ref gp, .ref go, .ref gs, .ref gl, .ref gd])), (gs, .inr (4, [.ref su, .ref sp, .ref sm, .ref se, .long (st_dv S), .int (st_ht S), .int (nI (st_sc S)), .int (st_md S)])), (sp, .inl (ca, 4, .inr (.inl (st_fa S)))), (sm, .inl (cm, 3, .inr (.inr (.inr (.inr (xm_3 m0 m1 m2)))))), (m0, .inl (cm0, 20, .inl (st_n0 S))), (m1, .inl (cm1, 20, .inl (st_n1 S))), (m2, .inl (cm2, 20, .inl (st_n2 S))), (se, .inl (cq, 20, .inl (st_fq S))), (su, .inr (3, [.long (sf 1), .long (sf 2), .long (sf 3), .long (sf 4), .long (sf 5), .long (sf 6), .long (sf 7), .long (sf 8), .long (sf 9)])), (ow, .inl (co, 1, .inr (.inl fo)))] s.heap := hP
  have hl := lv_entry ([.ref h0, .int i0, .ref ow]) (n := 4) (Nat.le_of_ble_eq_true rfl)
  rw [lg_entry_eq]
  generalize (lg_sl ([.ref h0, .int i0, .ref ow]) ++ List.replicate (4 - (lg_sl ([.ref h0, .int i0, .ref ow])).length) Slot.unset).toArray = ls at hl ⊢
  have hl : lv_has ls 4 [(0, .ref h0), (1, .int i0), (2, .ref ow)] := hl
  refine lv_aload_n hx hb d_LA_turned_0 rfl (lv_at hl 2 rfl) ?_
  refine lv_iconst (v := 0) hx hb d_LA_turned_1 (by decide) ?_
  refine lv_aload_n hx hb d_LA_turned_2 rfl (lv_at hl 0 rfl) ?_
  refine lv_iload_n hx hb d_LA_turned_3 rfl (lv_at hl 1 rfl) ?_
  have hPc := hP.sub (ws' := [(h0, .inr (0, [.ref gm, .ref gp, .ref go, .ref gs, .ref gl, .ref gd])), (gs, .inr (4, [.ref su, .ref sp, .ref sm, .ref se, .long (st_dv S), .int (st_ht S), .int (nI (st_sc S)), .int (st_md S)])), (sp, .inl (ca, 4, .inr (.inl (st_fa S)))), (sm, .inl (cm, 3, .inr (.inr (.inr (.inr (xm_3 m0 m1 m2)))))), (m0, .inl (cm0, 20, .inl (st_n0 S))), (m1, .inl (cm1, 20, .inl (st_n1 S))), (m2, .inl (cm2, 20, .inl (st_n2 S))), (se, .inl (cq, 20, .inl (st_fq S))), (su, .inr (3, [.long (sf 1), .long (sf 2), .long (sf 3), .long (sf 4), .long (sf 5), .long (sf 6), .long (sf 7), .long (sf 8), .long (sf 9)]))]) [0, 1, 2, 3, 4, 5, 6, 7, 8] rfl
  have hKc := hK.sub (tys' := [(ca, .long), (cm, .array .int), (cm0, .int), (cm1, .int), (cm2, .int), (cq, .boolean)]) [0, 1, 2, 3, 4, 5] rfl
  refine xt_catchV (As := [.int i0]) (rest := [.int 0, .ref ow]) (name := "java/lang/IndexOutOfBoundsException") ⟨hx, hb, hml, hown, hts⟩ (c_SR_turned_x1 l hl9 dC dI h0 gm gp go gs gl gd su sp sm se m0 m1 m2 ca cm cm0 cm1 cm2 cq S sf i0 hv) (cwV 1 hts (xgV wm_531 wm_532 wm_533 wm_26 wm_534) rfl rfl rfl (by decide +kernel) ⟨Nat.le_of_ble_eq_true rfl, Nat.le_of_ble_eq_true rfl⟩) ⟨xt_blind, va_recv hKc hPc (ci := 0) (q0 := 0) rfl rfl, fun U hU hW => ⟨rfl, hz.warm hW, hH.same hW hU, by rw [hU]; exact hPc, va_K.moved hW.alike hKc⟩⟩ rfl hl.1 rfl (Nat.le_of_ble_eq_true rfl) d_LA_turned_4 ⟨Nat.le_of_ble_eq_true rfl, Nat.le_of_ble_eq_true rfl⟩ (tableOf []) ⟨0, 8, 11, 21⟩ (tableOf [(0, 8, 14, 13)]) htab (fun z hz9 => nomatch hz9) (by decide) (by decide) (hts _ (List.mem_cons_of_mem _ wm_485)) (va_Nw.use rfl (hz.face xc_IndexOutOfBoundsException)) (fun q_1 H hsz9 hkp9 => ?_)
  have hP := xt_keepP hP hkp9
  have hS := xt_keepS hS hsz9 hkp9
  refine W.widen (k := 1) (n := 6) (by decide) (by decide) ?_
  refine lv_astore_n (lv' := [(3, .ref q_1), (0, .ref h0), (1, .int i0), (2, .ref ow)]) hx hb d_LA_turned_11 rfl hl (by decide) rfl (fun ls hl => ?_)
  refine lv_iconst (v := 1) hx hb d_LA_turned_12 (by decide) ?_
  have hP9 := hP.sub (ws' := [(h0, .inr (0, [.ref gm, .ref gp, .ref go, .ref gs, .ref gl, .ref gd])), (gs, .inr (4, [.ref su, .ref sp, .ref sm, .ref se, .long (st_dv S), .int (st_ht S), .int (nI (st_sc S)), .int (st_md S)])), (sp, .inl (ca, 4, .inr (.inl (st_fa S)))), (sm, .inl (cm, 3, .inr (.inr (.inr (.inr (xm_3 m0 m1 m2)))))), (m0, .inl (cm0, 20, .inl (st_n0 S))), (m1, .inl (cm1, 20, .inl (st_n1 S))), (m2, .inl (cm2, 20, .inl (st_n2 S))), (se, .inl (cq, 20, .inl (st_fq S))), (su, .inr (3, [.long (sf 1), .long (sf 2), .long (sf 3), .long (sf 4), .long (sf 5), .long (sf 6), .long (sf 7), .long (sf 8), .long (sf 9)])), (ow, .inl (co, 1, .inr (.inl fo)))]) [0, 1, 2, 3, 4, 5, 6, 7, 8, 9] rfl
  have hD9 := hD.sub (ws' := [(h0, .inr (0, [.ref gm, .ref gp, .ref go, .ref gs, .ref gl, .ref gd])), (gs, .inr (4, [.ref su, .ref sp, .ref sm, .ref se, .long (st_dv S), .int (st_ht S), .int (nI (st_sc S)), .int (st_md S)])), (sp, .inl (ca, 4, .inr (.inl (st_fa S)))), (sm, .inl (cm, 3, .inr (.inr (.inr (.inr (xm_3 m0 m1 m2)))))), (m0, .inl (cm0, 20, .inl (st_n0 S))), (m1, .inl (cm1, 20, .inl (st_n1 S))), (m2, .inl (cm2, 20, .inl (st_n2 S))), (se, .inl (cq, 20, .inl (st_fq S))), (su, .inr (3, [.long (sf 1), .long (sf 2), .long (sf 3), .long (sf 4), .long (sf 5), .long (sf 6), .long (sf 7), .long (sf 8), .long (sf 9)])), (ow, .inl (co, 1, .inr (.inl fo)))]) [0, 1, 2, 3, 4, 5, 6, 7, 8, 9] (by decide) rfl
  have hK9 := hK.sub (tys' := [(ca, .long), (cm, .array .int), (cm0, .int), (cm1, .int), (cm2, .int), (cq, .boolean), (co, .long)]) [0, 1, 2, 3, 4, 5, 6] rfl
  exact W.iret (v := 1) hx hb hr (fun t ht hW => ⟨⟨1, (), rfl, rfl, ⟨by rw [ht]; exact hP9, va_K.moved hW.alike hK9, by exact hD9⟩⟩, hS.F ht⟩) hS.2.2 d_LA_turned_13 hlocks
set_option maxHeartbeats 4000000 in
set_option maxRecDepth 100000 in
/-- the law: turned, which throws -/
theorem c_LA_turned_x2 (l : Launch) (hl9 : l.stackTraces = false) (dC : Nat → ClassId) (dI : Nat → Nat → Nat) (sz : Nat) (h0 : Nat) (gm : Nat) (gp : Nat) (go : Nat) (gs : Nat) (gl : Nat) (gd : Nat) (su : Nat) (sp : Nat) (sm : Nat) (se : Nat) (m0 : Nat) (m1 : Nat) (m2 : Nat) (ca : ClassId) (cm : ClassId) (cm0 : ClassId) (cm1 : ClassId) (cm2 : ClassId) (cq : ClassId) (S : sr_St) (sf : Nat → Int64) (i0 : Int32) (ow : Nat) (co : ClassId) (fo : Nat → Int64) (hv : xin i0 4) (hm : st_md S = 0) : Met l xy_LA_turned xw_LA_turned ({ frames := 7, cells := 1, slots := 6, locals := 103 }) (xp_x [.ref h0, .int i0, .ref ow] sz (dC, dI) xCl [(h0, .inr (0, [.ref gm, .ref gp, .ref go, .ref gs, .ref gl, .ref gd])), (gs, .inr (4, [.ref su, .ref sp, .ref sm, .ref se, .long (st_dv S), .int (st_ht S), .int (nI (st_sc S)), .int (st_md S)])), (sp, .inl (ca, 4, .inr (.inl (st_fa S)))), (sm, .inl (cm, 3, .inr (.inr (.inr (.inr (xm_3 m0 m1 m2)))))), (m0, .inl (cm0, 20, .inl (st_n0 S))), (m1, .inl (cm1, 20, .inl (st_n1 S))), (m2, .inl (cm2, 20, .inl (st_n2 S))), (se, .inl (cq, 20, .inl (st_fq S))), (su, .inr (3, [.long (sf 1), .long (sf 2), .long (sf 3), .long (sf 4), .long (sf 5), .long (sf 6), .long (sf 7), .long (sf 8), .long (sf 9)])), (ow, .inl (co, 1, .inr (.inl fo)))] [(ca, .long), (cm, .array .int), (cm0, .int), (cm1, .int), (cm2, .int), (cq, .boolean), (co, .long)]) (va_Qi (fun (r : Int32) (_ : Unit) => r = 2) (fun _ t => xb_w (dC, dI) xCl [(h0, .inr (0, [.ref gm, .ref gp, .ref go, .ref gs, .ref gl, .ref gd])), (gs, .inr (4, [.ref su, .ref sp, .ref sm, .ref se, .long (st_dv S), .int (st_ht S), .int (nI (st_sc S)), .int (st_md S)])), (sp, .inl (ca, 4, .inr (.inl (st_fa S)))), (sm, .inl (cm, 3, .inr (.inr (.inr (.inr (xm_3 m0 m1 m2)))))), (m0, .inl (cm0, 20, .inl (st_n0 S))), (m1, .inl (cm1, 20, .inl (st_n1 S))), (m2, .inl (cm2, 20, .inl (st_n2 S))), (se, .inl (cq, 20, .inl (st_fq S))), (su, .inr (3, [.long (sf 1), .long (sf 2), .long (sf 3), .long (sf 4), .long (sf 5), .long (sf 6), .long (sf 7), .long (sf 8), .long (sf 9)])), (ow, .inl (co, 1, .inr (.inl fo)))] [(ca, .long), (cm, .array .int), (cm0, .int), (cm1, .int), (cm2, .int), (cq, .boolean), (co, .long)] (va_A [(h0, .inr (0, [.ref gm, .ref gp, .ref go, .ref gs, .ref gl, .ref gd])), (gs, .inr (4, [.ref su, .ref sp, .ref sm, .ref se, .long (st_dv S), .int (st_ht S), .int (nI (st_sc S)), .int (st_md S)])), (sp, .inl (ca, 4, .inr (.inl (st_fa S)))), (sm, .inl (cm, 3, .inr (.inr (.inr (.inr (xm_3 m0 m1 m2)))))), (m0, .inl (cm0, 20, .inl (st_n0 S))), (m1, .inl (cm1, 20, .inl (st_n1 S))), (m2, .inl (cm2, 20, .inl (st_n2 S))), (se, .inl (cq, 20, .inl (st_fq S))), (su, .inr (3, [.long (sf 1), .long (sf 2), .long (sf 3), .long (sf 4), .long (sf 5), .long (sf 6), .long (sf 7), .long (sf 8), .long (sf 9)])), (ow, .inl (co, 1, .inr (.inl fo)))] sz) t) (va_A [(h0, .inr (0, [.ref gm, .ref gp, .ref go, .ref gs, .ref gl, .ref gd])), (gs, .inr (4, [.ref su, .ref sp, .ref sm, .ref se, .long (st_dv S), .int (st_ht S), .int (nI (st_sc S)), .int (st_md S)])), (sp, .inl (ca, 4, .inr (.inl (st_fa S)))), (sm, .inl (cm, 3, .inr (.inr (.inr (.inr (xm_3 m0 m1 m2)))))), (m0, .inl (cm0, 20, .inl (st_n0 S))), (m1, .inl (cm1, 20, .inl (st_n1 S))), (m2, .inl (cm2, 20, .inl (st_n2 S))), (se, .inl (cq, 20, .inl (st_fq S))), (su, .inr (3, [.long (sf 1), .long (sf 2), .long (sf 3), .long (sf 4), .long (sf 5), .long (sf 6), .long (sf 7), .long (sf 8), .long (sf 9)])), (ow, .inl (co, 1, .inr (.inl fo)))] sz)) 1 6 (va_A [(h0, .inr (0, [.ref gm, .ref gp, .ref go, .ref gs, .ref gl, .ref gd])), (gs, .inr (4, [.ref su, .ref sp, .ref sm, .ref se, .long (st_dv S), .int (st_ht S), .int (nI (st_sc S)), .int (st_md S)])), (sp, .inl (ca, 4, .inr (.inl (st_fa S)))), (sm, .inl (cm, 3, .inr (.inr (.inr (.inr (xm_3 m0 m1 m2)))))), (m0, .inl (cm0, 20, .inl (st_n0 S))), (m1, .inl (cm1, 20, .inl (st_n1 S))), (m2, .inl (cm2, 20, .inl (st_n2 S))), (se, .inl (cq, 20, .inl (st_fq S))), (su, .inr (3, [.long (sf 1), .long (sf 2), .long (sf 3), .long (sf 4), .long (sf 5), .long (sf 6), .long (sf 7), .long (sf 8), .long (sf 9)])), (ow, .inl (co, 1, .inr (.inl fo)))] sz) := by
  refine va_MetW (cc := method_7_code) (maxL := 4) (ret := (some .int)) (by decide) rfl ?_
  intro p e s m args below meth c s₁ B hml hv
  obtain ⟨rfl, hsz, hz, hH, hP, hK, hD0⟩ := hv
  have hx := B.exec
  have hb := B.bytes
  have hr := B.returns
  have hts := atoms_spec (ws := xw_LA_turned) B.pre
  have hown : s.vm.findClass xR_LA = some m.cls := findClass_of_methodNamed B.named
  have hlocks := B.notSynchronized
  have htab := xt_table B (hts _ List.mem_cons_self)
  subst hsz
  have hD := hD0.self (sz := s.heap.size)
  generalize hAe : va_A [(h0, .inr (0, [.ref gm, .ref gp, .ref go, .ref gs, .ref gl, .ref gd])), (gs, .inr (4, [.ref su, .ref sp, .ref sm, .ref se, .long (st_dv S), .int (st_ht S), .int (nI (st_sc S)), .int (st_md S)])), (sp, .inl (ca, 4, .inr (.inl (st_fa S)))), (sm, .inl (cm, 3, .inr (.inr (.inr (.inr (xm_3 m0 m1 m2)))))), (m0, .inl (cm0, 20, .inl (st_n0 S))), (m1, .inl (cm1, 20, .inl (st_n1 S))), (m2, .inl (cm2, 20, .inl (st_n2 S))), (se, .inl (cq, 20, .inl (st_fq S))), (su, .inr (3, [.long (sf 1), .long (sf 2), .long (sf 3), .long (sf 4), .long (sf 5), .long (sf 6), .long (sf 7), .long (sf 8), .long (sf 9)])), (ow, .inl (co, 1, .inr (.inl fo)))] s.heap.size = A at hD ⊢
  have hA : ∀ q : Nat, s.heap.size ≤ q → A q := fun q h => by rw [← hAe]; exact Or.inr h
  have hS : va_S A s.heap s.heap [] := va_S.rf
  have hP : va_P (dC, dI) xCl [(h0, .inr (0, [.ref gm, .ref gp, .ref go, .ref gs, .ref gl, .ref gd])), (gs, .inr (4, [.ref su, .ref sp, .ref sm, .ref se, .long (st_dv S), .int (st_ht S), .int (nI (st_sc S)), .int (st_md S)])), (sp, .inl (ca, 4, .inr (.inl (st_fa S)))), (sm, .inl (cm, 3, .inr (.inr (.inr (.inr (xm_3 m0 m1 m2)))))), (m0, .inl (cm0, 20, .inl (st_n0 S))), (m1, .inl (cm1, 20, .inl (st_n1 S))), (m2, .inl (cm2, 20, .inl (st_n2 S))), (se, .inl (cq, 20, .inl (st_fq S))), (su, .inr (3, [.long (sf 1), .long (sf 2), .long (sf 3), .long (sf 4), .long (sf 5), .long (sf 6), .long (sf 7), .long (sf 8), .long (sf 9)])), (ow, .inl (co, 1, .inr (.inl fo)))] s.heap := hP
  have hl := lv_entry ([.ref h0, .int i0, .ref ow]) (n := 4) (Nat.le_of_ble_eq_true rfl)
  rw [lg_entry_eq]
  generalize (lg_sl ([.ref h0, .int i0, .ref ow]) ++ List.replicate (4 - (lg_sl ([.ref h0, .int i0, .ref ow])).length) Slot.unset).toArray = ls at hl ⊢
  have hl : lv_has ls 4 [(0, .ref h0), (1, .int i0), (2, .ref ow)] := hl
  refine lv_aload_n hx hb d_LA_turned_0 rfl (lv_at hl 2 rfl) ?_
  refine lv_iconst (v := 0) hx hb d_LA_turned_1 (by decide) ?_
  refine lv_aload_n hx hb d_LA_turned_2 rfl (lv_at hl 0 rfl) ?_
  refine lv_iload_n hx hb d_LA_turned_3 rfl (lv_at hl 1 rfl) ?_
  have hPc := hP.sub (ws' := [(h0, .inr (0, [.ref gm, .ref gp, .ref go, .ref gs, .ref gl, .ref gd])), (gs, .inr (4, [.ref su, .ref sp, .ref sm, .ref se, .long (st_dv S), .int (st_ht S), .int (nI (st_sc S)), .int (st_md S)])), (sp, .inl (ca, 4, .inr (.inl (st_fa S)))), (sm, .inl (cm, 3, .inr (.inr (.inr (.inr (xm_3 m0 m1 m2)))))), (m0, .inl (cm0, 20, .inl (st_n0 S))), (m1, .inl (cm1, 20, .inl (st_n1 S))), (m2, .inl (cm2, 20, .inl (st_n2 S))), (se, .inl (cq, 20, .inl (st_fq S))), (su, .inr (3, [.long (sf 1), .long (sf 2), .long (sf 3), .long (sf 4), .long (sf 5), .long (sf 6), .long (sf 7), .long (sf 8), .long (sf 9)]))]) [0, 1, 2, 3, 4, 5, 6, 7, 8] rfl
  have hKc := hK.sub (tys' := [(ca, .long), (cm, .array .int), (cm0, .int), (cm1, .int), (cm2, .int), (cq, .boolean)]) [0, 1, 2, 3, 4, 5] rfl
  refine xt_catchV (As := [.int i0]) (rest := [.int 0, .ref ow]) (name := "java/lang/IllegalStateException") ⟨hx, hb, hml, hown, hts⟩ (c_SR_turned_x2 l hl9 dC dI h0 gm gp go gs gl gd su sp sm se m0 m1 m2 ca cm cm0 cm1 cm2 cq S sf i0 hv hm) (cwV 1 hts (xgV wm_531 wm_532 wm_533 wm_26 wm_534) rfl rfl rfl (by decide +kernel) ⟨Nat.le_of_ble_eq_true rfl, Nat.le_of_ble_eq_true rfl⟩) ⟨xt_blind, va_recv hKc hPc (ci := 0) (q0 := 0) rfl rfl, fun U hU hW => ⟨rfl, hz.warm hW, hH.same hW hU, by rw [hU]; exact hPc, va_K.moved hW.alike hKc⟩⟩ rfl hl.1 rfl (Nat.le_of_ble_eq_true rfl) d_LA_turned_4 ⟨Nat.le_of_ble_eq_true rfl, Nat.le_of_ble_eq_true rfl⟩ (tableOf [(0, 8, 11, 21)]) ⟨0, 8, 14, 13⟩ (tableOf []) htab (fun z hz9 => by
      simp only [tableOf, List.map_cons, List.map_nil, List.mem_cons, List.not_mem_nil, or_false] at hz9
      rcases hz9 with rfl
      · exact ⟨"java/lang/IndexOutOfBoundsException", hz.nc (by decide +kernel), by decide, (hts _ (List.mem_cons_of_mem _ wm_485))⟩) (by decide) (by decide) (hts _ (List.mem_cons_of_mem _ wm_384)) (va_Nw.use rfl (hz.face xc_IllegalStateException)) (fun q_1 H hsz9 hkp9 => ?_)
  have hP := xt_keepP hP hkp9
  have hS := xt_keepS hS hsz9 hkp9
  refine W.widen (k := 1) (n := 6) (by decide) (by decide) ?_
  refine lv_astore_n (lv' := [(3, .ref q_1), (0, .ref h0), (1, .int i0), (2, .ref ow)]) hx hb d_LA_turned_14 rfl hl (by decide) rfl (fun ls hl => ?_)
  refine lv_iconst (v := 2) hx hb d_LA_turned_15 (by decide) ?_
  have hP9 := hP.sub (ws' := [(h0, .inr (0, [.ref gm, .ref gp, .ref go, .ref gs, .ref gl, .ref gd])), (gs, .inr (4, [.ref su, .ref sp, .ref sm, .ref se, .long (st_dv S), .int (st_ht S), .int (nI (st_sc S)), .int (st_md S)])), (sp, .inl (ca, 4, .inr (.inl (st_fa S)))), (sm, .inl (cm, 3, .inr (.inr (.inr (.inr (xm_3 m0 m1 m2)))))), (m0, .inl (cm0, 20, .inl (st_n0 S))), (m1, .inl (cm1, 20, .inl (st_n1 S))), (m2, .inl (cm2, 20, .inl (st_n2 S))), (se, .inl (cq, 20, .inl (st_fq S))), (su, .inr (3, [.long (sf 1), .long (sf 2), .long (sf 3), .long (sf 4), .long (sf 5), .long (sf 6), .long (sf 7), .long (sf 8), .long (sf 9)])), (ow, .inl (co, 1, .inr (.inl fo)))]) [0, 1, 2, 3, 4, 5, 6, 7, 8, 9] rfl
  have hD9 := hD.sub (ws' := [(h0, .inr (0, [.ref gm, .ref gp, .ref go, .ref gs, .ref gl, .ref gd])), (gs, .inr (4, [.ref su, .ref sp, .ref sm, .ref se, .long (st_dv S), .int (st_ht S), .int (nI (st_sc S)), .int (st_md S)])), (sp, .inl (ca, 4, .inr (.inl (st_fa S)))), (sm, .inl (cm, 3, .inr (.inr (.inr (.inr (xm_3 m0 m1 m2)))))), (m0, .inl (cm0, 20, .inl (st_n0 S))), (m1, .inl (cm1, 20, .inl (st_n1 S))), (m2, .inl (cm2, 20, .inl (st_n2 S))), (se, .inl (cq, 20, .inl (st_fq S))), (su, .inr (3, [.long (sf 1), .long (sf 2), .long (sf 3), .long (sf 4), .long (sf 5), .long (sf 6), .long (sf 7), .long (sf 8), .long (sf 9)])), (ow, .inl (co, 1, .inr (.inl fo)))]) [0, 1, 2, 3, 4, 5, 6, 7, 8, 9] (by decide) rfl
  have hK9 := hK.sub (tys' := [(ca, .long), (cm, .array .int), (cm0, .int), (cm1, .int), (cm2, .int), (cq, .boolean), (co, .long)]) [0, 1, 2, 3, 4, 5, 6] rfl
  exact W.iret (v := 2) hx hb hr (fun t ht hW => ⟨⟨2, (), rfl, rfl, ⟨by rw [ht]; exact hP9, va_K.moved hW.alike hK9, by exact hD9⟩⟩, hS.F ht⟩) hS.2.2 d_LA_turned_16 hlocks
set_option maxHeartbeats 4000000 in
set_option maxRecDepth 100000 in
/-- the law: residual, which throws -/
theorem c_LA_residual_x1 (l : Launch) (hl9 : l.stackTraces = false) (dC : Nat → ClassId) (dI : Nat → Nat → Nat) (sz : Nat) (h0 : Nat) (gm : Nat) (gp : Nat) (go : Nat) (gs : Nat) (gl : Nat) (gd : Nat) (su : Nat) (sp : Nat) (sm : Nat) (se : Nat) (m0 : Nat) (m1 : Nat) (m2 : Nat) (ca : ClassId) (cm : ClassId) (cm0 : ClassId) (cm1 : ClassId) (cm2 : ClassId) (cq : ClassId) (S : sr_St) (sf : Nat → Int64) (qx : Nat) (qy : Nat) (qz : Nat) (qu : Nat) (qv : Nat) (qw : Nat) (qp : Nat) (qe : Nat) (no : Nat) (i0 : Int32) (i1 : Int32) (ow : Nat) (co : ClassId) (fo : Nat → Int64) (hno : no ≤ 20) (hn : ¬ (xin i0 no ∧ xin i1 3)) : Met l xy_LA_residual xw_LA_residual ({ frames := 7, cells := 1, slots := 6, locals := 104 }) (xp_x [.ref h0, .int i0, .int i1, .ref ow] sz (dC, dI) xCl [(h0, .inr (0, [.ref gm, .ref gp, .ref go, .ref gs, .ref gl, .ref gd])), (gs, .inr (4, [.ref su, .ref sp, .ref sm, .ref se, .long (st_dv S), .int (st_ht S), .int (nI (st_sc S)), .int (st_md S)])), (sp, .inl (ca, 4, .inr (.inl (st_fa S)))), (sm, .inl (cm, 3, .inr (.inr (.inr (.inr (xm_3 m0 m1 m2)))))), (m0, .inl (cm0, 20, .inl (st_n0 S))), (m1, .inl (cm1, 20, .inl (st_n1 S))), (m2, .inl (cm2, 20, .inl (st_n2 S))), (se, .inl (cq, 20, .inl (st_fq S))), (su, .inr (3, [.long (sf 1), .long (sf 2), .long (sf 3), .long (sf 4), .long (sf 5), .long (sf 6), .long (sf 7), .long (sf 8), .long (sf 9)])), (go, .inr (2, [.ref qx, .ref qy, .ref qz, .ref qu, .ref qv, .ref qw, .ref qp, .ref qe, .int (nI no)])), (ow, .inl (co, 1, .inr (.inl fo)))] [(ca, .long), (cm, .array .int), (cm0, .int), (cm1, .int), (cm2, .int), (cq, .boolean), (co, .long)]) (va_Qi (fun (r : Int32) (_ : Unit) => r = 1) (fun _ t => xb_w (dC, dI) xCl [(h0, .inr (0, [.ref gm, .ref gp, .ref go, .ref gs, .ref gl, .ref gd])), (gs, .inr (4, [.ref su, .ref sp, .ref sm, .ref se, .long (st_dv S), .int (st_ht S), .int (nI (st_sc S)), .int (st_md S)])), (sp, .inl (ca, 4, .inr (.inl (st_fa S)))), (sm, .inl (cm, 3, .inr (.inr (.inr (.inr (xm_3 m0 m1 m2)))))), (m0, .inl (cm0, 20, .inl (st_n0 S))), (m1, .inl (cm1, 20, .inl (st_n1 S))), (m2, .inl (cm2, 20, .inl (st_n2 S))), (se, .inl (cq, 20, .inl (st_fq S))), (su, .inr (3, [.long (sf 1), .long (sf 2), .long (sf 3), .long (sf 4), .long (sf 5), .long (sf 6), .long (sf 7), .long (sf 8), .long (sf 9)])), (go, .inr (2, [.ref qx, .ref qy, .ref qz, .ref qu, .ref qv, .ref qw, .ref qp, .ref qe, .int (nI no)])), (ow, .inl (co, 1, .inr (.inl fo)))] [(ca, .long), (cm, .array .int), (cm0, .int), (cm1, .int), (cm2, .int), (cq, .boolean), (co, .long)] (va_A [(h0, .inr (0, [.ref gm, .ref gp, .ref go, .ref gs, .ref gl, .ref gd])), (gs, .inr (4, [.ref su, .ref sp, .ref sm, .ref se, .long (st_dv S), .int (st_ht S), .int (nI (st_sc S)), .int (st_md S)])), (sp, .inl (ca, 4, .inr (.inl (st_fa S)))), (sm, .inl (cm, 3, .inr (.inr (.inr (.inr (xm_3 m0 m1 m2)))))), (m0, .inl (cm0, 20, .inl (st_n0 S))), (m1, .inl (cm1, 20, .inl (st_n1 S))), (m2, .inl (cm2, 20, .inl (st_n2 S))), (se, .inl (cq, 20, .inl (st_fq S))), (su, .inr (3, [.long (sf 1), .long (sf 2), .long (sf 3), .long (sf 4), .long (sf 5), .long (sf 6), .long (sf 7), .long (sf 8), .long (sf 9)])), (go, .inr (2, [.ref qx, .ref qy, .ref qz, .ref qu, .ref qv, .ref qw, .ref qp, .ref qe, .int (nI no)])), (ow, .inl (co, 1, .inr (.inl fo)))] sz) t) (va_A [(h0, .inr (0, [.ref gm, .ref gp, .ref go, .ref gs, .ref gl, .ref gd])), (gs, .inr (4, [.ref su, .ref sp, .ref sm, .ref se, .long (st_dv S), .int (st_ht S), .int (nI (st_sc S)), .int (st_md S)])), (sp, .inl (ca, 4, .inr (.inl (st_fa S)))), (sm, .inl (cm, 3, .inr (.inr (.inr (.inr (xm_3 m0 m1 m2)))))), (m0, .inl (cm0, 20, .inl (st_n0 S))), (m1, .inl (cm1, 20, .inl (st_n1 S))), (m2, .inl (cm2, 20, .inl (st_n2 S))), (se, .inl (cq, 20, .inl (st_fq S))), (su, .inr (3, [.long (sf 1), .long (sf 2), .long (sf 3), .long (sf 4), .long (sf 5), .long (sf 6), .long (sf 7), .long (sf 8), .long (sf 9)])), (go, .inr (2, [.ref qx, .ref qy, .ref qz, .ref qu, .ref qv, .ref qw, .ref qp, .ref qe, .int (nI no)])), (ow, .inl (co, 1, .inr (.inl fo)))] sz)) 1 6 (va_A [(h0, .inr (0, [.ref gm, .ref gp, .ref go, .ref gs, .ref gl, .ref gd])), (gs, .inr (4, [.ref su, .ref sp, .ref sm, .ref se, .long (st_dv S), .int (st_ht S), .int (nI (st_sc S)), .int (st_md S)])), (sp, .inl (ca, 4, .inr (.inl (st_fa S)))), (sm, .inl (cm, 3, .inr (.inr (.inr (.inr (xm_3 m0 m1 m2)))))), (m0, .inl (cm0, 20, .inl (st_n0 S))), (m1, .inl (cm1, 20, .inl (st_n1 S))), (m2, .inl (cm2, 20, .inl (st_n2 S))), (se, .inl (cq, 20, .inl (st_fq S))), (su, .inr (3, [.long (sf 1), .long (sf 2), .long (sf 3), .long (sf 4), .long (sf 5), .long (sf 6), .long (sf 7), .long (sf 8), .long (sf 9)])), (go, .inr (2, [.ref qx, .ref qy, .ref qz, .ref qu, .ref qv, .ref qw, .ref qp, .ref qe, .int (nI no)])), (ow, .inl (co, 1, .inr (.inl fo)))] sz) := by
  refine va_MetW (cc := method_8_code) (maxL := 5) (ret := (some .int)) (by decide) rfl ?_
  intro p e s m args below meth c s₁ B hml hv
  obtain ⟨rfl, hsz, hz, hH, hP, hK, hD0⟩ := hv
  have hx := B.exec
  have hb := B.bytes
  have hr := B.returns
  have hts := atoms_spec (ws := xw_LA_residual) B.pre
  have hown : s.vm.findClass xR_LA = some m.cls := findClass_of_methodNamed B.named
  have hlocks := B.notSynchronized
  have htab := xt_table B (hts _ List.mem_cons_self)
  subst hsz
  have hD := hD0.self (sz := s.heap.size)
  generalize hAe : va_A [(h0, .inr (0, [.ref gm, .ref gp, .ref go, .ref gs, .ref gl, .ref gd])), (gs, .inr (4, [.ref su, .ref sp, .ref sm, .ref se, .long (st_dv S), .int (st_ht S), .int (nI (st_sc S)), .int (st_md S)])), (sp, .inl (ca, 4, .inr (.inl (st_fa S)))), (sm, .inl (cm, 3, .inr (.inr (.inr (.inr (xm_3 m0 m1 m2)))))), (m0, .inl (cm0, 20, .inl (st_n0 S))), (m1, .inl (cm1, 20, .inl (st_n1 S))), (m2, .inl (cm2, 20, .inl (st_n2 S))), (se, .inl (cq, 20, .inl (st_fq S))), (su, .inr (3, [.long (sf 1), .long (sf 2), .long (sf 3), .long (sf 4), .long (sf 5), .long (sf 6), .long (sf 7), .long (sf 8), .long (sf 9)])), (go, .inr (2, [.ref qx, .ref qy, .ref qz, .ref qu, .ref qv, .ref qw, .ref qp, .ref qe, .int (nI no)])), (ow, .inl (co, 1, .inr (.inl fo)))] s.heap.size = A at hD ⊢
  have hA : ∀ q : Nat, s.heap.size ≤ q → A q := fun q h => by rw [← hAe]; exact Or.inr h
  have hS : va_S A s.heap s.heap [] := va_S.rf
  have hP : va_P (dC, dI) xCl [(h0, .inr (0, [.ref gm, .ref gp, .ref go, .ref gs, .ref gl, .ref gd])), (gs, .inr (4, [.ref su, .ref sp, .ref sm, .ref se, .long (st_dv S), .int (st_ht S), .int (nI (st_sc S)), .int (st_md S)])), (sp, .inl (ca, 4, .inr (.inl (st_fa S)))), (sm, .inl (cm, 3, .inr (.inr (.inr (.inr (xm_3 m0 m1 m2)))))), (m0, .inl (cm0, 20, .inl (st_n0 S))), (m1, .inl (cm1, 20, .inl (st_n1 S))), (m2, .inl (cm2, 20, .inl (st_n2 S))), (se, .inl (cq, 20, .inl (st_fq S))), (su, .inr (3, [.long (sf 1), .long (sf 2), .long (sf 3), .long (sf 4), .long (sf 5), .long (sf 6), .long (sf 7), .long (sf 8), .long (sf 9)])), (go, .inr (2, [.ref qx, .ref qy, .ref qz, .ref qu, .ref qv, .ref qw, .ref qp, .ref qe, .int (nI no)])), (ow, .inl (co, 1, .inr (.inl fo)))] s.heap := hP
  have hl := lv_entry ([.ref h0, .int i0, .int i1, .ref ow]) (n := 5) (Nat.le_of_ble_eq_true rfl)
  rw [lg_entry_eq]
  generalize (lg_sl ([.ref h0, .int i0, .int i1, .ref ow]) ++ List.replicate (5 - (lg_sl ([.ref h0, .int i0, .int i1, .ref ow])).length) Slot.unset).toArray = ls at hl ⊢
  have hl : lv_has ls 5 [(0, .ref h0), (1, .int i0), (2, .int i1), (3, .ref ow)] := hl
  refine lv_aload_n hx hb d_LA_residual_0 rfl (lv_at hl 3 rfl) ?_
  refine lv_iconst (v := 0) hx hb d_LA_residual_1 (by decide) ?_
  refine lv_aload_n hx hb d_LA_residual_2 rfl (lv_at hl 0 rfl) ?_
  refine lv_iload_n hx hb d_LA_residual_3 rfl (lv_at hl 1 rfl) ?_
  refine lv_iload_n hx hb d_LA_residual_4 rfl (lv_at hl 2 rfl) ?_
  have hPc := hP.sub (ws' := [(h0, .inr (0, [.ref gm, .ref gp, .ref go, .ref gs, .ref gl, .ref gd])), (gs, .inr (4, [.ref su, .ref sp, .ref sm, .ref se, .long (st_dv S), .int (st_ht S), .int (nI (st_sc S)), .int (st_md S)])), (sp, .inl (ca, 4, .inr (.inl (st_fa S)))), (sm, .inl (cm, 3, .inr (.inr (.inr (.inr (xm_3 m0 m1 m2)))))), (m0, .inl (cm0, 20, .inl (st_n0 S))), (m1, .inl (cm1, 20, .inl (st_n1 S))), (m2, .inl (cm2, 20, .inl (st_n2 S))), (se, .inl (cq, 20, .inl (st_fq S))), (su, .inr (3, [.long (sf 1), .long (sf 2), .long (sf 3), .long (sf 4), .long (sf 5), .long (sf 6), .long (sf 7), .long (sf 8), .long (sf 9)])), (go, .inr (2, [.ref qx, .ref qy, .ref qz, .ref qu, .ref qv, .ref qw, .ref qp, .ref qe, .int (nI no)]))]) [0, 1, 2, 3, 4, 5, 6, 7, 8, 9] rfl
  have hKc := hK.sub (tys' := [(ca, .long), (cm, .array .int), (cm0, .int), (cm1, .int), (cm2, .int), (cq, .boolean)]) [0, 1, 2, 3, 4, 5] rfl
  refine xt_catchV (As := [.int i0, .int i1]) (rest := [.int 0, .ref ow]) (name := "java/lang/IndexOutOfBoundsException") ⟨hx, hb, hml, hown, hts⟩ (c_SR_residual_x1 l hl9 dC dI h0 gm gp go gs gl gd su sp sm se m0 m1 m2 ca cm cm0 cm1 cm2 cq S sf qx qy qz qu qv qw qp qe no i0 i1 hno hn) (cwV 2 hts (xgV wm_549 wm_550 wm_551 wm_26 wm_552) rfl rfl rfl (by decide +kernel) ⟨Nat.le_of_ble_eq_true rfl, Nat.le_of_ble_eq_true rfl⟩) ⟨xt_blind, va_recv hKc hPc (ci := 0) (q0 := 0) rfl rfl, fun U hU hW => ⟨rfl, hz.warm hW, hH.same hW hU, by rw [hU]; exact hPc, va_K.moved hW.alike hKc⟩⟩ rfl hl.1 rfl (Nat.le_of_ble_eq_true rfl) d_LA_residual_5 ⟨Nat.le_of_ble_eq_true rfl, Nat.le_of_ble_eq_true rfl⟩ (tableOf []) ⟨0, 10, 13, 21⟩ (tableOf [(0, 10, 17, 13)]) htab (fun z hz9 => nomatch hz9) (by decide) (by decide) (hts _ (List.mem_cons_of_mem _ wm_485)) (va_Nw.use rfl (hz.face xc_IndexOutOfBoundsException)) (fun q_1 H hsz9 hkp9 => ?_)
  have hP := xt_keepP hP hkp9
  have hS := xt_keepS hS hsz9 hkp9
  refine W.widen (k := 1) (n := 6) (by decide) (by decide) ?_
  refine lv_astore (lv' := [(4, .ref q_1), (0, .ref h0), (1, .int i0), (2, .int i1), (3, .ref ow)]) hx hb d_LA_residual_13 hl (by decide) rfl (fun ls hl => ?_)
  refine lv_iconst (v := 1) hx hb d_LA_residual_15 (by decide) ?_
  have hP9 := hP.sub (ws' := [(h0, .inr (0, [.ref gm, .ref gp, .ref go, .ref gs, .ref gl, .ref gd])), (gs, .inr (4, [.ref su, .ref sp, .ref sm, .ref se, .long (st_dv S), .int (st_ht S), .int (nI (st_sc S)), .int (st_md S)])), (sp, .inl (ca, 4, .inr (.inl (st_fa S)))), (sm, .inl (cm, 3, .inr (.inr (.inr (.inr (xm_3 m0 m1 m2)))))), (m0, .inl (cm0, 20, .inl (st_n0 S))), (m1, .inl (cm1, 20, .inl (st_n1 S))), (m2, .inl (cm2, 20, .inl (st_n2 S))), (se, .inl (cq, 20, .inl (st_fq S))), (su, .inr (3, [.long (sf 1), .long (sf 2), .long (sf 3), .long (sf 4), .long (sf 5), .long (sf 6), .long (sf 7), .long (sf 8), .long (sf 9)])), (go, .inr (2, [.ref qx, .ref qy, .ref qz, .ref qu, .ref qv, .ref qw, .ref qp, .ref qe, .int (nI no)])), (ow, .inl (co, 1, .inr (.inl fo)))]) [0, 1, 2, 3, 4, 5, 6, 7, 8, 9, 10] rfl
  have hD9 := hD.sub (ws' := [(h0, .inr (0, [.ref gm, .ref gp, .ref go, .ref gs, .ref gl, .ref gd])), (gs, .inr (4, [.ref su, .ref sp, .ref sm, .ref se, .long (st_dv S), .int (st_ht S), .int (nI (st_sc S)), .int (st_md S)])), (sp, .inl (ca, 4, .inr (.inl (st_fa S)))), (sm, .inl (cm, 3, .inr (.inr (.inr (.inr (xm_3 m0 m1 m2)))))), (m0, .inl (cm0, 20, .inl (st_n0 S))), (m1, .inl (cm1, 20, .inl (st_n1 S))), (m2, .inl (cm2, 20, .inl (st_n2 S))), (se, .inl (cq, 20, .inl (st_fq S))), (su, .inr (3, [.long (sf 1), .long (sf 2), .long (sf 3), .long (sf 4), .long (sf 5), .long (sf 6), .long (sf 7), .long (sf 8), .long (sf 9)])), (go, .inr (2, [.ref qx, .ref qy, .ref qz, .ref qu, .ref qv, .ref qw, .ref qp, .ref qe, .int (nI no)])), (ow, .inl (co, 1, .inr (.inl fo)))]) [0, 1, 2, 3, 4, 5, 6, 7, 8, 9, 10] (by decide) rfl
  have hK9 := hK.sub (tys' := [(ca, .long), (cm, .array .int), (cm0, .int), (cm1, .int), (cm2, .int), (cq, .boolean), (co, .long)]) [0, 1, 2, 3, 4, 5, 6] rfl
  exact W.iret (v := 1) hx hb hr (fun t ht hW => ⟨⟨1, (), rfl, rfl, ⟨by rw [ht]; exact hP9, va_K.moved hW.alike hK9, by exact hD9⟩⟩, hS.F ht⟩) hS.2.2 d_LA_residual_16 hlocks
set_option maxHeartbeats 4000000 in
set_option maxRecDepth 100000 in
/-- the law: residual, which throws -/
theorem c_LA_residual_x2 (l : Launch) (hl9 : l.stackTraces = false) (dC : Nat → ClassId) (dI : Nat → Nat → Nat) (sz : Nat) (h0 : Nat) (gm : Nat) (gp : Nat) (go : Nat) (gs : Nat) (gl : Nat) (gd : Nat) (su : Nat) (sp : Nat) (sm : Nat) (se : Nat) (m0 : Nat) (m1 : Nat) (m2 : Nat) (ca : ClassId) (cm : ClassId) (cm0 : ClassId) (cm1 : ClassId) (cm2 : ClassId) (cq : ClassId) (S : sr_St) (sf : Nat → Int64) (qx : Nat) (qy : Nat) (qz : Nat) (qu : Nat) (qv : Nat) (qw : Nat) (qp : Nat) (qe : Nat) (no : Nat) (i0 : Int32) (i1 : Int32) (ow : Nat) (co : ClassId) (fo : Nat → Int64) (hno : no ≤ 20) (hv : xin i0 no) (hvj : xin i1 3) (hm : st_md S = 0) : Met l xy_LA_residual xw_LA_residual ({ frames := 7, cells := 1, slots := 6, locals := 104 }) (xp_x [.ref h0, .int i0, .int i1, .ref ow] sz (dC, dI) xCl [(h0, .inr (0, [.ref gm, .ref gp, .ref go, .ref gs, .ref gl, .ref gd])), (gs, .inr (4, [.ref su, .ref sp, .ref sm, .ref se, .long (st_dv S), .int (st_ht S), .int (nI (st_sc S)), .int (st_md S)])), (sp, .inl (ca, 4, .inr (.inl (st_fa S)))), (sm, .inl (cm, 3, .inr (.inr (.inr (.inr (xm_3 m0 m1 m2)))))), (m0, .inl (cm0, 20, .inl (st_n0 S))), (m1, .inl (cm1, 20, .inl (st_n1 S))), (m2, .inl (cm2, 20, .inl (st_n2 S))), (se, .inl (cq, 20, .inl (st_fq S))), (su, .inr (3, [.long (sf 1), .long (sf 2), .long (sf 3), .long (sf 4), .long (sf 5), .long (sf 6), .long (sf 7), .long (sf 8), .long (sf 9)])), (go, .inr (2, [.ref qx, .ref qy, .ref qz, .ref qu, .ref qv, .ref qw, .ref qp, .ref qe, .int (nI no)])), (ow, .inl (co, 1, .inr (.inl fo)))] [(ca, .long), (cm, .array .int), (cm0, .int), (cm1, .int), (cm2, .int), (cq, .boolean), (co, .long)]) (va_Qi (fun (r : Int32) (_ : Unit) => r = 2) (fun _ t => xb_w (dC, dI) xCl [(h0, .inr (0, [.ref gm, .ref gp, .ref go, .ref gs, .ref gl, .ref gd])), (gs, .inr (4, [.ref su, .ref sp, .ref sm, .ref se, .long (st_dv S), .int (st_ht S), .int (nI (st_sc S)), .int (st_md S)])), (sp, .inl (ca, 4, .inr (.inl (st_fa S)))), (sm, .inl (cm, 3, .inr (.inr (.inr (.inr (xm_3 m0 m1 m2)))))), (m0, .inl (cm0, 20, .inl (st_n0 S))), (m1, .inl (cm1, 20, .inl (st_n1 S))), (m2, .inl (cm2, 20, .inl (st_n2 S))), (se, .inl (cq, 20, .inl (st_fq S))), (su, .inr (3, [.long (sf 1), .long (sf 2), .long (sf 3), .long (sf 4), .long (sf 5), .long (sf 6), .long (sf 7), .long (sf 8), .long (sf 9)])), (go, .inr (2, [.ref qx, .ref qy, .ref qz, .ref qu, .ref qv, .ref qw, .ref qp, .ref qe, .int (nI no)])), (ow, .inl (co, 1, .inr (.inl fo)))] [(ca, .long), (cm, .array .int), (cm0, .int), (cm1, .int), (cm2, .int), (cq, .boolean), (co, .long)] (va_A [(h0, .inr (0, [.ref gm, .ref gp, .ref go, .ref gs, .ref gl, .ref gd])), (gs, .inr (4, [.ref su, .ref sp, .ref sm, .ref se, .long (st_dv S), .int (st_ht S), .int (nI (st_sc S)), .int (st_md S)])), (sp, .inl (ca, 4, .inr (.inl (st_fa S)))), (sm, .inl (cm, 3, .inr (.inr (.inr (.inr (xm_3 m0 m1 m2)))))), (m0, .inl (cm0, 20, .inl (st_n0 S))), (m1, .inl (cm1, 20, .inl (st_n1 S))), (m2, .inl (cm2, 20, .inl (st_n2 S))), (se, .inl (cq, 20, .inl (st_fq S))), (su, .inr (3, [.long (sf 1), .long (sf 2), .long (sf 3), .long (sf 4), .long (sf 5), .long (sf 6), .long (sf 7), .long (sf 8), .long (sf 9)])), (go, .inr (2, [.ref qx, .ref qy, .ref qz, .ref qu, .ref qv, .ref qw, .ref qp, .ref qe, .int (nI no)])), (ow, .inl (co, 1, .inr (.inl fo)))] sz) t) (va_A [(h0, .inr (0, [.ref gm, .ref gp, .ref go, .ref gs, .ref gl, .ref gd])), (gs, .inr (4, [.ref su, .ref sp, .ref sm, .ref se, .long (st_dv S), .int (st_ht S), .int (nI (st_sc S)), .int (st_md S)])), (sp, .inl (ca, 4, .inr (.inl (st_fa S)))), (sm, .inl (cm, 3, .inr (.inr (.inr (.inr (xm_3 m0 m1 m2)))))), (m0, .inl (cm0, 20, .inl (st_n0 S))), (m1, .inl (cm1, 20, .inl (st_n1 S))), (m2, .inl (cm2, 20, .inl (st_n2 S))), (se, .inl (cq, 20, .inl (st_fq S))), (su, .inr (3, [.long (sf 1), .long (sf 2), .long (sf 3), .long (sf 4), .long (sf 5), .long (sf 6), .long (sf 7), .long (sf 8), .long (sf 9)])), (go, .inr (2, [.ref qx, .ref qy, .ref qz, .ref qu, .ref qv, .ref qw, .ref qp, .ref qe, .int (nI no)])), (ow, .inl (co, 1, .inr (.inl fo)))] sz)) 1 6 (va_A [(h0, .inr (0, [.ref gm, .ref gp, .ref go, .ref gs, .ref gl, .ref gd])), (gs, .inr (4, [.ref su, .ref sp, .ref sm, .ref se, .long (st_dv S), .int (st_ht S), .int (nI (st_sc S)), .int (st_md S)])), (sp, .inl (ca, 4, .inr (.inl (st_fa S)))), (sm, .inl (cm, 3, .inr (.inr (.inr (.inr (xm_3 m0 m1 m2)))))), (m0, .inl (cm0, 20, .inl (st_n0 S))), (m1, .inl (cm1, 20, .inl (st_n1 S))), (m2, .inl (cm2, 20, .inl (st_n2 S))), (se, .inl (cq, 20, .inl (st_fq S))), (su, .inr (3, [.long (sf 1), .long (sf 2), .long (sf 3), .long (sf 4), .long (sf 5), .long (sf 6), .long (sf 7), .long (sf 8), .long (sf 9)])), (go, .inr (2, [.ref qx, .ref qy, .ref qz, .ref qu, .ref qv, .ref qw, .ref qp, .ref qe, .int (nI no)])), (ow, .inl (co, 1, .inr (.inl fo)))] sz) := by
  refine va_MetW (cc := method_8_code) (maxL := 5) (ret := (some .int)) (by decide) rfl ?_
  intro p e s m args below meth c s₁ B hml hv
  obtain ⟨rfl, hsz, hz, hH, hP, hK, hD0⟩ := hv
  have hx := B.exec
  have hb := B.bytes
  have hr := B.returns
  have hts := atoms_spec (ws := xw_LA_residual) B.pre
  have hown : s.vm.findClass xR_LA = some m.cls := findClass_of_methodNamed B.named
  have hlocks := B.notSynchronized
  have htab := xt_table B (hts _ List.mem_cons_self)
  subst hsz
  have hD := hD0.self (sz := s.heap.size)
  generalize hAe : va_A [(h0, .inr (0, [.ref gm, .ref gp, .ref go, .ref gs, .ref gl, .ref gd])), (gs, .inr (4, [.ref su, .ref sp, .ref sm, .ref se, .long (st_dv S), .int (st_ht S), .int (nI (st_sc S)), .int (st_md S)])), (sp, .inl (ca, 4, .inr (.inl (st_fa S)))), (sm, .inl (cm, 3, .inr (.inr (.inr (.inr (xm_3 m0 m1 m2)))))), (m0, .inl (cm0, 20, .inl (st_n0 S))), (m1, .inl (cm1, 20, .inl (st_n1 S))), (m2, .inl (cm2, 20, .inl (st_n2 S))), (se, .inl (cq, 20, .inl (st_fq S))), (su, .inr (3, [.long (sf 1), .long (sf 2), .long (sf 3), .long (sf 4), .long (sf 5), .long (sf 6), .long (sf 7), .long (sf 8), .long (sf 9)])), (go, .inr (2, [.ref qx, .ref qy, .ref qz, .ref qu, .ref qv, .ref qw, .ref qp, .ref qe, .int (nI no)])), (ow, .inl (co, 1, .inr (.inl fo)))] s.heap.size = A at hD ⊢
  have hA : ∀ q : Nat, s.heap.size ≤ q → A q := fun q h => by rw [← hAe]; exact Or.inr h
  have hS : va_S A s.heap s.heap [] := va_S.rf
  have hP : va_P (dC, dI) xCl [(h0, .inr (0, [.ref gm, .ref gp, .ref go, .ref gs, .ref gl, .ref gd])), (gs, .inr (4, [.ref su, .ref sp, .ref sm, .ref se, .long (st_dv S), .int (st_ht S), .int (nI (st_sc S)), .int (st_md S)])), (sp, .inl (ca, 4, .inr (.inl (st_fa S)))), (sm, .inl (cm, 3, .inr (.inr (.inr (.inr (xm_3 m0 m1 m2)))))), (m0, .inl (cm0, 20, .inl (st_n0 S))), (m1, .inl (cm1, 20, .inl (st_n1 S))), (m2, .inl (cm2, 20, .inl (st_n2 S))), (se, .inl (cq, 20, .inl (st_fq S))), (su, .inr (3, [.long (sf 1), .long (sf 2), .long (sf 3), .long (sf 4), .long (sf 5), .long (sf 6), .long (sf 7), .long (sf 8), .long (sf 9)])), (go, .inr (2, [.ref qx, .ref qy, .ref qz, .ref qu, .ref qv, .ref qw, .ref qp, .ref qe, .int (nI no)])), (ow, .inl (co, 1, .inr (.inl fo)))] s.heap := hP
  have hl := lv_entry ([.ref h0, .int i0, .int i1, .ref ow]) (n := 5) (Nat.le_of_ble_eq_true rfl)
  rw [lg_entry_eq]
  generalize (lg_sl ([.ref h0, .int i0, .int i1, .ref ow]) ++ List.replicate (5 - (lg_sl ([.ref h0, .int i0, .int i1, .ref ow])).length) Slot.unset).toArray = ls at hl ⊢
  have hl : lv_has ls 5 [(0, .ref h0), (1, .int i0), (2, .int i1), (3, .ref ow)] := hl
  refine lv_aload_n hx hb d_LA_residual_0 rfl (lv_at hl 3 rfl) ?_
  refine lv_iconst (v := 0) hx hb d_LA_residual_1 (by decide) ?_
  refine lv_aload_n hx hb d_LA_residual_2 rfl (lv_at hl 0 rfl) ?_
  refine lv_iload_n hx hb d_LA_residual_3 rfl (lv_at hl 1 rfl) ?_
  refine lv_iload_n hx hb d_LA_residual_4 rfl (lv_at hl 2 rfl) ?_
  have hPc := hP.sub (ws' := [(h0, .inr (0, [.ref gm, .ref gp, .ref go, .ref gs, .ref gl, .ref gd])), (gs, .inr (4, [.ref su, .ref sp, .ref sm, .ref se, .long (st_dv S), .int (st_ht S), .int (nI (st_sc S)), .int (st_md S)])), (sp, .inl (ca, 4, .inr (.inl (st_fa S)))), (sm, .inl (cm, 3, .inr (.inr (.inr (.inr (xm_3 m0 m1 m2)))))), (m0, .inl (cm0, 20, .inl (st_n0 S))), (m1, .inl (cm1, 20, .inl (st_n1 S))), (m2, .inl (cm2, 20, .inl (st_n2 S))), (se, .inl (cq, 20, .inl (st_fq S))), (su, .inr (3, [.long (sf 1), .long (sf 2), .long (sf 3), .long (sf 4), .long (sf 5), .long (sf 6), .long (sf 7), .long (sf 8), .long (sf 9)])), (go, .inr (2, [.ref qx, .ref qy, .ref qz, .ref qu, .ref qv, .ref qw, .ref qp, .ref qe, .int (nI no)]))]) [0, 1, 2, 3, 4, 5, 6, 7, 8, 9] rfl
  have hKc := hK.sub (tys' := [(ca, .long), (cm, .array .int), (cm0, .int), (cm1, .int), (cm2, .int), (cq, .boolean)]) [0, 1, 2, 3, 4, 5] rfl
  refine xt_catchV (As := [.int i0, .int i1]) (rest := [.int 0, .ref ow]) (name := "java/lang/IllegalStateException") ⟨hx, hb, hml, hown, hts⟩ (c_SR_residual_x2 l hl9 dC dI h0 gm gp go gs gl gd su sp sm se m0 m1 m2 ca cm cm0 cm1 cm2 cq S sf qx qy qz qu qv qw qp qe no i0 i1 hno hv hvj hm) (cwV 2 hts (xgV wm_549 wm_550 wm_551 wm_26 wm_552) rfl rfl rfl (by decide +kernel) ⟨Nat.le_of_ble_eq_true rfl, Nat.le_of_ble_eq_true rfl⟩) ⟨xt_blind, va_recv hKc hPc (ci := 0) (q0 := 0) rfl rfl, fun U hU hW => ⟨rfl, hz.warm hW, hH.same hW hU, by rw [hU]; exact hPc, va_K.moved hW.alike hKc⟩⟩ rfl hl.1 rfl (Nat.le_of_ble_eq_true rfl) d_LA_residual_5 ⟨Nat.le_of_ble_eq_true rfl, Nat.le_of_ble_eq_true rfl⟩ (tableOf [(0, 10, 13, 21)]) ⟨0, 10, 17, 13⟩ (tableOf []) htab (fun z hz9 => by
      simp only [tableOf, List.map_cons, List.map_nil, List.mem_cons, List.not_mem_nil, or_false] at hz9
      rcases hz9 with rfl
      · exact ⟨"java/lang/IndexOutOfBoundsException", hz.nc (by decide +kernel), by decide, (hts _ (List.mem_cons_of_mem _ wm_485))⟩) (by decide) (by decide) (hts _ (List.mem_cons_of_mem _ wm_384)) (va_Nw.use rfl (hz.face xc_IllegalStateException)) (fun q_1 H hsz9 hkp9 => ?_)
  have hP := xt_keepP hP hkp9
  have hS := xt_keepS hS hsz9 hkp9
  refine W.widen (k := 1) (n := 6) (by decide) (by decide) ?_
  refine lv_astore (lv' := [(4, .ref q_1), (0, .ref h0), (1, .int i0), (2, .int i1), (3, .ref ow)]) hx hb d_LA_residual_17 hl (by decide) rfl (fun ls hl => ?_)
  refine lv_iconst (v := 2) hx hb d_LA_residual_19 (by decide) ?_
  have hP9 := hP.sub (ws' := [(h0, .inr (0, [.ref gm, .ref gp, .ref go, .ref gs, .ref gl, .ref gd])), (gs, .inr (4, [.ref su, .ref sp, .ref sm, .ref se, .long (st_dv S), .int (st_ht S), .int (nI (st_sc S)), .int (st_md S)])), (sp, .inl (ca, 4, .inr (.inl (st_fa S)))), (sm, .inl (cm, 3, .inr (.inr (.inr (.inr (xm_3 m0 m1 m2)))))), (m0, .inl (cm0, 20, .inl (st_n0 S))), (m1, .inl (cm1, 20, .inl (st_n1 S))), (m2, .inl (cm2, 20, .inl (st_n2 S))), (se, .inl (cq, 20, .inl (st_fq S))), (su, .inr (3, [.long (sf 1), .long (sf 2), .long (sf 3), .long (sf 4), .long (sf 5), .long (sf 6), .long (sf 7), .long (sf 8), .long (sf 9)])), (go, .inr (2, [.ref qx, .ref qy, .ref qz, .ref qu, .ref qv, .ref qw, .ref qp, .ref qe, .int (nI no)])), (ow, .inl (co, 1, .inr (.inl fo)))]) [0, 1, 2, 3, 4, 5, 6, 7, 8, 9, 10] rfl
  have hD9 := hD.sub (ws' := [(h0, .inr (0, [.ref gm, .ref gp, .ref go, .ref gs, .ref gl, .ref gd])), (gs, .inr (4, [.ref su, .ref sp, .ref sm, .ref se, .long (st_dv S), .int (st_ht S), .int (nI (st_sc S)), .int (st_md S)])), (sp, .inl (ca, 4, .inr (.inl (st_fa S)))), (sm, .inl (cm, 3, .inr (.inr (.inr (.inr (xm_3 m0 m1 m2)))))), (m0, .inl (cm0, 20, .inl (st_n0 S))), (m1, .inl (cm1, 20, .inl (st_n1 S))), (m2, .inl (cm2, 20, .inl (st_n2 S))), (se, .inl (cq, 20, .inl (st_fq S))), (su, .inr (3, [.long (sf 1), .long (sf 2), .long (sf 3), .long (sf 4), .long (sf 5), .long (sf 6), .long (sf 7), .long (sf 8), .long (sf 9)])), (go, .inr (2, [.ref qx, .ref qy, .ref qz, .ref qu, .ref qv, .ref qw, .ref qp, .ref qe, .int (nI no)])), (ow, .inl (co, 1, .inr (.inl fo)))]) [0, 1, 2, 3, 4, 5, 6, 7, 8, 9, 10] (by decide) rfl
  have hK9 := hK.sub (tys' := [(ca, .long), (cm, .array .int), (cm0, .int), (cm1, .int), (cm2, .int), (cq, .boolean), (co, .long)]) [0, 1, 2, 3, 4, 5, 6] rfl
  exact W.iret (v := 2) hx hb hr (fun t ht hW => ⟨⟨2, (), rfl, rfl, ⟨by rw [ht]; exact hP9, va_K.moved hW.alike hK9, by exact hD9⟩⟩, hS.F ht⟩) hS.2.2 d_LA_residual_20 hlocks
set_option maxHeartbeats 4000000 in
set_option maxRecDepth 100000 in
/-- the law: residual, which throws -/
theorem c_LA_residual_x3 (l : Launch) (hl9 : l.stackTraces = false) (dC : Nat → ClassId) (dI : Nat → Nat → Nat) (sz : Nat) (h0 : Nat) (gm : Nat) (gp : Nat) (go : Nat) (gs : Nat) (gl : Nat) (gd : Nat) (su : Nat) (sp : Nat) (sm : Nat) (se : Nat) (m0 : Nat) (m1 : Nat) (m2 : Nat) (ca : ClassId) (cm : ClassId) (cm0 : ClassId) (cm1 : ClassId) (cm2 : ClassId) (cq : ClassId) (S : sr_St) (sf : Nat → Int64) (qx : Nat) (qy : Nat) (qz : Nat) (qu : Nat) (qv : Nat) (qw : Nat) (qp : Nat) (qe : Nat) (no : Nat) (i0 : Int32) (i1 : Int32) (ow : Nat) (co : ClassId) (fo : Nat → Int64) (hno : no ≤ 20) (hv : xin i0 no) (hvj : xin i1 3) (hm : ¬ st_md S = 0) (hc : st_sc S ≤ 20) (hvk : ¬ xin i0 (st_sc S)) : Met l xy_LA_residual xw_LA_residual ({ frames := 7, cells := 1, slots := 6, locals := 104 }) (xp_x [.ref h0, .int i0, .int i1, .ref ow] sz (dC, dI) xCl [(h0, .inr (0, [.ref gm, .ref gp, .ref go, .ref gs, .ref gl, .ref gd])), (gs, .inr (4, [.ref su, .ref sp, .ref sm, .ref se, .long (st_dv S), .int (st_ht S), .int (nI (st_sc S)), .int (st_md S)])), (sp, .inl (ca, 4, .inr (.inl (st_fa S)))), (sm, .inl (cm, 3, .inr (.inr (.inr (.inr (xm_3 m0 m1 m2)))))), (m0, .inl (cm0, 20, .inl (st_n0 S))), (m1, .inl (cm1, 20, .inl (st_n1 S))), (m2, .inl (cm2, 20, .inl (st_n2 S))), (se, .inl (cq, 20, .inl (st_fq S))), (su, .inr (3, [.long (sf 1), .long (sf 2), .long (sf 3), .long (sf 4), .long (sf 5), .long (sf 6), .long (sf 7), .long (sf 8), .long (sf 9)])), (go, .inr (2, [.ref qx, .ref qy, .ref qz, .ref qu, .ref qv, .ref qw, .ref qp, .ref qe, .int (nI no)])), (ow, .inl (co, 1, .inr (.inl fo)))] [(ca, .long), (cm, .array .int), (cm0, .int), (cm1, .int), (cm2, .int), (cq, .boolean), (co, .long)]) (va_Qi (fun (r : Int32) (_ : Unit) => r = 1) (fun _ t => xb_w (dC, dI) xCl [(h0, .inr (0, [.ref gm, .ref gp, .ref go, .ref gs, .ref gl, .ref gd])), (gs, .inr (4, [.ref su, .ref sp, .ref sm, .ref se, .long (st_dv S), .int (st_ht S), .int (nI (st_sc S)), .int (st_md S)])), (sp, .inl (ca, 4, .inr (.inl (st_fa S)))), (sm, .inl (cm, 3, .inr (.inr (.inr (.inr (xm_3 m0 m1 m2)))))), (m0, .inl (cm0, 20, .inl (st_n0 S))), (m1, .inl (cm1, 20, .inl (st_n1 S))), (m2, .inl (cm2, 20, .inl (st_n2 S))), (se, .inl (cq, 20, .inl (st_fq S))), (su, .inr (3, [.long (sf 1), .long (sf 2), .long (sf 3), .long (sf 4), .long (sf 5), .long (sf 6), .long (sf 7), .long (sf 8), .long (sf 9)])), (go, .inr (2, [.ref qx, .ref qy, .ref qz, .ref qu, .ref qv, .ref qw, .ref qp, .ref qe, .int (nI no)])), (ow, .inl (co, 1, .inr (.inl fo)))] [(ca, .long), (cm, .array .int), (cm0, .int), (cm1, .int), (cm2, .int), (cq, .boolean), (co, .long)] (va_A [(h0, .inr (0, [.ref gm, .ref gp, .ref go, .ref gs, .ref gl, .ref gd])), (gs, .inr (4, [.ref su, .ref sp, .ref sm, .ref se, .long (st_dv S), .int (st_ht S), .int (nI (st_sc S)), .int (st_md S)])), (sp, .inl (ca, 4, .inr (.inl (st_fa S)))), (sm, .inl (cm, 3, .inr (.inr (.inr (.inr (xm_3 m0 m1 m2)))))), (m0, .inl (cm0, 20, .inl (st_n0 S))), (m1, .inl (cm1, 20, .inl (st_n1 S))), (m2, .inl (cm2, 20, .inl (st_n2 S))), (se, .inl (cq, 20, .inl (st_fq S))), (su, .inr (3, [.long (sf 1), .long (sf 2), .long (sf 3), .long (sf 4), .long (sf 5), .long (sf 6), .long (sf 7), .long (sf 8), .long (sf 9)])), (go, .inr (2, [.ref qx, .ref qy, .ref qz, .ref qu, .ref qv, .ref qw, .ref qp, .ref qe, .int (nI no)])), (ow, .inl (co, 1, .inr (.inl fo)))] sz) t) (va_A [(h0, .inr (0, [.ref gm, .ref gp, .ref go, .ref gs, .ref gl, .ref gd])), (gs, .inr (4, [.ref su, .ref sp, .ref sm, .ref se, .long (st_dv S), .int (st_ht S), .int (nI (st_sc S)), .int (st_md S)])), (sp, .inl (ca, 4, .inr (.inl (st_fa S)))), (sm, .inl (cm, 3, .inr (.inr (.inr (.inr (xm_3 m0 m1 m2)))))), (m0, .inl (cm0, 20, .inl (st_n0 S))), (m1, .inl (cm1, 20, .inl (st_n1 S))), (m2, .inl (cm2, 20, .inl (st_n2 S))), (se, .inl (cq, 20, .inl (st_fq S))), (su, .inr (3, [.long (sf 1), .long (sf 2), .long (sf 3), .long (sf 4), .long (sf 5), .long (sf 6), .long (sf 7), .long (sf 8), .long (sf 9)])), (go, .inr (2, [.ref qx, .ref qy, .ref qz, .ref qu, .ref qv, .ref qw, .ref qp, .ref qe, .int (nI no)])), (ow, .inl (co, 1, .inr (.inl fo)))] sz)) 1 6 (va_A [(h0, .inr (0, [.ref gm, .ref gp, .ref go, .ref gs, .ref gl, .ref gd])), (gs, .inr (4, [.ref su, .ref sp, .ref sm, .ref se, .long (st_dv S), .int (st_ht S), .int (nI (st_sc S)), .int (st_md S)])), (sp, .inl (ca, 4, .inr (.inl (st_fa S)))), (sm, .inl (cm, 3, .inr (.inr (.inr (.inr (xm_3 m0 m1 m2)))))), (m0, .inl (cm0, 20, .inl (st_n0 S))), (m1, .inl (cm1, 20, .inl (st_n1 S))), (m2, .inl (cm2, 20, .inl (st_n2 S))), (se, .inl (cq, 20, .inl (st_fq S))), (su, .inr (3, [.long (sf 1), .long (sf 2), .long (sf 3), .long (sf 4), .long (sf 5), .long (sf 6), .long (sf 7), .long (sf 8), .long (sf 9)])), (go, .inr (2, [.ref qx, .ref qy, .ref qz, .ref qu, .ref qv, .ref qw, .ref qp, .ref qe, .int (nI no)])), (ow, .inl (co, 1, .inr (.inl fo)))] sz) := by
  refine va_MetW (cc := method_8_code) (maxL := 5) (ret := (some .int)) (by decide) rfl ?_
  intro p e s m args below meth c s₁ B hml hv
  obtain ⟨rfl, hsz, hz, hH, hP, hK, hD0⟩ := hv
  have hx := B.exec
  have hb := B.bytes
  have hr := B.returns
  have hts := atoms_spec (ws := xw_LA_residual) B.pre
  have hown : s.vm.findClass xR_LA = some m.cls := findClass_of_methodNamed B.named
  have hlocks := B.notSynchronized
  have htab := xt_table B (hts _ List.mem_cons_self)
  subst hsz
  have hD := hD0.self (sz := s.heap.size)
  generalize hAe : va_A [(h0, .inr (0, [.ref gm, .ref gp, .ref go, .ref gs, .ref gl, .ref gd])), (gs, .inr (4, [.ref su, .ref sp, .ref sm, .ref se, .long (st_dv S), .int (st_ht S), .int (nI (st_sc S)), .int (st_md S)])), (sp, .inl (ca, 4, .inr (.inl (st_fa S)))), (sm, .inl (cm, 3, .inr (.inr (.inr (.inr (xm_3 m0 m1 m2)))))), (m0, .inl (cm0, 20, .inl (st_n0 S))), (m1, .inl (cm1, 20, .inl (st_n1 S))), (m2, .inl (cm2, 20, .inl (st_n2 S))), (se, .inl (cq, 20, .inl (st_fq S))), (su, .inr (3, [.long (sf 1), .long (sf 2), .long (sf 3), .long (sf 4), .long (sf 5), .long (sf 6), .long (sf 7), .long (sf 8), .long (sf 9)])), (go, .inr (2, [.ref qx, .ref qy, .ref qz, .ref qu, .ref qv, .ref qw, .ref qp, .ref qe, .int (nI no)])), (ow, .inl (co, 1, .inr (.inl fo)))] s.heap.size = A at hD ⊢
  have hA : ∀ q : Nat, s.heap.size ≤ q → A q := fun q h => by rw [← hAe]; exact Or.inr h
  have hS : va_S A s.heap s.heap [] := va_S.rf
  have hP : va_P (dC, dI) xCl [(h0, .inr (0, [.ref gm, .ref gp, .ref go, .ref gs, .ref gl, .ref gd])), (gs, .inr (4, [.ref su, .ref sp, .ref sm, .ref se, .long (st_dv S), .int (st_ht S), .int (nI (st_sc S)), .int (st_md S)])), (sp, .inl (ca, 4, .inr (.inl (st_fa S)))), (sm, .inl (cm, 3, .inr (.inr (.inr (.inr (xm_3 m0 m1 m2)))))), (m0, .inl (cm0, 20, .inl (st_n0 S))), (m1, .inl (cm1, 20, .inl (st_n1 S))), (m2, .inl (cm2, 20, .inl (st_n2 S))), (se, .inl (cq, 20, .inl (st_fq S))), (su, .inr (3, [.long (sf 1), .long (sf 2), .long (sf 3), .long (sf 4), .long (sf 5), .long (sf 6), .long (sf 7), .long (sf 8), .long (sf 9)])), (go, .inr (2, [.ref qx, .ref qy, .ref qz, .ref qu, .ref qv, .ref qw, .ref qp, .ref qe, .int (nI no)])), (ow, .inl (co, 1, .inr (.inl fo)))] s.heap := hP
  have hl := lv_entry ([.ref h0, .int i0, .int i1, .ref ow]) (n := 5) (Nat.le_of_ble_eq_true rfl)
  rw [lg_entry_eq]
  generalize (lg_sl ([.ref h0, .int i0, .int i1, .ref ow]) ++ List.replicate (5 - (lg_sl ([.ref h0, .int i0, .int i1, .ref ow])).length) Slot.unset).toArray = ls at hl ⊢
  have hl : lv_has ls 5 [(0, .ref h0), (1, .int i0), (2, .int i1), (3, .ref ow)] := hl
  refine lv_aload_n hx hb d_LA_residual_0 rfl (lv_at hl 3 rfl) ?_
  refine lv_iconst (v := 0) hx hb d_LA_residual_1 (by decide) ?_
  refine lv_aload_n hx hb d_LA_residual_2 rfl (lv_at hl 0 rfl) ?_
  refine lv_iload_n hx hb d_LA_residual_3 rfl (lv_at hl 1 rfl) ?_
  refine lv_iload_n hx hb d_LA_residual_4 rfl (lv_at hl 2 rfl) ?_
  have hPc := hP.sub (ws' := [(h0, .inr (0, [.ref gm, .ref gp, .ref go, .ref gs, .ref gl, .ref gd])), (gs, .inr (4, [.ref su, .ref sp, .ref sm, .ref se, .long (st_dv S), .int (st_ht S), .int (nI (st_sc S)), .int (st_md S)])), (sp, .inl (ca, 4, .inr (.inl (st_fa S)))), (sm, .inl (cm, 3, .inr (.inr (.inr (.inr (xm_3 m0 m1 m2)))))), (m0, .inl (cm0, 20, .inl (st_n0 S))), (m1, .inl (cm1, 20, .inl (st_n1 S))), (m2, .inl (cm2, 20, .inl (st_n2 S))), (se, .inl (cq, 20, .inl (st_fq S))), (su, .inr (3, [.long (sf 1), .long (sf 2), .long (sf 3), .long (sf 4), .long (sf 5), .long (sf 6), .long (sf 7), .long (sf 8), .long (sf 9)])), (go, .inr (2, [.ref qx, .ref qy, .ref qz, .ref qu, .ref qv, .ref qw, .ref qp, .ref qe, .int (nI no)]))]) [0, 1, 2, 3, 4, 5, 6, 7, 8, 9] rfl
  have hKc := hK.sub (tys' := [(ca, .long), (cm, .array .int), (cm0, .int), (cm1, .int), (cm2, .int), (cq, .boolean)]) [0, 1, 2, 3, 4, 5] rfl
  refine xt_catchV (As := [.int i0, .int i1]) (rest := [.int 0, .ref ow]) (name := "java/lang/IndexOutOfBoundsException") ⟨hx, hb, hml, hown, hts⟩ (c_SR_residual_x3 l hl9 dC dI h0 gm gp go gs gl gd su sp sm se m0 m1 m2 ca cm cm0 cm1 cm2 cq S sf qx qy qz qu qv qw qp qe no i0 i1 hno hv hvj hm hc hvk) (cwV 2 hts (xgV wm_549 wm_550 wm_551 wm_26 wm_552) rfl rfl rfl (by decide +kernel) ⟨Nat.le_of_ble_eq_true rfl, Nat.le_of_ble_eq_true rfl⟩) ⟨xt_blind, va_recv hKc hPc (ci := 0) (q0 := 0) rfl rfl, fun U hU hW => ⟨rfl, hz.warm hW, hH.same hW hU, by rw [hU]; exact hPc, va_K.moved hW.alike hKc⟩⟩ rfl hl.1 rfl (Nat.le_of_ble_eq_true rfl) d_LA_residual_5 ⟨Nat.le_of_ble_eq_true rfl, Nat.le_of_ble_eq_true rfl⟩ (tableOf []) ⟨0, 10, 13, 21⟩ (tableOf [(0, 10, 17, 13)]) htab (fun z hz9 => nomatch hz9) (by decide) (by decide) (hts _ (List.mem_cons_of_mem _ wm_485)) (va_Nw.use rfl (hz.face xc_IndexOutOfBoundsException)) (fun q_1 H hsz9 hkp9 => ?_)
  have hP := xt_keepP hP hkp9
  have hS := xt_keepS hS hsz9 hkp9
  refine W.widen (k := 1) (n := 6) (by decide) (by decide) ?_
  refine lv_astore (lv' := [(4, .ref q_1), (0, .ref h0), (1, .int i0), (2, .int i1), (3, .ref ow)]) hx hb d_LA_residual_13 hl (by decide) rfl (fun ls hl => ?_)
  refine lv_iconst (v := 1) hx hb d_LA_residual_15 (by decide) ?_
  have hP9 := hP.sub (ws' := [(h0, .inr (0, [.ref gm, .ref gp, .ref go, .ref gs, .ref gl, .ref gd])), (gs, .inr (4, [.ref su, .ref sp, .ref sm, .ref se, .long (st_dv S), .int (st_ht S), .int (nI (st_sc S)), .int (st_md S)])), (sp, .inl (ca, 4, .inr (.inl (st_fa S)))), (sm, .inl (cm, 3, .inr (.inr (.inr (.inr (xm_3 m0 m1 m2)))))), (m0, .inl (cm0, 20, .inl (st_n0 S))), (m1, .inl (cm1, 20, .inl (st_n1 S))), (m2, .inl (cm2, 20, .inl (st_n2 S))), (se, .inl (cq, 20, .inl (st_fq S))), (su, .inr (3, [.long (sf 1), .long (sf 2), .long (sf 3), .long (sf 4), .long (sf 5), .long (sf 6), .long (sf 7), .long (sf 8), .long (sf 9)])), (go, .inr (2, [.ref qx, .ref qy, .ref qz, .ref qu, .ref qv, .ref qw, .ref qp, .ref qe, .int (nI no)])), (ow, .inl (co, 1, .inr (.inl fo)))]) [0, 1, 2, 3, 4, 5, 6, 7, 8, 9, 10] rfl
  have hD9 := hD.sub (ws' := [(h0, .inr (0, [.ref gm, .ref gp, .ref go, .ref gs, .ref gl, .ref gd])), (gs, .inr (4, [.ref su, .ref sp, .ref sm, .ref se, .long (st_dv S), .int (st_ht S), .int (nI (st_sc S)), .int (st_md S)])), (sp, .inl (ca, 4, .inr (.inl (st_fa S)))), (sm, .inl (cm, 3, .inr (.inr (.inr (.inr (xm_3 m0 m1 m2)))))), (m0, .inl (cm0, 20, .inl (st_n0 S))), (m1, .inl (cm1, 20, .inl (st_n1 S))), (m2, .inl (cm2, 20, .inl (st_n2 S))), (se, .inl (cq, 20, .inl (st_fq S))), (su, .inr (3, [.long (sf 1), .long (sf 2), .long (sf 3), .long (sf 4), .long (sf 5), .long (sf 6), .long (sf 7), .long (sf 8), .long (sf 9)])), (go, .inr (2, [.ref qx, .ref qy, .ref qz, .ref qu, .ref qv, .ref qw, .ref qp, .ref qe, .int (nI no)])), (ow, .inl (co, 1, .inr (.inl fo)))]) [0, 1, 2, 3, 4, 5, 6, 7, 8, 9, 10] (by decide) rfl
  have hK9 := hK.sub (tys' := [(ca, .long), (cm, .array .int), (cm0, .int), (cm1, .int), (cm2, .int), (cq, .boolean), (co, .long)]) [0, 1, 2, 3, 4, 5, 6] rfl
  exact W.iret (v := 1) hx hb hr (fun t ht hW => ⟨⟨1, (), rfl, rfl, ⟨by rw [ht]; exact hP9, va_K.moved hW.alike hK9, by exact hD9⟩⟩, hS.F ht⟩) hS.2.2 d_LA_residual_16 hlocks
set_option maxHeartbeats 4000000 in
set_option maxRecDepth 100000 in
/-- the law: blunders, which throws -/
theorem c_LA_blunders_x1 (l : Launch) (hl9 : l.stackTraces = false) (dC : Nat → ClassId) (dI : Nat → Nat → Nat) (sz : Nat) (h0 : Nat) (gm : Nat) (gp : Nat) (go : Nat) (gs : Nat) (gl : Nat) (gd : Nat) (a : Int32) (ow : Nat) (co : ClassId) (fo : Nat → Int64) (hn : ¬ (¬ a < 0 ∧ a ≤ 100000)) : Met l xy_LA_blunders xw_LA_blunders ({ frames := 7, cells := 1, slots := 6, locals := 106 }) (xp_x [.ref h0, .int a, .ref ow] sz (dC, dI) xCl [(h0, .inr (0, [.ref gm, .ref gp, .ref go, .ref gs, .ref gl, .ref gd])), (ow, .inl (co, 1, .inr (.inl fo)))] [(co, .long)]) (va_Qi (fun (r : Int32) (_ : Unit) => r = 1) (fun _ t => xb_w (dC, dI) xCl [(h0, .inr (0, [.ref gm, .ref gp, .ref go, .ref gs, .ref gl, .ref gd])), (ow, .inl (co, 1, .inr (.inl fo)))] [(co, .long)] (va_A [(h0, .inr (0, [.ref gm, .ref gp, .ref go, .ref gs, .ref gl, .ref gd])), (ow, .inl (co, 1, .inr (.inl fo)))] sz) t) (va_A [(h0, .inr (0, [.ref gm, .ref gp, .ref go, .ref gs, .ref gl, .ref gd])), (ow, .inl (co, 1, .inr (.inl fo)))] sz)) 1 6 (va_A [(h0, .inr (0, [.ref gm, .ref gp, .ref go, .ref gs, .ref gl, .ref gd])), (ow, .inl (co, 1, .inr (.inl fo)))] sz) := by
  refine va_MetW (cc := method_9_code) (maxL := 4) (ret := (some .int)) (by decide) rfl ?_
  intro p e s m args below meth c s₁ B hml hv
  obtain ⟨rfl, hsz, hz, hH, hP, hK, hD0⟩ := hv
  have hx := B.exec
  have hb := B.bytes
  have hr := B.returns
  have hts := atoms_spec (ws := xw_LA_blunders) B.pre
  have hown : s.vm.findClass xR_LA = some m.cls := findClass_of_methodNamed B.named
  have hlocks := B.notSynchronized
  have htab := xt_table B (hts _ List.mem_cons_self)
  subst hsz
  have hD := hD0.self (sz := s.heap.size)
  generalize hAe : va_A [(h0, .inr (0, [.ref gm, .ref gp, .ref go, .ref gs, .ref gl, .ref gd])), (ow, .inl (co, 1, .inr (.inl fo)))] s.heap.size = A at hD ⊢
  have hA : ∀ q : Nat, s.heap.size ≤ q → A q := fun q h => by rw [← hAe]; exact Or.inr h
  have hS : va_S A s.heap s.heap [] := va_S.rf
  have hP : va_P (dC, dI) xCl [(h0, .inr (0, [.ref gm, .ref gp, .ref go, .ref gs, .ref gl, .ref gd])), (ow, .inl (co, 1, .inr (.inl fo)))] s.heap := hP
  have hl := lv_entry ([.ref h0, .int a, .ref ow]) (n := 4) (Nat.le_of_ble_eq_true rfl)
  rw [lg_entry_eq]
  generalize (lg_sl ([.ref h0, .int a, .ref ow]) ++ List.replicate (4 - (lg_sl ([.ref h0, .int a, .ref ow])).length) Slot.unset).toArray = ls at hl ⊢
  have hl : lv_has ls 4 [(0, .ref h0), (1, .int a), (2, .ref ow)] := hl
  refine lv_aload_n hx hb d_LA_blunders_0 rfl (lv_at hl 2 rfl) ?_
  refine lv_iconst (v := 0) hx hb d_LA_blunders_1 (by decide) ?_
  refine lv_aload_n hx hb d_LA_blunders_2 rfl (lv_at hl 0 rfl) ?_
  refine lv_iload_n hx hb d_LA_blunders_3 rfl (lv_at hl 1 rfl) ?_
  have hPc := hP.sub (ws' := [(h0, .inr (0, [.ref gm, .ref gp, .ref go, .ref gs, .ref gl, .ref gd]))]) [0] rfl
  have hKc := hK.sub (tys' := []) [] rfl
  refine xt_catchV (As := [.int a]) (rest := [.int 0, .ref ow]) (name := "java/lang/IllegalArgumentException") ⟨hx, hb, hml, hown, hts⟩ (c_SR_blunders_x1 l hl9 dC dI h0 gm gp go gs gl gd a hn) (cwV 1 hts (xgV wm_565 wm_566 wm_567 wm_26 wm_568) rfl rfl rfl (by decide +kernel) ⟨Nat.le_of_ble_eq_true rfl, Nat.le_of_ble_eq_true rfl⟩) ⟨xt_blind, va_recv hKc hPc (ci := 0) (q0 := 0) rfl rfl, fun U hU hW => ⟨rfl, hz.warm hW, hH.same hW hU, by rw [hU]; exact hPc, va_K.moved hW.alike hKc⟩⟩ rfl hl.1 rfl (Nat.le_of_ble_eq_true rfl) d_LA_blunders_4 ⟨Nat.le_of_ble_eq_true rfl, Nat.le_of_ble_eq_true rfl⟩ (tableOf []) ⟨0, 9, 12, 15⟩ (tableOf []) htab (fun z hz9 => nomatch hz9) (by decide) (by decide) (hts _ (List.mem_cons_of_mem _ wm_385)) (va_Nw.use rfl (hz.face xc_IllegalArgumentException)) (fun q_1 H hsz9 hkp9 => ?_)
  have hP := xt_keepP hP hkp9
  have hS := xt_keepS hS hsz9 hkp9
  refine W.widen (k := 1) (n := 6) (by decide) (by decide) ?_
  refine lv_astore_n (lv' := [(3, .ref q_1), (0, .ref h0), (1, .int a), (2, .ref ow)]) hx hb d_LA_blunders_12 rfl hl (by decide) rfl (fun ls hl => ?_)
  refine lv_iconst (v := 1) hx hb d_LA_blunders_13 (by decide) ?_
  have hP9 := hP.sub (ws' := [(h0, .inr (0, [.ref gm, .ref gp, .ref go, .ref gs, .ref gl, .ref gd])), (ow, .inl (co, 1, .inr (.inl fo)))]) [0, 1] rfl
  have hD9 := hD.sub (ws' := [(h0, .inr (0, [.ref gm, .ref gp, .ref go, .ref gs, .ref gl, .ref gd])), (ow, .inl (co, 1, .inr (.inl fo)))]) [0, 1] (by decide) rfl
  have hK9 := hK.sub (tys' := [(co, .long)]) [0] rfl
  exact W.iret (v := 1) hx hb hr (fun t ht hW => ⟨⟨1, (), rfl, rfl, ⟨by rw [ht]; exact hP9, va_K.moved hW.alike hK9, by exact hD9⟩⟩, hS.F ht⟩) hS.2.2 d_LA_blunders_14 hlocks
set_option maxHeartbeats 4000000 in
set_option maxRecDepth 100000 in
/-- the law: sum, which throws -/
theorem c_LA_sum_x1 (l : Launch) (hl9 : l.stackTraces = false) (dC : Nat → ClassId) (dI : Nat → Nat → Nat) (sz : Nat) (h0 : Nat) (gm : Nat) (gp : Nat) (go : Nat) (gs : Nat) (gl : Nat) (gd : Nat) (su : Nat) (sp : Nat) (sm : Nat) (se : Nat) (m0 : Nat) (m1 : Nat) (m2 : Nat) (ca : ClassId) (cm : ClassId) (cm0 : ClassId) (cm1 : ClassId) (cm2 : ClassId) (cq : ClassId) (S : sr_St) (sf : Nat → Int64) (ow : Nat) (co : ClassId) (fo : Nat → Int64) (hm : st_md S = 0) : Met l xy_LA_sum xw_LA_sum ({ frames := 7, cells := 1, slots := 6, locals := 102 }) (xp_x [.ref h0, .ref ow] sz (dC, dI) xCl [(h0, .inr (0, [.ref gm, .ref gp, .ref go, .ref gs, .ref gl, .ref gd])), (gs, .inr (4, [.ref su, .ref sp, .ref sm, .ref se, .long (st_dv S), .int (st_ht S), .int (nI (st_sc S)), .int (st_md S)])), (sp, .inl (ca, 4, .inr (.inl (st_fa S)))), (sm, .inl (cm, 3, .inr (.inr (.inr (.inr (xm_3 m0 m1 m2)))))), (m0, .inl (cm0, 20, .inl (st_n0 S))), (m1, .inl (cm1, 20, .inl (st_n1 S))), (m2, .inl (cm2, 20, .inl (st_n2 S))), (se, .inl (cq, 20, .inl (st_fq S))), (su, .inr (3, [.long (sf 1), .long (sf 2), .long (sf 3), .long (sf 4), .long (sf 5), .long (sf 6), .long (sf 7), .long (sf 8), .long (sf 9)])), (ow, .inl (co, 1, .inr (.inl fo)))] [(ca, .long), (cm, .array .int), (cm0, .int), (cm1, .int), (cm2, .int), (cq, .boolean), (co, .long)]) (va_Qi (fun (r : Int32) (_ : Unit) => r = 1) (fun _ t => xb_w (dC, dI) xCl [(h0, .inr (0, [.ref gm, .ref gp, .ref go, .ref gs, .ref gl, .ref gd])), (gs, .inr (4, [.ref su, .ref sp, .ref sm, .ref se, .long (st_dv S), .int (st_ht S), .int (nI (st_sc S)), .int (st_md S)])), (sp, .inl (ca, 4, .inr (.inl (st_fa S)))), (sm, .inl (cm, 3, .inr (.inr (.inr (.inr (xm_3 m0 m1 m2)))))), (m0, .inl (cm0, 20, .inl (st_n0 S))), (m1, .inl (cm1, 20, .inl (st_n1 S))), (m2, .inl (cm2, 20, .inl (st_n2 S))), (se, .inl (cq, 20, .inl (st_fq S))), (su, .inr (3, [.long (sf 1), .long (sf 2), .long (sf 3), .long (sf 4), .long (sf 5), .long (sf 6), .long (sf 7), .long (sf 8), .long (sf 9)])), (ow, .inl (co, 1, .inr (.inl fo)))] [(ca, .long), (cm, .array .int), (cm0, .int), (cm1, .int), (cm2, .int), (cq, .boolean), (co, .long)] (va_A [(h0, .inr (0, [.ref gm, .ref gp, .ref go, .ref gs, .ref gl, .ref gd])), (gs, .inr (4, [.ref su, .ref sp, .ref sm, .ref se, .long (st_dv S), .int (st_ht S), .int (nI (st_sc S)), .int (st_md S)])), (sp, .inl (ca, 4, .inr (.inl (st_fa S)))), (sm, .inl (cm, 3, .inr (.inr (.inr (.inr (xm_3 m0 m1 m2)))))), (m0, .inl (cm0, 20, .inl (st_n0 S))), (m1, .inl (cm1, 20, .inl (st_n1 S))), (m2, .inl (cm2, 20, .inl (st_n2 S))), (se, .inl (cq, 20, .inl (st_fq S))), (su, .inr (3, [.long (sf 1), .long (sf 2), .long (sf 3), .long (sf 4), .long (sf 5), .long (sf 6), .long (sf 7), .long (sf 8), .long (sf 9)])), (ow, .inl (co, 1, .inr (.inl fo)))] sz) t) (va_A [(h0, .inr (0, [.ref gm, .ref gp, .ref go, .ref gs, .ref gl, .ref gd])), (gs, .inr (4, [.ref su, .ref sp, .ref sm, .ref se, .long (st_dv S), .int (st_ht S), .int (nI (st_sc S)), .int (st_md S)])), (sp, .inl (ca, 4, .inr (.inl (st_fa S)))), (sm, .inl (cm, 3, .inr (.inr (.inr (.inr (xm_3 m0 m1 m2)))))), (m0, .inl (cm0, 20, .inl (st_n0 S))), (m1, .inl (cm1, 20, .inl (st_n1 S))), (m2, .inl (cm2, 20, .inl (st_n2 S))), (se, .inl (cq, 20, .inl (st_fq S))), (su, .inr (3, [.long (sf 1), .long (sf 2), .long (sf 3), .long (sf 4), .long (sf 5), .long (sf 6), .long (sf 7), .long (sf 8), .long (sf 9)])), (ow, .inl (co, 1, .inr (.inl fo)))] sz)) 1 6 (va_A [(h0, .inr (0, [.ref gm, .ref gp, .ref go, .ref gs, .ref gl, .ref gd])), (gs, .inr (4, [.ref su, .ref sp, .ref sm, .ref se, .long (st_dv S), .int (st_ht S), .int (nI (st_sc S)), .int (st_md S)])), (sp, .inl (ca, 4, .inr (.inl (st_fa S)))), (sm, .inl (cm, 3, .inr (.inr (.inr (.inr (xm_3 m0 m1 m2)))))), (m0, .inl (cm0, 20, .inl (st_n0 S))), (m1, .inl (cm1, 20, .inl (st_n1 S))), (m2, .inl (cm2, 20, .inl (st_n2 S))), (se, .inl (cq, 20, .inl (st_fq S))), (su, .inr (3, [.long (sf 1), .long (sf 2), .long (sf 3), .long (sf 4), .long (sf 5), .long (sf 6), .long (sf 7), .long (sf 8), .long (sf 9)])), (ow, .inl (co, 1, .inr (.inl fo)))] sz) := by
  refine va_MetW (cc := method_10_code) (maxL := 3) (ret := (some .int)) (by decide) rfl ?_
  intro p e s m args below meth c s₁ B hml hv
  obtain ⟨rfl, hsz, hz, hH, hP, hK, hD0⟩ := hv
  have hx := B.exec
  have hb := B.bytes
  have hr := B.returns
  have hts := atoms_spec (ws := xw_LA_sum) B.pre
  have hown : s.vm.findClass xR_LA = some m.cls := findClass_of_methodNamed B.named
  have hlocks := B.notSynchronized
  have htab := xt_table B (hts _ List.mem_cons_self)
  subst hsz
  have hD := hD0.self (sz := s.heap.size)
  generalize hAe : va_A [(h0, .inr (0, [.ref gm, .ref gp, .ref go, .ref gs, .ref gl, .ref gd])), (gs, .inr (4, [.ref su, .ref sp, .ref sm, .ref se, .long (st_dv S), .int (st_ht S), .int (nI (st_sc S)), .int (st_md S)])), (sp, .inl (ca, 4, .inr (.inl (st_fa S)))), (sm, .inl (cm, 3, .inr (.inr (.inr (.inr (xm_3 m0 m1 m2)))))), (m0, .inl (cm0, 20, .inl (st_n0 S))), (m1, .inl (cm1, 20, .inl (st_n1 S))), (m2, .inl (cm2, 20, .inl (st_n2 S))), (se, .inl (cq, 20, .inl (st_fq S))), (su, .inr (3, [.long (sf 1), .long (sf 2), .long (sf 3), .long (sf 4), .long (sf 5), .long (sf 6), .long (sf 7), .long (sf 8), .long (sf 9)])), (ow, .inl (co, 1, .inr (.inl fo)))] s.heap.size = A at hD ⊢
  have hA : ∀ q : Nat, s.heap.size ≤ q → A q := fun q h => by rw [← hAe]; exact Or.inr h
  have hS : va_S A s.heap s.heap [] := va_S.rf
  have hP : va_P (dC, dI) xCl [(h0, .inr (0, [.ref gm, .ref gp, .ref go, .ref gs, .ref gl, .ref gd])), (gs, .inr (4, [.ref su, .ref sp, .ref sm, .ref se, .long (st_dv S), .int (st_ht S), .int (nI (st_sc S)), .int (st_md S)])), (sp, .inl (ca, 4, .inr (.inl (st_fa S)))), (sm, .inl (cm, 3, .inr (.inr (.inr (.inr (xm_3 m0 m1 m2)))))), (m0, .inl (cm0, 20, .inl (st_n0 S))), (m1, .inl (cm1, 20, .inl (st_n1 S))), (m2, .inl (cm2, 20, .inl (st_n2 S))), (se, .inl (cq, 20, .inl (st_fq S))), (su, .inr (3, [.long (sf 1), .long (sf 2), .long (sf 3), .long (sf 4), .long (sf 5), .long (sf 6), .long (sf 7), .long (sf 8), .long (sf 9)])), (ow, .inl (co, 1, .inr (.inl fo)))] s.heap := hP
  have hl := lv_entry ([.ref h0, .ref ow]) (n := 3) (Nat.le_of_ble_eq_true rfl)
  rw [lg_entry_eq]
  generalize (lg_sl ([.ref h0, .ref ow]) ++ List.replicate (3 - (lg_sl ([.ref h0, .ref ow])).length) Slot.unset).toArray = ls at hl ⊢
  have hl : lv_has ls 3 [(0, .ref h0), (1, .ref ow)] := hl
  refine lv_aload_n hx hb d_LA_sum_0 rfl (lv_at hl 1 rfl) ?_
  refine lv_iconst (v := 0) hx hb d_LA_sum_1 (by decide) ?_
  refine lv_aload_n hx hb d_LA_sum_2 rfl (lv_at hl 0 rfl) ?_
  have hPc := hP.sub (ws' := [(h0, .inr (0, [.ref gm, .ref gp, .ref go, .ref gs, .ref gl, .ref gd])), (gs, .inr (4, [.ref su, .ref sp, .ref sm, .ref se, .long (st_dv S), .int (st_ht S), .int (nI (st_sc S)), .int (st_md S)])), (sp, .inl (ca, 4, .inr (.inl (st_fa S)))), (sm, .inl (cm, 3, .inr (.inr (.inr (.inr (xm_3 m0 m1 m2)))))), (m0, .inl (cm0, 20, .inl (st_n0 S))), (m1, .inl (cm1, 20, .inl (st_n1 S))), (m2, .inl (cm2, 20, .inl (st_n2 S))), (se, .inl (cq, 20, .inl (st_fq S))), (su, .inr (3, [.long (sf 1), .long (sf 2), .long (sf 3), .long (sf 4), .long (sf 5), .long (sf 6), .long (sf 7), .long (sf 8), .long (sf 9)]))]) [0, 1, 2, 3, 4, 5, 6, 7, 8] rfl
  have hKc := hK.sub (tys' := [(ca, .long), (cm, .array .int), (cm0, .int), (cm1, .int), (cm2, .int), (cq, .boolean)]) [0, 1, 2, 3, 4, 5] rfl
  refine xt_catchV (As := []) (rest := [.int 0, .ref ow]) (name := "java/lang/IllegalStateException") ⟨hx, hb, hml, hown, hts⟩ (c_SR_sum_x1 l hl9 dC dI h0 gm gp go gs gl gd su sp sm se m0 m1 m2 ca cm cm0 cm1 cm2 cq S sf hm) (cwV 0 hts (xgV wm_586 wm_587 wm_588 wm_26 wm_589) rfl rfl rfl (by decide +kernel) ⟨Nat.le_of_ble_eq_true rfl, Nat.le_of_ble_eq_true rfl⟩) ⟨xt_blind, va_recv hKc hPc (ci := 0) (q0 := 0) rfl rfl, fun U hU hW => ⟨rfl, hz.warm hW, hH.same hW hU, by rw [hU]; exact hPc, va_K.moved hW.alike hKc⟩⟩ rfl hl.1 rfl (Nat.le_of_ble_eq_true rfl) d_LA_sum_3 ⟨Nat.le_of_ble_eq_true rfl, Nat.le_of_ble_eq_true rfl⟩ (tableOf []) ⟨0, 7, 10, 13⟩ (tableOf []) htab (fun z hz9 => nomatch hz9) (by decide) (by decide) (hts _ (List.mem_cons_of_mem _ wm_384)) (va_Nw.use rfl (hz.face xc_IllegalStateException)) (fun q_1 H hsz9 hkp9 => ?_)
  have hP := xt_keepP hP hkp9
  have hS := xt_keepS hS hsz9 hkp9
  refine W.widen (k := 1) (n := 6) (by decide) (by decide) ?_
  refine lv_astore_n (lv' := [(2, .ref q_1), (0, .ref h0), (1, .ref ow)]) hx hb d_LA_sum_10 rfl hl (by decide) rfl (fun ls hl => ?_)
  refine lv_iconst (v := 1) hx hb d_LA_sum_11 (by decide) ?_
  have hP9 := hP.sub (ws' := [(h0, .inr (0, [.ref gm, .ref gp, .ref go, .ref gs, .ref gl, .ref gd])), (gs, .inr (4, [.ref su, .ref sp, .ref sm, .ref se, .long (st_dv S), .int (st_ht S), .int (nI (st_sc S)), .int (st_md S)])), (sp, .inl (ca, 4, .inr (.inl (st_fa S)))), (sm, .inl (cm, 3, .inr (.inr (.inr (.inr (xm_3 m0 m1 m2)))))), (m0, .inl (cm0, 20, .inl (st_n0 S))), (m1, .inl (cm1, 20, .inl (st_n1 S))), (m2, .inl (cm2, 20, .inl (st_n2 S))), (se, .inl (cq, 20, .inl (st_fq S))), (su, .inr (3, [.long (sf 1), .long (sf 2), .long (sf 3), .long (sf 4), .long (sf 5), .long (sf 6), .long (sf 7), .long (sf 8), .long (sf 9)])), (ow, .inl (co, 1, .inr (.inl fo)))]) [0, 1, 2, 3, 4, 5, 6, 7, 8, 9] rfl
  have hD9 := hD.sub (ws' := [(h0, .inr (0, [.ref gm, .ref gp, .ref go, .ref gs, .ref gl, .ref gd])), (gs, .inr (4, [.ref su, .ref sp, .ref sm, .ref se, .long (st_dv S), .int (st_ht S), .int (nI (st_sc S)), .int (st_md S)])), (sp, .inl (ca, 4, .inr (.inl (st_fa S)))), (sm, .inl (cm, 3, .inr (.inr (.inr (.inr (xm_3 m0 m1 m2)))))), (m0, .inl (cm0, 20, .inl (st_n0 S))), (m1, .inl (cm1, 20, .inl (st_n1 S))), (m2, .inl (cm2, 20, .inl (st_n2 S))), (se, .inl (cq, 20, .inl (st_fq S))), (su, .inr (3, [.long (sf 1), .long (sf 2), .long (sf 3), .long (sf 4), .long (sf 5), .long (sf 6), .long (sf 7), .long (sf 8), .long (sf 9)])), (ow, .inl (co, 1, .inr (.inl fo)))]) [0, 1, 2, 3, 4, 5, 6, 7, 8, 9] (by decide) rfl
  have hK9 := hK.sub (tys' := [(ca, .long), (cm, .array .int), (cm0, .int), (cm1, .int), (cm2, .int), (cq, .boolean), (co, .long)]) [0, 1, 2, 3, 4, 5, 6] rfl
  exact W.iret (v := 1) hx hb hr (fun t ht hW => ⟨⟨1, (), rfl, rfl, ⟨by rw [ht]; exact hP9, va_K.moved hW.alike hK9, by exact hD9⟩⟩, hS.F ht⟩) hS.2.2 d_LA_sum_12 hlocks
set_option maxHeartbeats 4000000 in
set_option maxRecDepth 100000 in
/-- the law: point, which throws -/
theorem c_LA_point_x1 (l : Launch) (hl9 : l.stackTraces = false) (dC : Nat → ClassId) (dI : Nat → Nat → Nat) (sz : Nat) (h0 : Nat) (gm : Nat) (gp : Nat) (go : Nat) (gs : Nat) (gl : Nat) (gd : Nat) (pa : Nat) (pb : Nat) (pd : Nat) (np : Nat) (la : ClassId) (lb : ClassId) (ld : ClassId) (px : Nat → Int32) (py : Nat → Int32) (pz : Nat → Int32) (a : Int32) (b : Int32) (d : Int32) (ow : Nat) (co : ClassId) (fo : Nat → Int64) (hc : np ≤ 30) (hf : 30 ≤ np) : Met l xy_LA_point xw_LA_point ({ frames := 7, cells := 1, slots := 6, locals := 105 }) (xp_x [.ref h0, .int a, .int b, .int d, .ref ow] sz (dC, dI) xCl [(h0, .inr (0, [.ref gm, .ref gp, .ref go, .ref gs, .ref gl, .ref gd])), (gp, .inr (1, [.ref pa, .ref pb, .ref pd, .int (nI np)])), (pa, .inl (la, 30, .inl px)), (pb, .inl (lb, 30, .inl py)), (pd, .inl (ld, 30, .inl pz)), (ow, .inl (co, 1, .inr (.inl fo)))] [(la, .int), (lb, .int), (ld, .int), (co, .long)]) (va_Qi (fun (r : Int32) (_ : Unit) => r = 1) (fun _ t => xb_w (dC, dI) xCl [(h0, .inr (0, [.ref gm, .ref gp, .ref go, .ref gs, .ref gl, .ref gd])), (gp, .inr (1, [.ref pa, .ref pb, .ref pd, .int (nI np)])), (pa, .inl (la, 30, .inl px)), (pb, .inl (lb, 30, .inl py)), (pd, .inl (ld, 30, .inl pz)), (ow, .inl (co, 1, .inr (.inl fo)))] [(la, .int), (lb, .int), (ld, .int), (co, .long)] (va_A [(h0, .inr (0, [.ref gm, .ref gp, .ref go, .ref gs, .ref gl, .ref gd])), (gp, .inr (1, [.ref pa, .ref pb, .ref pd, .int (nI np)])), (pa, .inl (la, 30, .inl px)), (pb, .inl (lb, 30, .inl py)), (pd, .inl (ld, 30, .inl pz)), (ow, .inl (co, 1, .inr (.inl fo)))] sz) t) (va_A [(h0, .inr (0, [.ref gm, .ref gp, .ref go, .ref gs, .ref gl, .ref gd])), (gp, .inr (1, [.ref pa, .ref pb, .ref pd, .int (nI np)])), (pa, .inl (la, 30, .inl px)), (pb, .inl (lb, 30, .inl py)), (pd, .inl (ld, 30, .inl pz)), (ow, .inl (co, 1, .inr (.inl fo)))] sz)) 1 6 (va_A [(h0, .inr (0, [.ref gm, .ref gp, .ref go, .ref gs, .ref gl, .ref gd])), (gp, .inr (1, [.ref pa, .ref pb, .ref pd, .int (nI np)])), (pa, .inl (la, 30, .inl px)), (pb, .inl (lb, 30, .inl py)), (pd, .inl (ld, 30, .inl pz)), (ow, .inl (co, 1, .inr (.inl fo)))] sz) := by
  refine va_MetW (cc := method_11_code) (maxL := 6) (ret := (some .int)) (by decide) rfl ?_
  intro p e s m args below meth c s₁ B hml hv
  obtain ⟨rfl, hsz, hz, hH, hP, hK, hD0⟩ := hv
  have hx := B.exec
  have hb := B.bytes
  have hr := B.returns
  have hts := atoms_spec (ws := xw_LA_point) B.pre
  have hown : s.vm.findClass xR_LA = some m.cls := findClass_of_methodNamed B.named
  have hlocks := B.notSynchronized
  have htab := xt_table B (hts _ List.mem_cons_self)
  subst hsz
  have hD := hD0.self (sz := s.heap.size)
  generalize hAe : va_A [(h0, .inr (0, [.ref gm, .ref gp, .ref go, .ref gs, .ref gl, .ref gd])), (gp, .inr (1, [.ref pa, .ref pb, .ref pd, .int (nI np)])), (pa, .inl (la, 30, .inl px)), (pb, .inl (lb, 30, .inl py)), (pd, .inl (ld, 30, .inl pz)), (ow, .inl (co, 1, .inr (.inl fo)))] s.heap.size = A at hD ⊢
  have hA : ∀ q : Nat, s.heap.size ≤ q → A q := fun q h => by rw [← hAe]; exact Or.inr h
  have hS : va_S A s.heap s.heap [] := va_S.rf
  have hP : va_P (dC, dI) xCl [(h0, .inr (0, [.ref gm, .ref gp, .ref go, .ref gs, .ref gl, .ref gd])), (gp, .inr (1, [.ref pa, .ref pb, .ref pd, .int (nI np)])), (pa, .inl (la, 30, .inl px)), (pb, .inl (lb, 30, .inl py)), (pd, .inl (ld, 30, .inl pz)), (ow, .inl (co, 1, .inr (.inl fo)))] s.heap := hP
  have hl := lv_entry ([.ref h0, .int a, .int b, .int d, .ref ow]) (n := 6) (Nat.le_of_ble_eq_true rfl)
  rw [lg_entry_eq]
  generalize (lg_sl ([.ref h0, .int a, .int b, .int d, .ref ow]) ++ List.replicate (6 - (lg_sl ([.ref h0, .int a, .int b, .int d, .ref ow])).length) Slot.unset).toArray = ls at hl ⊢
  have hl : lv_has ls 6 [(0, .ref h0), (1, .int a), (2, .int b), (3, .int d), (4, .ref ow)] := hl
  refine lv_aload hx hb d_LA_point_0 (lv_at hl 4 rfl) ?_
  refine lv_iconst (v := 0) hx hb d_LA_point_2 (by decide) ?_
  refine lv_aload_n hx hb d_LA_point_3 rfl (lv_at hl 0 rfl) ?_
  refine lv_iload_n hx hb d_LA_point_4 rfl (lv_at hl 1 rfl) ?_
  refine lv_iload_n hx hb d_LA_point_5 rfl (lv_at hl 2 rfl) ?_
  refine lv_iload_n hx hb d_LA_point_6 rfl (lv_at hl 3 rfl) ?_
  have hPc := hP.sub (ws' := [(h0, .inr (0, [.ref gm, .ref gp, .ref go, .ref gs, .ref gl, .ref gd])), (gp, .inr (1, [.ref pa, .ref pb, .ref pd, .int (nI np)])), (pa, .inl (la, 30, .inl px)), (pb, .inl (lb, 30, .inl py)), (pd, .inl (ld, 30, .inl pz))]) [0, 1, 2, 3, 4] rfl
  have hKc := hK.sub (tys' := [(la, .int), (lb, .int), (ld, .int)]) [0, 1, 2] rfl
  refine xt_catchV (As := [.int a, .int b, .int d]) (rest := [.int 0, .ref ow]) (name := "java/lang/IllegalStateException") ⟨hx, hb, hml, hown, hts⟩ (c_SR_point_x1 l hl9 dC dI h0 gm gp go gs gl gd pa pb pd np la lb ld px py pz a b d hc hf) (cwV 3 hts (xgV wm_597 wm_598 wm_599 wm_26 wm_600) rfl rfl rfl (by decide +kernel) ⟨Nat.le_of_ble_eq_true rfl, Nat.le_of_ble_eq_true rfl⟩) ⟨xt_blind, va_recv hKc hPc (ci := 0) (q0 := 0) rfl rfl, fun U hU hW => ⟨rfl, hz.warm hW, hH.same hW hU, by rw [hU]; exact hPc, va_K.moved hW.alike hKc⟩⟩ rfl hl.1 rfl (Nat.le_of_ble_eq_true rfl) d_LA_point_7 ⟨Nat.le_of_ble_eq_true rfl, Nat.le_of_ble_eq_true rfl⟩ (tableOf []) ⟨0, 12, 15, 13⟩ (tableOf [(0, 12, 19, 15)]) htab (fun z hz9 => nomatch hz9) (by decide) (by decide) (hts _ (List.mem_cons_of_mem _ wm_384)) (va_Nw.use rfl (hz.face xc_IllegalStateException)) (fun q_1 H hsz9 hkp9 => ?_)
  have hP := xt_keepP hP hkp9
  have hS := xt_keepS hS hsz9 hkp9
  refine W.widen (k := 1) (n := 6) (by decide) (by decide) ?_
  refine lv_astore (lv' := [(5, .ref q_1), (0, .ref h0), (1, .int a), (2, .int b), (3, .int d), (4, .ref ow)]) hx hb d_LA_point_15 hl (by decide) rfl (fun ls hl => ?_)
  refine lv_iconst (v := 1) hx hb d_LA_point_17 (by decide) ?_
  have hP9 := hP.sub (ws' := [(h0, .inr (0, [.ref gm, .ref gp, .ref go, .ref gs, .ref gl, .ref gd])), (gp, .inr (1, [.ref pa, .ref pb, .ref pd, .int (nI np)])), (pa, .inl (la, 30, .inl px)), (pb, .inl (lb, 30, .inl py)), (pd, .inl (ld, 30, .inl pz)), (ow, .inl (co, 1, .inr (.inl fo)))]) [0, 1, 2, 3, 4, 5] rfl
  have hD9 := hD.sub (ws' := [(h0, .inr (0, [.ref gm, .ref gp, .ref go, .ref gs, .ref gl, .ref gd])), (gp, .inr (1, [.ref pa, .ref pb, .ref pd, .int (nI np)])), (pa, .inl (la, 30, .inl px)), (pb, .inl (lb, 30, .inl py)), (pd, .inl (ld, 30, .inl pz)), (ow, .inl (co, 1, .inr (.inl fo)))]) [0, 1, 2, 3, 4, 5] (by decide) rfl
  have hK9 := hK.sub (tys' := [(la, .int), (lb, .int), (ld, .int), (co, .long)]) [0, 1, 2, 3] rfl
  exact W.iret (v := 1) hx hb hr (fun t ht hW => ⟨⟨1, (), rfl, rfl, ⟨by rw [ht]; exact hP9, va_K.moved hW.alike hK9, by exact hD9⟩⟩, hS.F ht⟩) hS.2.2 d_LA_point_18 hlocks
set_option maxHeartbeats 4000000 in
set_option maxRecDepth 100000 in
/-- the law: point, which throws -/
theorem c_LA_point_x2 (l : Launch) (hl9 : l.stackTraces = false) (dC : Nat → ClassId) (dI : Nat → Nat → Nat) (sz : Nat) (h0 : Nat) (gm : Nat) (gp : Nat) (go : Nat) (gs : Nat) (gl : Nat) (gd : Nat) (pa : Nat) (pb : Nat) (pd : Nat) (np : Nat) (la : ClassId) (lb : ClassId) (ld : ClassId) (px : Nat → Int32) (py : Nat → Int32) (pz : Nat → Int32) (a : Int32) (b : Int32) (d : Int32) (ow : Nat) (co : ClassId) (fo : Nat → Int64) (hc : np < 30) (hn : ¬ (sr_near a ∧ sr_near b ∧ sr_near d)) : Met l xy_LA_point xw_LA_point ({ frames := 7, cells := 1, slots := 6, locals := 105 }) (xp_x [.ref h0, .int a, .int b, .int d, .ref ow] sz (dC, dI) xCl [(h0, .inr (0, [.ref gm, .ref gp, .ref go, .ref gs, .ref gl, .ref gd])), (gp, .inr (1, [.ref pa, .ref pb, .ref pd, .int (nI np)])), (pa, .inl (la, 30, .inl px)), (pb, .inl (lb, 30, .inl py)), (pd, .inl (ld, 30, .inl pz)), (ow, .inl (co, 1, .inr (.inl fo)))] [(la, .int), (lb, .int), (ld, .int), (co, .long)]) (va_Qi (fun (r : Int32) (_ : Unit) => r = 2) (fun _ t => xb_w (dC, dI) xCl [(h0, .inr (0, [.ref gm, .ref gp, .ref go, .ref gs, .ref gl, .ref gd])), (gp, .inr (1, [.ref pa, .ref pb, .ref pd, .int (nI np)])), (pa, .inl (la, 30, .inl px)), (pb, .inl (lb, 30, .inl py)), (pd, .inl (ld, 30, .inl pz)), (ow, .inl (co, 1, .inr (.inl fo)))] [(la, .int), (lb, .int), (ld, .int), (co, .long)] (va_A [(h0, .inr (0, [.ref gm, .ref gp, .ref go, .ref gs, .ref gl, .ref gd])), (gp, .inr (1, [.ref pa, .ref pb, .ref pd, .int (nI np)])), (pa, .inl (la, 30, .inl px)), (pb, .inl (lb, 30, .inl py)), (pd, .inl (ld, 30, .inl pz)), (ow, .inl (co, 1, .inr (.inl fo)))] sz) t) (va_A [(h0, .inr (0, [.ref gm, .ref gp, .ref go, .ref gs, .ref gl, .ref gd])), (gp, .inr (1, [.ref pa, .ref pb, .ref pd, .int (nI np)])), (pa, .inl (la, 30, .inl px)), (pb, .inl (lb, 30, .inl py)), (pd, .inl (ld, 30, .inl pz)), (ow, .inl (co, 1, .inr (.inl fo)))] sz)) 1 6 (va_A [(h0, .inr (0, [.ref gm, .ref gp, .ref go, .ref gs, .ref gl, .ref gd])), (gp, .inr (1, [.ref pa, .ref pb, .ref pd, .int (nI np)])), (pa, .inl (la, 30, .inl px)), (pb, .inl (lb, 30, .inl py)), (pd, .inl (ld, 30, .inl pz)), (ow, .inl (co, 1, .inr (.inl fo)))] sz) := by
  refine va_MetW (cc := method_11_code) (maxL := 6) (ret := (some .int)) (by decide) rfl ?_
  intro p e s m args below meth c s₁ B hml hv
  obtain ⟨rfl, hsz, hz, hH, hP, hK, hD0⟩ := hv
  have hx := B.exec
  have hb := B.bytes
  have hr := B.returns
  have hts := atoms_spec (ws := xw_LA_point) B.pre
  have hown : s.vm.findClass xR_LA = some m.cls := findClass_of_methodNamed B.named
  have hlocks := B.notSynchronized
  have htab := xt_table B (hts _ List.mem_cons_self)
  subst hsz
  have hD := hD0.self (sz := s.heap.size)
  generalize hAe : va_A [(h0, .inr (0, [.ref gm, .ref gp, .ref go, .ref gs, .ref gl, .ref gd])), (gp, .inr (1, [.ref pa, .ref pb, .ref pd, .int (nI np)])), (pa, .inl (la, 30, .inl px)), (pb, .inl (lb, 30, .inl py)), (pd, .inl (ld, 30, .inl pz)), (ow, .inl (co, 1, .inr (.inl fo)))] s.heap.size = A at hD ⊢
  have hA : ∀ q : Nat, s.heap.size ≤ q → A q := fun q h => by rw [← hAe]; exact Or.inr h
  have hS : va_S A s.heap s.heap [] := va_S.rf
  have hP : va_P (dC, dI) xCl [(h0, .inr (0, [.ref gm, .ref gp, .ref go, .ref gs, .ref gl, .ref gd])), (gp, .inr (1, [.ref pa, .ref pb, .ref pd, .int (nI np)])), (pa, .inl (la, 30, .inl px)), (pb, .inl (lb, 30, .inl py)), (pd, .inl (ld, 30, .inl pz)), (ow, .inl (co, 1, .inr (.inl fo)))] s.heap := hP
  have hl := lv_entry ([.ref h0, .int a, .int b, .int d, .ref ow]) (n := 6) (Nat.le_of_ble_eq_true rfl)
  rw [lg_entry_eq]
  generalize (lg_sl ([.ref h0, .int a, .int b, .int d, .ref ow]) ++ List.replicate (6 - (lg_sl ([.ref h0, .int a, .int b, .int d, .ref ow])).length) Slot.unset).toArray = ls at hl ⊢
  have hl : lv_has ls 6 [(0, .ref h0), (1, .int a), (2, .int b), (3, .int d), (4, .ref ow)] := hl
  refine lv_aload hx hb d_LA_point_0 (lv_at hl 4 rfl) ?_
  refine lv_iconst (v := 0) hx hb d_LA_point_2 (by decide) ?_
  refine lv_aload_n hx hb d_LA_point_3 rfl (lv_at hl 0 rfl) ?_
  refine lv_iload_n hx hb d_LA_point_4 rfl (lv_at hl 1 rfl) ?_
  refine lv_iload_n hx hb d_LA_point_5 rfl (lv_at hl 2 rfl) ?_
  refine lv_iload_n hx hb d_LA_point_6 rfl (lv_at hl 3 rfl) ?_
  have hPc := hP.sub (ws' := [(h0, .inr (0, [.ref gm, .ref gp, .ref go, .ref gs, .ref gl, .ref gd])), (gp, .inr (1, [.ref pa, .ref pb, .ref pd, .int (nI np)])), (pa, .inl (la, 30, .inl px)), (pb, .inl (lb, 30, .inl py)), (pd, .inl (ld, 30, .inl pz))]) [0, 1, 2, 3, 4] rfl
  have hKc := hK.sub (tys' := [(la, .int), (lb, .int), (ld, .int)]) [0, 1, 2] rfl
  refine xt_catchV (As := [.int a, .int b, .int d]) (rest := [.int 0, .ref ow]) (name := "java/lang/IllegalArgumentException") ⟨hx, hb, hml, hown, hts⟩ (c_SR_point_x2 l hl9 dC dI h0 gm gp go gs gl gd pa pb pd np la lb ld px py pz a b d hc hn) (cwV 3 hts (xgV wm_597 wm_598 wm_599 wm_26 wm_600) rfl rfl rfl (by decide +kernel) ⟨Nat.le_of_ble_eq_true rfl, Nat.le_of_ble_eq_true rfl⟩) ⟨xt_blind, va_recv hKc hPc (ci := 0) (q0 := 0) rfl rfl, fun U hU hW => ⟨rfl, hz.warm hW, hH.same hW hU, by rw [hU]; exact hPc, va_K.moved hW.alike hKc⟩⟩ rfl hl.1 rfl (Nat.le_of_ble_eq_true rfl) d_LA_point_7 ⟨Nat.le_of_ble_eq_true rfl, Nat.le_of_ble_eq_true rfl⟩ (tableOf [(0, 12, 15, 13)]) ⟨0, 12, 19, 15⟩ (tableOf []) htab (fun z hz9 => by
      simp only [tableOf, List.map_cons, List.map_nil, List.mem_cons, List.not_mem_nil, or_false] at hz9
      rcases hz9 with rfl
      · exact ⟨"java/lang/IllegalStateException", hz.nc (by decide +kernel), by decide, (hts _ (List.mem_cons_of_mem _ wm_384))⟩) (by decide) (by decide) (hts _ (List.mem_cons_of_mem _ wm_385)) (va_Nw.use rfl (hz.face xc_IllegalArgumentException)) (fun q_1 H hsz9 hkp9 => ?_)
  have hP := xt_keepP hP hkp9
  have hS := xt_keepS hS hsz9 hkp9
  refine W.widen (k := 1) (n := 6) (by decide) (by decide) ?_
  refine lv_astore (lv' := [(5, .ref q_1), (0, .ref h0), (1, .int a), (2, .int b), (3, .int d), (4, .ref ow)]) hx hb d_LA_point_19 hl (by decide) rfl (fun ls hl => ?_)
  refine lv_iconst (v := 2) hx hb d_LA_point_21 (by decide) ?_
  have hP9 := hP.sub (ws' := [(h0, .inr (0, [.ref gm, .ref gp, .ref go, .ref gs, .ref gl, .ref gd])), (gp, .inr (1, [.ref pa, .ref pb, .ref pd, .int (nI np)])), (pa, .inl (la, 30, .inl px)), (pb, .inl (lb, 30, .inl py)), (pd, .inl (ld, 30, .inl pz)), (ow, .inl (co, 1, .inr (.inl fo)))]) [0, 1, 2, 3, 4, 5] rfl
  have hD9 := hD.sub (ws' := [(h0, .inr (0, [.ref gm, .ref gp, .ref go, .ref gs, .ref gl, .ref gd])), (gp, .inr (1, [.ref pa, .ref pb, .ref pd, .int (nI np)])), (pa, .inl (la, 30, .inl px)), (pb, .inl (lb, 30, .inl py)), (pd, .inl (ld, 30, .inl pz)), (ow, .inl (co, 1, .inr (.inl fo)))]) [0, 1, 2, 3, 4, 5] (by decide) rfl
  have hK9 := hK.sub (tys' := [(la, .int), (lb, .int), (ld, .int), (co, .long)]) [0, 1, 2, 3] rfl
  exact W.iret (v := 2) hx hb hr (fun t ht hW => ⟨⟨2, (), rfl, rfl, ⟨by rw [ht]; exact hP9, va_K.moved hW.alike hK9, by exact hD9⟩⟩, hS.F ht⟩) hS.2.2 d_LA_point_22 hlocks
set_option maxHeartbeats 4000000 in
set_option maxRecDepth 100000 in
/-- the law: place, which throws -/
theorem c_LA_place_x1 (l : Launch) (hl9 : l.stackTraces = false) (dC : Nat → ClassId) (dI : Nat → Nat → Nat) (sz : Nat) (h0 : Nat) (gm : Nat) (gp : Nat) (go : Nat) (gs : Nat) (gl : Nat) (gd : Nat) (su : Nat) (sp : Nat) (sm : Nat) (se : Nat) (m0 : Nat) (m1 : Nat) (m2 : Nat) (ca : ClassId) (cm : ClassId) (cm0 : ClassId) (cm1 : ClassId) (cm2 : ClassId) (cq : ClassId) (S : sr_St) (sf : Nat → Int64) (pa : Nat) (pb : Nat) (pd : Nat) (np : Nat) (la : ClassId) (lb : ClassId) (ld : ClassId) (px : Nat → Int32) (py : Nat → Int32) (pz : Nat → Int32) (i0 : Int32) (i1 : Int32) (ow : Nat) (co : ClassId) (fo : Nat → Int64) (hc : np ≤ 30) (hn : ¬ (xin i0 np ∧ xin i1 3)) : Met l xy_LA_place xw_LA_place ({ frames := 7, cells := 1, slots := 6, locals := 104 }) (xp_x [.ref h0, .int i0, .int i1, .ref ow] sz (dC, dI) xCl [(h0, .inr (0, [.ref gm, .ref gp, .ref go, .ref gs, .ref gl, .ref gd])), (gs, .inr (4, [.ref su, .ref sp, .ref sm, .ref se, .long (st_dv S), .int (st_ht S), .int (nI (st_sc S)), .int (st_md S)])), (sp, .inl (ca, 4, .inr (.inl (st_fa S)))), (sm, .inl (cm, 3, .inr (.inr (.inr (.inr (xm_3 m0 m1 m2)))))), (m0, .inl (cm0, 20, .inl (st_n0 S))), (m1, .inl (cm1, 20, .inl (st_n1 S))), (m2, .inl (cm2, 20, .inl (st_n2 S))), (se, .inl (cq, 20, .inl (st_fq S))), (su, .inr (3, [.long (sf 1), .long (sf 2), .long (sf 3), .long (sf 4), .long (sf 5), .long (sf 6), .long (sf 7), .long (sf 8), .long (sf 9)])), (gp, .inr (1, [.ref pa, .ref pb, .ref pd, .int (nI np)])), (pa, .inl (la, 30, .inl px)), (pb, .inl (lb, 30, .inl py)), (pd, .inl (ld, 30, .inl pz)), (ow, .inl (co, 1, .inr (.inl fo)))] [(ca, .long), (cm, .array .int), (cm0, .int), (cm1, .int), (cm2, .int), (cq, .boolean), (la, .int), (lb, .int), (ld, .int), (co, .long)]) (va_Qi (fun (r : Int32) (_ : Unit) => r = 1) (fun _ t => xb_w (dC, dI) xCl [(h0, .inr (0, [.ref gm, .ref gp, .ref go, .ref gs, .ref gl, .ref gd])), (gs, .inr (4, [.ref su, .ref sp, .ref sm, .ref se, .long (st_dv S), .int (st_ht S), .int (nI (st_sc S)), .int (st_md S)])), (sp, .inl (ca, 4, .inr (.inl (st_fa S)))), (sm, .inl (cm, 3, .inr (.inr (.inr (.inr (xm_3 m0 m1 m2)))))), (m0, .inl (cm0, 20, .inl (st_n0 S))), (m1, .inl (cm1, 20, .inl (st_n1 S))), (m2, .inl (cm2, 20, .inl (st_n2 S))), (se, .inl (cq, 20, .inl (st_fq S))), (su, .inr (3, [.long (sf 1), .long (sf 2), .long (sf 3), .long (sf 4), .long (sf 5), .long (sf 6), .long (sf 7), .long (sf 8), .long (sf 9)])), (gp, .inr (1, [.ref pa, .ref pb, .ref pd, .int (nI np)])), (pa, .inl (la, 30, .inl px)), (pb, .inl (lb, 30, .inl py)), (pd, .inl (ld, 30, .inl pz)), (ow, .inl (co, 1, .inr (.inl fo)))] [(ca, .long), (cm, .array .int), (cm0, .int), (cm1, .int), (cm2, .int), (cq, .boolean), (la, .int), (lb, .int), (ld, .int), (co, .long)] (va_A [(h0, .inr (0, [.ref gm, .ref gp, .ref go, .ref gs, .ref gl, .ref gd])), (gs, .inr (4, [.ref su, .ref sp, .ref sm, .ref se, .long (st_dv S), .int (st_ht S), .int (nI (st_sc S)), .int (st_md S)])), (sp, .inl (ca, 4, .inr (.inl (st_fa S)))), (sm, .inl (cm, 3, .inr (.inr (.inr (.inr (xm_3 m0 m1 m2)))))), (m0, .inl (cm0, 20, .inl (st_n0 S))), (m1, .inl (cm1, 20, .inl (st_n1 S))), (m2, .inl (cm2, 20, .inl (st_n2 S))), (se, .inl (cq, 20, .inl (st_fq S))), (su, .inr (3, [.long (sf 1), .long (sf 2), .long (sf 3), .long (sf 4), .long (sf 5), .long (sf 6), .long (sf 7), .long (sf 8), .long (sf 9)])), (gp, .inr (1, [.ref pa, .ref pb, .ref pd, .int (nI np)])), (pa, .inl (la, 30, .inl px)), (pb, .inl (lb, 30, .inl py)), (pd, .inl (ld, 30, .inl pz)), (ow, .inl (co, 1, .inr (.inl fo)))] sz) t) (va_A [(h0, .inr (0, [.ref gm, .ref gp, .ref go, .ref gs, .ref gl, .ref gd])), (gs, .inr (4, [.ref su, .ref sp, .ref sm, .ref se, .long (st_dv S), .int (st_ht S), .int (nI (st_sc S)), .int (st_md S)])), (sp, .inl (ca, 4, .inr (.inl (st_fa S)))), (sm, .inl (cm, 3, .inr (.inr (.inr (.inr (xm_3 m0 m1 m2)))))), (m0, .inl (cm0, 20, .inl (st_n0 S))), (m1, .inl (cm1, 20, .inl (st_n1 S))), (m2, .inl (cm2, 20, .inl (st_n2 S))), (se, .inl (cq, 20, .inl (st_fq S))), (su, .inr (3, [.long (sf 1), .long (sf 2), .long (sf 3), .long (sf 4), .long (sf 5), .long (sf 6), .long (sf 7), .long (sf 8), .long (sf 9)])), (gp, .inr (1, [.ref pa, .ref pb, .ref pd, .int (nI np)])), (pa, .inl (la, 30, .inl px)), (pb, .inl (lb, 30, .inl py)), (pd, .inl (ld, 30, .inl pz)), (ow, .inl (co, 1, .inr (.inl fo)))] sz)) 1 6 (va_A [(h0, .inr (0, [.ref gm, .ref gp, .ref go, .ref gs, .ref gl, .ref gd])), (gs, .inr (4, [.ref su, .ref sp, .ref sm, .ref se, .long (st_dv S), .int (st_ht S), .int (nI (st_sc S)), .int (st_md S)])), (sp, .inl (ca, 4, .inr (.inl (st_fa S)))), (sm, .inl (cm, 3, .inr (.inr (.inr (.inr (xm_3 m0 m1 m2)))))), (m0, .inl (cm0, 20, .inl (st_n0 S))), (m1, .inl (cm1, 20, .inl (st_n1 S))), (m2, .inl (cm2, 20, .inl (st_n2 S))), (se, .inl (cq, 20, .inl (st_fq S))), (su, .inr (3, [.long (sf 1), .long (sf 2), .long (sf 3), .long (sf 4), .long (sf 5), .long (sf 6), .long (sf 7), .long (sf 8), .long (sf 9)])), (gp, .inr (1, [.ref pa, .ref pb, .ref pd, .int (nI np)])), (pa, .inl (la, 30, .inl px)), (pb, .inl (lb, 30, .inl py)), (pd, .inl (ld, 30, .inl pz)), (ow, .inl (co, 1, .inr (.inl fo)))] sz) := by
  refine va_MetW (cc := method_12_code) (maxL := 5) (ret := (some .int)) (by decide) rfl ?_
  intro p e s m args below meth c s₁ B hml hv
  obtain ⟨rfl, hsz, hz, hH, hP, hK, hD0⟩ := hv
  have hx := B.exec
  have hb := B.bytes
  have hr := B.returns
  have hts := atoms_spec (ws := xw_LA_place) B.pre
  have hown : s.vm.findClass xR_LA = some m.cls := findClass_of_methodNamed B.named
  have hlocks := B.notSynchronized
  have htab := xt_table B (hts _ List.mem_cons_self)
  subst hsz
  have hD := hD0.self (sz := s.heap.size)
  generalize hAe : va_A [(h0, .inr (0, [.ref gm, .ref gp, .ref go, .ref gs, .ref gl, .ref gd])), (gs, .inr (4, [.ref su, .ref sp, .ref sm, .ref se, .long (st_dv S), .int (st_ht S), .int (nI (st_sc S)), .int (st_md S)])), (sp, .inl (ca, 4, .inr (.inl (st_fa S)))), (sm, .inl (cm, 3, .inr (.inr (.inr (.inr (xm_3 m0 m1 m2)))))), (m0, .inl (cm0, 20, .inl (st_n0 S))), (m1, .inl (cm1, 20, .inl (st_n1 S))), (m2, .inl (cm2, 20, .inl (st_n2 S))), (se, .inl (cq, 20, .inl (st_fq S))), (su, .inr (3, [.long (sf 1), .long (sf 2), .long (sf 3), .long (sf 4), .long (sf 5), .long (sf 6), .long (sf 7), .long (sf 8), .long (sf 9)])), (gp, .inr (1, [.ref pa, .ref pb, .ref pd, .int (nI np)])), (pa, .inl (la, 30, .inl px)), (pb, .inl (lb, 30, .inl py)), (pd, .inl (ld, 30, .inl pz)), (ow, .inl (co, 1, .inr (.inl fo)))] s.heap.size = A at hD ⊢
  have hA : ∀ q : Nat, s.heap.size ≤ q → A q := fun q h => by rw [← hAe]; exact Or.inr h
  have hS : va_S A s.heap s.heap [] := va_S.rf
  have hP : va_P (dC, dI) xCl [(h0, .inr (0, [.ref gm, .ref gp, .ref go, .ref gs, .ref gl, .ref gd])), (gs, .inr (4, [.ref su, .ref sp, .ref sm, .ref se, .long (st_dv S), .int (st_ht S), .int (nI (st_sc S)), .int (st_md S)])), (sp, .inl (ca, 4, .inr (.inl (st_fa S)))), (sm, .inl (cm, 3, .inr (.inr (.inr (.inr (xm_3 m0 m1 m2)))))), (m0, .inl (cm0, 20, .inl (st_n0 S))), (m1, .inl (cm1, 20, .inl (st_n1 S))), (m2, .inl (cm2, 20, .inl (st_n2 S))), (se, .inl (cq, 20, .inl (st_fq S))), (su, .inr (3, [.long (sf 1), .long (sf 2), .long (sf 3), .long (sf 4), .long (sf 5), .long (sf 6), .long (sf 7), .long (sf 8), .long (sf 9)])), (gp, .inr (1, [.ref pa, .ref pb, .ref pd, .int (nI np)])), (pa, .inl (la, 30, .inl px)), (pb, .inl (lb, 30, .inl py)), (pd, .inl (ld, 30, .inl pz)), (ow, .inl (co, 1, .inr (.inl fo)))] s.heap := hP
  have hl := lv_entry ([.ref h0, .int i0, .int i1, .ref ow]) (n := 5) (Nat.le_of_ble_eq_true rfl)
  rw [lg_entry_eq]
  generalize (lg_sl ([.ref h0, .int i0, .int i1, .ref ow]) ++ List.replicate (5 - (lg_sl ([.ref h0, .int i0, .int i1, .ref ow])).length) Slot.unset).toArray = ls at hl ⊢
  have hl : lv_has ls 5 [(0, .ref h0), (1, .int i0), (2, .int i1), (3, .ref ow)] := hl
  refine lv_aload_n hx hb d_LA_place_0 rfl (lv_at hl 3 rfl) ?_
  refine lv_iconst (v := 0) hx hb d_LA_place_1 (by decide) ?_
  refine lv_aload_n hx hb d_LA_place_2 rfl (lv_at hl 0 rfl) ?_
  refine lv_iload_n hx hb d_LA_place_3 rfl (lv_at hl 1 rfl) ?_
  refine lv_iload_n hx hb d_LA_place_4 rfl (lv_at hl 2 rfl) ?_
  have hPc := hP.sub (ws' := [(h0, .inr (0, [.ref gm, .ref gp, .ref go, .ref gs, .ref gl, .ref gd])), (gs, .inr (4, [.ref su, .ref sp, .ref sm, .ref se, .long (st_dv S), .int (st_ht S), .int (nI (st_sc S)), .int (st_md S)])), (sp, .inl (ca, 4, .inr (.inl (st_fa S)))), (sm, .inl (cm, 3, .inr (.inr (.inr (.inr (xm_3 m0 m1 m2)))))), (m0, .inl (cm0, 20, .inl (st_n0 S))), (m1, .inl (cm1, 20, .inl (st_n1 S))), (m2, .inl (cm2, 20, .inl (st_n2 S))), (se, .inl (cq, 20, .inl (st_fq S))), (su, .inr (3, [.long (sf 1), .long (sf 2), .long (sf 3), .long (sf 4), .long (sf 5), .long (sf 6), .long (sf 7), .long (sf 8), .long (sf 9)])), (gp, .inr (1, [.ref pa, .ref pb, .ref pd, .int (nI np)])), (pa, .inl (la, 30, .inl px)), (pb, .inl (lb, 30, .inl py)), (pd, .inl (ld, 30, .inl pz))]) [0, 1, 2, 3, 4, 5, 6, 7, 8, 9, 10, 11, 12] rfl
  have hKc := hK.sub (tys' := [(ca, .long), (cm, .array .int), (cm0, .int), (cm1, .int), (cm2, .int), (cq, .boolean), (la, .int), (lb, .int), (ld, .int)]) [0, 1, 2, 3, 4, 5, 6, 7, 8] rfl
  refine xt_catchV (As := [.int i0, .int i1]) (rest := [.int 0, .ref ow]) (name := "java/lang/IndexOutOfBoundsException") ⟨hx, hb, hml, hown, hts⟩ (c_SR_place_x1 l hl9 dC dI h0 gm gp go gs gl gd su sp sm se m0 m1 m2 ca cm cm0 cm1 cm2 cq S sf pa pb pd np la lb ld px py pz i0 i1 hc hn) (cwV 2 hts (xgV wm_606 wm_607 wm_608 wm_26 wm_609) rfl rfl rfl (by decide +kernel) ⟨Nat.le_of_ble_eq_true rfl, Nat.le_of_ble_eq_true rfl⟩) ⟨xt_blind, va_recv hKc hPc (ci := 0) (q0 := 0) rfl rfl, fun U hU hW => ⟨rfl, hz.warm hW, hH.same hW hU, by rw [hU]; exact hPc, va_K.moved hW.alike hKc⟩⟩ rfl hl.1 rfl (Nat.le_of_ble_eq_true rfl) d_LA_place_5 ⟨Nat.le_of_ble_eq_true rfl, Nat.le_of_ble_eq_true rfl⟩ (tableOf []) ⟨0, 10, 13, 21⟩ (tableOf [(0, 10, 17, 13)]) htab (fun z hz9 => nomatch hz9) (by decide) (by decide) (hts _ (List.mem_cons_of_mem _ wm_485)) (va_Nw.use rfl (hz.face xc_IndexOutOfBoundsException)) (fun q_1 H hsz9 hkp9 => ?_)
  have hP := xt_keepP hP hkp9
  have hS := xt_keepS hS hsz9 hkp9
  refine W.widen (k := 1) (n := 6) (by decide) (by decide) ?_
  refine lv_astore (lv' := [(4, .ref q_1), (0, .ref h0), (1, .int i0), (2, .int i1), (3, .ref ow)]) hx hb d_LA_place_13 hl (by decide) rfl (fun ls hl => ?_)
  refine lv_iconst (v := 1) hx hb d_LA_place_15 (by decide) ?_
  have hP9 := hP.sub (ws' := [(h0, .inr (0, [.ref gm, .ref gp, .ref go, .ref gs, .ref gl, .ref gd])), (gs, .inr (4, [.ref su, .ref sp, .ref sm, .ref se, .long (st_dv S), .int (st_ht S), .int (nI (st_sc S)), .int (st_md S)])), (sp, .inl (ca, 4, .inr (.inl (st_fa S)))), (sm, .inl (cm, 3, .inr (.inr (.inr (.inr (xm_3 m0 m1 m2)))))), (m0, .inl (cm0, 20, .inl (st_n0 S))), (m1, .inl (cm1, 20, .inl (st_n1 S))), (m2, .inl (cm2, 20, .inl (st_n2 S))), (se, .inl (cq, 20, .inl (st_fq S))), (su, .inr (3, [.long (sf 1), .long (sf 2), .long (sf 3), .long (sf 4), .long (sf 5), .long (sf 6), .long (sf 7), .long (sf 8), .long (sf 9)])), (gp, .inr (1, [.ref pa, .ref pb, .ref pd, .int (nI np)])), (pa, .inl (la, 30, .inl px)), (pb, .inl (lb, 30, .inl py)), (pd, .inl (ld, 30, .inl pz)), (ow, .inl (co, 1, .inr (.inl fo)))]) [0, 1, 2, 3, 4, 5, 6, 7, 8, 9, 10, 11, 12, 13] rfl
  have hD9 := hD.sub (ws' := [(h0, .inr (0, [.ref gm, .ref gp, .ref go, .ref gs, .ref gl, .ref gd])), (gs, .inr (4, [.ref su, .ref sp, .ref sm, .ref se, .long (st_dv S), .int (st_ht S), .int (nI (st_sc S)), .int (st_md S)])), (sp, .inl (ca, 4, .inr (.inl (st_fa S)))), (sm, .inl (cm, 3, .inr (.inr (.inr (.inr (xm_3 m0 m1 m2)))))), (m0, .inl (cm0, 20, .inl (st_n0 S))), (m1, .inl (cm1, 20, .inl (st_n1 S))), (m2, .inl (cm2, 20, .inl (st_n2 S))), (se, .inl (cq, 20, .inl (st_fq S))), (su, .inr (3, [.long (sf 1), .long (sf 2), .long (sf 3), .long (sf 4), .long (sf 5), .long (sf 6), .long (sf 7), .long (sf 8), .long (sf 9)])), (gp, .inr (1, [.ref pa, .ref pb, .ref pd, .int (nI np)])), (pa, .inl (la, 30, .inl px)), (pb, .inl (lb, 30, .inl py)), (pd, .inl (ld, 30, .inl pz)), (ow, .inl (co, 1, .inr (.inl fo)))]) [0, 1, 2, 3, 4, 5, 6, 7, 8, 9, 10, 11, 12, 13] (by decide) rfl
  have hK9 := hK.sub (tys' := [(ca, .long), (cm, .array .int), (cm0, .int), (cm1, .int), (cm2, .int), (cq, .boolean), (la, .int), (lb, .int), (ld, .int), (co, .long)]) [0, 1, 2, 3, 4, 5, 6, 7, 8, 9] rfl
  exact W.iret (v := 1) hx hb hr (fun t ht hW => ⟨⟨1, (), rfl, rfl, ⟨by rw [ht]; exact hP9, va_K.moved hW.alike hK9, by exact hD9⟩⟩, hS.F ht⟩) hS.2.2 d_LA_place_16 hlocks
set_option maxHeartbeats 4000000 in
set_option maxRecDepth 100000 in
/-- the law: place, which throws -/
theorem c_LA_place_x2 (l : Launch) (hl9 : l.stackTraces = false) (dC : Nat → ClassId) (dI : Nat → Nat → Nat) (sz : Nat) (h0 : Nat) (gm : Nat) (gp : Nat) (go : Nat) (gs : Nat) (gl : Nat) (gd : Nat) (su : Nat) (sp : Nat) (sm : Nat) (se : Nat) (m0 : Nat) (m1 : Nat) (m2 : Nat) (ca : ClassId) (cm : ClassId) (cm0 : ClassId) (cm1 : ClassId) (cm2 : ClassId) (cq : ClassId) (S : sr_St) (sf : Nat → Int64) (pa : Nat) (pb : Nat) (pd : Nat) (np : Nat) (la : ClassId) (lb : ClassId) (ld : ClassId) (px : Nat → Int32) (py : Nat → Int32) (pz : Nat → Int32) (i0 : Int32) (i1 : Int32) (ow : Nat) (co : ClassId) (fo : Nat → Int64) (hc : np ≤ 30) (hv : xin i0 np) (hvj : xin i1 3) (hm : st_md S = 0) : Met l xy_LA_place xw_LA_place ({ frames := 7, cells := 1, slots := 6, locals := 104 }) (xp_x [.ref h0, .int i0, .int i1, .ref ow] sz (dC, dI) xCl [(h0, .inr (0, [.ref gm, .ref gp, .ref go, .ref gs, .ref gl, .ref gd])), (gs, .inr (4, [.ref su, .ref sp, .ref sm, .ref se, .long (st_dv S), .int (st_ht S), .int (nI (st_sc S)), .int (st_md S)])), (sp, .inl (ca, 4, .inr (.inl (st_fa S)))), (sm, .inl (cm, 3, .inr (.inr (.inr (.inr (xm_3 m0 m1 m2)))))), (m0, .inl (cm0, 20, .inl (st_n0 S))), (m1, .inl (cm1, 20, .inl (st_n1 S))), (m2, .inl (cm2, 20, .inl (st_n2 S))), (se, .inl (cq, 20, .inl (st_fq S))), (su, .inr (3, [.long (sf 1), .long (sf 2), .long (sf 3), .long (sf 4), .long (sf 5), .long (sf 6), .long (sf 7), .long (sf 8), .long (sf 9)])), (gp, .inr (1, [.ref pa, .ref pb, .ref pd, .int (nI np)])), (pa, .inl (la, 30, .inl px)), (pb, .inl (lb, 30, .inl py)), (pd, .inl (ld, 30, .inl pz)), (ow, .inl (co, 1, .inr (.inl fo)))] [(ca, .long), (cm, .array .int), (cm0, .int), (cm1, .int), (cm2, .int), (cq, .boolean), (la, .int), (lb, .int), (ld, .int), (co, .long)]) (va_Qi (fun (r : Int32) (_ : Unit) => r = 2) (fun _ t => xb_w (dC, dI) xCl [(h0, .inr (0, [.ref gm, .ref gp, .ref go, .ref gs, .ref gl, .ref gd])), (gs, .inr (4, [.ref su, .ref sp, .ref sm, .ref se, .long (st_dv S), .int (st_ht S), .int (nI (st_sc S)), .int (st_md S)])), (sp, .inl (ca, 4, .inr (.inl (st_fa S)))), (sm, .inl (cm, 3, .inr (.inr (.inr (.inr (xm_3 m0 m1 m2)))))), (m0, .inl (cm0, 20, .inl (st_n0 S))), (m1, .inl (cm1, 20, .inl (st_n1 S))), (m2, .inl (cm2, 20, .inl (st_n2 S))), (se, .inl (cq, 20, .inl (st_fq S))), (su, .inr (3, [.long (sf 1), .long (sf 2), .long (sf 3), .long (sf 4), .long (sf 5), .long (sf 6), .long (sf 7), .long (sf 8), .long (sf 9)])), (gp, .inr (1, [.ref pa, .ref pb, .ref pd, .int (nI np)])), (pa, .inl (la, 30, .inl px)), (pb, .inl (lb, 30, .inl py)), (pd, .inl (ld, 30, .inl pz)), (ow, .inl (co, 1, .inr (.inl fo)))] [(ca, .long), (cm, .array .int), (cm0, .int), (cm1, .int), (cm2, .int), (cq, .boolean), (la, .int), (lb, .int), (ld, .int), (co, .long)] (va_A [(h0, .inr (0, [.ref gm, .ref gp, .ref go, .ref gs, .ref gl, .ref gd])), (gs, .inr (4, [.ref su, .ref sp, .ref sm, .ref se, .long (st_dv S), .int (st_ht S), .int (nI (st_sc S)), .int (st_md S)])), (sp, .inl (ca, 4, .inr (.inl (st_fa S)))), (sm, .inl (cm, 3, .inr (.inr (.inr (.inr (xm_3 m0 m1 m2)))))), (m0, .inl (cm0, 20, .inl (st_n0 S))), (m1, .inl (cm1, 20, .inl (st_n1 S))), (m2, .inl (cm2, 20, .inl (st_n2 S))), (se, .inl (cq, 20, .inl (st_fq S))), (su, .inr (3, [.long (sf 1), .long (sf 2), .long (sf 3), .long (sf 4), .long (sf 5), .long (sf 6), .long (sf 7), .long (sf 8), .long (sf 9)])), (gp, .inr (1, [.ref pa, .ref pb, .ref pd, .int (nI np)])), (pa, .inl (la, 30, .inl px)), (pb, .inl (lb, 30, .inl py)), (pd, .inl (ld, 30, .inl pz)), (ow, .inl (co, 1, .inr (.inl fo)))] sz) t) (va_A [(h0, .inr (0, [.ref gm, .ref gp, .ref go, .ref gs, .ref gl, .ref gd])), (gs, .inr (4, [.ref su, .ref sp, .ref sm, .ref se, .long (st_dv S), .int (st_ht S), .int (nI (st_sc S)), .int (st_md S)])), (sp, .inl (ca, 4, .inr (.inl (st_fa S)))), (sm, .inl (cm, 3, .inr (.inr (.inr (.inr (xm_3 m0 m1 m2)))))), (m0, .inl (cm0, 20, .inl (st_n0 S))), (m1, .inl (cm1, 20, .inl (st_n1 S))), (m2, .inl (cm2, 20, .inl (st_n2 S))), (se, .inl (cq, 20, .inl (st_fq S))), (su, .inr (3, [.long (sf 1), .long (sf 2), .long (sf 3), .long (sf 4), .long (sf 5), .long (sf 6), .long (sf 7), .long (sf 8), .long (sf 9)])), (gp, .inr (1, [.ref pa, .ref pb, .ref pd, .int (nI np)])), (pa, .inl (la, 30, .inl px)), (pb, .inl (lb, 30, .inl py)), (pd, .inl (ld, 30, .inl pz)), (ow, .inl (co, 1, .inr (.inl fo)))] sz)) 1 6 (va_A [(h0, .inr (0, [.ref gm, .ref gp, .ref go, .ref gs, .ref gl, .ref gd])), (gs, .inr (4, [.ref su, .ref sp, .ref sm, .ref se, .long (st_dv S), .int (st_ht S), .int (nI (st_sc S)), .int (st_md S)])), (sp, .inl (ca, 4, .inr (.inl (st_fa S)))), (sm, .inl (cm, 3, .inr (.inr (.inr (.inr (xm_3 m0 m1 m2)))))), (m0, .inl (cm0, 20, .inl (st_n0 S))), (m1, .inl (cm1, 20, .inl (st_n1 S))), (m2, .inl (cm2, 20, .inl (st_n2 S))), (se, .inl (cq, 20, .inl (st_fq S))), (su, .inr (3, [.long (sf 1), .long (sf 2), .long (sf 3), .long (sf 4), .long (sf 5), .long (sf 6), .long (sf 7), .long (sf 8), .long (sf 9)])), (gp, .inr (1, [.ref pa, .ref pb, .ref pd, .int (nI np)])), (pa, .inl (la, 30, .inl px)), (pb, .inl (lb, 30, .inl py)), (pd, .inl (ld, 30, .inl pz)), (ow, .inl (co, 1, .inr (.inl fo)))] sz) := by
  refine va_MetW (cc := method_12_code) (maxL := 5) (ret := (some .int)) (by decide) rfl ?_
  intro p e s m args below meth c s₁ B hml hv
  obtain ⟨rfl, hsz, hz, hH, hP, hK, hD0⟩ := hv
  have hx := B.exec
  have hb := B.bytes
  have hr := B.returns
  have hts := atoms_spec (ws := xw_LA_place) B.pre
  have hown : s.vm.findClass xR_LA = some m.cls := findClass_of_methodNamed B.named
  have hlocks := B.notSynchronized
  have htab := xt_table B (hts _ List.mem_cons_self)
  subst hsz
  have hD := hD0.self (sz := s.heap.size)
  generalize hAe : va_A [(h0, .inr (0, [.ref gm, .ref gp, .ref go, .ref gs, .ref gl, .ref gd])), (gs, .inr (4, [.ref su, .ref sp, .ref sm, .ref se, .long (st_dv S), .int (st_ht S), .int (nI (st_sc S)), .int (st_md S)])), (sp, .inl (ca, 4, .inr (.inl (st_fa S)))), (sm, .inl (cm, 3, .inr (.inr (.inr (.inr (xm_3 m0 m1 m2)))))), (m0, .inl (cm0, 20, .inl (st_n0 S))), (m1, .inl (cm1, 20, .inl (st_n1 S))), (m2, .inl (cm2, 20, .inl (st_n2 S))), (se, .inl (cq, 20, .inl (st_fq S))), (su, .inr (3, [.long (sf 1), .long (sf 2), .long (sf 3), .long (sf 4), .long (sf 5), .long (sf 6), .long (sf 7), .long (sf 8), .long (sf 9)])), (gp, .inr (1, [.ref pa, .ref pb, .ref pd, .int (nI np)])), (pa, .inl (la, 30, .inl px)), (pb, .inl (lb, 30, .inl py)), (pd, .inl (ld, 30, .inl pz)), (ow, .inl (co, 1, .inr (.inl fo)))] s.heap.size = A at hD ⊢
  have hA : ∀ q : Nat, s.heap.size ≤ q → A q := fun q h => by rw [← hAe]; exact Or.inr h
  have hS : va_S A s.heap s.heap [] := va_S.rf
  have hP : va_P (dC, dI) xCl [(h0, .inr (0, [.ref gm, .ref gp, .ref go, .ref gs, .ref gl, .ref gd])), (gs, .inr (4, [.ref su, .ref sp, .ref sm, .ref se, .long (st_dv S), .int (st_ht S), .int (nI (st_sc S)), .int (st_md S)])), (sp, .inl (ca, 4, .inr (.inl (st_fa S)))), (sm, .inl (cm, 3, .inr (.inr (.inr (.inr (xm_3 m0 m1 m2)))))), (m0, .inl (cm0, 20, .inl (st_n0 S))), (m1, .inl (cm1, 20, .inl (st_n1 S))), (m2, .inl (cm2, 20, .inl (st_n2 S))), (se, .inl (cq, 20, .inl (st_fq S))), (su, .inr (3, [.long (sf 1), .long (sf 2), .long (sf 3), .long (sf 4), .long (sf 5), .long (sf 6), .long (sf 7), .long (sf 8), .long (sf 9)])), (gp, .inr (1, [.ref pa, .ref pb, .ref pd, .int (nI np)])), (pa, .inl (la, 30, .inl px)), (pb, .inl (lb, 30, .inl py)), (pd, .inl (ld, 30, .inl pz)), (ow, .inl (co, 1, .inr (.inl fo)))] s.heap := hP
  have hl := lv_entry ([.ref h0, .int i0, .int i1, .ref ow]) (n := 5) (Nat.le_of_ble_eq_true rfl)
  rw [lg_entry_eq]
  generalize (lg_sl ([.ref h0, .int i0, .int i1, .ref ow]) ++ List.replicate (5 - (lg_sl ([.ref h0, .int i0, .int i1, .ref ow])).length) Slot.unset).toArray = ls at hl ⊢
  have hl : lv_has ls 5 [(0, .ref h0), (1, .int i0), (2, .int i1), (3, .ref ow)] := hl
  refine lv_aload_n hx hb d_LA_place_0 rfl (lv_at hl 3 rfl) ?_
  refine lv_iconst (v := 0) hx hb d_LA_place_1 (by decide) ?_
  refine lv_aload_n hx hb d_LA_place_2 rfl (lv_at hl 0 rfl) ?_
  refine lv_iload_n hx hb d_LA_place_3 rfl (lv_at hl 1 rfl) ?_
  refine lv_iload_n hx hb d_LA_place_4 rfl (lv_at hl 2 rfl) ?_
  have hPc := hP.sub (ws' := [(h0, .inr (0, [.ref gm, .ref gp, .ref go, .ref gs, .ref gl, .ref gd])), (gs, .inr (4, [.ref su, .ref sp, .ref sm, .ref se, .long (st_dv S), .int (st_ht S), .int (nI (st_sc S)), .int (st_md S)])), (sp, .inl (ca, 4, .inr (.inl (st_fa S)))), (sm, .inl (cm, 3, .inr (.inr (.inr (.inr (xm_3 m0 m1 m2)))))), (m0, .inl (cm0, 20, .inl (st_n0 S))), (m1, .inl (cm1, 20, .inl (st_n1 S))), (m2, .inl (cm2, 20, .inl (st_n2 S))), (se, .inl (cq, 20, .inl (st_fq S))), (su, .inr (3, [.long (sf 1), .long (sf 2), .long (sf 3), .long (sf 4), .long (sf 5), .long (sf 6), .long (sf 7), .long (sf 8), .long (sf 9)])), (gp, .inr (1, [.ref pa, .ref pb, .ref pd, .int (nI np)])), (pa, .inl (la, 30, .inl px)), (pb, .inl (lb, 30, .inl py)), (pd, .inl (ld, 30, .inl pz))]) [0, 1, 2, 3, 4, 5, 6, 7, 8, 9, 10, 11, 12] rfl
  have hKc := hK.sub (tys' := [(ca, .long), (cm, .array .int), (cm0, .int), (cm1, .int), (cm2, .int), (cq, .boolean), (la, .int), (lb, .int), (ld, .int)]) [0, 1, 2, 3, 4, 5, 6, 7, 8] rfl
  refine xt_catchV (As := [.int i0, .int i1]) (rest := [.int 0, .ref ow]) (name := "java/lang/IllegalStateException") ⟨hx, hb, hml, hown, hts⟩ (c_SR_place_x2 l hl9 dC dI h0 gm gp go gs gl gd su sp sm se m0 m1 m2 ca cm cm0 cm1 cm2 cq S sf pa pb pd np la lb ld px py pz i0 i1 hc hv hvj hm) (cwV 2 hts (xgV wm_606 wm_607 wm_608 wm_26 wm_609) rfl rfl rfl (by decide +kernel) ⟨Nat.le_of_ble_eq_true rfl, Nat.le_of_ble_eq_true rfl⟩) ⟨xt_blind, va_recv hKc hPc (ci := 0) (q0 := 0) rfl rfl, fun U hU hW => ⟨rfl, hz.warm hW, hH.same hW hU, by rw [hU]; exact hPc, va_K.moved hW.alike hKc⟩⟩ rfl hl.1 rfl (Nat.le_of_ble_eq_true rfl) d_LA_place_5 ⟨Nat.le_of_ble_eq_true rfl, Nat.le_of_ble_eq_true rfl⟩ (tableOf [(0, 10, 13, 21)]) ⟨0, 10, 17, 13⟩ (tableOf []) htab (fun z hz9 => by
      simp only [tableOf, List.map_cons, List.map_nil, List.mem_cons, List.not_mem_nil, or_false] at hz9
      rcases hz9 with rfl
      · exact ⟨"java/lang/IndexOutOfBoundsException", hz.nc (by decide +kernel), by decide, (hts _ (List.mem_cons_of_mem _ wm_485))⟩) (by decide) (by decide) (hts _ (List.mem_cons_of_mem _ wm_384)) (va_Nw.use rfl (hz.face xc_IllegalStateException)) (fun q_1 H hsz9 hkp9 => ?_)
  have hP := xt_keepP hP hkp9
  have hS := xt_keepS hS hsz9 hkp9
  refine W.widen (k := 1) (n := 6) (by decide) (by decide) ?_
  refine lv_astore (lv' := [(4, .ref q_1), (0, .ref h0), (1, .int i0), (2, .int i1), (3, .ref ow)]) hx hb d_LA_place_17 hl (by decide) rfl (fun ls hl => ?_)
  refine lv_iconst (v := 2) hx hb d_LA_place_19 (by decide) ?_
  have hP9 := hP.sub (ws' := [(h0, .inr (0, [.ref gm, .ref gp, .ref go, .ref gs, .ref gl, .ref gd])), (gs, .inr (4, [.ref su, .ref sp, .ref sm, .ref se, .long (st_dv S), .int (st_ht S), .int (nI (st_sc S)), .int (st_md S)])), (sp, .inl (ca, 4, .inr (.inl (st_fa S)))), (sm, .inl (cm, 3, .inr (.inr (.inr (.inr (xm_3 m0 m1 m2)))))), (m0, .inl (cm0, 20, .inl (st_n0 S))), (m1, .inl (cm1, 20, .inl (st_n1 S))), (m2, .inl (cm2, 20, .inl (st_n2 S))), (se, .inl (cq, 20, .inl (st_fq S))), (su, .inr (3, [.long (sf 1), .long (sf 2), .long (sf 3), .long (sf 4), .long (sf 5), .long (sf 6), .long (sf 7), .long (sf 8), .long (sf 9)])), (gp, .inr (1, [.ref pa, .ref pb, .ref pd, .int (nI np)])), (pa, .inl (la, 30, .inl px)), (pb, .inl (lb, 30, .inl py)), (pd, .inl (ld, 30, .inl pz)), (ow, .inl (co, 1, .inr (.inl fo)))]) [0, 1, 2, 3, 4, 5, 6, 7, 8, 9, 10, 11, 12, 13] rfl
  have hD9 := hD.sub (ws' := [(h0, .inr (0, [.ref gm, .ref gp, .ref go, .ref gs, .ref gl, .ref gd])), (gs, .inr (4, [.ref su, .ref sp, .ref sm, .ref se, .long (st_dv S), .int (st_ht S), .int (nI (st_sc S)), .int (st_md S)])), (sp, .inl (ca, 4, .inr (.inl (st_fa S)))), (sm, .inl (cm, 3, .inr (.inr (.inr (.inr (xm_3 m0 m1 m2)))))), (m0, .inl (cm0, 20, .inl (st_n0 S))), (m1, .inl (cm1, 20, .inl (st_n1 S))), (m2, .inl (cm2, 20, .inl (st_n2 S))), (se, .inl (cq, 20, .inl (st_fq S))), (su, .inr (3, [.long (sf 1), .long (sf 2), .long (sf 3), .long (sf 4), .long (sf 5), .long (sf 6), .long (sf 7), .long (sf 8), .long (sf 9)])), (gp, .inr (1, [.ref pa, .ref pb, .ref pd, .int (nI np)])), (pa, .inl (la, 30, .inl px)), (pb, .inl (lb, 30, .inl py)), (pd, .inl (ld, 30, .inl pz)), (ow, .inl (co, 1, .inr (.inl fo)))]) [0, 1, 2, 3, 4, 5, 6, 7, 8, 9, 10, 11, 12, 13] (by decide) rfl
  have hK9 := hK.sub (tys' := [(ca, .long), (cm, .array .int), (cm0, .int), (cm1, .int), (cm2, .int), (cq, .boolean), (la, .int), (lb, .int), (ld, .int), (co, .long)]) [0, 1, 2, 3, 4, 5, 6, 7, 8, 9] rfl
  exact W.iret (v := 2) hx hb hr (fun t ht hW => ⟨⟨2, (), rfl, rfl, ⟨by rw [ht]; exact hP9, va_K.moved hW.alike hK9, by exact hD9⟩⟩, hS.F ht⟩) hS.2.2 d_LA_place_20 hlocks
set_option maxHeartbeats 4000000 in
set_option maxRecDepth 100000 in
/-- the law: level, which throws -/
theorem c_LA_level_x1 (l : Launch) (hl9 : l.stackTraces = false) (dC : Nat → ClassId) (dI : Nat → Nat → Nat) (sz : Nat) (h0 : Nat) (gm : Nat) (gp : Nat) (go : Nat) (gs : Nat) (gl : Nat) (gd : Nat) (qd : Nat) (ql : Nat) (nl : Nat) (cd : ClassId) (cl : ClassId) (fd : Nat → Int32) (fl : Nat → Int32) (a : Int32) (b : Int32) (ow : Nat) (co : ClassId) (fo : Nat → Int64) (hc : nl ≤ 12) (hf : 12 ≤ nl) : Met l xy_LA_level xw_LA_level ({ frames := 7, cells := 1, slots := 6, locals := 104 }) (xp_x [.ref h0, .int a, .int b, .ref ow] sz (dC, dI) xCl [(h0, .inr (0, [.ref gm, .ref gp, .ref go, .ref gs, .ref gl, .ref gd])), (gl, .inr (5, [.ref qd, .ref ql, .int (nI nl)])), (qd, .inl (cd, 12, .inl fd)), (ql, .inl (cl, 12, .inl fl)), (ow, .inl (co, 1, .inr (.inl fo)))] [(cd, .int), (cl, .int), (co, .long)]) (va_Qi (fun (r : Int32) (_ : Unit) => r = 1) (fun _ t => xb_w (dC, dI) xCl [(h0, .inr (0, [.ref gm, .ref gp, .ref go, .ref gs, .ref gl, .ref gd])), (gl, .inr (5, [.ref qd, .ref ql, .int (nI nl)])), (qd, .inl (cd, 12, .inl fd)), (ql, .inl (cl, 12, .inl fl)), (ow, .inl (co, 1, .inr (.inl fo)))] [(cd, .int), (cl, .int), (co, .long)] (va_A [(h0, .inr (0, [.ref gm, .ref gp, .ref go, .ref gs, .ref gl, .ref gd])), (gl, .inr (5, [.ref qd, .ref ql, .int (nI nl)])), (qd, .inl (cd, 12, .inl fd)), (ql, .inl (cl, 12, .inl fl)), (ow, .inl (co, 1, .inr (.inl fo)))] sz) t) (va_A [(h0, .inr (0, [.ref gm, .ref gp, .ref go, .ref gs, .ref gl, .ref gd])), (gl, .inr (5, [.ref qd, .ref ql, .int (nI nl)])), (qd, .inl (cd, 12, .inl fd)), (ql, .inl (cl, 12, .inl fl)), (ow, .inl (co, 1, .inr (.inl fo)))] sz)) 1 6 (va_A [(h0, .inr (0, [.ref gm, .ref gp, .ref go, .ref gs, .ref gl, .ref gd])), (gl, .inr (5, [.ref qd, .ref ql, .int (nI nl)])), (qd, .inl (cd, 12, .inl fd)), (ql, .inl (cl, 12, .inl fl)), (ow, .inl (co, 1, .inr (.inl fo)))] sz) := by
  refine va_MetW (cc := method_13_code) (maxL := 5) (ret := (some .int)) (by decide) rfl ?_
  intro p e s m args below meth c s₁ B hml hv
  obtain ⟨rfl, hsz, hz, hH, hP, hK, hD0⟩ := hv
  have hx := B.exec
  have hb := B.bytes
  have hr := B.returns
  have hts := atoms_spec (ws := xw_LA_level) B.pre
  have hown : s.vm.findClass xR_LA = some m.cls := findClass_of_methodNamed B.named
  have hlocks := B.notSynchronized
  have htab := xt_table B (hts _ List.mem_cons_self)
  subst hsz
  have hD := hD0.self (sz := s.heap.size)
  generalize hAe : va_A [(h0, .inr (0, [.ref gm, .ref gp, .ref go, .ref gs, .ref gl, .ref gd])), (gl, .inr (5, [.ref qd, .ref ql, .int (nI nl)])), (qd, .inl (cd, 12, .inl fd)), (ql, .inl (cl, 12, .inl fl)), (ow, .inl (co, 1, .inr (.inl fo)))] s.heap.size = A at hD ⊢
  have hA : ∀ q : Nat, s.heap.size ≤ q → A q := fun q h => by rw [← hAe]; exact Or.inr h
  have hS : va_S A s.heap s.heap [] := va_S.rf
  have hP : va_P (dC, dI) xCl [(h0, .inr (0, [.ref gm, .ref gp, .ref go, .ref gs, .ref gl, .ref gd])), (gl, .inr (5, [.ref qd, .ref ql, .int (nI nl)])), (qd, .inl (cd, 12, .inl fd)), (ql, .inl (cl, 12, .inl fl)), (ow, .inl (co, 1, .inr (.inl fo)))] s.heap := hP
  have hl := lv_entry ([.ref h0, .int a, .int b, .ref ow]) (n := 5) (Nat.le_of_ble_eq_true rfl)
  rw [lg_entry_eq]
  generalize (lg_sl ([.ref h0, .int a, .int b, .ref ow]) ++ List.replicate (5 - (lg_sl ([.ref h0, .int a, .int b, .ref ow])).length) Slot.unset).toArray = ls at hl ⊢
  have hl : lv_has ls 5 [(0, .ref h0), (1, .int a), (2, .int b), (3, .ref ow)] := hl
  refine lv_aload_n hx hb d_LA_level_0 rfl (lv_at hl 3 rfl) ?_
  refine lv_iconst (v := 0) hx hb d_LA_level_1 (by decide) ?_
  refine lv_aload_n hx hb d_LA_level_2 rfl (lv_at hl 0 rfl) ?_
  refine lv_iload_n hx hb d_LA_level_3 rfl (lv_at hl 1 rfl) ?_
  refine lv_iload_n hx hb d_LA_level_4 rfl (lv_at hl 2 rfl) ?_
  have hPc := hP.sub (ws' := [(h0, .inr (0, [.ref gm, .ref gp, .ref go, .ref gs, .ref gl, .ref gd])), (gl, .inr (5, [.ref qd, .ref ql, .int (nI nl)])), (qd, .inl (cd, 12, .inl fd)), (ql, .inl (cl, 12, .inl fl))]) [0, 1, 2, 3] rfl
  have hKc := hK.sub (tys' := [(cd, .int), (cl, .int)]) [0, 1] rfl
  refine xt_catchV (As := [.int a, .int b]) (rest := [.int 0, .ref ow]) (name := "java/lang/IllegalStateException") ⟨hx, hb, hml, hown, hts⟩ (c_SR_level_x1 l hl9 dC dI h0 gm gp go gs gl gd qd ql nl cd cl fd fl a b hc hf) (cwV 2 hts (xgV wm_615 wm_616 wm_617 wm_26 wm_618) rfl rfl rfl (by decide +kernel) ⟨Nat.le_of_ble_eq_true rfl, Nat.le_of_ble_eq_true rfl⟩) ⟨xt_blind, va_recv hKc hPc (ci := 0) (q0 := 0) rfl rfl, fun U hU hW => ⟨rfl, hz.warm hW, hH.same hW hU, by rw [hU]; exact hPc, va_K.moved hW.alike hKc⟩⟩ rfl hl.1 rfl (Nat.le_of_ble_eq_true rfl) d_LA_level_5 ⟨Nat.le_of_ble_eq_true rfl, Nat.le_of_ble_eq_true rfl⟩ (tableOf []) ⟨0, 10, 13, 13⟩ (tableOf [(0, 10, 17, 15)]) htab (fun z hz9 => nomatch hz9) (by decide) (by decide) (hts _ (List.mem_cons_of_mem _ wm_384)) (va_Nw.use rfl (hz.face xc_IllegalStateException)) (fun q_1 H hsz9 hkp9 => ?_)
  have hP := xt_keepP hP hkp9
  have hS := xt_keepS hS hsz9 hkp9
  refine W.widen (k := 1) (n := 6) (by decide) (by decide) ?_
  refine lv_astore (lv' := [(4, .ref q_1), (0, .ref h0), (1, .int a), (2, .int b), (3, .ref ow)]) hx hb d_LA_level_13 hl (by decide) rfl (fun ls hl => ?_)
  refine lv_iconst (v := 1) hx hb d_LA_level_15 (by decide) ?_
  have hP9 := hP.sub (ws' := [(h0, .inr (0, [.ref gm, .ref gp, .ref go, .ref gs, .ref gl, .ref gd])), (gl, .inr (5, [.ref qd, .ref ql, .int (nI nl)])), (qd, .inl (cd, 12, .inl fd)), (ql, .inl (cl, 12, .inl fl)), (ow, .inl (co, 1, .inr (.inl fo)))]) [0, 1, 2, 3, 4] rfl
  have hD9 := hD.sub (ws' := [(h0, .inr (0, [.ref gm, .ref gp, .ref go, .ref gs, .ref gl, .ref gd])), (gl, .inr (5, [.ref qd, .ref ql, .int (nI nl)])), (qd, .inl (cd, 12, .inl fd)), (ql, .inl (cl, 12, .inl fl)), (ow, .inl (co, 1, .inr (.inl fo)))]) [0, 1, 2, 3, 4] (by decide) rfl
  have hK9 := hK.sub (tys' := [(cd, .int), (cl, .int), (co, .long)]) [0, 1, 2] rfl
  exact W.iret (v := 1) hx hb hr (fun t ht hW => ⟨⟨1, (), rfl, rfl, ⟨by rw [ht]; exact hP9, va_K.moved hW.alike hK9, by exact hD9⟩⟩, hS.F ht⟩) hS.2.2 d_LA_level_16 hlocks
set_option maxHeartbeats 4000000 in
set_option maxRecDepth 100000 in
/-- the law: level, which throws -/
theorem c_LA_level_x2 (l : Launch) (hl9 : l.stackTraces = false) (dC : Nat → ClassId) (dI : Nat → Nat → Nat) (sz : Nat) (h0 : Nat) (gm : Nat) (gp : Nat) (go : Nat) (gs : Nat) (gl : Nat) (gd : Nat) (qd : Nat) (ql : Nat) (nl : Nat) (cd : ClassId) (cl : ClassId) (fd : Nat → Int32) (fl : Nat → Int32) (a : Int32) (b : Int32) (ow : Nat) (co : ClassId) (fo : Nat → Int64) (hc : nl < 12) (hn : ¬ (¬ a < -100000 ∧ a ≤ 100000)) : Met l xy_LA_level xw_LA_level ({ frames := 7, cells := 1, slots := 6, locals := 104 }) (xp_x [.ref h0, .int a, .int b, .ref ow] sz (dC, dI) xCl [(h0, .inr (0, [.ref gm, .ref gp, .ref go, .ref gs, .ref gl, .ref gd])), (gl, .inr (5, [.ref qd, .ref ql, .int (nI nl)])), (qd, .inl (cd, 12, .inl fd)), (ql, .inl (cl, 12, .inl fl)), (ow, .inl (co, 1, .inr (.inl fo)))] [(cd, .int), (cl, .int), (co, .long)]) (va_Qi (fun (r : Int32) (_ : Unit) => r = 2) (fun _ t => xb_w (dC, dI) xCl [(h0, .inr (0, [.ref gm, .ref gp, .ref go, .ref gs, .ref gl, .ref gd])), (gl, .inr (5, [.ref qd, .ref ql, .int (nI nl)])), (qd, .inl (cd, 12, .inl fd)), (ql, .inl (cl, 12, .inl fl)), (ow, .inl (co, 1, .inr (.inl fo)))] [(cd, .int), (cl, .int), (co, .long)] (va_A [(h0, .inr (0, [.ref gm, .ref gp, .ref go, .ref gs, .ref gl, .ref gd])), (gl, .inr (5, [.ref qd, .ref ql, .int (nI nl)])), (qd, .inl (cd, 12, .inl fd)), (ql, .inl (cl, 12, .inl fl)), (ow, .inl (co, 1, .inr (.inl fo)))] sz) t) (va_A [(h0, .inr (0, [.ref gm, .ref gp, .ref go, .ref gs, .ref gl, .ref gd])), (gl, .inr (5, [.ref qd, .ref ql, .int (nI nl)])), (qd, .inl (cd, 12, .inl fd)), (ql, .inl (cl, 12, .inl fl)), (ow, .inl (co, 1, .inr (.inl fo)))] sz)) 1 6 (va_A [(h0, .inr (0, [.ref gm, .ref gp, .ref go, .ref gs, .ref gl, .ref gd])), (gl, .inr (5, [.ref qd, .ref ql, .int (nI nl)])), (qd, .inl (cd, 12, .inl fd)), (ql, .inl (cl, 12, .inl fl)), (ow, .inl (co, 1, .inr (.inl fo)))] sz) := by
  refine va_MetW (cc := method_13_code) (maxL := 5) (ret := (some .int)) (by decide) rfl ?_
  intro p e s m args below meth c s₁ B hml hv
  obtain ⟨rfl, hsz, hz, hH, hP, hK, hD0⟩ := hv
  have hx := B.exec
  have hb := B.bytes
  have hr := B.returns
  have hts := atoms_spec (ws := xw_LA_level) B.pre
  have hown : s.vm.findClass xR_LA = some m.cls := findClass_of_methodNamed B.named
  have hlocks := B.notSynchronized
  have htab := xt_table B (hts _ List.mem_cons_self)
  subst hsz
  have hD := hD0.self (sz := s.heap.size)
  generalize hAe : va_A [(h0, .inr (0, [.ref gm, .ref gp, .ref go, .ref gs, .ref gl, .ref gd])), (gl, .inr (5, [.ref qd, .ref ql, .int (nI nl)])), (qd, .inl (cd, 12, .inl fd)), (ql, .inl (cl, 12, .inl fl)), (ow, .inl (co, 1, .inr (.inl fo)))] s.heap.size = A at hD ⊢
  have hA : ∀ q : Nat, s.heap.size ≤ q → A q := fun q h => by rw [← hAe]; exact Or.inr h
  have hS : va_S A s.heap s.heap [] := va_S.rf
  have hP : va_P (dC, dI) xCl [(h0, .inr (0, [.ref gm, .ref gp, .ref go, .ref gs, .ref gl, .ref gd])), (gl, .inr (5, [.ref qd, .ref ql, .int (nI nl)])), (qd, .inl (cd, 12, .inl fd)), (ql, .inl (cl, 12, .inl fl)), (ow, .inl (co, 1, .inr (.inl fo)))] s.heap := hP
  have hl := lv_entry ([.ref h0, .int a, .int b, .ref ow]) (n := 5) (Nat.le_of_ble_eq_true rfl)
  rw [lg_entry_eq]
  generalize (lg_sl ([.ref h0, .int a, .int b, .ref ow]) ++ List.replicate (5 - (lg_sl ([.ref h0, .int a, .int b, .ref ow])).length) Slot.unset).toArray = ls at hl ⊢
  have hl : lv_has ls 5 [(0, .ref h0), (1, .int a), (2, .int b), (3, .ref ow)] := hl
  refine lv_aload_n hx hb d_LA_level_0 rfl (lv_at hl 3 rfl) ?_
  refine lv_iconst (v := 0) hx hb d_LA_level_1 (by decide) ?_
  refine lv_aload_n hx hb d_LA_level_2 rfl (lv_at hl 0 rfl) ?_
  refine lv_iload_n hx hb d_LA_level_3 rfl (lv_at hl 1 rfl) ?_
  refine lv_iload_n hx hb d_LA_level_4 rfl (lv_at hl 2 rfl) ?_
  have hPc := hP.sub (ws' := [(h0, .inr (0, [.ref gm, .ref gp, .ref go, .ref gs, .ref gl, .ref gd])), (gl, .inr (5, [.ref qd, .ref ql, .int (nI nl)])), (qd, .inl (cd, 12, .inl fd)), (ql, .inl (cl, 12, .inl fl))]) [0, 1, 2, 3] rfl
  have hKc := hK.sub (tys' := [(cd, .int), (cl, .int)]) [0, 1] rfl
  refine xt_catchV (As := [.int a, .int b]) (rest := [.int 0, .ref ow]) (name := "java/lang/IllegalArgumentException") ⟨hx, hb, hml, hown, hts⟩ (c_SR_level_x2 l hl9 dC dI h0 gm gp go gs gl gd qd ql nl cd cl fd fl a b hc hn) (cwV 2 hts (xgV wm_615 wm_616 wm_617 wm_26 wm_618) rfl rfl rfl (by decide +kernel) ⟨Nat.le_of_ble_eq_true rfl, Nat.le_of_ble_eq_true rfl⟩) ⟨xt_blind, va_recv hKc hPc (ci := 0) (q0 := 0) rfl rfl, fun U hU hW => ⟨rfl, hz.warm hW, hH.same hW hU, by rw [hU]; exact hPc, va_K.moved hW.alike hKc⟩⟩ rfl hl.1 rfl (Nat.le_of_ble_eq_true rfl) d_LA_level_5 ⟨Nat.le_of_ble_eq_true rfl, Nat.le_of_ble_eq_true rfl⟩ (tableOf [(0, 10, 13, 13)]) ⟨0, 10, 17, 15⟩ (tableOf []) htab (fun z hz9 => by
      simp only [tableOf, List.map_cons, List.map_nil, List.mem_cons, List.not_mem_nil, or_false] at hz9
      rcases hz9 with rfl
      · exact ⟨"java/lang/IllegalStateException", hz.nc (by decide +kernel), by decide, (hts _ (List.mem_cons_of_mem _ wm_384))⟩) (by decide) (by decide) (hts _ (List.mem_cons_of_mem _ wm_385)) (va_Nw.use rfl (hz.face xc_IllegalArgumentException)) (fun q_1 H hsz9 hkp9 => ?_)
  have hP := xt_keepP hP hkp9
  have hS := xt_keepS hS hsz9 hkp9
  refine W.widen (k := 1) (n := 6) (by decide) (by decide) ?_
  refine lv_astore (lv' := [(4, .ref q_1), (0, .ref h0), (1, .int a), (2, .int b), (3, .ref ow)]) hx hb d_LA_level_17 hl (by decide) rfl (fun ls hl => ?_)
  refine lv_iconst (v := 2) hx hb d_LA_level_19 (by decide) ?_
  have hP9 := hP.sub (ws' := [(h0, .inr (0, [.ref gm, .ref gp, .ref go, .ref gs, .ref gl, .ref gd])), (gl, .inr (5, [.ref qd, .ref ql, .int (nI nl)])), (qd, .inl (cd, 12, .inl fd)), (ql, .inl (cl, 12, .inl fl)), (ow, .inl (co, 1, .inr (.inl fo)))]) [0, 1, 2, 3, 4] rfl
  have hD9 := hD.sub (ws' := [(h0, .inr (0, [.ref gm, .ref gp, .ref go, .ref gs, .ref gl, .ref gd])), (gl, .inr (5, [.ref qd, .ref ql, .int (nI nl)])), (qd, .inl (cd, 12, .inl fd)), (ql, .inl (cl, 12, .inl fl)), (ow, .inl (co, 1, .inr (.inl fo)))]) [0, 1, 2, 3, 4] (by decide) rfl
  have hK9 := hK.sub (tys' := [(cd, .int), (cl, .int), (co, .long)]) [0, 1, 2] rfl
  exact W.iret (v := 2) hx hb hr (fun t ht hW => ⟨⟨2, (), rfl, rfl, ⟨by rw [ht]; exact hP9, va_K.moved hW.alike hK9, by exact hD9⟩⟩, hS.F ht⟩) hS.2.2 d_LA_level_20 hlocks
set_option maxHeartbeats 4000000 in
set_option maxRecDepth 100000 in
/-- the law: level, which throws -/
theorem c_LA_level_x3 (l : Launch) (hl9 : l.stackTraces = false) (dC : Nat → ClassId) (dI : Nat → Nat → Nat) (sz : Nat) (h0 : Nat) (gm : Nat) (gp : Nat) (go : Nat) (gs : Nat) (gl : Nat) (gd : Nat) (qd : Nat) (ql : Nat) (nl : Nat) (cd : ClassId) (cl : ClassId) (fd : Nat → Int32) (fl : Nat → Int32) (a : Int32) (b : Int32) (ow : Nat) (co : ClassId) (fo : Nat → Int64) (hc : nl < 12) (h1 : ¬ a < -100000) (h2 : a ≤ 100000) (hn : ¬ (¬ b < 1 ∧ b ≤ 10000)) : Met l xy_LA_level xw_LA_level ({ frames := 7, cells := 1, slots := 6, locals := 104 }) (xp_x [.ref h0, .int a, .int b, .ref ow] sz (dC, dI) xCl [(h0, .inr (0, [.ref gm, .ref gp, .ref go, .ref gs, .ref gl, .ref gd])), (gl, .inr (5, [.ref qd, .ref ql, .int (nI nl)])), (qd, .inl (cd, 12, .inl fd)), (ql, .inl (cl, 12, .inl fl)), (ow, .inl (co, 1, .inr (.inl fo)))] [(cd, .int), (cl, .int), (co, .long)]) (va_Qi (fun (r : Int32) (_ : Unit) => r = 2) (fun _ t => xb_w (dC, dI) xCl [(h0, .inr (0, [.ref gm, .ref gp, .ref go, .ref gs, .ref gl, .ref gd])), (gl, .inr (5, [.ref qd, .ref ql, .int (nI nl)])), (qd, .inl (cd, 12, .inl fd)), (ql, .inl (cl, 12, .inl fl)), (ow, .inl (co, 1, .inr (.inl fo)))] [(cd, .int), (cl, .int), (co, .long)] (va_A [(h0, .inr (0, [.ref gm, .ref gp, .ref go, .ref gs, .ref gl, .ref gd])), (gl, .inr (5, [.ref qd, .ref ql, .int (nI nl)])), (qd, .inl (cd, 12, .inl fd)), (ql, .inl (cl, 12, .inl fl)), (ow, .inl (co, 1, .inr (.inl fo)))] sz) t) (va_A [(h0, .inr (0, [.ref gm, .ref gp, .ref go, .ref gs, .ref gl, .ref gd])), (gl, .inr (5, [.ref qd, .ref ql, .int (nI nl)])), (qd, .inl (cd, 12, .inl fd)), (ql, .inl (cl, 12, .inl fl)), (ow, .inl (co, 1, .inr (.inl fo)))] sz)) 1 6 (va_A [(h0, .inr (0, [.ref gm, .ref gp, .ref go, .ref gs, .ref gl, .ref gd])), (gl, .inr (5, [.ref qd, .ref ql, .int (nI nl)])), (qd, .inl (cd, 12, .inl fd)), (ql, .inl (cl, 12, .inl fl)), (ow, .inl (co, 1, .inr (.inl fo)))] sz) := by
  refine va_MetW (cc := method_13_code) (maxL := 5) (ret := (some .int)) (by decide) rfl ?_
  intro p e s m args below meth c s₁ B hml hv
  obtain ⟨rfl, hsz, hz, hH, hP, hK, hD0⟩ := hv
  have hx := B.exec
  have hb := B.bytes
  have hr := B.returns
  have hts := atoms_spec (ws := xw_LA_level) B.pre
  have hown : s.vm.findClass xR_LA = some m.cls := findClass_of_methodNamed B.named
  have hlocks := B.notSynchronized
  have htab := xt_table B (hts _ List.mem_cons_self)
  subst hsz
  have hD := hD0.self (sz := s.heap.size)
  generalize hAe : va_A [(h0, .inr (0, [.ref gm, .ref gp, .ref go, .ref gs, .ref gl, .ref gd])), (gl, .inr (5, [.ref qd, .ref ql, .int (nI nl)])), (qd, .inl (cd, 12, .inl fd)), (ql, .inl (cl, 12, .inl fl)), (ow, .inl (co, 1, .inr (.inl fo)))] s.heap.size = A at hD ⊢
  have hA : ∀ q : Nat, s.heap.size ≤ q → A q := fun q h => by rw [← hAe]; exact Or.inr h
  have hS : va_S A s.heap s.heap [] := va_S.rf
  have hP : va_P (dC, dI) xCl [(h0, .inr (0, [.ref gm, .ref gp, .ref go, .ref gs, .ref gl, .ref gd])), (gl, .inr (5, [.ref qd, .ref ql, .int (nI nl)])), (qd, .inl (cd, 12, .inl fd)), (ql, .inl (cl, 12, .inl fl)), (ow, .inl (co, 1, .inr (.inl fo)))] s.heap := hP
  have hl := lv_entry ([.ref h0, .int a, .int b, .ref ow]) (n := 5) (Nat.le_of_ble_eq_true rfl)
  rw [lg_entry_eq]
  generalize (lg_sl ([.ref h0, .int a, .int b, .ref ow]) ++ List.replicate (5 - (lg_sl ([.ref h0, .int a, .int b, .ref ow])).length) Slot.unset).toArray = ls at hl ⊢
  have hl : lv_has ls 5 [(0, .ref h0), (1, .int a), (2, .int b), (3, .ref ow)] := hl
  refine lv_aload_n hx hb d_LA_level_0 rfl (lv_at hl 3 rfl) ?_
  refine lv_iconst (v := 0) hx hb d_LA_level_1 (by decide) ?_
  refine lv_aload_n hx hb d_LA_level_2 rfl (lv_at hl 0 rfl) ?_
  refine lv_iload_n hx hb d_LA_level_3 rfl (lv_at hl 1 rfl) ?_
  refine lv_iload_n hx hb d_LA_level_4 rfl (lv_at hl 2 rfl) ?_
  have hPc := hP.sub (ws' := [(h0, .inr (0, [.ref gm, .ref gp, .ref go, .ref gs, .ref gl, .ref gd])), (gl, .inr (5, [.ref qd, .ref ql, .int (nI nl)])), (qd, .inl (cd, 12, .inl fd)), (ql, .inl (cl, 12, .inl fl))]) [0, 1, 2, 3] rfl
  have hKc := hK.sub (tys' := [(cd, .int), (cl, .int)]) [0, 1] rfl
  refine xt_catchV (As := [.int a, .int b]) (rest := [.int 0, .ref ow]) (name := "java/lang/IllegalArgumentException") ⟨hx, hb, hml, hown, hts⟩ (c_SR_level_x3 l hl9 dC dI h0 gm gp go gs gl gd qd ql nl cd cl fd fl a b hc h1 h2 hn) (cwV 2 hts (xgV wm_615 wm_616 wm_617 wm_26 wm_618) rfl rfl rfl (by decide +kernel) ⟨Nat.le_of_ble_eq_true rfl, Nat.le_of_ble_eq_true rfl⟩) ⟨xt_blind, va_recv hKc hPc (ci := 0) (q0 := 0) rfl rfl, fun U hU hW => ⟨rfl, hz.warm hW, hH.same hW hU, by rw [hU]; exact hPc, va_K.moved hW.alike hKc⟩⟩ rfl hl.1 rfl (Nat.le_of_ble_eq_true rfl) d_LA_level_5 ⟨Nat.le_of_ble_eq_true rfl, Nat.le_of_ble_eq_true rfl⟩ (tableOf [(0, 10, 13, 13)]) ⟨0, 10, 17, 15⟩ (tableOf []) htab (fun z hz9 => by
      simp only [tableOf, List.map_cons, List.map_nil, List.mem_cons, List.not_mem_nil, or_false] at hz9
      rcases hz9 with rfl
      · exact ⟨"java/lang/IllegalStateException", hz.nc (by decide +kernel), by decide, (hts _ (List.mem_cons_of_mem _ wm_384))⟩) (by decide) (by decide) (hts _ (List.mem_cons_of_mem _ wm_385)) (va_Nw.use rfl (hz.face xc_IllegalArgumentException)) (fun q_1 H hsz9 hkp9 => ?_)
  have hP := xt_keepP hP hkp9
  have hS := xt_keepS hS hsz9 hkp9
  refine W.widen (k := 1) (n := 6) (by decide) (by decide) ?_
  refine lv_astore (lv' := [(4, .ref q_1), (0, .ref h0), (1, .int a), (2, .int b), (3, .ref ow)]) hx hb d_LA_level_17 hl (by decide) rfl (fun ls hl => ?_)
  refine lv_iconst (v := 2) hx hb d_LA_level_19 (by decide) ?_
  have hP9 := hP.sub (ws' := [(h0, .inr (0, [.ref gm, .ref gp, .ref go, .ref gs, .ref gl, .ref gd])), (gl, .inr (5, [.ref qd, .ref ql, .int (nI nl)])), (qd, .inl (cd, 12, .inl fd)), (ql, .inl (cl, 12, .inl fl)), (ow, .inl (co, 1, .inr (.inl fo)))]) [0, 1, 2, 3, 4] rfl
  have hD9 := hD.sub (ws' := [(h0, .inr (0, [.ref gm, .ref gp, .ref go, .ref gs, .ref gl, .ref gd])), (gl, .inr (5, [.ref qd, .ref ql, .int (nI nl)])), (qd, .inl (cd, 12, .inl fd)), (ql, .inl (cl, 12, .inl fl)), (ow, .inl (co, 1, .inr (.inl fo)))]) [0, 1, 2, 3, 4] (by decide) rfl
  have hK9 := hK.sub (tys' := [(cd, .int), (cl, .int), (co, .long)]) [0, 1, 2] rfl
  exact W.iret (v := 2) hx hb hr (fun t ht hW => ⟨⟨2, (), rfl, rfl, ⟨by rw [ht]; exact hP9, va_K.moved hW.alike hK9, by exact hD9⟩⟩, hS.F ht⟩) hS.2.2 d_LA_level_20 hlocks
set_option maxHeartbeats 4000000 in
set_option maxRecDepth 100000 in
/-- the law: closed, which throws -/
theorem c_LA_closed_x1 (l : Launch) (hl9 : l.stackTraces = false) (dC : Nat → ClassId) (dI : Nat → Nat → Nat) (sz : Nat) (h0 : Nat) (gm : Nat) (gp : Nat) (go : Nat) (gs : Nat) (gl : Nat) (gd : Nat) (qd : Nat) (ql : Nat) (nl : Nat) (cd : ClassId) (cl : ClassId) (fd : Nat → Int32) (fl : Nat → Int32) (a : Int32) (ow : Nat) (co : ClassId) (fo : Nat → Int64) (hc : nl ≤ 12) (hm1 : ¬ a = -1) (hv : ¬ xin a nl) : Met l xy_LA_closed xw_LA_closed ({ frames := 7, cells := 1, slots := 6, locals := 103 }) (xp_x [.ref h0, .int a, .ref ow] sz (dC, dI) xCl [(h0, .inr (0, [.ref gm, .ref gp, .ref go, .ref gs, .ref gl, .ref gd])), (gl, .inr (5, [.ref qd, .ref ql, .int (nI nl)])), (qd, .inl (cd, 12, .inl fd)), (ql, .inl (cl, 12, .inl fl)), (ow, .inl (co, 1, .inr (.inl fo)))] [(cd, .int), (cl, .int), (co, .long)]) (va_Qi (fun (r : Int32) (_ : Unit) => r = 1) (fun _ t => xb_w (dC, dI) xCl [(h0, .inr (0, [.ref gm, .ref gp, .ref go, .ref gs, .ref gl, .ref gd])), (gl, .inr (5, [.ref qd, .ref ql, .int (nI nl)])), (qd, .inl (cd, 12, .inl fd)), (ql, .inl (cl, 12, .inl fl)), (ow, .inl (co, 1, .inr (.inl fo)))] [(cd, .int), (cl, .int), (co, .long)] (va_A [(h0, .inr (0, [.ref gm, .ref gp, .ref go, .ref gs, .ref gl, .ref gd])), (gl, .inr (5, [.ref qd, .ref ql, .int (nI nl)])), (qd, .inl (cd, 12, .inl fd)), (ql, .inl (cl, 12, .inl fl)), (ow, .inl (co, 1, .inr (.inl fo)))] sz) t) (va_A [(h0, .inr (0, [.ref gm, .ref gp, .ref go, .ref gs, .ref gl, .ref gd])), (gl, .inr (5, [.ref qd, .ref ql, .int (nI nl)])), (qd, .inl (cd, 12, .inl fd)), (ql, .inl (cl, 12, .inl fl)), (ow, .inl (co, 1, .inr (.inl fo)))] sz)) 1 6 (va_A [(h0, .inr (0, [.ref gm, .ref gp, .ref go, .ref gs, .ref gl, .ref gd])), (gl, .inr (5, [.ref qd, .ref ql, .int (nI nl)])), (qd, .inl (cd, 12, .inl fd)), (ql, .inl (cl, 12, .inl fl)), (ow, .inl (co, 1, .inr (.inl fo)))] sz) := by
  refine va_MetW (cc := method_14_code) (maxL := 4) (ret := (some .int)) (by decide) rfl ?_
  intro p e s m args below meth c s₁ B hml hv
  obtain ⟨rfl, hsz, hz, hH, hP, hK, hD0⟩ := hv
  have hx := B.exec
  have hb := B.bytes
  have hr := B.returns
  have hts := atoms_spec (ws := xw_LA_closed) B.pre
  have hown : s.vm.findClass xR_LA = some m.cls := findClass_of_methodNamed B.named
  have hlocks := B.notSynchronized
  have htab := xt_table B (hts _ List.mem_cons_self)
  subst hsz
  have hD := hD0.self (sz := s.heap.size)
  generalize hAe : va_A [(h0, .inr (0, [.ref gm, .ref gp, .ref go, .ref gs, .ref gl, .ref gd])), (gl, .inr (5, [.ref qd, .ref ql, .int (nI nl)])), (qd, .inl (cd, 12, .inl fd)), (ql, .inl (cl, 12, .inl fl)), (ow, .inl (co, 1, .inr (.inl fo)))] s.heap.size = A at hD ⊢
  have hA : ∀ q : Nat, s.heap.size ≤ q → A q := fun q h => by rw [← hAe]; exact Or.inr h
  have hS : va_S A s.heap s.heap [] := va_S.rf
  have hP : va_P (dC, dI) xCl [(h0, .inr (0, [.ref gm, .ref gp, .ref go, .ref gs, .ref gl, .ref gd])), (gl, .inr (5, [.ref qd, .ref ql, .int (nI nl)])), (qd, .inl (cd, 12, .inl fd)), (ql, .inl (cl, 12, .inl fl)), (ow, .inl (co, 1, .inr (.inl fo)))] s.heap := hP
  have hl := lv_entry ([.ref h0, .int a, .ref ow]) (n := 4) (Nat.le_of_ble_eq_true rfl)
  rw [lg_entry_eq]
  generalize (lg_sl ([.ref h0, .int a, .ref ow]) ++ List.replicate (4 - (lg_sl ([.ref h0, .int a, .ref ow])).length) Slot.unset).toArray = ls at hl ⊢
  have hl : lv_has ls 4 [(0, .ref h0), (1, .int a), (2, .ref ow)] := hl
  refine lv_aload_n hx hb d_LA_closed_0 rfl (lv_at hl 2 rfl) ?_
  refine lv_iconst (v := 0) hx hb d_LA_closed_1 (by decide) ?_
  refine lv_aload_n hx hb d_LA_closed_2 rfl (lv_at hl 0 rfl) ?_
  refine lv_iload_n hx hb d_LA_closed_3 rfl (lv_at hl 1 rfl) ?_
  have hPc := hP.sub (ws' := [(h0, .inr (0, [.ref gm, .ref gp, .ref go, .ref gs, .ref gl, .ref gd])), (gl, .inr (5, [.ref qd, .ref ql, .int (nI nl)])), (qd, .inl (cd, 12, .inl fd)), (ql, .inl (cl, 12, .inl fl))]) [0, 1, 2, 3] rfl
  have hKc := hK.sub (tys' := [(cd, .int), (cl, .int)]) [0, 1] rfl
  refine xt_catchV (As := [.int a]) (rest := [.int 0, .ref ow]) (name := "java/lang/IndexOutOfBoundsException") ⟨hx, hb, hml, hown, hts⟩ (c_SR_closed_x1 l hl9 dC dI h0 gm gp go gs gl gd qd ql nl cd cl fd fl a hc hm1 hv) (cwV 1 hts (xgV wm_634 wm_635 wm_636 wm_26 wm_637) rfl rfl rfl (by decide +kernel) ⟨Nat.le_of_ble_eq_true rfl, Nat.le_of_ble_eq_true rfl⟩) ⟨xt_blind, va_recv hKc hPc (ci := 0) (q0 := 0) rfl rfl, fun U hU hW => ⟨rfl, hz.warm hW, hH.same hW hU, by rw [hU]; exact hPc, va_K.moved hW.alike hKc⟩⟩ rfl hl.1 rfl (Nat.le_of_ble_eq_true rfl) d_LA_closed_4 ⟨Nat.le_of_ble_eq_true rfl, Nat.le_of_ble_eq_true rfl⟩ (tableOf []) ⟨0, 9, 12, 21⟩ (tableOf []) htab (fun z hz9 => nomatch hz9) (by decide) (by decide) (hts _ (List.mem_cons_of_mem _ wm_485)) (va_Nw.use rfl (hz.face xc_IndexOutOfBoundsException)) (fun q_1 H hsz9 hkp9 => ?_)
  have hP := xt_keepP hP hkp9
  have hS := xt_keepS hS hsz9 hkp9
  refine W.widen (k := 1) (n := 6) (by decide) (by decide) ?_
  refine lv_astore_n (lv' := [(3, .ref q_1), (0, .ref h0), (1, .int a), (2, .ref ow)]) hx hb d_LA_closed_12 rfl hl (by decide) rfl (fun ls hl => ?_)
  refine lv_iconst (v := 1) hx hb d_LA_closed_13 (by decide) ?_
  have hP9 := hP.sub (ws' := [(h0, .inr (0, [.ref gm, .ref gp, .ref go, .ref gs, .ref gl, .ref gd])), (gl, .inr (5, [.ref qd, .ref ql, .int (nI nl)])), (qd, .inl (cd, 12, .inl fd)), (ql, .inl (cl, 12, .inl fl)), (ow, .inl (co, 1, .inr (.inl fo)))]) [0, 1, 2, 3, 4] rfl
  have hD9 := hD.sub (ws' := [(h0, .inr (0, [.ref gm, .ref gp, .ref go, .ref gs, .ref gl, .ref gd])), (gl, .inr (5, [.ref qd, .ref ql, .int (nI nl)])), (qd, .inl (cd, 12, .inl fd)), (ql, .inl (cl, 12, .inl fl)), (ow, .inl (co, 1, .inr (.inl fo)))]) [0, 1, 2, 3, 4] (by decide) rfl
  have hK9 := hK.sub (tys' := [(cd, .int), (cl, .int), (co, .long)]) [0, 1, 2] rfl
  exact W.iret (v := 1) hx hb hr (fun t ht hW => ⟨⟨1, (), rfl, rfl, ⟨by rw [ht]; exact hP9, va_K.moved hW.alike hK9, by exact hD9⟩⟩, hS.F ht⟩) hS.2.2 d_LA_closed_14 hlocks
set_option maxHeartbeats 4000000 in
set_option maxRecDepth 100000 in
/-- the law: unit, which throws -/
theorem c_LA_unit_x1 (l : Launch) (hl9 : l.stackTraces = false) (dC : Nat → ClassId) (dI : Nat → Nat → Nat) (sz : Nat) (h0 : Nat) (gm : Nat) (gp : Nat) (go : Nat) (gs : Nat) (gl : Nat) (gd : Nat) (qg : Nat) (qn : Nat) (pn : Nat) (pt : Nat) (a : Int32) (b : Int32) (ow : Nat) (co : ClassId) (fo : Nat → Int64) (hc : pn ≤ 200) (ha4 : sr_si a 4 ≤ 4) (hb4 : sr_si b 4 ≤ 4) (hg : 200 < pn + sr_si a 4 + sr_si b 4) : Met l xy_LA_unit xw_LA_unit ({ frames := 7, cells := 1, slots := 6, locals := 104 }) (xp_x [.ref h0, .int a, .int b, .ref ow] sz (dC, dI) xCl [(h0, .inr (0, [.ref gm, .ref gp, .ref go, .ref gs, .ref gl, .ref gd])), (gd, .inr (6, [.ref qg, .ref qn, .int (nI pn), .int (nI pt)])), (ow, .inl (co, 1, .inr (.inl fo)))] [(co, .long)]) (va_Qi (fun (r : Int32) (_ : Unit) => r = 1) (fun _ t => xb_w (dC, dI) xCl [(h0, .inr (0, [.ref gm, .ref gp, .ref go, .ref gs, .ref gl, .ref gd])), (gd, .inr (6, [.ref qg, .ref qn, .int (nI pn), .int (nI pt)])), (ow, .inl (co, 1, .inr (.inl fo)))] [(co, .long)] (va_A [(h0, .inr (0, [.ref gm, .ref gp, .ref go, .ref gs, .ref gl, .ref gd])), (gd, .inr (6, [.ref qg, .ref qn, .int (nI pn), .int (nI pt)])), (ow, .inl (co, 1, .inr (.inl fo)))] sz) t) (va_A [(h0, .inr (0, [.ref gm, .ref gp, .ref go, .ref gs, .ref gl, .ref gd])), (gd, .inr (6, [.ref qg, .ref qn, .int (nI pn), .int (nI pt)])), (ow, .inl (co, 1, .inr (.inl fo)))] sz)) 1 6 (va_A [(h0, .inr (0, [.ref gm, .ref gp, .ref go, .ref gs, .ref gl, .ref gd])), (gd, .inr (6, [.ref qg, .ref qn, .int (nI pn), .int (nI pt)])), (ow, .inl (co, 1, .inr (.inl fo)))] sz) := by
  refine va_MetW (cc := method_15_code) (maxL := 5) (ret := (some .int)) (by decide) rfl ?_
  intro p e s m args below meth c s₁ B hml hv
  obtain ⟨rfl, hsz, hz, hH, hP, hK, hD0⟩ := hv
  have hx := B.exec
  have hb := B.bytes
  have hr := B.returns
  have hts := atoms_spec (ws := xw_LA_unit) B.pre
  have hown : s.vm.findClass xR_LA = some m.cls := findClass_of_methodNamed B.named
  have hlocks := B.notSynchronized
  have htab := xt_table B (hts _ List.mem_cons_self)
  subst hsz
  have hD := hD0.self (sz := s.heap.size)
  generalize hAe : va_A [(h0, .inr (0, [.ref gm, .ref gp, .ref go, .ref gs, .ref gl, .ref gd])), (gd, .inr (6, [.ref qg, .ref qn, .int (nI pn), .int (nI pt)])), (ow, .inl (co, 1, .inr (.inl fo)))] s.heap.size = A at hD ⊢
  have hA : ∀ q : Nat, s.heap.size ≤ q → A q := fun q h => by rw [← hAe]; exact Or.inr h
  have hS : va_S A s.heap s.heap [] := va_S.rf
  have hP : va_P (dC, dI) xCl [(h0, .inr (0, [.ref gm, .ref gp, .ref go, .ref gs, .ref gl, .ref gd])), (gd, .inr (6, [.ref qg, .ref qn, .int (nI pn), .int (nI pt)])), (ow, .inl (co, 1, .inr (.inl fo)))] s.heap := hP
  have hl := lv_entry ([.ref h0, .int a, .int b, .ref ow]) (n := 5) (Nat.le_of_ble_eq_true rfl)
  rw [lg_entry_eq]
  generalize (lg_sl ([.ref h0, .int a, .int b, .ref ow]) ++ List.replicate (5 - (lg_sl ([.ref h0, .int a, .int b, .ref ow])).length) Slot.unset).toArray = ls at hl ⊢
  have hl : lv_has ls 5 [(0, .ref h0), (1, .int a), (2, .int b), (3, .ref ow)] := hl
  refine lv_aload_n hx hb d_LA_unit_0 rfl (lv_at hl 3 rfl) ?_
  refine lv_iconst (v := 0) hx hb d_LA_unit_1 (by decide) ?_
  refine lv_aload_n hx hb d_LA_unit_2 rfl (lv_at hl 0 rfl) ?_
  refine lv_iload_n hx hb d_LA_unit_3 rfl (lv_at hl 1 rfl) ?_
  refine lv_iload_n hx hb d_LA_unit_4 rfl (lv_at hl 2 rfl) ?_
  have hPc := hP.sub (ws' := [(h0, .inr (0, [.ref gm, .ref gp, .ref go, .ref gs, .ref gl, .ref gd])), (gd, .inr (6, [.ref qg, .ref qn, .int (nI pn), .int (nI pt)]))]) [0, 1] rfl
  have hKc := hK.sub (tys' := []) [] rfl
  refine xt_catchV (As := [.int a, .int b]) (rest := [.int 0, .ref ow]) (name := "java/lang/IllegalStateException") ⟨hx, hb, hml, hown, hts⟩ (c_SR_unit_x1 l hl9 dC dI h0 gm gp go gs gl gd qg qn pn pt a b hc ha4 hb4 hg) (cwV 2 hts (xgV wm_664 wm_665 wm_666 wm_26 wm_667) rfl rfl rfl (by decide +kernel) ⟨Nat.le_of_ble_eq_true rfl, Nat.le_of_ble_eq_true rfl⟩) ⟨xt_blind, va_recv hKc hPc (ci := 0) (q0 := 0) rfl rfl, fun U hU hW => ⟨rfl, hz.warm hW, hH.same hW hU, by rw [hU]; exact hPc, va_K.moved hW.alike hKc⟩⟩ rfl hl.1 rfl (Nat.le_of_ble_eq_true rfl) d_LA_unit_5 ⟨Nat.le_of_ble_eq_true rfl, Nat.le_of_ble_eq_true rfl⟩ (tableOf []) ⟨0, 10, 13, 13⟩ (tableOf [(0, 10, 17, 15)]) htab (fun z hz9 => nomatch hz9) (by decide) (by decide) (hts _ (List.mem_cons_of_mem _ wm_384)) (va_Nw.use rfl (hz.face xc_IllegalStateException)) (fun q_1 H hsz9 hkp9 => ?_)
  have hP := xt_keepP hP hkp9
  have hS := xt_keepS hS hsz9 hkp9
  refine W.widen (k := 1) (n := 6) (by decide) (by decide) ?_
  refine lv_astore (lv' := [(4, .ref q_1), (0, .ref h0), (1, .int a), (2, .int b), (3, .ref ow)]) hx hb d_LA_unit_13 hl (by decide) rfl (fun ls hl => ?_)
  refine lv_iconst (v := 1) hx hb d_LA_unit_15 (by decide) ?_
  have hP9 := hP.sub (ws' := [(h0, .inr (0, [.ref gm, .ref gp, .ref go, .ref gs, .ref gl, .ref gd])), (gd, .inr (6, [.ref qg, .ref qn, .int (nI pn), .int (nI pt)])), (ow, .inl (co, 1, .inr (.inl fo)))]) [0, 1, 2] rfl
  have hD9 := hD.sub (ws' := [(h0, .inr (0, [.ref gm, .ref gp, .ref go, .ref gs, .ref gl, .ref gd])), (gd, .inr (6, [.ref qg, .ref qn, .int (nI pn), .int (nI pt)])), (ow, .inl (co, 1, .inr (.inl fo)))]) [0, 1, 2] (by decide) rfl
  have hK9 := hK.sub (tys' := [(co, .long)]) [0] rfl
  exact W.iret (v := 1) hx hb hr (fun t ht hW => ⟨⟨1, (), rfl, rfl, ⟨by rw [ht]; exact hP9, va_K.moved hW.alike hK9, by exact hD9⟩⟩, hS.F ht⟩) hS.2.2 d_LA_unit_16 hlocks
set_option maxHeartbeats 4000000 in
set_option maxRecDepth 100000 in
/-- the law: unit, which throws -/
theorem c_LA_unit_x2 (l : Launch) (hl9 : l.stackTraces = false) (dC : Nat → ClassId) (dI : Nat → Nat → Nat) (sz : Nat) (h0 : Nat) (gm : Nat) (gp : Nat) (go : Nat) (gs : Nat) (gl : Nat) (gd : Nat) (qg : Nat) (qn : Nat) (pn : Nat) (pt : Nat) (a : Int32) (b : Int32) (ow : Nat) (co : ClassId) (fo : Nat → Int64) (hc : pn ≤ 200) (hle : pn + sr_si a 4 + sr_si b 4 ≤ 200) (hn : ¬ (sr_gd a 4 = true ∧ sr_gd b 4 = true)) : Met l xy_LA_unit xw_LA_unit ({ frames := 7, cells := 1, slots := 6, locals := 104 }) (xp_x [.ref h0, .int a, .int b, .ref ow] sz (dC, dI) xCl [(h0, .inr (0, [.ref gm, .ref gp, .ref go, .ref gs, .ref gl, .ref gd])), (gd, .inr (6, [.ref qg, .ref qn, .int (nI pn), .int (nI pt)])), (ow, .inl (co, 1, .inr (.inl fo)))] [(co, .long)]) (va_Qi (fun (r : Int32) (_ : Unit) => r = 2) (fun _ t => xb_w (dC, dI) xCl [(h0, .inr (0, [.ref gm, .ref gp, .ref go, .ref gs, .ref gl, .ref gd])), (gd, .inr (6, [.ref qg, .ref qn, .int (nI pn), .int (nI pt)])), (ow, .inl (co, 1, .inr (.inl fo)))] [(co, .long)] (va_A [(h0, .inr (0, [.ref gm, .ref gp, .ref go, .ref gs, .ref gl, .ref gd])), (gd, .inr (6, [.ref qg, .ref qn, .int (nI pn), .int (nI pt)])), (ow, .inl (co, 1, .inr (.inl fo)))] sz) t) (va_A [(h0, .inr (0, [.ref gm, .ref gp, .ref go, .ref gs, .ref gl, .ref gd])), (gd, .inr (6, [.ref qg, .ref qn, .int (nI pn), .int (nI pt)])), (ow, .inl (co, 1, .inr (.inl fo)))] sz)) 1 6 (va_A [(h0, .inr (0, [.ref gm, .ref gp, .ref go, .ref gs, .ref gl, .ref gd])), (gd, .inr (6, [.ref qg, .ref qn, .int (nI pn), .int (nI pt)])), (ow, .inl (co, 1, .inr (.inl fo)))] sz) := by
  refine va_MetW (cc := method_15_code) (maxL := 5) (ret := (some .int)) (by decide) rfl ?_
  intro p e s m args below meth c s₁ B hml hv
  obtain ⟨rfl, hsz, hz, hH, hP, hK, hD0⟩ := hv
  have hx := B.exec
  have hb := B.bytes
  have hr := B.returns
  have hts := atoms_spec (ws := xw_LA_unit) B.pre
  have hown : s.vm.findClass xR_LA = some m.cls := findClass_of_methodNamed B.named
  have hlocks := B.notSynchronized
  have htab := xt_table B (hts _ List.mem_cons_self)
  subst hsz
  have hD := hD0.self (sz := s.heap.size)
  generalize hAe : va_A [(h0, .inr (0, [.ref gm, .ref gp, .ref go, .ref gs, .ref gl, .ref gd])), (gd, .inr (6, [.ref qg, .ref qn, .int (nI pn), .int (nI pt)])), (ow, .inl (co, 1, .inr (.inl fo)))] s.heap.size = A at hD ⊢
  have hA : ∀ q : Nat, s.heap.size ≤ q → A q := fun q h => by rw [← hAe]; exact Or.inr h
  have hS : va_S A s.heap s.heap [] := va_S.rf
  have hP : va_P (dC, dI) xCl [(h0, .inr (0, [.ref gm, .ref gp, .ref go, .ref gs, .ref gl, .ref gd])), (gd, .inr (6, [.ref qg, .ref qn, .int (nI pn), .int (nI pt)])), (ow, .inl (co, 1, .inr (.inl fo)))] s.heap := hP
  have hl := lv_entry ([.ref h0, .int a, .int b, .ref ow]) (n := 5) (Nat.le_of_ble_eq_true rfl)
  rw [lg_entry_eq]
  generalize (lg_sl ([.ref h0, .int a, .int b, .ref ow]) ++ List.replicate (5 - (lg_sl ([.ref h0, .int a, .int b, .ref ow])).length) Slot.unset).toArray = ls at hl ⊢
  have hl : lv_has ls 5 [(0, .ref h0), (1, .int a), (2, .int b), (3, .ref ow)] := hl
  refine lv_aload_n hx hb d_LA_unit_0 rfl (lv_at hl 3 rfl) ?_
  refine lv_iconst (v := 0) hx hb d_LA_unit_1 (by decide) ?_
  refine lv_aload_n hx hb d_LA_unit_2 rfl (lv_at hl 0 rfl) ?_
  refine lv_iload_n hx hb d_LA_unit_3 rfl (lv_at hl 1 rfl) ?_
  refine lv_iload_n hx hb d_LA_unit_4 rfl (lv_at hl 2 rfl) ?_
  have hPc := hP.sub (ws' := [(h0, .inr (0, [.ref gm, .ref gp, .ref go, .ref gs, .ref gl, .ref gd])), (gd, .inr (6, [.ref qg, .ref qn, .int (nI pn), .int (nI pt)]))]) [0, 1] rfl
  have hKc := hK.sub (tys' := []) [] rfl
  refine xt_catchV (As := [.int a, .int b]) (rest := [.int 0, .ref ow]) (name := "java/lang/IllegalArgumentException") ⟨hx, hb, hml, hown, hts⟩ (c_SR_unit_x2 l hl9 dC dI h0 gm gp go gs gl gd qg qn pn pt a b hc hle hn) (cwV 2 hts (xgV wm_664 wm_665 wm_666 wm_26 wm_667) rfl rfl rfl (by decide +kernel) ⟨Nat.le_of_ble_eq_true rfl, Nat.le_of_ble_eq_true rfl⟩) ⟨xt_blind, va_recv hKc hPc (ci := 0) (q0 := 0) rfl rfl, fun U hU hW => ⟨rfl, hz.warm hW, hH.same hW hU, by rw [hU]; exact hPc, va_K.moved hW.alike hKc⟩⟩ rfl hl.1 rfl (Nat.le_of_ble_eq_true rfl) d_LA_unit_5 ⟨Nat.le_of_ble_eq_true rfl, Nat.le_of_ble_eq_true rfl⟩ (tableOf [(0, 10, 13, 13)]) ⟨0, 10, 17, 15⟩ (tableOf []) htab (fun z hz9 => by
      simp only [tableOf, List.map_cons, List.map_nil, List.mem_cons, List.not_mem_nil, or_false] at hz9
      rcases hz9 with rfl
      · exact ⟨"java/lang/IllegalStateException", hz.nc (by decide +kernel), by decide, (hts _ (List.mem_cons_of_mem _ wm_384))⟩) (by decide) (by decide) (hts _ (List.mem_cons_of_mem _ wm_385)) (va_Nw.use rfl (hz.face xc_IllegalArgumentException)) (fun q_1 H hsz9 hkp9 => ?_)
  have hP := xt_keepP hP hkp9
  have hS := xt_keepS hS hsz9 hkp9
  refine W.widen (k := 1) (n := 6) (by decide) (by decide) ?_
  refine lv_astore (lv' := [(4, .ref q_1), (0, .ref h0), (1, .int a), (2, .int b), (3, .ref ow)]) hx hb d_LA_unit_17 hl (by decide) rfl (fun ls hl => ?_)
  refine lv_iconst (v := 2) hx hb d_LA_unit_19 (by decide) ?_
  have hP9 := hP.sub (ws' := [(h0, .inr (0, [.ref gm, .ref gp, .ref go, .ref gs, .ref gl, .ref gd])), (gd, .inr (6, [.ref qg, .ref qn, .int (nI pn), .int (nI pt)])), (ow, .inl (co, 1, .inr (.inl fo)))]) [0, 1, 2] rfl
  have hD9 := hD.sub (ws' := [(h0, .inr (0, [.ref gm, .ref gp, .ref go, .ref gs, .ref gl, .ref gd])), (gd, .inr (6, [.ref qg, .ref qn, .int (nI pn), .int (nI pt)])), (ow, .inl (co, 1, .inr (.inl fo)))]) [0, 1, 2] (by decide) rfl
  have hK9 := hK.sub (tys' := [(co, .long)]) [0] rfl
  exact W.iret (v := 2) hx hb hr (fun t ht hW => ⟨⟨2, (), rfl, rfl, ⟨by rw [ht]; exact hP9, va_K.moved hW.alike hK9, by exact hD9⟩⟩, hS.F ht⟩) hS.2.2 d_LA_unit_20 hlocks
set_option maxHeartbeats 4000000 in
set_option maxRecDepth 100000 in
/-- the law: count, which throws -/
theorem c_LA_count_x1 (l : Launch) (hl9 : l.stackTraces = false) (dC : Nat → ClassId) (dI : Nat → Nat → Nat) (sz : Nat) (h0 : Nat) (gm : Nat) (gp : Nat) (go : Nat) (gs : Nat) (gl : Nat) (gd : Nat) (a : Int32) (ow : Nat) (co : ClassId) (fo : Nat → Int64) (hv : ¬ xin a 6) : Met l xy_LA_count xw_LA_count ({ frames := 7, cells := 1, slots := 6, locals := 103 }) (xp_x [.ref h0, .int a, .ref ow] sz (dC, dI) xCl [(h0, .inr (0, [.ref gm, .ref gp, .ref go, .ref gs, .ref gl, .ref gd])), (ow, .inl (co, 1, .inr (.inl fo)))] [(co, .long)]) (va_Qi (fun (r : Int32) (_ : Unit) => r = 1) (fun _ t => xb_w (dC, dI) xCl [(h0, .inr (0, [.ref gm, .ref gp, .ref go, .ref gs, .ref gl, .ref gd])), (ow, .inl (co, 1, .inr (.inl fo)))] [(co, .long)] (va_A [(h0, .inr (0, [.ref gm, .ref gp, .ref go, .ref gs, .ref gl, .ref gd])), (ow, .inl (co, 1, .inr (.inl fo)))] sz) t) (va_A [(h0, .inr (0, [.ref gm, .ref gp, .ref go, .ref gs, .ref gl, .ref gd])), (ow, .inl (co, 1, .inr (.inl fo)))] sz)) 1 6 (va_A [(h0, .inr (0, [.ref gm, .ref gp, .ref go, .ref gs, .ref gl, .ref gd])), (ow, .inl (co, 1, .inr (.inl fo)))] sz) := by
  refine va_MetW (cc := method_16_code) (maxL := 4) (ret := (some .int)) (by decide) rfl ?_
  intro p e s m args below meth c s₁ B hml hv
  obtain ⟨rfl, hsz, hz, hH, hP, hK, hD0⟩ := hv
  have hx := B.exec
  have hb := B.bytes
  have hr := B.returns
  have hts := atoms_spec (ws := xw_LA_count) B.pre
  have hown : s.vm.findClass xR_LA = some m.cls := findClass_of_methodNamed B.named
  have hlocks := B.notSynchronized
  have htab := xt_table B (hts _ List.mem_cons_self)
  subst hsz
  have hD := hD0.self (sz := s.heap.size)
  generalize hAe : va_A [(h0, .inr (0, [.ref gm, .ref gp, .ref go, .ref gs, .ref gl, .ref gd])), (ow, .inl (co, 1, .inr (.inl fo)))] s.heap.size = A at hD ⊢
  have hA : ∀ q : Nat, s.heap.size ≤ q → A q := fun q h => by rw [← hAe]; exact Or.inr h
  have hS : va_S A s.heap s.heap [] := va_S.rf
  have hP : va_P (dC, dI) xCl [(h0, .inr (0, [.ref gm, .ref gp, .ref go, .ref gs, .ref gl, .ref gd])), (ow, .inl (co, 1, .inr (.inl fo)))] s.heap := hP
  have hl := lv_entry ([.ref h0, .int a, .ref ow]) (n := 4) (Nat.le_of_ble_eq_true rfl)
  rw [lg_entry_eq]
  generalize (lg_sl ([.ref h0, .int a, .ref ow]) ++ List.replicate (4 - (lg_sl ([.ref h0, .int a, .ref ow])).length) Slot.unset).toArray = ls at hl ⊢
  have hl : lv_has ls 4 [(0, .ref h0), (1, .int a), (2, .ref ow)] := hl
  refine lv_aload_n hx hb d_LA_count_0 rfl (lv_at hl 2 rfl) ?_
  refine lv_iconst (v := 0) hx hb d_LA_count_1 (by decide) ?_
  refine lv_aload_n hx hb d_LA_count_2 rfl (lv_at hl 0 rfl) ?_
  refine lv_iload_n hx hb d_LA_count_3 rfl (lv_at hl 1 rfl) ?_
  have hPc := hP.sub (ws' := [(h0, .inr (0, [.ref gm, .ref gp, .ref go, .ref gs, .ref gl, .ref gd]))]) [0] rfl
  have hKc := hK.sub (tys' := []) [] rfl
  refine xt_catchV (As := [.int a]) (rest := [.int 0, .ref ow]) (name := "java/lang/IndexOutOfBoundsException") ⟨hx, hb, hml, hown, hts⟩ (c_SR_count_x1 l hl9 dC dI h0 gm gp go gs gl gd a hv) (cwV 1 hts (xgV wm_686 wm_687 wm_688 wm_26 wm_689) rfl rfl rfl (by decide +kernel) ⟨Nat.le_of_ble_eq_true rfl, Nat.le_of_ble_eq_true rfl⟩) ⟨xt_blind, va_recv hKc hPc (ci := 0) (q0 := 0) rfl rfl, fun U hU hW => ⟨rfl, hz.warm hW, hH.same hW hU, by rw [hU]; exact hPc, va_K.moved hW.alike hKc⟩⟩ rfl hl.1 rfl (Nat.le_of_ble_eq_true rfl) d_LA_count_4 ⟨Nat.le_of_ble_eq_true rfl, Nat.le_of_ble_eq_true rfl⟩ (tableOf []) ⟨0, 9, 12, 21⟩ (tableOf []) htab (fun z hz9 => nomatch hz9) (by decide) (by decide) (hts _ (List.mem_cons_of_mem _ wm_485)) (va_Nw.use rfl (hz.face xc_IndexOutOfBoundsException)) (fun q_1 H hsz9 hkp9 => ?_)
  have hP := xt_keepP hP hkp9
  have hS := xt_keepS hS hsz9 hkp9
  refine W.widen (k := 1) (n := 6) (by decide) (by decide) ?_
  refine lv_astore_n (lv' := [(3, .ref q_1), (0, .ref h0), (1, .int a), (2, .ref ow)]) hx hb d_LA_count_12 rfl hl (by decide) rfl (fun ls hl => ?_)
  refine lv_iconst (v := 1) hx hb d_LA_count_13 (by decide) ?_
  have hP9 := hP.sub (ws' := [(h0, .inr (0, [.ref gm, .ref gp, .ref go, .ref gs, .ref gl, .ref gd])), (ow, .inl (co, 1, .inr (.inl fo)))]) [0, 1] rfl
  have hD9 := hD.sub (ws' := [(h0, .inr (0, [.ref gm, .ref gp, .ref go, .ref gs, .ref gl, .ref gd])), (ow, .inl (co, 1, .inr (.inl fo)))]) [0, 1] (by decide) rfl
  have hK9 := hK.sub (tys' := [(co, .long)]) [0] rfl
  exact W.iret (v := 1) hx hb hr (fun t ht hW => ⟨⟨1, (), rfl, rfl, ⟨by rw [ht]; exact hP9, va_K.moved hW.alike hK9, by exact hD9⟩⟩, hS.F ht⟩) hS.2.2 d_LA_count_14 hlocks
