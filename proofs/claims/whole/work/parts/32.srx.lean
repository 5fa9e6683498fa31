
set_option maxHeartbeats 4000000 in
set_option maxRecDepth 100000 in
/-- mark throws -/
theorem c_SR_mark_x1 (l : Launch) (hl9 : l.stackTraces = false) (dC : Nat → ClassId) (dI : Nat → Nat → Nat) (h0 : Nat) (gm : Nat) (gp : Nat) (go : Nat) (gs : Nat) (gl : Nat) (gd : Nat) (ma : Nat) (mb : Nat) (md : Nat) (nm : Nat) (ka : ClassId) (kb : ClassId) (kd : ClassId) (mx : Nat → Int32) (my : Nat → Int32) (mz : Nat → Int32) (a : Int32) (b : Int32) (d : Int32) (hc : nm ≤ 12) (hf : 12 ≤ nm) : xt_Met l xy_SR_mark xw_SR_mark ({ frames := 6, cells := 1, slots := 6, locals := 82 }) (xp_t [.ref h0, .int a, .int b, .int d] (dC, dI) xCl [(h0, .inr (0, [.ref gm, .ref gp, .ref go, .ref gs, .ref gl, .ref gd])), (gm, .inr (1, [.ref ma, .ref mb, .ref md, .int (nI nm)])), (ma, .inl (ka, 12, .inl mx)), (mb, .inl (kb, 12, .inl my)), (md, .inl (kd, 12, .inl mz))] [(ka, .int), (kb, .int), (kd, .int)]) "java/lang/IllegalStateException" 1 6 := by
  refine xt_ofW (cc := prog_1_method_2_code) (maxL := 4) (ret := (some .int)) (by decide) rfl ?_
  intro p e s m args below meth c s₁ B hml hv
  obtain ⟨rfl, hz, hH, hP, hK⟩ := hv
  have hx := B.exec
  have hb := B.bytes
  have hr := B.returns
  have hts := atoms_spec (ws := xw_SR_mark) B.pre
  have hown : s.vm.findClass xR_SR = some m.cls := findClass_of_methodNamed B.named
  have hlocks := B.notSynchronized
  have hout := xt_empty B (hts _ List.mem_cons_self)
  have hP : va_P (dC, dI) xCl [(h0, .inr (0, [.ref gm, .ref gp, .ref go, .ref gs, .ref gl, .ref gd])), (gm, .inr (1, [.ref ma, .ref mb, .ref md, .int (nI nm)])), (ma, .inl (ka, 12, .inl mx)), (mb, .inl (kb, 12, .inl my)), (md, .inl (kd, 12, .inl mz))] s.heap := hP
  have hl := lv_entry ([.ref h0, .int a, .int b, .int d]) (n := 4) (Nat.le_of_ble_eq_true rfl)
  rw [lg_entry_eq]
  generalize (lg_sl ([.ref h0, .int a, .int b, .int d]) ++ List.replicate (4 - (lg_sl ([.ref h0, .int a, .int b, .int d])).length) Slot.unset).toArray = ls at hl ⊢
  have hl : lv_has ls 4 [(0, .ref h0), (1, .int a), (2, .int b), (3, .int d)] := hl
  refine lv_aload_n hx hb d_SR_mark_0 rfl (lv_at hl 0 rfl) ?_
  refine va_get (D := (dC, dI)) (ci := 0) (v := .ref gm) (C := xR_SR) (T := xT_SR) (N := 6) hx hb hts (fun w h => List.mem_cons_of_mem _ (iw_SR w h)) hown hK hP 0 rfl rfl 0 (by decide) (hts _ (List.mem_cons_of_mem _ wm_246)) (fun _ h9 => h9) rfl d_SR_mark_1 ?_
  refine xr_calli (va_runV (As := []) (rest := []) ⟨hx, hb, hml, hown, hts⟩ (c_SP_isFull l dC dI gm ma mb md nm 12 ka mx (by first | assumption | omega | decide) (by first | assumption | omega | decide)) (cwV 0 hts (xgV wm_390 wm_391 wm_392 wm_27 wm_393) rfl rfl rfl (by decide +kernel) ⟨Nat.le_of_ble_eq_true rfl, Nat.le_of_ble_eq_true rfl⟩) ⟨xp_blind, va_recv hK hP (ci := 1) (q0 := 1) rfl rfl, fun U hU hW => ⟨rfl, hz.warm hW, by rw [hU]; exact hP.sub [1, 2] rfl, va_K.moved hW.alike (hK.sub [0] rfl)⟩⟩ rfl rfl hl.1 rfl (lv_room (Nat.le_of_ble_eq_true rfl)) d_SR_mark_4 ⟨Nat.le_of_ble_eq_true rfl, Nat.le_of_ble_eq_true rfl⟩) (fun r_1 h_2 => ?_)
  refine lv_if_eq (tgt := 20) hx hb d_SR_mark_7 (by decide) (fun c_3 => ?_) (fun c_3 => ?_)
  · have b_4 := bI_f h_2 c_3
    exact False.elim (by first | contradiction | omega)
  · have b_5 := bI_t h_2 c_3
    obtain ⟨sa, hsa⟩ := hz.str (own := xR_SR) (idx := 55) (tx := "there are twelve marks") (by decide +kernel)
    exact xt_throwS (names := ["java/lang/RuntimeException", "java/lang/Exception"]) hx hb hl9 ⟨⟨d_SR_mark_10, d_SR_mark_13⟩, d_SR_mark_14, d_SR_mark_16, d_SR_mark_19⟩ hown (by decide +kernel) (by decide +kernel) (hts _ (List.mem_cons_of_mem _ wm_394)) (hts _ (List.mem_cons_of_mem _ wm_38)) hsa (xt_atoms xe_57 hz hH) (hml.trans hl.1.symm) hout hlocks ⟨Nat.le_of_ble_eq_true rfl, Nat.le_of_ble_eq_true rfl, Nat.le_of_ble_eq_true rfl, Nat.le_of_ble_eq_true rfl⟩
set_option maxHeartbeats 4000000 in
set_option maxRecDepth 100000 in
/-- mark throws -/
theorem c_SR_mark_x2 (l : Launch) (hl9 : l.stackTraces = false) (dC : Nat → ClassId) (dI : Nat → Nat → Nat) (h0 : Nat) (gm : Nat) (gp : Nat) (go : Nat) (gs : Nat) (gl : Nat) (gd : Nat) (ma : Nat) (mb : Nat) (md : Nat) (nm : Nat) (ka : ClassId) (kb : ClassId) (kd : ClassId) (mx : Nat → Int32) (my : Nat → Int32) (mz : Nat → Int32) (a : Int32) (b : Int32) (d : Int32) (hc : nm < 12) (hn : ¬ (sr_near a ∧ sr_near b ∧ sr_near d)) : xt_Met l xy_SR_mark xw_SR_mark ({ frames := 6, cells := 1, slots := 6, locals := 82 }) (xp_t [.ref h0, .int a, .int b, .int d] (dC, dI) xCl [(h0, .inr (0, [.ref gm, .ref gp, .ref go, .ref gs, .ref gl, .ref gd])), (gm, .inr (1, [.ref ma, .ref mb, .ref md, .int (nI nm)])), (ma, .inl (ka, 12, .inl mx)), (mb, .inl (kb, 12, .inl my)), (md, .inl (kd, 12, .inl mz))] [(ka, .int), (kb, .int), (kd, .int)]) "java/lang/IllegalArgumentException" 1 6 := by
  refine xt_ofW (cc := prog_1_method_2_code) (maxL := 4) (ret := (some .int)) (by decide) rfl ?_
  intro p e s m args below meth c s₁ B hml hv
  obtain ⟨rfl, hz, hH, hP, hK⟩ := hv
  have hx := B.exec
  have hb := B.bytes
  have hr := B.returns
  have hts := atoms_spec (ws := xw_SR_mark) B.pre
  have hown : s.vm.findClass xR_SR = some m.cls := findClass_of_methodNamed B.named
  have hlocks := B.notSynchronized
  have hout := xt_empty B (hts _ List.mem_cons_self)
  have hP : va_P (dC, dI) xCl [(h0, .inr (0, [.ref gm, .ref gp, .ref go, .ref gs, .ref gl, .ref gd])), (gm, .inr (1, [.ref ma, .ref mb, .ref md, .int (nI nm)])), (ma, .inl (ka, 12, .inl mx)), (mb, .inl (kb, 12, .inl my)), (md, .inl (kd, 12, .inl mz))] s.heap := hP
  have hl := lv_entry ([.ref h0, .int a, .int b, .int d]) (n := 4) (Nat.le_of_ble_eq_true rfl)
  rw [lg_entry_eq]
  generalize (lg_sl ([.ref h0, .int a, .int b, .int d]) ++ List.replicate (4 - (lg_sl ([.ref h0, .int a, .int b, .int d])).length) Slot.unset).toArray = ls at hl ⊢
  have hl : lv_has ls 4 [(0, .ref h0), (1, .int a), (2, .int b), (3, .int d)] := hl
  refine lv_aload_n hx hb d_SR_mark_0 rfl (lv_at hl 0 rfl) ?_
  refine va_get (D := (dC, dI)) (ci := 0) (v := .ref gm) (C := xR_SR) (T := xT_SR) (N := 6) hx hb hts (fun w h => List.mem_cons_of_mem _ (iw_SR w h)) hown hK hP 0 rfl rfl 0 (by decide) (hts _ (List.mem_cons_of_mem _ wm_246)) (fun _ h9 => h9) rfl d_SR_mark_1 ?_
  refine xr_calli (va_runV (As := []) (rest := []) ⟨hx, hb, hml, hown, hts⟩ (c_SP_isFull l dC dI gm ma mb md nm 12 ka mx (by first | assumption | omega | decide) (by first | assumption | omega | decide)) (cwV 0 hts (xgV wm_390 wm_391 wm_392 wm_27 wm_393) rfl rfl rfl (by decide +kernel) ⟨Nat.le_of_ble_eq_true rfl, Nat.le_of_ble_eq_true rfl⟩) ⟨xp_blind, va_recv hK hP (ci := 1) (q0 := 1) rfl rfl, fun U hU hW => ⟨rfl, hz.warm hW, by rw [hU]; exact hP.sub [1, 2] rfl, va_K.moved hW.alike (hK.sub [0] rfl)⟩⟩ rfl rfl hl.1 rfl (lv_room (Nat.le_of_ble_eq_true rfl)) d_SR_mark_4 ⟨Nat.le_of_ble_eq_true rfl, Nat.le_of_ble_eq_true rfl⟩) (fun r_1 h_2 => ?_)
  refine lv_if_eq (tgt := 20) hx hb d_SR_mark_7 (by decide) (fun c_3 => ?_) (fun c_3 => ?_)
  · have b_4 := bI_f h_2 c_3
    refine lv_iload_n hx hb d_SR_mark_20 rfl (lv_at hl 1 rfl) ?_
    refine lv_iload_n hx hb d_SR_mark_21 rfl (lv_at hl 2 rfl) ?_
    refine lv_iload_n hx hb d_SR_mark_22 rfl (lv_at hl 3 rfl) ?_
    refine xr_calli (va_runS (As := [.int a, .int b, .int d]) (rest := []) ⟨hx, hb, hml, hown, hts⟩ (c_SR_areNear l dC dI a b d) (va_cwS 3 hts (xgS wm_371 wm_372 wm_26 wm_373) rfl rfl rfl (by decide +kernel) ⟨Nat.le_of_ble_eq_true rfl, Nat.le_of_ble_eq_true rfl⟩) ⟨xp_blind, fun U hU hW => ⟨rfl, hz.warm hW, by rw [hU]; exact hP.sub [] rfl, va_K.moved hW.alike (hK.sub [] rfl)⟩⟩ rfl rfl hl.1 rfl (lv_room (Nat.le_of_ble_eq_true rfl)) d_SR_mark_23 ⟨Nat.le_of_ble_eq_true rfl, Nat.le_of_ble_eq_true rfl⟩) (fun r_5 h_6 => ?_)
    refine lv_if_ne (tgt := 39) hx hb d_SR_mark_26 (by decide) (fun c_7 => ?_) (fun c_7 => ?_)
    · have b_8 := bI_t h_6 c_7
      exact False.elim (by first | contradiction | omega)
    · have b_9 := bI_f h_6 c_7
      obtain ⟨sa, hsa⟩ := hz.str (own := xR_SR) (idx := 66) (tx := "a mark lies too far away") (by decide +kernel)
      exact xt_throwS (names := ["java/lang/RuntimeException", "java/lang/Exception"]) hx hb hl9 ⟨⟨d_SR_mark_29, d_SR_mark_32⟩, d_SR_mark_33, d_SR_mark_35, d_SR_mark_38⟩ hown (by decide +kernel) (by decide +kernel) (hts _ (List.mem_cons_of_mem _ wm_462)) (hts _ (List.mem_cons_of_mem _ wm_39)) hsa (xt_atoms xe_68 hz hH) (hml.trans hl.1.symm) hout hlocks ⟨Nat.le_of_ble_eq_true rfl, Nat.le_of_ble_eq_true rfl, Nat.le_of_ble_eq_true rfl, Nat.le_of_ble_eq_true rfl⟩
  · have b_10 := bI_t h_2 c_3
    exact False.elim (by first | contradiction | omega)
set_option maxHeartbeats 4000000 in
set_option maxRecDepth 100000 in
/-- observe throws -/
theorem c_SR_observe_x1 (l : Launch) (hl9 : l.stackTraces = false) (dC : Nat → ClassId) (dI : Nat → Nat → Nat) (h0 : Nat) (gm : Nat) (gp : Nat) (go : Nat) (gs : Nat) (gl : Nat) (gd : Nat) (ma : Nat) (mb : Nat) (md : Nat) (nm : Nat) (ka : ClassId) (kb : ClassId) (kd : ClassId) (mx : Nat → Int32) (my : Nat → Int32) (mz : Nat → Int32) (qx : Nat) (qy : Nat) (qz : Nat) (qu : Nat) (qv : Nat) (qw : Nat) (qp : Nat) (qe : Nat) (no : Nat) (i0 : Int32) (a : Int32) (b : Int32) (d : Int32) (hm : nm ≤ 12) (hno : no ≤ 20) (hv : ¬ xin i0 nm) : xt_Met l xy_SR_observe xw_SR_observe ({ frames := 6, cells := 1, slots := 6, locals := 82 }) (xp_t [.ref h0, .int i0, .int a, .int b, .int d] (dC, dI) xCl [(h0, .inr (0, [.ref gm, .ref gp, .ref go, .ref gs, .ref gl, .ref gd])), (gm, .inr (1, [.ref ma, .ref mb, .ref md, .int (nI nm)])), (ma, .inl (ka, 12, .inl mx)), (mb, .inl (kb, 12, .inl my)), (md, .inl (kd, 12, .inl mz)), (go, .inr (2, [.ref qx, .ref qy, .ref qz, .ref qu, .ref qv, .ref qw, .ref qp, .ref qe, .int (nI no)]))] [(ka, .int), (kb, .int), (kd, .int)]) "java/lang/IndexOutOfBoundsException" 1 6 := by
  refine xt_ofW (cc := prog_1_method_3_code) (maxL := 5) (ret := (some .int)) (by decide) rfl ?_
  intro p e s m args below meth c s₁ B hml hv
  obtain ⟨rfl, hz, hH, hP, hK⟩ := hv
  have hx := B.exec
  have hb := B.bytes
  have hr := B.returns
  have hts := atoms_spec (ws := xw_SR_observe) B.pre
  have hown : s.vm.findClass xR_SR = some m.cls := findClass_of_methodNamed B.named
  have hlocks := B.notSynchronized
  have hout := xt_empty B (hts _ List.mem_cons_self)
  have hP : va_P (dC, dI) xCl [(h0, .inr (0, [.ref gm, .ref gp, .ref go, .ref gs, .ref gl, .ref gd])), (gm, .inr (1, [.ref ma, .ref mb, .ref md, .int (nI nm)])), (ma, .inl (ka, 12, .inl mx)), (mb, .inl (kb, 12, .inl my)), (md, .inl (kd, 12, .inl mz)), (go, .inr (2, [.ref qx, .ref qy, .ref qz, .ref qu, .ref qv, .ref qw, .ref qp, .ref qe, .int (nI no)]))] s.heap := hP
  have hl := lv_entry ([.ref h0, .int i0, .int a, .int b, .int d]) (n := 5) (Nat.le_of_ble_eq_true rfl)
  rw [lg_entry_eq]
  generalize (lg_sl ([.ref h0, .int i0, .int a, .int b, .int d]) ++ List.replicate (5 - (lg_sl ([.ref h0, .int i0, .int a, .int b, .int d])).length) Slot.unset).toArray = ls at hl ⊢
  have hl : lv_has ls 5 [(0, .ref h0), (1, .int i0), (2, .int a), (3, .int b), (4, .int d)] := hl
  refine lv_aload_n hx hb d_SR_observe_0 rfl (lv_at hl 0 rfl) ?_
  refine va_get (D := (dC, dI)) (ci := 0) (v := .ref gm) (C := xR_SR) (T := xT_SR) (N := 6) hx hb hts (fun w h => List.mem_cons_of_mem _ (iw_SR w h)) hown hK hP 0 rfl rfl 0 (by decide) (hts _ (List.mem_cons_of_mem _ wm_246)) (fun _ h9 => h9) rfl d_SR_observe_1 ?_
  refine lv_iload_n hx hb d_SR_observe_4 rfl (lv_at hl 1 rfl) ?_
  refine xr_calli (va_runV (As := [.int i0]) (rest := []) ⟨hx, hb, hml, hown, hts⟩ (c_SP_has l dC dI gm ma mb md nm i0 (by first | assumption | omega | decide)) (cwV 1 hts (xgV wm_363 wm_364 wm_365 wm_27 wm_366) rfl rfl rfl (by decide +kernel) ⟨Nat.le_of_ble_eq_true rfl, Nat.le_of_ble_eq_true rfl⟩) ⟨xp_blind, va_recv hK hP (ci := 1) (q0 := 1) rfl rfl, fun U hU hW => ⟨rfl, hz.warm hW, by rw [hU]; exact hP.sub [1] rfl, va_K.moved hW.alike (hK.sub [] rfl)⟩⟩ rfl rfl hl.1 rfl (lv_room (Nat.le_of_ble_eq_true rfl)) d_SR_observe_5 ⟨Nat.le_of_ble_eq_true rfl, Nat.le_of_ble_eq_true rfl⟩) (fun r_1 h_2 => ?_)
  refine lv_if_ne (tgt := 21) hx hb d_SR_observe_8 (by decide) (fun c_3 => ?_) (fun c_3 => ?_)
  · have b_4 := bI_t h_2 c_3
    exact False.elim (by first | contradiction | omega)
  · have b_5 := bI_f h_2 c_3
    obtain ⟨sa, hsa⟩ := hz.str (own := xR_SR) (idx := 79) (tx := "no such mark") (by decide +kernel)
    exact xt_throwS (names := ["java/lang/RuntimeException", "java/lang/Exception"]) hx hb hl9 ⟨⟨d_SR_observe_11, d_SR_observe_14⟩, d_SR_observe_15, d_SR_observe_17, d_SR_observe_20⟩ hown (by decide +kernel) (by decide +kernel) (hts _ (List.mem_cons_of_mem _ wm_490)) (hts _ (List.mem_cons_of_mem _ wm_40)) hsa (xt_atoms xe_81 hz hH) (hml.trans hl.1.symm) hout hlocks ⟨Nat.le_of_ble_eq_true rfl, Nat.le_of_ble_eq_true rfl, Nat.le_of_ble_eq_true rfl, Nat.le_of_ble_eq_true rfl⟩
set_option maxHeartbeats 4000000 in
set_option maxRecDepth 100000 in
/-- observe throws -/
theorem c_SR_observe_x2 (l : Launch) (hl9 : l.stackTraces = false) (dC : Nat → ClassId) (dI : Nat → Nat → Nat) (h0 : Nat) (gm : Nat) (gp : Nat) (go : Nat) (gs : Nat) (gl : Nat) (gd : Nat) (ma : Nat) (mb : Nat) (md : Nat) (nm : Nat) (ka : ClassId) (kb : ClassId) (kd : ClassId) (mx : Nat → Int32) (my : Nat → Int32) (mz : Nat → Int32) (qx : Nat) (qy : Nat) (qz : Nat) (qu : Nat) (qv : Nat) (qw : Nat) (qp : Nat) (qe : Nat) (no : Nat) (i0 : Int32) (a : Int32) (b : Int32) (d : Int32) (hm : nm ≤ 12) (hno : no ≤ 20) (hv : xin i0 nm) (hf : 20 ≤ no) : xt_Met l xy_SR_observe xw_SR_observe ({ frames := 6, cells := 1, slots := 6, locals := 82 }) (xp_t [.ref h0, .int i0, .int a, .int b, .int d] (dC, dI) xCl [(h0, .inr (0, [.ref gm, .ref gp, .ref go, .ref gs, .ref gl, .ref gd])), (gm, .inr (1, [.ref ma, .ref mb, .ref md, .int (nI nm)])), (ma, .inl (ka, 12, .inl mx)), (mb, .inl (kb, 12, .inl my)), (md, .inl (kd, 12, .inl mz)), (go, .inr (2, [.ref qx, .ref qy, .ref qz, .ref qu, .ref qv, .ref qw, .ref qp, .ref qe, .int (nI no)]))] [(ka, .int), (kb, .int), (kd, .int)]) "java/lang/IllegalStateException" 1 6 := by
  refine xt_ofW (cc := prog_1_method_3_code) (maxL := 5) (ret := (some .int)) (by decide) rfl ?_
  intro p e s m args below meth c s₁ B hml hv
  obtain ⟨rfl, hz, hH, hP, hK⟩ := hv
  have hx := B.exec
  have hb := B.bytes
  have hr := B.returns
  have hts := atoms_spec (ws := xw_SR_observe) B.pre
  have hown : s.vm.findClass xR_SR = some m.cls := findClass_of_methodNamed B.named
  have hlocks := B.notSynchronized
  have hout := xt_empty B (hts _ List.mem_cons_self)
  have hP : va_P (dC, dI) xCl [(h0, .inr (0, [.ref gm, .ref gp, .ref go, .ref gs, .ref gl, .ref gd])), (gm, .inr (1, [.ref ma, .ref mb, .ref md, .int (nI nm)])), (ma, .inl (ka, 12, .inl mx)), (mb, .inl (kb, 12, .inl my)), (md, .inl (kd, 12, .inl mz)), (go, .inr (2, [.ref qx, .ref qy, .ref qz, .ref qu, .ref qv, .ref qw, .ref qp, .ref qe, .int (nI no)]))] s.heap := hP
  have hl := lv_entry ([.ref h0, .int i0, .int a, .int b, .int d]) (n := 5) (Nat.le_of_ble_eq_true rfl)
  rw [lg_entry_eq]
  generalize (lg_sl ([.ref h0, .int i0, .int a, .int b, .int d]) ++ List.replicate (5 - (lg_sl ([.ref h0, .int i0, .int a, .int b, .int d])).length) Slot.unset).toArray = ls at hl ⊢
  have hl : lv_has ls 5 [(0, .ref h0), (1, .int i0), (2, .int a), (3, .int b), (4, .int d)] := hl
  refine lv_aload_n hx hb d_SR_observe_0 rfl (lv_at hl 0 rfl) ?_
  refine va_get (D := (dC, dI)) (ci := 0) (v := .ref gm) (C := xR_SR) (T := xT_SR) (N := 6) hx hb hts (fun w h => List.mem_cons_of_mem _ (iw_SR w h)) hown hK hP 0 rfl rfl 0 (by decide) (hts _ (List.mem_cons_of_mem _ wm_246)) (fun _ h9 => h9) rfl d_SR_observe_1 ?_
  refine lv_iload_n hx hb d_SR_observe_4 rfl (lv_at hl 1 rfl) ?_
  refine xr_calli (va_runV (As := [.int i0]) (rest := []) ⟨hx, hb, hml, hown, hts⟩ (c_SP_has l dC dI gm ma mb md nm i0 (by first | assumption | omega | decide)) (cwV 1 hts (xgV wm_363 wm_364 wm_365 wm_27 wm_366) rfl rfl rfl (by decide +kernel) ⟨Nat.le_of_ble_eq_true rfl, Nat.le_of_ble_eq_true rfl⟩) ⟨xp_blind, va_recv hK hP (ci := 1) (q0 := 1) rfl rfl, fun U hU hW => ⟨rfl, hz.warm hW, by rw [hU]; exact hP.sub [1] rfl, va_K.moved hW.alike (hK.sub [] rfl)⟩⟩ rfl rfl hl.1 rfl (lv_room (Nat.le_of_ble_eq_true rfl)) d_SR_observe_5 ⟨Nat.le_of_ble_eq_true rfl, Nat.le_of_ble_eq_true rfl⟩) (fun r_1 h_2 => ?_)
  refine lv_if_ne (tgt := 21) hx hb d_SR_observe_8 (by decide) (fun c_3 => ?_) (fun c_3 => ?_)
  · have b_4 := bI_t h_2 c_3
    refine lv_aload_n hx hb d_SR_observe_21 rfl (lv_at hl 0 rfl) ?_
    refine va_get (D := (dC, dI)) (ci := 0) (v := .ref go) (C := xR_SR) (T := xT_SR) (N := 6) hx hb hts (fun w h => List.mem_cons_of_mem _ (iw_SR w h)) hown hK hP 0 rfl rfl 2 (by decide) (hts _ (List.mem_cons_of_mem _ wm_248)) (fun _ h9 => h9) rfl d_SR_observe_22 ?_
    refine xr_calli (va_runV (As := []) (rest := []) ⟨hx, hb, hml, hown, hts⟩ (c_OB_isFull l dC dI go qx qy qz qu qv qw qp qe no (by first | assumption | omega | decide)) (cwV 0 hts (xgV wm_367 wm_368 wm_369 wm_29 wm_370) rfl rfl rfl (by decide +kernel) ⟨Nat.le_of_ble_eq_true rfl, Nat.le_of_ble_eq_true rfl⟩) ⟨xp_blind, va_recv hK hP (ci := 2) (q0 := 5) rfl rfl, fun U hU hW => ⟨rfl, hz.warm hW, by rw [hU]; exact hP.sub [5] rfl, va_K.moved hW.alike (hK.sub [] rfl)⟩⟩ rfl rfl hl.1 rfl (lv_room (Nat.le_of_ble_eq_true rfl)) d_SR_observe_25 ⟨Nat.le_of_ble_eq_true rfl, Nat.le_of_ble_eq_true rfl⟩) (fun r_5 h_6 => ?_)
    refine lv_if_eq (tgt := 41) hx hb d_SR_observe_28 (by decide) (fun c_7 => ?_) (fun c_7 => ?_)
    · have b_8 := bI_f h_6 c_7
      exact False.elim (by first | contradiction | omega)
    · have b_9 := bI_t h_6 c_7
      obtain ⟨sa, hsa⟩ := hz.str (own := xR_SR) (idx := 83) (tx := "there are twenty observations") (by decide +kernel)
      exact xt_throwS (names := ["java/lang/RuntimeException", "java/lang/Exception"]) hx hb hl9 ⟨⟨d_SR_observe_31, d_SR_observe_34⟩, d_SR_observe_35, d_SR_observe_37, d_SR_observe_40⟩ hown (by decide +kernel) (by decide +kernel) (hts _ (List.mem_cons_of_mem _ wm_394)) (hts _ (List.mem_cons_of_mem _ wm_38)) hsa (xt_atoms xe_57 hz hH) (hml.trans hl.1.symm) hout hlocks ⟨Nat.le_of_ble_eq_true rfl, Nat.le_of_ble_eq_true rfl, Nat.le_of_ble_eq_true rfl, Nat.le_of_ble_eq_true rfl⟩
  · have b_10 := bI_f h_2 c_3
    exact False.elim (by first | contradiction | omega)
set_option maxHeartbeats 4000000 in
set_option maxRecDepth 100000 in
/-- observe throws -/
theorem c_SR_observe_x3 (l : Launch) (hl9 : l.stackTraces = false) (dC : Nat → ClassId) (dI : Nat → Nat → Nat) (h0 : Nat) (gm : Nat) (gp : Nat) (go : Nat) (gs : Nat) (gl : Nat) (gd : Nat) (ma : Nat) (mb : Nat) (md : Nat) (nm : Nat) (ka : ClassId) (kb : ClassId) (kd : ClassId) (mx : Nat → Int32) (my : Nat → Int32) (mz : Nat → Int32) (qx : Nat) (qy : Nat) (qz : Nat) (qu : Nat) (qv : Nat) (qw : Nat) (qp : Nat) (qe : Nat) (no : Nat) (i0 : Int32) (a : Int32) (b : Int32) (d : Int32) (hm : nm ≤ 12) (hv : xin i0 nm) (hc : no < 20) (hn : ¬ (sr_near a ∧ sr_near b ∧ sr_near d)) : xt_Met l xy_SR_observe xw_SR_observe ({ frames := 6, cells := 1, slots := 6, locals := 82 }) (xp_t [.ref h0, .int i0, .int a, .int b, .int d] (dC, dI) xCl [(h0, .inr (0, [.ref gm, .ref gp, .ref go, .ref gs, .ref gl, .ref gd])), (gm, .inr (1, [.ref ma, .ref mb, .ref md, .int (nI nm)])), (ma, .inl (ka, 12, .inl mx)), (mb, .inl (kb, 12, .inl my)), (md, .inl (kd, 12, .inl mz)), (go, .inr (2, [.ref qx, .ref qy, .ref qz, .ref qu, .ref qv, .ref qw, .ref qp, .ref qe, .int (nI no)]))] [(ka, .int), (kb, .int), (kd, .int)]) "java/lang/IllegalArgumentException" 1 6 := by
  refine xt_ofW (cc := prog_1_method_3_code) (maxL := 5) (ret := (some .int)) (by decide) rfl ?_
  intro p e s m args below meth c s₁ B hml hv
  obtain ⟨rfl, hz, hH, hP, hK⟩ := hv
  have hx := B.exec
  have hb := B.bytes
  have hr := B.returns
  have hts := atoms_spec (ws := xw_SR_observe) B.pre
  have hown : s.vm.findClass xR_SR = some m.cls := findClass_of_methodNamed B.named
  have hlocks := B.notSynchronized
  have hout := xt_empty B (hts _ List.mem_cons_self)
  have hP : va_P (dC, dI) xCl [(h0, .inr (0, [.ref gm, .ref gp, .ref go, .ref gs, .ref gl, .ref gd])), (gm, .inr (1, [.ref ma, .ref mb, .ref md, .int (nI nm)])), (ma, .inl (ka, 12, .inl mx)), (mb, .inl (kb, 12, .inl my)), (md, .inl (kd, 12, .inl mz)), (go, .inr (2, [.ref qx, .ref qy, .ref qz, .ref qu, .ref qv, .ref qw, .ref qp, .ref qe, .int (nI no)]))] s.heap := hP
  have hl := lv_entry ([.ref h0, .int i0, .int a, .int b, .int d]) (n := 5) (Nat.le_of_ble_eq_true rfl)
  rw [lg_entry_eq]
  generalize (lg_sl ([.ref h0, .int i0, .int a, .int b, .int d]) ++ List.replicate (5 - (lg_sl ([.ref h0, .int i0, .int a, .int b, .int d])).length) Slot.unset).toArray = ls at hl ⊢
  have hl : lv_has ls 5 [(0, .ref h0), (1, .int i0), (2, .int a), (3, .int b), (4, .int d)] := hl
  refine lv_aload_n hx hb d_SR_observe_0 rfl (lv_at hl 0 rfl) ?_
  refine va_get (D := (dC, dI)) (ci := 0) (v := .ref gm) (C := xR_SR) (T := xT_SR) (N := 6) hx hb hts (fun w h => List.mem_cons_of_mem _ (iw_SR w h)) hown hK hP 0 rfl rfl 0 (by decide) (hts _ (List.mem_cons_of_mem _ wm_246)) (fun _ h9 => h9) rfl d_SR_observe_1 ?_
  refine lv_iload_n hx hb d_SR_observe_4 rfl (lv_at hl 1 rfl) ?_
  refine xr_calli (va_runV (As := [.int i0]) (rest := []) ⟨hx, hb, hml, hown, hts⟩ (c_SP_has l dC dI gm ma mb md nm i0 (by first | assumption | omega | decide)) (cwV 1 hts (xgV wm_363 wm_364 wm_365 wm_27 wm_366) rfl rfl rfl (by decide +kernel) ⟨Nat.le_of_ble_eq_true rfl, Nat.le_of_ble_eq_true rfl⟩) ⟨xp_blind, va_recv hK hP (ci := 1) (q0 := 1) rfl rfl, fun U hU hW => ⟨rfl, hz.warm hW, by rw [hU]; exact hP.sub [1] rfl, va_K.moved hW.alike (hK.sub [] rfl)⟩⟩ rfl rfl hl.1 rfl (lv_room (Nat.le_of_ble_eq_true rfl)) d_SR_observe_5 ⟨Nat.le_of_ble_eq_true rfl, Nat.le_of_ble_eq_true rfl⟩) (fun r_1 h_2 => ?_)
  refine lv_if_ne (tgt := 21) hx hb d_SR_observe_8 (by decide) (fun c_3 => ?_) (fun c_3 => ?_)
  · have b_4 := bI_t h_2 c_3
    refine lv_aload_n hx hb d_SR_observe_21 rfl (lv_at hl 0 rfl) ?_
    refine va_get (D := (dC, dI)) (ci := 0) (v := .ref go) (C := xR_SR) (T := xT_SR) (N := 6) hx hb hts (fun w h => List.mem_cons_of_mem _ (iw_SR w h)) hown hK hP 0 rfl rfl 2 (by decide) (hts _ (List.mem_cons_of_mem _ wm_248)) (fun _ h9 => h9) rfl d_SR_observe_22 ?_
    refine xr_calli (va_runV (As := []) (rest := []) ⟨hx, hb, hml, hown, hts⟩ (c_OB_isFull l dC dI go qx qy qz qu qv qw qp qe no (by first | assumption | omega | decide)) (cwV 0 hts (xgV wm_367 wm_368 wm_369 wm_29 wm_370) rfl rfl rfl (by decide +kernel) ⟨Nat.le_of_ble_eq_true rfl, Nat.le_of_ble_eq_true rfl⟩) ⟨xp_blind, va_recv hK hP (ci := 2) (q0 := 5) rfl rfl, fun U hU hW => ⟨rfl, hz.warm hW, by rw [hU]; exact hP.sub [5] rfl, va_K.moved hW.alike (hK.sub [] rfl)⟩⟩ rfl rfl hl.1 rfl (lv_room (Nat.le_of_ble_eq_true rfl)) d_SR_observe_25 ⟨Nat.le_of_ble_eq_true rfl, Nat.le_of_ble_eq_true rfl⟩) (fun r_5 h_6 => ?_)
    refine lv_if_eq (tgt := 41) hx hb d_SR_observe_28 (by decide) (fun c_7 => ?_) (fun c_7 => ?_)
    · have b_8 := bI_f h_6 c_7
      refine lv_iload_n hx hb d_SR_observe_41 rfl (lv_at hl 2 rfl) ?_
      refine lv_iload_n hx hb d_SR_observe_42 rfl (lv_at hl 3 rfl) ?_
      refine lv_iload hx hb d_SR_observe_43 (lv_at hl 4 rfl) ?_
      refine xr_calli (va_runS (As := [.int a, .int b, .int d]) (rest := []) ⟨hx, hb, hml, hown, hts⟩ (c_SR_areNear l dC dI a b d) (va_cwS 3 hts (xgS wm_371 wm_372 wm_26 wm_373) rfl rfl rfl (by decide +kernel) ⟨Nat.le_of_ble_eq_true rfl, Nat.le_of_ble_eq_true rfl⟩) ⟨xp_blind, fun U hU hW => ⟨rfl, hz.warm hW, by rw [hU]; exact hP.sub [] rfl, va_K.moved hW.alike (hK.sub [] rfl)⟩⟩ rfl rfl hl.1 rfl (lv_room (Nat.le_of_ble_eq_true rfl)) d_SR_observe_45 ⟨Nat.le_of_ble_eq_true rfl, Nat.le_of_ble_eq_true rfl⟩) (fun r_9 h_10 => ?_)
      refine lv_if_ne (tgt := 61) hx hb d_SR_observe_48 (by decide) (fun c_11 => ?_) (fun c_11 => ?_)
      · have b_12 := bI_t h_10 c_11
        exact False.elim (by first | contradiction | omega)
      · have b_13 := bI_f h_10 c_11
        obtain ⟨sa, hsa⟩ := hz.str (own := xR_SR) (idx := 85) (tx := "an observation lies too far away") (by decide +kernel)
        exact xt_throwS (names := ["java/lang/RuntimeException", "java/lang/Exception"]) hx hb hl9 ⟨⟨d_SR_observe_51, d_SR_observe_54⟩, d_SR_observe_55, d_SR_observe_57, d_SR_observe_60⟩ hown (by decide +kernel) (by decide +kernel) (hts _ (List.mem_cons_of_mem _ wm_462)) (hts _ (List.mem_cons_of_mem _ wm_39)) hsa (xt_atoms xe_68 hz hH) (hml.trans hl.1.symm) hout hlocks ⟨Nat.le_of_ble_eq_true rfl, Nat.le_of_ble_eq_true rfl, Nat.le_of_ble_eq_true rfl, Nat.le_of_ble_eq_true rfl⟩
    · have b_14 := bI_t h_6 c_7
      exact False.elim (by first | contradiction | omega)
  · have b_15 := bI_f h_2 c_3
    exact False.elim (by first | contradiction | omega)
set_option maxHeartbeats 4000000 in
set_option maxRecDepth 100000 in
/-- prism throws -/
theorem c_SR_prism_x1 (l : Launch) (hl9 : l.stackTraces = false) (dC : Nat → ClassId) (dI : Nat → Nat → Nat) (h0 : Nat) (gm : Nat) (gp : Nat) (go : Nat) (gs : Nat) (gl : Nat) (gd : Nat) (qx : Nat) (qy : Nat) (qz : Nat) (qu : Nat) (qv : Nat) (qw : Nat) (qp : Nat) (qe : Nat) (no : Nat) (i0 : Int32) (a : Int32) (hno : no ≤ 20) (hv : ¬ xin i0 no) : xt_Met l xy_SR_prism xw_SR_prism ({ frames := 6, cells := 1, slots := 6, locals := 82 }) (xp_t [.ref h0, .int i0, .int a] (dC, dI) xCl [(h0, .inr (0, [.ref gm, .ref gp, .ref go, .ref gs, .ref gl, .ref gd])), (go, .inr (2, [.ref qx, .ref qy, .ref qz, .ref qu, .ref qv, .ref qw, .ref qp, .ref qe, .int (nI no)]))] []) "java/lang/IndexOutOfBoundsException" 1 6 := by
  refine xt_ofW (cc := prog_1_method_4_code) (maxL := 4) (ret := (some .int)) (by decide) rfl ?_
  intro p e s m args below meth c s₁ B hml hv
  obtain ⟨rfl, hz, hH, hP, hK⟩ := hv
  have hx := B.exec
  have hb := B.bytes
  have hr := B.returns
  have hts := atoms_spec (ws := xw_SR_prism) B.pre
  have hown : s.vm.findClass xR_SR = some m.cls := findClass_of_methodNamed B.named
  have hlocks := B.notSynchronized
  have hout := xt_empty B (hts _ List.mem_cons_self)
  have hP : va_P (dC, dI) xCl [(h0, .inr (0, [.ref gm, .ref gp, .ref go, .ref gs, .ref gl, .ref gd])), (go, .inr (2, [.ref qx, .ref qy, .ref qz, .ref qu, .ref qv, .ref qw, .ref qp, .ref qe, .int (nI no)]))] s.heap := hP
  have hl := lv_entry ([.ref h0, .int i0, .int a]) (n := 4) (Nat.le_of_ble_eq_true rfl)
  rw [lg_entry_eq]
  generalize (lg_sl ([.ref h0, .int i0, .int a]) ++ List.replicate (4 - (lg_sl ([.ref h0, .int i0, .int a])).length) Slot.unset).toArray = ls at hl ⊢
  have hl : lv_has ls 4 [(0, .ref h0), (1, .int i0), (2, .int a)] := hl
  refine lv_aload_n hx hb d_SR_prism_0 rfl (lv_at hl 0 rfl) ?_
  refine va_get (D := (dC, dI)) (ci := 0) (v := .ref go) (C := xR_SR) (T := xT_SR) (N := 6) hx hb hts (fun w h => List.mem_cons_of_mem _ (iw_SR w h)) hown hK hP 0 rfl rfl 2 (by decide) (hts _ (List.mem_cons_of_mem _ wm_248)) (fun _ h9 => h9) rfl d_SR_prism_1 ?_
  refine lv_iload_n hx hb d_SR_prism_4 rfl (lv_at hl 1 rfl) ?_
  refine xr_calli (va_runV (As := [.int i0]) (rest := []) ⟨hx, hb, hml, hown, hts⟩ (c_OB_has l dC dI go qx qy qz qu qv qw qp qe no i0 (by first | assumption | omega | decide)) (cwV 1 hts (xgV wm_515 wm_516 wm_517 wm_29 wm_518) rfl rfl rfl (by decide +kernel) ⟨Nat.le_of_ble_eq_true rfl, Nat.le_of_ble_eq_true rfl⟩) ⟨xp_blind, va_recv hK hP (ci := 2) (q0 := 1) rfl rfl, fun U hU hW => ⟨rfl, hz.warm hW, by rw [hU]; exact hP.sub [1] rfl, va_K.moved hW.alike (hK.sub [] rfl)⟩⟩ rfl rfl hl.1 rfl (lv_room (Nat.le_of_ble_eq_true rfl)) d_SR_prism_5 ⟨Nat.le_of_ble_eq_true rfl, Nat.le_of_ble_eq_true rfl⟩) (fun r_1 h_2 => ?_)
  refine lv_if_ne (tgt := 21) hx hb d_SR_prism_8 (by decide) (fun c_3 => ?_) (fun c_3 => ?_)
  · have b_4 := bI_t h_2 c_3
    exact False.elim (by first | contradiction | omega)
  · have b_5 := bI_f h_2 c_3
    obtain ⟨sa, hsa⟩ := hz.str (own := xR_SR) (idx := 91) (tx := "no such observation") (by decide +kernel)
    exact xt_throwS (names := ["java/lang/RuntimeException", "java/lang/Exception"]) hx hb hl9 ⟨⟨d_SR_prism_11, d_SR_prism_14⟩, d_SR_prism_15, d_SR_prism_17, d_SR_prism_20⟩ hown (by decide +kernel) (by decide +kernel) (hts _ (List.mem_cons_of_mem _ wm_490)) (hts _ (List.mem_cons_of_mem _ wm_40)) hsa (xt_atoms xe_81 hz hH) (hml.trans hl.1.symm) hout hlocks ⟨Nat.le_of_ble_eq_true rfl, Nat.le_of_ble_eq_true rfl, Nat.le_of_ble_eq_true rfl, Nat.le_of_ble_eq_true rfl⟩
set_option maxHeartbeats 4000000 in
set_option maxRecDepth 100000 in
/-- prism throws -/
theorem c_SR_prism_x2 (l : Launch) (hl9 : l.stackTraces = false) (dC : Nat → ClassId) (dI : Nat → Nat → Nat) (h0 : Nat) (gm : Nat) (gp : Nat) (go : Nat) (gs : Nat) (gl : Nat) (gd : Nat) (qx : Nat) (qy : Nat) (qz : Nat) (qu : Nat) (qv : Nat) (qw : Nat) (qp : Nat) (qe : Nat) (no : Nat) (i0 : Int32) (a : Int32) (hno : no ≤ 20) (hv : xin i0 no) (hn : ¬ (¬ a < 0 ∧ a ≤ 3000)) : xt_Met l xy_SR_prism xw_SR_prism ({ frames := 6, cells := 1, slots := 6, locals := 82 }) (xp_t [.ref h0, .int i0, .int a] (dC, dI) xCl [(h0, .inr (0, [.ref gm, .ref gp, .ref go, .ref gs, .ref gl, .ref gd])), (go, .inr (2, [.ref qx, .ref qy, .ref qz, .ref qu, .ref qv, .ref qw, .ref qp, .ref qe, .int (nI no)]))] []) "java/lang/IllegalArgumentException" 1 6 := by
  refine xt_ofW (cc := prog_1_method_4_code) (maxL := 4) (ret := (some .int)) (by decide) rfl ?_
  intro p e s m args below meth c s₁ B hml hv
  obtain ⟨rfl, hz, hH, hP, hK⟩ := hv
  have hx := B.exec
  have hb := B.bytes
  have hr := B.returns
  have hts := atoms_spec (ws := xw_SR_prism) B.pre
  have hown : s.vm.findClass xR_SR = some m.cls := findClass_of_methodNamed B.named
  have hlocks := B.notSynchronized
  have hout := xt_empty B (hts _ List.mem_cons_self)
  have hP : va_P (dC, dI) xCl [(h0, .inr (0, [.ref gm, .ref gp, .ref go, .ref gs, .ref gl, .ref gd])), (go, .inr (2, [.ref qx, .ref qy, .ref qz, .ref qu, .ref qv, .ref qw, .ref qp, .ref qe, .int (nI no)]))] s.heap := hP
  have hl := lv_entry ([.ref h0, .int i0, .int a]) (n := 4) (Nat.le_of_ble_eq_true rfl)
  rw [lg_entry_eq]
  generalize (lg_sl ([.ref h0, .int i0, .int a]) ++ List.replicate (4 - (lg_sl ([.ref h0, .int i0, .int a])).length) Slot.unset).toArray = ls at hl ⊢
  have hl : lv_has ls 4 [(0, .ref h0), (1, .int i0), (2, .int a)] := hl
  refine lv_aload_n hx hb d_SR_prism_0 rfl (lv_at hl 0 rfl) ?_
  refine va_get (D := (dC, dI)) (ci := 0) (v := .ref go) (C := xR_SR) (T := xT_SR) (N := 6) hx hb hts (fun w h => List.mem_cons_of_mem _ (iw_SR w h)) hown hK hP 0 rfl rfl 2 (by decide) (hts _ (List.mem_cons_of_mem _ wm_248)) (fun _ h9 => h9) rfl d_SR_prism_1 ?_
  refine lv_iload_n hx hb d_SR_prism_4 rfl (lv_at hl 1 rfl) ?_
  refine xr_calli (va_runV (As := [.int i0]) (rest := []) ⟨hx, hb, hml, hown, hts⟩ (c_OB_has l dC dI go qx qy qz qu qv qw qp qe no i0 (by first | assumption | omega | decide)) (cwV 1 hts (xgV wm_515 wm_516 wm_517 wm_29 wm_518) rfl rfl rfl (by decide +kernel) ⟨Nat.le_of_ble_eq_true rfl, Nat.le_of_ble_eq_true rfl⟩) ⟨xp_blind, va_recv hK hP (ci := 2) (q0 := 1) rfl rfl, fun U hU hW => ⟨rfl, hz.warm hW, by rw [hU]; exact hP.sub [1] rfl, va_K.moved hW.alike (hK.sub [] rfl)⟩⟩ rfl rfl hl.1 rfl (lv_room (Nat.le_of_ble_eq_true rfl)) d_SR_prism_5 ⟨Nat.le_of_ble_eq_true rfl, Nat.le_of_ble_eq_true rfl⟩) (fun r_1 h_2 => ?_)
  refine lv_if_ne (tgt := 21) hx hb d_SR_prism_8 (by decide) (fun c_3 => ?_) (fun c_3 => ?_)
  · have b_4 := bI_t h_2 c_3
    refine lv_iload_n hx hb d_SR_prism_21 rfl (lv_at hl 2 rfl) ?_
    refine lv_if_lt (tgt := 32) hx hb d_SR_prism_22 (by decide) (fun c_5 => ?_) (fun c_5 => ?_)
    · obtain ⟨sa, hsa⟩ := hz.str (own := xR_SR) (idx := 93) (tx := "a prism's height is 0 to 3000") (by decide +kernel)
      exact xt_throwS (names := ["java/lang/RuntimeException", "java/lang/Exception"]) hx hb hl9 ⟨⟨d_SR_prism_32, d_SR_prism_35⟩, d_SR_prism_36, d_SR_prism_38, d_SR_prism_41⟩ hown (by decide +kernel) (by decide +kernel) (hts _ (List.mem_cons_of_mem _ wm_462)) (hts _ (List.mem_cons_of_mem _ wm_39)) hsa (xt_atoms xe_68 hz hH) (hml.trans hl.1.symm) hout hlocks ⟨Nat.le_of_ble_eq_true rfl, Nat.le_of_ble_eq_true rfl, Nat.le_of_ble_eq_true rfl, Nat.le_of_ble_eq_true rfl⟩
    · refine lv_iload_n hx hb d_SR_prism_25 rfl (lv_at hl 2 rfl) ?_
      refine lv_sipush (v := 3000) hx hb d_SR_prism_26 (by decide) ?_
      refine lv_icmp_le (tgt := 42) hx hb d_SR_prism_29 (by decide) (fun c_6 => ?_) (fun c_6 => ?_)
      · exact False.elim (by first | contradiction | omega | exact hn ⟨by assumption, by assumption⟩)
      · obtain ⟨sa, hsa⟩ := hz.str (own := xR_SR) (idx := 93) (tx := "a prism's height is 0 to 3000") (by decide +kernel)
        exact xt_throwS (names := ["java/lang/RuntimeException", "java/lang/Exception"]) hx hb hl9 ⟨⟨d_SR_prism_32, d_SR_prism_35⟩, d_SR_prism_36, d_SR_prism_38, d_SR_prism_41⟩ hown (by decide +kernel) (by decide +kernel) (hts _ (List.mem_cons_of_mem _ wm_462)) (hts _ (List.mem_cons_of_mem _ wm_39)) hsa (xt_atoms xe_68 hz hH) (hml.trans hl.1.symm) hout hlocks ⟨Nat.le_of_ble_eq_true rfl, Nat.le_of_ble_eq_true rfl, Nat.le_of_ble_eq_true rfl, Nat.le_of_ble_eq_true rfl⟩
  · have b_7 := bI_f h_2 c_3
    exact False.elim (by first | contradiction | omega | exact hn ⟨by assumption, by assumption⟩)
set_option maxHeartbeats 4000000 in
set_option maxRecDepth 100000 in
/-- use throws -/
theorem c_SR_use_x1 (l : Launch) (hl9 : l.stackTraces = false) (dC : Nat → ClassId) (dI : Nat → Nat → Nat) (h0 : Nat) (gm : Nat) (gp : Nat) (go : Nat) (gs : Nat) (gl : Nat) (gd : Nat) (qx : Nat) (qy : Nat) (qz : Nat) (qu : Nat) (qv : Nat) (qw : Nat) (qp : Nat) (qe : Nat) (no : Nat) (i0 : Int32) (a : Int32) (hno : no ≤ 20) (hv : ¬ xin i0 no) : xt_Met l xy_SR_use xw_SR_use ({ frames := 6, cells := 1, slots := 6, locals := 82 }) (xp_t [.ref h0, .int i0, .int a] (dC, dI) xCl [(h0, .inr (0, [.ref gm, .ref gp, .ref go, .ref gs, .ref gl, .ref gd])), (go, .inr (2, [.ref qx, .ref qy, .ref qz, .ref qu, .ref qv, .ref qw, .ref qp, .ref qe, .int (nI no)]))] []) "java/lang/IndexOutOfBoundsException" 1 6 := by
  refine xt_ofW (cc := prog_1_method_5_code) (maxL := 4) (ret := (some .boolean)) (by decide) rfl ?_
  intro p e s m args below meth c s₁ B hml hv
  obtain ⟨rfl, hz, hH, hP, hK⟩ := hv
  have hx := B.exec
  have hb := B.bytes
  have hr := B.returns
  have hts := atoms_spec (ws := xw_SR_use) B.pre
  have hown : s.vm.findClass xR_SR = some m.cls := findClass_of_methodNamed B.named
  have hlocks := B.notSynchronized
  have hout := xt_empty B (hts _ List.mem_cons_self)
  have hP : va_P (dC, dI) xCl [(h0, .inr (0, [.ref gm, .ref gp, .ref go, .ref gs, .ref gl, .ref gd])), (go, .inr (2, [.ref qx, .ref qy, .ref qz, .ref qu, .ref qv, .ref qw, .ref qp, .ref qe, .int (nI no)]))] s.heap := hP
  have hl := lv_entry ([.ref h0, .int i0, .int a]) (n := 4) (Nat.le_of_ble_eq_true rfl)
  rw [lg_entry_eq]
  generalize (lg_sl ([.ref h0, .int i0, .int a]) ++ List.replicate (4 - (lg_sl ([.ref h0, .int i0, .int a])).length) Slot.unset).toArray = ls at hl ⊢
  have hl : lv_has ls 4 [(0, .ref h0), (1, .int i0), (2, .int a)] := hl
  refine lv_aload_n hx hb d_SR_use_0 rfl (lv_at hl 0 rfl) ?_
  refine va_get (D := (dC, dI)) (ci := 0) (v := .ref go) (C := xR_SR) (T := xT_SR) (N := 6) hx hb hts (fun w h => List.mem_cons_of_mem _ (iw_SR w h)) hown hK hP 0 rfl rfl 2 (by decide) (hts _ (List.mem_cons_of_mem _ wm_248)) (fun _ h9 => h9) rfl d_SR_use_1 ?_
  refine lv_iload_n hx hb d_SR_use_4 rfl (lv_at hl 1 rfl) ?_
  refine xr_calli (va_runV (As := [.int i0]) (rest := []) ⟨hx, hb, hml, hown, hts⟩ (c_OB_has l dC dI go qx qy qz qu qv qw qp qe no i0 (by first | assumption | omega | decide)) (cwV 1 hts (xgV wm_515 wm_516 wm_517 wm_29 wm_518) rfl rfl rfl (by decide +kernel) ⟨Nat.le_of_ble_eq_true rfl, Nat.le_of_ble_eq_true rfl⟩) ⟨xp_blind, va_recv hK hP (ci := 2) (q0 := 1) rfl rfl, fun U hU hW => ⟨rfl, hz.warm hW, by rw [hU]; exact hP.sub [1] rfl, va_K.moved hW.alike (hK.sub [] rfl)⟩⟩ rfl rfl hl.1 rfl (lv_room (Nat.le_of_ble_eq_true rfl)) d_SR_use_5 ⟨Nat.le_of_ble_eq_true rfl, Nat.le_of_ble_eq_true rfl⟩) (fun r_1 h_2 => ?_)
  refine lv_if_ne (tgt := 21) hx hb d_SR_use_8 (by decide) (fun c_3 => ?_) (fun c_3 => ?_)
  · have b_4 := bI_t h_2 c_3
    exact False.elim (by first | contradiction | omega)
  · have b_5 := bI_f h_2 c_3
    obtain ⟨sa, hsa⟩ := hz.str (own := xR_SR) (idx := 91) (tx := "no such observation") (by decide +kernel)
    exact xt_throwS (names := ["java/lang/RuntimeException", "java/lang/Exception"]) hx hb hl9 ⟨⟨d_SR_use_11, d_SR_use_14⟩, d_SR_use_15, d_SR_use_17, d_SR_use_20⟩ hown (by decide +kernel) (by decide +kernel) (hts _ (List.mem_cons_of_mem _ wm_490)) (hts _ (List.mem_cons_of_mem _ wm_40)) hsa (xt_atoms xe_81 hz hH) (hml.trans hl.1.symm) hout hlocks ⟨Nat.le_of_ble_eq_true rfl, Nat.le_of_ble_eq_true rfl, Nat.le_of_ble_eq_true rfl, Nat.le_of_ble_eq_true rfl⟩
set_option maxHeartbeats 4000000 in
set_option maxRecDepth 100000 in
/-- turned throws -/
theorem c_SR_turned_x1 (l : Launch) (hl9 : l.stackTraces = false) (dC : Nat → ClassId) (dI : Nat → Nat → Nat) (h0 : Nat) (gm : Nat) (gp : Nat) (go : Nat) (gs : Nat) (gl : Nat) (gd : Nat) (su : Nat) (sp : Nat) (sm : Nat) (se : Nat) (m0 : Nat) (m1 : Nat) (m2 : Nat) (ca : ClassId) (cm : ClassId) (cm0 : ClassId) (cm1 : ClassId) (cm2 : ClassId) (cq : ClassId) (S : sr_St) (sf : Nat → Int64) (i0 : Int32) (hv : ¬ xin i0 4) : xt_Met l xy_SR_turned xw_SR_turned ({ frames := 6, cells := 1, slots := 6, locals := 82 }) (xp_t [.ref h0, .int i0] (dC, dI) xCl [(h0, .inr (0, [.ref gm, .ref gp, .ref go, .ref gs, .ref gl, .ref gd])), (gs, .inr (4, [.ref su, .ref sp, .ref sm, .ref se, .long (st_dv S), .int (st_ht S), .int (nI (st_sc S)), .int (st_md S)])), (sp, .inl (ca, 4, .inr (.inl (st_fa S)))), (sm, .inl (cm, 3, .inr (.inr (.inr (.inr (xm_3 m0 m1 m2)))))), (m0, .inl (cm0, 20, .inl (st_n0 S))), (m1, .inl (cm1, 20, .inl (st_n1 S))), (m2, .inl (cm2, 20, .inl (st_n2 S))), (se, .inl (cq, 20, .inl (st_fq S))), (su, .inr (3, [.long (sf 1), .long (sf 2), .long (sf 3), .long (sf 4), .long (sf 5), .long (sf 6), .long (sf 7), .long (sf 8), .long (sf 9)]))] [(ca, .long), (cm, .array .int), (cm0, .int), (cm1, .int), (cm2, .int), (cq, .boolean)]) "java/lang/IndexOutOfBoundsException" 1 6 := by
  refine xt_ofW (cc := prog_1_method_7_code) (maxL := 2) (ret := (some .long)) (by decide) rfl ?_
  intro p e s m args below meth c s₁ B hml hv
  obtain ⟨rfl, hz, hH, hP, hK⟩ := hv
  have hx := B.exec
  have hb := B.bytes
  have hr := B.returns
  have hts := atoms_spec (ws := xw_SR_turned) B.pre
  have hown : s.vm.findClass xR_SR = some m.cls := findClass_of_methodNamed B.named
  have hlocks := B.notSynchronized
  have hout := xt_empty B (hts _ List.mem_cons_self)
  have hP : va_P (dC, dI) xCl [(h0, .inr (0, [.ref gm, .ref gp, .ref go, .ref gs, .ref gl, .ref gd])), (gs, .inr (4, [.ref su, .ref sp, .ref sm, .ref se, .long (st_dv S), .int (st_ht S), .int (nI (st_sc S)), .int (st_md S)])), (sp, .inl (ca, 4, .inr (.inl (st_fa S)))), (sm, .inl (cm, 3, .inr (.inr (.inr (.inr (xm_3 m0 m1 m2)))))), (m0, .inl (cm0, 20, .inl (st_n0 S))), (m1, .inl (cm1, 20, .inl (st_n1 S))), (m2, .inl (cm2, 20, .inl (st_n2 S))), (se, .inl (cq, 20, .inl (st_fq S))), (su, .inr (3, [.long (sf 1), .long (sf 2), .long (sf 3), .long (sf 4), .long (sf 5), .long (sf 6), .long (sf 7), .long (sf 8), .long (sf 9)]))] s.heap := hP
  have hl := lv_entry ([.ref h0, .int i0]) (n := 2) (Nat.le_of_ble_eq_true rfl)
  rw [lg_entry_eq]
  generalize (lg_sl ([.ref h0, .int i0]) ++ List.replicate (2 - (lg_sl ([.ref h0, .int i0])).length) Slot.unset).toArray = ls at hl ⊢
  have hl : lv_has ls 2 [(0, .ref h0), (1, .int i0)] := hl
  refine lv_aload_n hx hb d_SR_turned_0 rfl (lv_at hl 0 rfl) ?_
  refine va_get (D := (dC, dI)) (ci := 0) (v := .ref gs) (C := xR_SR) (T := xT_SR) (N := 6) hx hb hts (fun w h => List.mem_cons_of_mem _ (iw_SR w h)) hown hK hP 0 rfl rfl 3 (by decide) (hts _ (List.mem_cons_of_mem _ wm_249)) (fun _ h9 => h9) rfl d_SR_turned_1 ?_
  refine lv_iload_n hx hb d_SR_turned_4 rfl (lv_at hl 1 rfl) ?_
  refine xr_calli (va_runV (As := [.int i0]) (rest := []) ⟨hx, hb, hml, hown, hts⟩ (c_SU_hasPart l dC dI gs su sp sm se (st_dv S) (st_ht S) (st_sc S) (st_md S) i0) (cwV 1 hts (xgV wm_535 wm_536 wm_537 wm_30 wm_538) rfl rfl rfl (by decide +kernel) ⟨Nat.le_of_ble_eq_true rfl, Nat.le_of_ble_eq_true rfl⟩) ⟨xp_blind, va_recv hK hP (ci := 4) (q0 := 1) rfl rfl, fun U hU hW => ⟨rfl, hz.warm hW, by rw [hU]; exact hP.sub [1] rfl, va_K.moved hW.alike (hK.sub [] rfl)⟩⟩ rfl rfl hl.1 rfl (lv_room (Nat.le_of_ble_eq_true rfl)) d_SR_turned_5 ⟨Nat.le_of_ble_eq_true rfl, Nat.le_of_ble_eq_true rfl⟩) (fun r_1 h_2 => ?_)
  refine lv_if_ne (tgt := 21) hx hb d_SR_turned_8 (by decide) (fun c_3 => ?_) (fun c_3 => ?_)
  · have b_4 := bI_t h_2 c_3
    exact False.elim (by first | contradiction | omega)
  · have b_5 := bI_f h_2 c_3
    obtain ⟨sa, hsa⟩ := hz.str (own := xR_SR) (idx := 114) (tx := "no such part of a set-up") (by decide +kernel)
    exact xt_throwS (names := ["java/lang/RuntimeException", "java/lang/Exception"]) hx hb hl9 ⟨⟨d_SR_turned_11, d_SR_turned_14⟩, d_SR_turned_15, d_SR_turned_17, d_SR_turned_20⟩ hown (by decide +kernel) (by decide +kernel) (hts _ (List.mem_cons_of_mem _ wm_490)) (hts _ (List.mem_cons_of_mem _ wm_40)) hsa (xt_atoms xe_81 hz hH) (hml.trans hl.1.symm) hout hlocks ⟨Nat.le_of_ble_eq_true rfl, Nat.le_of_ble_eq_true rfl, Nat.le_of_ble_eq_true rfl, Nat.le_of_ble_eq_true rfl⟩
set_option maxHeartbeats 4000000 in
set_option maxRecDepth 100000 in
/-- turned throws -/
theorem c_SR_turned_x2 (l : Launch) (hl9 : l.stackTraces = false) (dC : Nat → ClassId) (dI : Nat → Nat → Nat) (h0 : Nat) (gm : Nat) (gp : Nat) (go : Nat) (gs : Nat) (gl : Nat) (gd : Nat) (su : Nat) (sp : Nat) (sm : Nat) (se : Nat) (m0 : Nat) (m1 : Nat) (m2 : Nat) (ca : ClassId) (cm : ClassId) (cm0 : ClassId) (cm1 : ClassId) (cm2 : ClassId) (cq : ClassId) (S : sr_St) (sf : Nat → Int64) (i0 : Int32) (hv : xin i0 4) (hm : st_md S = 0) : xt_Met l xy_SR_turned xw_SR_turned ({ frames := 6, cells := 1, slots := 6, locals := 82 }) (xp_t [.ref h0, .int i0] (dC, dI) xCl [(h0, .inr (0, [.ref gm, .ref gp, .ref go, .ref gs, .ref gl, .ref gd])), (gs, .inr (4, [.ref su, .ref sp, .ref sm, .ref se, .long (st_dv S), .int (st_ht S), .int (nI (st_sc S)), .int (st_md S)])), (sp, .inl (ca, 4, .inr (.inl (st_fa S)))), (sm, .inl (cm, 3, .inr (.inr (.inr (.inr (xm_3 m0 m1 m2)))))), (m0, .inl (cm0, 20, .inl (st_n0 S))), (m1, .inl (cm1, 20, .inl (st_n1 S))), (m2, .inl (cm2, 20, .inl (st_n2 S))), (se, .inl (cq, 20, .inl (st_fq S))), (su, .inr (3, [.long (sf 1), .long (sf 2), .long (sf 3), .long (sf 4), .long (sf 5), .long (sf 6), .long (sf 7), .long (sf 8), .long (sf 9)]))] [(ca, .long), (cm, .array .int), (cm0, .int), (cm1, .int), (cm2, .int), (cq, .boolean)]) "java/lang/IllegalStateException" 1 6 := by
  refine xt_ofW (cc := prog_1_method_7_code) (maxL := 2) (ret := (some .long)) (by decide) rfl ?_
  intro p e s m args below meth c s₁ B hml hv
  obtain ⟨rfl, hz, hH, hP, hK⟩ := hv
  have hx := B.exec
  have hb := B.bytes
  have hr := B.returns
  have hts := atoms_spec (ws := xw_SR_turned) B.pre
  have hown : s.vm.findClass xR_SR = some m.cls := findClass_of_methodNamed B.named
  have hlocks := B.notSynchronized
  have hout := xt_empty B (hts _ List.mem_cons_self)
  have hP : va_P (dC, dI) xCl [(h0, .inr (0, [.ref gm, .ref gp, .ref go, .ref gs, .ref gl, .ref gd])), (gs, .inr (4, [.ref su, .ref sp, .ref sm, .ref se, .long (st_dv S), .int (st_ht S), .int (nI (st_sc S)), .int (st_md S)])), (sp, .inl (ca, 4, .inr (.inl (st_fa S)))), (sm, .inl (cm, 3, .inr (.inr (.inr (.inr (xm_3 m0 m1 m2)))))), (m0, .inl (cm0, 20, .inl (st_n0 S))), (m1, .inl (cm1, 20, .inl (st_n1 S))), (m2, .inl (cm2, 20, .inl (st_n2 S))), (se, .inl (cq, 20, .inl (st_fq S))), (su, .inr (3, [.long (sf 1), .long (sf 2), .long (sf 3), .long (sf 4), .long (sf 5), .long (sf 6), .long (sf 7), .long (sf 8), .long (sf 9)]))] s.heap := hP
  have hl := lv_entry ([.ref h0, .int i0]) (n := 2) (Nat.le_of_ble_eq_true rfl)
  rw [lg_entry_eq]
  generalize (lg_sl ([.ref h0, .int i0]) ++ List.replicate (2 - (lg_sl ([.ref h0, .int i0])).length) Slot.unset).toArray = ls at hl ⊢
  have hl : lv_has ls 2 [(0, .ref h0), (1, .int i0)] := hl
  refine lv_aload_n hx hb d_SR_turned_0 rfl (lv_at hl 0 rfl) ?_
  refine va_get (D := (dC, dI)) (ci := 0) (v := .ref gs) (C := xR_SR) (T := xT_SR) (N := 6) hx hb hts (fun w h => List.mem_cons_of_mem _ (iw_SR w h)) hown hK hP 0 rfl rfl 3 (by decide) (hts _ (List.mem_cons_of_mem _ wm_249)) (fun _ h9 => h9) rfl d_SR_turned_1 ?_
  refine lv_iload_n hx hb d_SR_turned_4 rfl (lv_at hl 1 rfl) ?_
  refine xr_calli (va_runV (As := [.int i0]) (rest := []) ⟨hx, hb, hml, hown, hts⟩ (c_SU_hasPart l dC dI gs su sp sm se (st_dv S) (st_ht S) (st_sc S) (st_md S) i0) (cwV 1 hts (xgV wm_535 wm_536 wm_537 wm_30 wm_538) rfl rfl rfl (by decide +kernel) ⟨Nat.le_of_ble_eq_true rfl, Nat.le_of_ble_eq_true rfl⟩) ⟨xp_blind, va_recv hK hP (ci := 4) (q0 := 1) rfl rfl, fun U hU hW => ⟨rfl, hz.warm hW, by rw [hU]; exact hP.sub [1] rfl, va_K.moved hW.alike (hK.sub [] rfl)⟩⟩ rfl rfl hl.1 rfl (lv_room (Nat.le_of_ble_eq_true rfl)) d_SR_turned_5 ⟨Nat.le_of_ble_eq_true rfl, Nat.le_of_ble_eq_true rfl⟩) (fun r_1 h_2 => ?_)
  refine lv_if_ne (tgt := 21) hx hb d_SR_turned_8 (by decide) (fun c_3 => ?_) (fun c_3 => ?_)
  · have b_4 := bI_t h_2 c_3
    refine lv_aload_n hx hb d_SR_turned_21 rfl (lv_at hl 0 rfl) ?_
    refine va_get (D := (dC, dI)) (ci := 0) (v := .ref gs) (C := xR_SR) (T := xT_SR) (N := 6) hx hb hts (fun w h => List.mem_cons_of_mem _ (iw_SR w h)) hown hK hP 0 rfl rfl 3 (by decide) (hts _ (List.mem_cons_of_mem _ wm_249)) (fun _ h9 => h9) rfl d_SR_turned_22 ?_
    refine va_get (D := (dC, dI)) (ci := 4) (v := .int (st_md S)) (C := xR_SU) (T := xT_SU) (N := 8) hx hb hts (fun w h => List.mem_cons_of_mem _ (iw_SU w h)) hown hK hP 1 rfl rfl 7 (by decide) (hts _ (List.mem_cons_of_mem _ wm_188)) (fun _ h9 => h9) rfl d_SR_turned_25 ?_
    refine lv_if_ne (tgt := 41) hx hb d_SR_turned_28 (by decide) (fun c_5 => ?_) (fun c_5 => ?_)
    · exact False.elim (by first | contradiction | omega)
    · obtain ⟨sa, hsa⟩ := hz.str (own := xR_SR) (idx := 120) (tx := "not set up") (by decide +kernel)
      exact xt_throwS (names := ["java/lang/RuntimeException", "java/lang/Exception"]) hx hb hl9 ⟨⟨d_SR_turned_31, d_SR_turned_34⟩, d_SR_turned_35, d_SR_turned_37, d_SR_turned_40⟩ hown (by decide +kernel) (by decide +kernel) (hts _ (List.mem_cons_of_mem _ wm_394)) (hts _ (List.mem_cons_of_mem _ wm_38)) hsa (xt_atoms xe_57 hz hH) (hml.trans hl.1.symm) hout hlocks ⟨Nat.le_of_ble_eq_true rfl, Nat.le_of_ble_eq_true rfl, Nat.le_of_ble_eq_true rfl, Nat.le_of_ble_eq_true rfl⟩
  · have b_6 := bI_f h_2 c_3
    exact False.elim (by first | contradiction | omega)
set_option maxHeartbeats 4000000 in
set_option maxRecDepth 100000 in
/-- residual throws -/
theorem c_SR_residual_x1 (l : Launch) (hl9 : l.stackTraces = false) (dC : Nat → ClassId) (dI : Nat → Nat → Nat) (h0 : Nat) (gm : Nat) (gp : Nat) (go : Nat) (gs : Nat) (gl : Nat) (gd : Nat) (su : Nat) (sp : Nat) (sm : Nat) (se : Nat) (m0 : Nat) (m1 : Nat) (m2 : Nat) (ca : ClassId) (cm : ClassId) (cm0 : ClassId) (cm1 : ClassId) (cm2 : ClassId) (cq : ClassId) (S : sr_St) (sf : Nat → Int64) (qx : Nat) (qy : Nat) (qz : Nat) (qu : Nat) (qv : Nat) (qw : Nat) (qp : Nat) (qe : Nat) (no : Nat) (i0 : Int32) (i1 : Int32) (hno : no ≤ 20) (hn : ¬ (xin i0 no ∧ xin i1 3)) : xt_Met l xy_SR_residual xw_SR_residual ({ frames := 6, cells := 1, slots := 6, locals := 82 }) (xp_t [.ref h0, .int i0, .int i1] (dC, dI) xCl [(h0, .inr (0, [.ref gm, .ref gp, .ref go, .ref gs, .ref gl, .ref gd])), (gs, .inr (4, [.ref su, .ref sp, .ref sm, .ref se, .long (st_dv S), .int (st_ht S), .int (nI (st_sc S)), .int (st_md S)])), (sp, .inl (ca, 4, .inr (.inl (st_fa S)))), (sm, .inl (cm, 3, .inr (.inr (.inr (.inr (xm_3 m0 m1 m2)))))), (m0, .inl (cm0, 20, .inl (st_n0 S))), (m1, .inl (cm1, 20, .inl (st_n1 S))), (m2, .inl (cm2, 20, .inl (st_n2 S))), (se, .inl (cq, 20, .inl (st_fq S))), (su, .inr (3, [.long (sf 1), .long (sf 2), .long (sf 3), .long (sf 4), .long (sf 5), .long (sf 6), .long (sf 7), .long (sf 8), .long (sf 9)])), (go, .inr (2, [.ref qx, .ref qy, .ref qz, .ref qu, .ref qv, .ref qw, .ref qp, .ref qe, .int (nI no)]))] [(ca, .long), (cm, .array .int), (cm0, .int), (cm1, .int), (cm2, .int), (cq, .boolean)]) "java/lang/IndexOutOfBoundsException" 1 6 := by
  refine xt_ofW (cc := prog_1_method_8_code) (maxL := 3) (ret := (some .int)) (by decide) rfl ?_
  intro p e s m args below meth c s₁ B hml hv
  obtain ⟨rfl, hz, hH, hP, hK⟩ := hv
  have hx := B.exec
  have hb := B.bytes
  have hr := B.returns
  have hts := atoms_spec (ws := xw_SR_residual) B.pre
  have hown : s.vm.findClass xR_SR = some m.cls := findClass_of_methodNamed B.named
  have hlocks := B.notSynchronized
  have hout := xt_empty B (hts _ List.mem_cons_self)
  have hP : va_P (dC, dI) xCl [(h0, .inr (0, [.ref gm, .ref gp, .ref go, .ref gs, .ref gl, .ref gd])), (gs, .inr (4, [.ref su, .ref sp, .ref sm, .ref se, .long (st_dv S), .int (st_ht S), .int (nI (st_sc S)), .int (st_md S)])), (sp, .inl (ca, 4, .inr (.inl (st_fa S)))), (sm, .inl (cm, 3, .inr (.inr (.inr (.inr (xm_3 m0 m1 m2)))))), (m0, .inl (cm0, 20, .inl (st_n0 S))), (m1, .inl (cm1, 20, .inl (st_n1 S))), (m2, .inl (cm2, 20, .inl (st_n2 S))), (se, .inl (cq, 20, .inl (st_fq S))), (su, .inr (3, [.long (sf 1), .long (sf 2), .long (sf 3), .long (sf 4), .long (sf 5), .long (sf 6), .long (sf 7), .long (sf 8), .long (sf 9)])), (go, .inr (2, [.ref qx, .ref qy, .ref qz, .ref qu, .ref qv, .ref qw, .ref qp, .ref qe, .int (nI no)]))] s.heap := hP
  have hl := lv_entry ([.ref h0, .int i0, .int i1]) (n := 3) (Nat.le_of_ble_eq_true rfl)
  rw [lg_entry_eq]
  generalize (lg_sl ([.ref h0, .int i0, .int i1]) ++ List.replicate (3 - (lg_sl ([.ref h0, .int i0, .int i1])).length) Slot.unset).toArray = ls at hl ⊢
  have hl : lv_has ls 3 [(0, .ref h0), (1, .int i0), (2, .int i1)] := hl
  refine lv_aload_n hx hb d_SR_residual_0 rfl (lv_at hl 0 rfl) ?_
  refine va_get (D := (dC, dI)) (ci := 0) (v := .ref go) (C := xR_SR) (T := xT_SR) (N := 6) hx hb hts (fun w h => List.mem_cons_of_mem _ (iw_SR w h)) hown hK hP 0 rfl rfl 2 (by decide) (hts _ (List.mem_cons_of_mem _ wm_248)) (fun _ h9 => h9) rfl d_SR_residual_1 ?_
  refine lv_iload_n hx hb d_SR_residual_4 rfl (lv_at hl 1 rfl) ?_
  refine xr_calli (va_runV (As := [.int i0]) (rest := []) ⟨hx, hb, hml, hown, hts⟩ (c_OB_has l dC dI go qx qy qz qu qv qw qp qe no i0 (by first | assumption | omega | decide)) (cwV 1 hts (xgV wm_515 wm_516 wm_517 wm_29 wm_518) rfl rfl rfl (by decide +kernel) ⟨Nat.le_of_ble_eq_true rfl, Nat.le_of_ble_eq_true rfl⟩) ⟨xp_blind, va_recv hK hP (ci := 2) (q0 := 9) rfl rfl, fun U hU hW => ⟨rfl, hz.warm hW, by rw [hU]; exact hP.sub [9] rfl, va_K.moved hW.alike (hK.sub [] rfl)⟩⟩ rfl rfl hl.1 rfl (lv_room (Nat.le_of_ble_eq_true rfl)) d_SR_residual_5 ⟨Nat.le_of_ble_eq_true rfl, Nat.le_of_ble_eq_true rfl⟩) (fun r_1 h_2 => ?_)
  refine lv_if_eq (tgt := 18) hx hb d_SR_residual_8 (by decide) (fun c_3 => ?_) (fun c_3 => ?_)
  · have b_4 := bI_f h_2 c_3
    obtain ⟨sa, hsa⟩ := hz.str (own := xR_SR) (idx := 129) (tx := "no such observation or axis") (by decide +kernel)
    exact xt_throwS (names := ["java/lang/RuntimeException", "java/lang/Exception"]) hx hb hl9 ⟨⟨d_SR_residual_18, d_SR_residual_21⟩, d_SR_residual_22, d_SR_residual_24, d_SR_residual_27⟩ hown (by decide +kernel) (by decide +kernel) (hts _ (List.mem_cons_of_mem _ wm_490)) (hts _ (List.mem_cons_of_mem _ wm_40)) hsa (xt_atoms xe_81 hz hH) (hml.trans hl.1.symm) hout hlocks ⟨Nat.le_of_ble_eq_true rfl, Nat.le_of_ble_eq_true rfl, Nat.le_of_ble_eq_true rfl, Nat.le_of_ble_eq_true rfl⟩
  · have b_5 := bI_t h_2 c_3
    refine lv_iload_n hx hb d_SR_residual_11 rfl (lv_at hl 2 rfl) ?_
    refine xr_calli (va_runS (As := [.int i1]) (rest := []) ⟨hx, hb, hml, hown, hts⟩ (c_SR_isAxis l dC dI i1) (va_cwS 1 hts (xgS wm_553 wm_554 wm_26 wm_555) rfl rfl rfl (by decide +kernel) ⟨Nat.le_of_ble_eq_true rfl, Nat.le_of_ble_eq_true rfl⟩) ⟨xp_blind, fun U hU hW => ⟨rfl, hz.warm hW, by rw [hU]; exact hP.sub [] rfl, va_K.moved hW.alike (hK.sub [] rfl)⟩⟩ rfl rfl hl.1 rfl (lv_room (Nat.le_of_ble_eq_true rfl)) d_SR_residual_12 ⟨Nat.le_of_ble_eq_true rfl, Nat.le_of_ble_eq_true rfl⟩) (fun r_6 h_7 => ?_)
    refine lv_if_ne (tgt := 28) hx hb d_SR_residual_15 (by decide) (fun c_8 => ?_) (fun c_8 => ?_)
    · have b_9 := bI_t h_7 c_8
      exact False.elim (by first | contradiction | omega | exact hn ⟨by assumption, by assumption⟩)
    · have b_10 := bI_f h_7 c_8
      obtain ⟨sa, hsa⟩ := hz.str (own := xR_SR) (idx := 129) (tx := "no such observation or axis") (by decide +kernel)
      exact xt_throwS (names := ["java/lang/RuntimeException", "java/lang/Exception"]) hx hb hl9 ⟨⟨d_SR_residual_18, d_SR_residual_21⟩, d_SR_residual_22, d_SR_residual_24, d_SR_residual_27⟩ hown (by decide +kernel) (by decide +kernel) (hts _ (List.mem_cons_of_mem _ wm_490)) (hts _ (List.mem_cons_of_mem _ wm_40)) hsa (xt_atoms xe_81 hz hH) (hml.trans hl.1.symm) hout hlocks ⟨Nat.le_of_ble_eq_true rfl, Nat.le_of_ble_eq_true rfl, Nat.le_of_ble_eq_true rfl, Nat.le_of_ble_eq_true rfl⟩
set_option maxHeartbeats 4000000 in
set_option maxRecDepth 100000 in
/-- residual throws -/
theorem c_SR_residual_x2 (l : Launch) (hl9 : l.stackTraces = false) (dC : Nat → ClassId) (dI : Nat → Nat → Nat) (h0 : Nat) (gm : Nat) (gp : Nat) (go : Nat) (gs : Nat) (gl : Nat) (gd : Nat) (su : Nat) (sp : Nat) (sm : Nat) (se : Nat) (m0 : Nat) (m1 : Nat) (m2 : Nat) (ca : ClassId) (cm : ClassId) (cm0 : ClassId) (cm1 : ClassId) (cm2 : ClassId) (cq : ClassId) (S : sr_St) (sf : Nat → Int64) (qx : Nat) (qy : Nat) (qz : Nat) (qu : Nat) (qv : Nat) (qw : Nat) (qp : Nat) (qe : Nat) (no : Nat) (i0 : Int32) (i1 : Int32) (hno : no ≤ 20) (hv : xin i0 no) (hvj : xin i1 3) (hm : st_md S = 0) : xt_Met l xy_SR_residual xw_SR_residual ({ frames := 6, cells := 1, slots := 6, locals := 82 }) (xp_t [.ref h0, .int i0, .int i1] (dC, dI) xCl [(h0, .inr (0, [.ref gm, .ref gp, .ref go, .ref gs, .ref gl, .ref gd])), (gs, .inr (4, [.ref su, .ref sp, .ref sm, .ref se, .long (st_dv S), .int (st_ht S), .int (nI (st_sc S)), .int (st_md S)])), (sp, .inl (ca, 4, .inr (.inl (st_fa S)))), (sm, .inl (cm, 3, .inr (.inr (.inr (.inr (xm_3 m0 m1 m2)))))), (m0, .inl (cm0, 20, .inl (st_n0 S))), (m1, .inl (cm1, 20, .inl (st_n1 S))), (m2, .inl (cm2, 20, .inl (st_n2 S))), (se, .inl (cq, 20, .inl (st_fq S))), (su, .inr (3, [.long (sf 1), .long (sf 2), .long (sf 3), .long (sf 4), .long (sf 5), .long (sf 6), .long (sf 7), .long (sf 8), .long (sf 9)])), (go, .inr (2, [.ref qx, .ref qy, .ref qz, .ref qu, .ref qv, .ref qw, .ref qp, .ref qe, .int (nI no)]))] [(ca, .long), (cm, .array .int), (cm0, .int), (cm1, .int), (cm2, .int), (cq, .boolean)]) "java/lang/IllegalStateException" 1 6 := by
  refine xt_ofW (cc := prog_1_method_8_code) (maxL := 3) (ret := (some .int)) (by decide) rfl ?_
  intro p e s m args below meth c s₁ B hml hv
  obtain ⟨rfl, hz, hH, hP, hK⟩ := hv
  have hx := B.exec
  have hb := B.bytes
  have hr := B.returns
  have hts := atoms_spec (ws := xw_SR_residual) B.pre
  have hown : s.vm.findClass xR_SR = some m.cls := findClass_of_methodNamed B.named
  have hlocks := B.notSynchronized
  have hout := xt_empty B (hts _ List.mem_cons_self)
  have hP : va_P (dC, dI) xCl [(h0, .inr (0, [.ref gm, .ref gp, .ref go, .ref gs, .ref gl, .ref gd])), (gs, .inr (4, [.ref su, .ref sp, .ref sm, .ref se, .long (st_dv S), .int (st_ht S), .int (nI (st_sc S)), .int (st_md S)])), (sp, .inl (ca, 4, .inr (.inl (st_fa S)))), (sm, .inl (cm, 3, .inr (.inr (.inr (.inr (xm_3 m0 m1 m2)))))), (m0, .inl (cm0, 20, .inl (st_n0 S))), (m1, .inl (cm1, 20, .inl (st_n1 S))), (m2, .inl (cm2, 20, .inl (st_n2 S))), (se, .inl (cq, 20, .inl (st_fq S))), (su, .inr (3, [.long (sf 1), .long (sf 2), .long (sf 3), .long (sf 4), .long (sf 5), .long (sf 6), .long (sf 7), .long (sf 8), .long (sf 9)])), (go, .inr (2, [.ref qx, .ref qy, .ref qz, .ref qu, .ref qv, .ref qw, .ref qp, .ref qe, .int (nI no)]))] s.heap := hP
  have hl := lv_entry ([.ref h0, .int i0, .int i1]) (n := 3) (Nat.le_of_ble_eq_true rfl)
  rw [lg_entry_eq]
  generalize (lg_sl ([.ref h0, .int i0, .int i1]) ++ List.replicate (3 - (lg_sl ([.ref h0, .int i0, .int i1])).length) Slot.unset).toArray = ls at hl ⊢
  have hl : lv_has ls 3 [(0, .ref h0), (1, .int i0), (2, .int i1)] := hl
  refine lv_aload_n hx hb d_SR_residual_0 rfl (lv_at hl 0 rfl) ?_
  refine va_get (D := (dC, dI)) (ci := 0) (v := .ref go) (C := xR_SR) (T := xT_SR) (N := 6) hx hb hts (fun w h => List.mem_cons_of_mem _ (iw_SR w h)) hown hK hP 0 rfl rfl 2 (by decide) (hts _ (List.mem_cons_of_mem _ wm_248)) (fun _ h9 => h9) rfl d_SR_residual_1 ?_
  refine lv_iload_n hx hb d_SR_residual_4 rfl (lv_at hl 1 rfl) ?_
  refine xr_calli (va_runV (As := [.int i0]) (rest := []) ⟨hx, hb, hml, hown, hts⟩ (c_OB_has l dC dI go qx qy qz qu qv qw qp qe no i0 (by first | assumption | omega | decide)) (cwV 1 hts (xgV wm_515 wm_516 wm_517 wm_29 wm_518) rfl rfl rfl (by decide +kernel) ⟨Nat.le_of_ble_eq_true rfl, Nat.le_of_ble_eq_true rfl⟩) ⟨xp_blind, va_recv hK hP (ci := 2) (q0 := 9) rfl rfl, fun U hU hW => ⟨rfl, hz.warm hW, by rw [hU]; exact hP.sub [9] rfl, va_K.moved hW.alike (hK.sub [] rfl)⟩⟩ rfl rfl hl.1 rfl (lv_room (Nat.le_of_ble_eq_true rfl)) d_SR_residual_5 ⟨Nat.le_of_ble_eq_true rfl, Nat.le_of_ble_eq_true rfl⟩) (fun r_1 h_2 => ?_)
  refine lv_if_eq (tgt := 18) hx hb d_SR_residual_8 (by decide) (fun c_3 => ?_) (fun c_3 => ?_)
  · have b_4 := bI_f h_2 c_3
    exact False.elim (by first | contradiction | omega)
  · have b_5 := bI_t h_2 c_3
    refine lv_iload_n hx hb d_SR_residual_11 rfl (lv_at hl 2 rfl) ?_
    refine xr_calli (va_runS (As := [.int i1]) (rest := []) ⟨hx, hb, hml, hown, hts⟩ (c_SR_isAxis l dC dI i1) (va_cwS 1 hts (xgS wm_553 wm_554 wm_26 wm_555) rfl rfl rfl (by decide +kernel) ⟨Nat.le_of_ble_eq_true rfl, Nat.le_of_ble_eq_true rfl⟩) ⟨xp_blind, fun U hU hW => ⟨rfl, hz.warm hW, by rw [hU]; exact hP.sub [] rfl, va_K.moved hW.alike (hK.sub [] rfl)⟩⟩ rfl rfl hl.1 rfl (lv_room (Nat.le_of_ble_eq_true rfl)) d_SR_residual_12 ⟨Nat.le_of_ble_eq_true rfl, Nat.le_of_ble_eq_true rfl⟩) (fun r_6 h_7 => ?_)
    refine lv_if_ne (tgt := 28) hx hb d_SR_residual_15 (by decide) (fun c_8 => ?_) (fun c_8 => ?_)
    · have b_9 := bI_t h_7 c_8
      refine lv_aload_n hx hb d_SR_residual_28 rfl (lv_at hl 0 rfl) ?_
      refine va_get (D := (dC, dI)) (ci := 0) (v := .ref gs) (C := xR_SR) (T := xT_SR) (N := 6) hx hb hts (fun w h => List.mem_cons_of_mem _ (iw_SR w h)) hown hK hP 0 rfl rfl 3 (by decide) (hts _ (List.mem_cons_of_mem _ wm_249)) (fun _ h9 => h9) rfl d_SR_residual_29 ?_
      refine va_get (D := (dC, dI)) (ci := 4) (v := .int (st_md S)) (C := xR_SU) (T := xT_SU) (N := 8) hx hb hts (fun w h => List.mem_cons_of_mem _ (iw_SU w h)) hown hK hP 1 rfl rfl 7 (by decide) (hts _ (List.mem_cons_of_mem _ wm_188)) (fun _ h9 => h9) rfl d_SR_residual_32 ?_
      refine lv_if_ne (tgt := 48) hx hb d_SR_residual_35 (by decide) (fun c_10 => ?_) (fun c_10 => ?_)
      · exact False.elim (by first | contradiction | omega)
      · obtain ⟨sa, hsa⟩ := hz.str (own := xR_SR) (idx := 120) (tx := "not set up") (by decide +kernel)
        exact xt_throwS (names := ["java/lang/RuntimeException", "java/lang/Exception"]) hx hb hl9 ⟨⟨d_SR_residual_38, d_SR_residual_41⟩, d_SR_residual_42, d_SR_residual_44, d_SR_residual_47⟩ hown (by decide +kernel) (by decide +kernel) (hts _ (List.mem_cons_of_mem _ wm_394)) (hts _ (List.mem_cons_of_mem _ wm_38)) hsa (xt_atoms xe_57 hz hH) (hml.trans hl.1.symm) hout hlocks ⟨Nat.le_of_ble_eq_true rfl, Nat.le_of_ble_eq_true rfl, Nat.le_of_ble_eq_true rfl, Nat.le_of_ble_eq_true rfl⟩
    · have b_11 := bI_f h_7 c_8
      exact False.elim (by first | contradiction | omega)
set_option maxHeartbeats 4000000 in
set_option maxRecDepth 100000 in
/-- residual throws -/
theorem c_SR_residual_x3 (l : Launch) (hl9 : l.stackTraces = false) (dC : Nat → ClassId) (dI : Nat → Nat → Nat) (h0 : Nat) (gm : Nat) (gp : Nat) (go : Nat) (gs : Nat) (gl : Nat) (gd : Nat) (su : Nat) (sp : Nat) (sm : Nat) (se : Nat) (m0 : Nat) (m1 : Nat) (m2 : Nat) (ca : ClassId) (cm : ClassId) (cm0 : ClassId) (cm1 : ClassId) (cm2 : ClassId) (cq : ClassId) (S : sr_St) (sf : Nat → Int64) (qx : Nat) (qy : Nat) (qz : Nat) (qu : Nat) (qv : Nat) (qw : Nat) (qp : Nat) (qe : Nat) (no : Nat) (i0 : Int32) (i1 : Int32) (hno : no ≤ 20) (hv : xin i0 no) (hvj : xin i1 3) (hm : ¬ st_md S = 0) (hc : st_sc S ≤ 20) (hvk : ¬ xin i0 (st_sc S)) : xt_Met l xy_SR_residual xw_SR_residual ({ frames := 6, cells := 1, slots := 6, locals := 82 }) (xp_t [.ref h0, .int i0, .int i1] (dC, dI) xCl [(h0, .inr (0, [.ref gm, .ref gp, .ref go, .ref gs, .ref gl, .ref gd])), (gs, .inr (4, [.ref su, .ref sp, .ref sm, .ref se, .long (st_dv S), .int (st_ht S), .int (nI (st_sc S)), .int (st_md S)])), (sp, .inl (ca, 4, .inr (.inl (st_fa S)))), (sm, .inl (cm, 3, .inr (.inr (.inr (.inr (xm_3 m0 m1 m2)))))), (m0, .inl (cm0, 20, .inl (st_n0 S))), (m1, .inl (cm1, 20, .inl (st_n1 S))), (m2, .inl (cm2, 20, .inl (st_n2 S))), (se, .inl (cq, 20, .inl (st_fq S))), (su, .inr (3, [.long (sf 1), .long (sf 2), .long (sf 3), .long (sf 4), .long (sf 5), .long (sf 6), .long (sf 7), .long (sf 8), .long (sf 9)])), (go, .inr (2, [.ref qx, .ref qy, .ref qz, .ref qu, .ref qv, .ref qw, .ref qp, .ref qe, .int (nI no)]))] [(ca, .long), (cm, .array .int), (cm0, .int), (cm1, .int), (cm2, .int), (cq, .boolean)]) "java/lang/IndexOutOfBoundsException" 1 6 := by
  refine xt_ofW (cc := prog_1_method_8_code) (maxL := 3) (ret := (some .int)) (by decide) rfl ?_
  intro p e s m args below meth c s₁ B hml hv
  obtain ⟨rfl, hz, hH, hP, hK⟩ := hv
  have hx := B.exec
  have hb := B.bytes
  have hr := B.returns
  have hts := atoms_spec (ws := xw_SR_residual) B.pre
  have hown : s.vm.findClass xR_SR = some m.cls := findClass_of_methodNamed B.named
  have hlocks := B.notSynchronized
  have hout := xt_empty B (hts _ List.mem_cons_self)
  have hP : va_P (dC, dI) xCl [(h0, .inr (0, [.ref gm, .ref gp, .ref go, .ref gs, .ref gl, .ref gd])), (gs, .inr (4, [.ref su, .ref sp, .ref sm, .ref se, .long (st_dv S), .int (st_ht S), .int (nI (st_sc S)), .int (st_md S)])), (sp, .inl (ca, 4, .inr (.inl (st_fa S)))), (sm, .inl (cm, 3, .inr (.inr (.inr (.inr (xm_3 m0 m1 m2)))))), (m0, .inl (cm0, 20, .inl (st_n0 S))), (m1, .inl (cm1, 20, .inl (st_n1 S))), (m2, .inl (cm2, 20, .inl (st_n2 S))), (se, .inl (cq, 20, .inl (st_fq S))), (su, .inr (3, [.long (sf 1), .long (sf 2), .long (sf 3), .long (sf 4), .long (sf 5), .long (sf 6), .long (sf 7), .long (sf 8), .long (sf 9)])), (go, .inr (2, [.ref qx, .ref qy, .ref qz, .ref qu, .ref qv, .ref qw, .ref qp, .ref qe, .int (nI no)]))] s.heap := hP
  have hl := lv_entry ([.ref h0, .int i0, .int i1]) (n := 3) (Nat.le_of_ble_eq_true rfl)
  rw [lg_entry_eq]
  generalize (lg_sl ([.ref h0, .int i0, .int i1]) ++ List.replicate (3 - (lg_sl ([.ref h0, .int i0, .int i1])).length) Slot.unset).toArray = ls at hl ⊢
  have hl : lv_has ls 3 [(0, .ref h0), (1, .int i0), (2, .int i1)] := hl
  refine lv_aload_n hx hb d_SR_residual_0 rfl (lv_at hl 0 rfl) ?_
  refine va_get (D := (dC, dI)) (ci := 0) (v := .ref go) (C := xR_SR) (T := xT_SR) (N := 6) hx hb hts (fun w h => List.mem_cons_of_mem _ (iw_SR w h)) hown hK hP 0 rfl rfl 2 (by decide) (hts _ (List.mem_cons_of_mem _ wm_248)) (fun _ h9 => h9) rfl d_SR_residual_1 ?_
  refine lv_iload_n hx hb d_SR_residual_4 rfl (lv_at hl 1 rfl) ?_
  refine xr_calli (va_runV (As := [.int i0]) (rest := []) ⟨hx, hb, hml, hown, hts⟩ (c_OB_has l dC dI go qx qy qz qu qv qw qp qe no i0 (by first | assumption | omega | decide)) (cwV 1 hts (xgV wm_515 wm_516 wm_517 wm_29 wm_518) rfl rfl rfl (by decide +kernel) ⟨Nat.le_of_ble_eq_true rfl, Nat.le_of_ble_eq_true rfl⟩) ⟨xp_blind, va_recv hK hP (ci := 2) (q0 := 9) rfl rfl, fun U hU hW => ⟨rfl, hz.warm hW, by rw [hU]; exact hP.sub [9] rfl, va_K.moved hW.alike (hK.sub [] rfl)⟩⟩ rfl rfl hl.1 rfl (lv_room (Nat.le_of_ble_eq_true rfl)) d_SR_residual_5 ⟨Nat.le_of_ble_eq_true rfl, Nat.le_of_ble_eq_true rfl⟩) (fun r_1 h_2 => ?_)
  refine lv_if_eq (tgt := 18) hx hb d_SR_residual_8 (by decide) (fun c_3 => ?_) (fun c_3 => ?_)
  · have b_4 := bI_f h_2 c_3
    exact False.elim (by first | contradiction | omega)
  · have b_5 := bI_t h_2 c_3
    refine lv_iload_n hx hb d_SR_residual_11 rfl (lv_at hl 2 rfl) ?_
    refine xr_calli (va_runS (As := [.int i1]) (rest := []) ⟨hx, hb, hml, hown, hts⟩ (c_SR_isAxis l dC dI i1) (va_cwS 1 hts (xgS wm_553 wm_554 wm_26 wm_555) rfl rfl rfl (by decide +kernel) ⟨Nat.le_of_ble_eq_true rfl, Nat.le_of_ble_eq_true rfl⟩) ⟨xp_blind, fun U hU hW => ⟨rfl, hz.warm hW, by rw [hU]; exact hP.sub [] rfl, va_K.moved hW.alike (hK.sub [] rfl)⟩⟩ rfl rfl hl.1 rfl (lv_room (Nat.le_of_ble_eq_true rfl)) d_SR_residual_12 ⟨Nat.le_of_ble_eq_true rfl, Nat.le_of_ble_eq_true rfl⟩) (fun r_6 h_7 => ?_)
    refine lv_if_ne (tgt := 28) hx hb d_SR_residual_15 (by decide) (fun c_8 => ?_) (fun c_8 => ?_)
    · have b_9 := bI_t h_7 c_8
      refine lv_aload_n hx hb d_SR_residual_28 rfl (lv_at hl 0 rfl) ?_
      refine va_get (D := (dC, dI)) (ci := 0) (v := .ref gs) (C := xR_SR) (T := xT_SR) (N := 6) hx hb hts (fun w h => List.mem_cons_of_mem _ (iw_SR w h)) hown hK hP 0 rfl rfl 3 (by decide) (hts _ (List.mem_cons_of_mem _ wm_249)) (fun _ h9 => h9) rfl d_SR_residual_29 ?_
      refine va_get (D := (dC, dI)) (ci := 4) (v := .int (st_md S)) (C := xR_SU) (T := xT_SU) (N := 8) hx hb hts (fun w h => List.mem_cons_of_mem _ (iw_SU w h)) hown hK hP 1 rfl rfl 7 (by decide) (hts _ (List.mem_cons_of_mem _ wm_188)) (fun _ h9 => h9) rfl d_SR_residual_32 ?_
      refine lv_if_ne (tgt := 48) hx hb d_SR_residual_35 (by decide) (fun c_10 => ?_) (fun c_10 => ?_)
      · refine lv_aload_n hx hb d_SR_residual_48 rfl (lv_at hl 0 rfl) ?_
        refine va_get (D := (dC, dI)) (ci := 0) (v := .ref gs) (C := xR_SR) (T := xT_SR) (N := 6) hx hb hts (fun w h => List.mem_cons_of_mem _ (iw_SR w h)) hown hK hP 0 rfl rfl 3 (by decide) (hts _ (List.mem_cons_of_mem _ wm_249)) (fun _ h9 => h9) rfl d_SR_residual_49 ?_
        refine lv_iload_n hx hb d_SR_residual_52 rfl (lv_at hl 1 rfl) ?_
        refine xr_calli (va_runV (As := [.int i0]) (rest := []) ⟨hx, hb, hml, hown, hts⟩ (c_SU_knows l dC dI gs su sp sm se (st_dv S) (st_ht S) (st_sc S) (st_md S) i0 (by first | assumption | omega | decide)) (cwV 1 hts (xgV wm_557 wm_558 wm_559 wm_30 wm_560) rfl rfl rfl (by decide +kernel) ⟨Nat.le_of_ble_eq_true rfl, Nat.le_of_ble_eq_true rfl⟩) ⟨xp_blind, va_recv hK hP (ci := 4) (q0 := 1) rfl rfl, fun U hU hW => ⟨rfl, hz.warm hW, by rw [hU]; exact hP.sub [1] rfl, va_K.moved hW.alike (hK.sub [] rfl)⟩⟩ rfl rfl hl.1 rfl (lv_room (Nat.le_of_ble_eq_true rfl)) d_SR_residual_53 ⟨Nat.le_of_ble_eq_true rfl, Nat.le_of_ble_eq_true rfl⟩) (fun r_11 h_12 => ?_)
        refine lv_if_ne (tgt := 69) hx hb d_SR_residual_56 (by decide) (fun c_13 => ?_) (fun c_13 => ?_)
        · have b_14 := bI_t h_12 c_13
          exact False.elim (by first | contradiction | omega)
        · have b_15 := bI_f h_12 c_13
          obtain ⟨sa, hsa⟩ := hz.str (own := xR_SR) (idx := 134) (tx := "the observation was told after the set-up") (by decide +kernel)
          exact xt_throwS (names := ["java/lang/RuntimeException", "java/lang/Exception"]) hx hb hl9 ⟨⟨d_SR_residual_59, d_SR_residual_62⟩, d_SR_residual_63, d_SR_residual_65, d_SR_residual_68⟩ hown (by decide +kernel) (by decide +kernel) (hts _ (List.mem_cons_of_mem _ wm_490)) (hts _ (List.mem_cons_of_mem _ wm_40)) hsa (xt_atoms xe_81 hz hH) (hml.trans hl.1.symm) hout hlocks ⟨Nat.le_of_ble_eq_true rfl, Nat.le_of_ble_eq_true rfl, Nat.le_of_ble_eq_true rfl, Nat.le_of_ble_eq_true rfl⟩
      · exact False.elim (by first | contradiction | omega)
    · have b_16 := bI_f h_7 c_8
      exact False.elim (by first | contradiction | omega)
set_option maxHeartbeats 4000000 in
set_option maxRecDepth 100000 in
/-- blunders throws -/
theorem c_SR_blunders_x1 (l : Launch) (hl9 : l.stackTraces = false) (dC : Nat → ClassId) (dI : Nat → Nat → Nat) (h0 : Nat) (gm : Nat) (gp : Nat) (go : Nat) (gs : Nat) (gl : Nat) (gd : Nat) (a : Int32) (hn : ¬ (¬ a < 0 ∧ a ≤ 100000)) : xt_Met l xy_SR_blunders xw_SR_blunders ({ frames := 6, cells := 1, slots := 6, locals := 82 }) (xp_t [.ref h0, .int a] (dC, dI) xCl [(h0, .inr (0, [.ref gm, .ref gp, .ref go, .ref gs, .ref gl, .ref gd]))] []) "java/lang/IllegalArgumentException" 1 6 := by
  refine xt_ofW (cc := prog_1_method_9_code) (maxL := 5) (ret := (some .int)) (by decide) rfl ?_
  intro p e s m args below meth c s₁ B hml hv
  obtain ⟨rfl, hz, hH, hP, hK⟩ := hv
  have hx := B.exec
  have hb := B.bytes
  have hr := B.returns
  have hts := atoms_spec (ws := xw_SR_blunders) B.pre
  have hown : s.vm.findClass xR_SR = some m.cls := findClass_of_methodNamed B.named
  have hlocks := B.notSynchronized
  have hout := xt_empty B (hts _ List.mem_cons_self)
  have hP : va_P (dC, dI) xCl [(h0, .inr (0, [.ref gm, .ref gp, .ref go, .ref gs, .ref gl, .ref gd]))] s.heap := hP
  have hl := lv_entry ([.ref h0, .int a]) (n := 5) (Nat.le_of_ble_eq_true rfl)
  rw [lg_entry_eq]
  generalize (lg_sl ([.ref h0, .int a]) ++ List.replicate (5 - (lg_sl ([.ref h0, .int a])).length) Slot.unset).toArray = ls at hl ⊢
  have hl : lv_has ls 5 [(0, .ref h0), (1, .int a)] := hl
  refine lv_iload_n hx hb d_SR_blunders_0 rfl (lv_at hl 1 rfl) ?_
  refine lv_if_lt (tgt := 10) hx hb d_SR_blunders_1 (by decide) (fun c_1 => ?_) (fun c_1 => ?_)
  · obtain ⟨sa, hsa⟩ := hz.str (own := xR_SR) (idx := 141) (tx := "a limit is 0 to 100000") (by decide +kernel)
    exact xt_throwS (names := ["java/lang/RuntimeException", "java/lang/Exception"]) hx hb hl9 ⟨⟨d_SR_blunders_10, d_SR_blunders_13⟩, d_SR_blunders_14, d_SR_blunders_16, d_SR_blunders_19⟩ hown (by decide +kernel) (by decide +kernel) (hts _ (List.mem_cons_of_mem _ wm_462)) (hts _ (List.mem_cons_of_mem _ wm_39)) hsa (xt_atoms xe_68 hz hH) (hml.trans hl.1.symm) hout hlocks ⟨Nat.le_of_ble_eq_true rfl, Nat.le_of_ble_eq_true rfl, Nat.le_of_ble_eq_true rfl, Nat.le_of_ble_eq_true rfl⟩
  · refine lv_iload_n hx hb d_SR_blunders_4 rfl (lv_at hl 1 rfl) ?_
    refine lv_ldc (v := 100000) hx hb hown (hts _ (List.mem_cons_of_mem _ wm_569)) d_SR_blunders_5 ?_
    refine lv_icmp_le (tgt := 20) hx hb d_SR_blunders_7 (by decide) (fun c_2 => ?_) (fun c_2 => ?_)
    · exact False.elim (by first | contradiction | omega | exact hn ⟨by assumption, by assumption⟩)
    · obtain ⟨sa, hsa⟩ := hz.str (own := xR_SR) (idx := 141) (tx := "a limit is 0 to 100000") (by decide +kernel)
      exact xt_throwS (names := ["java/lang/RuntimeException", "java/lang/Exception"]) hx hb hl9 ⟨⟨d_SR_blunders_10, d_SR_blunders_13⟩, d_SR_blunders_14, d_SR_blunders_16, d_SR_blunders_19⟩ hown (by decide +kernel) (by decide +kernel) (hts _ (List.mem_cons_of_mem _ wm_462)) (hts _ (List.mem_cons_of_mem _ wm_39)) hsa (xt_atoms xe_68 hz hH) (hml.trans hl.1.symm) hout hlocks ⟨Nat.le_of_ble_eq_true rfl, Nat.le_of_ble_eq_true rfl, Nat.le_of_ble_eq_true rfl, Nat.le_of_ble_eq_true rfl⟩
set_option maxHeartbeats 4000000 in
set_option maxRecDepth 100000 in
/-- sum throws -/
theorem c_SR_sum_x1 (l : Launch) (hl9 : l.stackTraces = false) (dC : Nat → ClassId) (dI : Nat → Nat → Nat) (h0 : Nat) (gm : Nat) (gp : Nat) (go : Nat) (gs : Nat) (gl : Nat) (gd : Nat) (su : Nat) (sp : Nat) (sm : Nat) (se : Nat) (m0 : Nat) (m1 : Nat) (m2 : Nat) (ca : ClassId) (cm : ClassId) (cm0 : ClassId) (cm1 : ClassId) (cm2 : ClassId) (cq : ClassId) (S : sr_St) (sf : Nat → Int64) (hm : st_md S = 0) : xt_Met l xy_SR_sum xw_SR_sum ({ frames := 6, cells := 1, slots := 6, locals := 82 }) (xp_t [.ref h0] (dC, dI) xCl [(h0, .inr (0, [.ref gm, .ref gp, .ref go, .ref gs, .ref gl, .ref gd])), (gs, .inr (4, [.ref su, .ref sp, .ref sm, .ref se, .long (st_dv S), .int (st_ht S), .int (nI (st_sc S)), .int (st_md S)])), (sp, .inl (ca, 4, .inr (.inl (st_fa S)))), (sm, .inl (cm, 3, .inr (.inr (.inr (.inr (xm_3 m0 m1 m2)))))), (m0, .inl (cm0, 20, .inl (st_n0 S))), (m1, .inl (cm1, 20, .inl (st_n1 S))), (m2, .inl (cm2, 20, .inl (st_n2 S))), (se, .inl (cq, 20, .inl (st_fq S))), (su, .inr (3, [.long (sf 1), .long (sf 2), .long (sf 3), .long (sf 4), .long (sf 5), .long (sf 6), .long (sf 7), .long (sf 8), .long (sf 9)]))] [(ca, .long), (cm, .array .int), (cm0, .int), (cm1, .int), (cm2, .int), (cq, .boolean)]) "java/lang/IllegalStateException" 1 6 := by
  refine xt_ofW (cc := prog_1_method_10_code) (maxL := 1) (ret := (some .long)) (by decide) rfl ?_
  intro p e s m args below meth c s₁ B hml hv
  obtain ⟨rfl, hz, hH, hP, hK⟩ := hv
  have hx := B.exec
  have hb := B.bytes
  have hr := B.returns
  have hts := atoms_spec (ws := xw_SR_sum) B.pre
  have hown : s.vm.findClass xR_SR = some m.cls := findClass_of_methodNamed B.named
  have hlocks := B.notSynchronized
  have hout := xt_empty B (hts _ List.mem_cons_self)
  have hP : va_P (dC, dI) xCl [(h0, .inr (0, [.ref gm, .ref gp, .ref go, .ref gs, .ref gl, .ref gd])), (gs, .inr (4, [.ref su, .ref sp, .ref sm, .ref se, .long (st_dv S), .int (st_ht S), .int (nI (st_sc S)), .int (st_md S)])), (sp, .inl (ca, 4, .inr (.inl (st_fa S)))), (sm, .inl (cm, 3, .inr (.inr (.inr (.inr (xm_3 m0 m1 m2)))))), (m0, .inl (cm0, 20, .inl (st_n0 S))), (m1, .inl (cm1, 20, .inl (st_n1 S))), (m2, .inl (cm2, 20, .inl (st_n2 S))), (se, .inl (cq, 20, .inl (st_fq S))), (su, .inr (3, [.long (sf 1), .long (sf 2), .long (sf 3), .long (sf 4), .long (sf 5), .long (sf 6), .long (sf 7), .long (sf 8), .long (sf 9)]))] s.heap := hP
  have hl := lv_entry ([.ref h0]) (n := 1) (Nat.le_of_ble_eq_true rfl)
  rw [lg_entry_eq]
  generalize (lg_sl ([.ref h0]) ++ List.replicate (1 - (lg_sl ([.ref h0])).length) Slot.unset).toArray = ls at hl ⊢
  have hl : lv_has ls 1 [(0, .ref h0)] := hl
  refine lv_aload_n hx hb d_SR_sum_0 rfl (lv_at hl 0 rfl) ?_
  refine va_get (D := (dC, dI)) (ci := 0) (v := .ref gs) (C := xR_SR) (T := xT_SR) (N := 6) hx hb hts (fun w h => List.mem_cons_of_mem _ (iw_SR w h)) hown hK hP 0 rfl rfl 3 (by decide) (hts _ (List.mem_cons_of_mem _ wm_249)) (fun _ h9 => h9) rfl d_SR_sum_1 ?_
  refine va_get (D := (dC, dI)) (ci := 4) (v := .int (st_md S)) (C := xR_SU) (T := xT_SU) (N := 8) hx hb hts (fun w h => List.mem_cons_of_mem _ (iw_SU w h)) hown hK hP 1 rfl rfl 7 (by decide) (hts _ (List.mem_cons_of_mem _ wm_188)) (fun _ h9 => h9) rfl d_SR_sum_4 ?_
  refine lv_if_ne (tgt := 20) hx hb d_SR_sum_7 (by decide) (fun c_1 => ?_) (fun c_1 => ?_)
  · exact False.elim (by first | contradiction | omega)
  · obtain ⟨sa, hsa⟩ := hz.str (own := xR_SR) (idx := 120) (tx := "not set up") (by decide +kernel)
    exact xt_throwS (names := ["java/lang/RuntimeException", "java/lang/Exception"]) hx hb hl9 ⟨⟨d_SR_sum_10, d_SR_sum_13⟩, d_SR_sum_14, d_SR_sum_16, d_SR_sum_19⟩ hown (by decide +kernel) (by decide +kernel) (hts _ (List.mem_cons_of_mem _ wm_394)) (hts _ (List.mem_cons_of_mem _ wm_38)) hsa (xt_atoms xe_57 hz hH) (hml.trans hl.1.symm) hout hlocks ⟨Nat.le_of_ble_eq_true rfl, Nat.le_of_ble_eq_true rfl, Nat.le_of_ble_eq_true rfl, Nat.le_of_ble_eq_true rfl⟩
set_option maxHeartbeats 4000000 in
set_option maxRecDepth 100000 in
/-- point throws -/
theorem c_SR_point_x1 (l : Launch) (hl9 : l.stackTraces = false) (dC : Nat → ClassId) (dI : Nat → Nat → Nat) (h0 : Nat) (gm : Nat) (gp : Nat) (go : Nat) (gs : Nat) (gl : Nat) (gd : Nat) (pa : Nat) (pb : Nat) (pd : Nat) (np : Nat) (la : ClassId) (lb : ClassId) (ld : ClassId) (px : Nat → Int32) (py : Nat → Int32) (pz : Nat → Int32) (a : Int32) (b : Int32) (d : Int32) (hc : np ≤ 30) (hf : 30 ≤ np) : xt_Met l xy_SR_point xw_SR_point ({ frames := 6, cells := 1, slots := 6, locals := 82 }) (xp_t [.ref h0, .int a, .int b, .int d] (dC, dI) xCl [(h0, .inr (0, [.ref gm, .ref gp, .ref go, .ref gs, .ref gl, .ref gd])), (gp, .inr (1, [.ref pa, .ref pb, .ref pd, .int (nI np)])), (pa, .inl (la, 30, .inl px)), (pb, .inl (lb, 30, .inl py)), (pd, .inl (ld, 30, .inl pz))] [(la, .int), (lb, .int), (ld, .int)]) "java/lang/IllegalStateException" 1 6 := by
  refine xt_ofW (cc := prog_1_method_11_code) (maxL := 4) (ret := (some .int)) (by decide) rfl ?_
  intro p e s m args below meth c s₁ B hml hv
  obtain ⟨rfl, hz, hH, hP, hK⟩ := hv
  have hx := B.exec
  have hb := B.bytes
  have hr := B.returns
  have hts := atoms_spec (ws := xw_SR_point) B.pre
  have hown : s.vm.findClass xR_SR = some m.cls := findClass_of_methodNamed B.named
  have hlocks := B.notSynchronized
  have hout := xt_empty B (hts _ List.mem_cons_self)
  have hP : va_P (dC, dI) xCl [(h0, .inr (0, [.ref gm, .ref gp, .ref go, .ref gs, .ref gl, .ref gd])), (gp, .inr (1, [.ref pa, .ref pb, .ref pd, .int (nI np)])), (pa, .inl (la, 30, .inl px)), (pb, .inl (lb, 30, .inl py)), (pd, .inl (ld, 30, .inl pz))] s.heap := hP
  have hl := lv_entry ([.ref h0, .int a, .int b, .int d]) (n := 4) (Nat.le_of_ble_eq_true rfl)
  rw [lg_entry_eq]
  generalize (lg_sl ([.ref h0, .int a, .int b, .int d]) ++ List.replicate (4 - (lg_sl ([.ref h0, .int a, .int b, .int d])).length) Slot.unset).toArray = ls at hl ⊢
  have hl : lv_has ls 4 [(0, .ref h0), (1, .int a), (2, .int b), (3, .int d)] := hl
  refine lv_aload_n hx hb d_SR_point_0 rfl (lv_at hl 0 rfl) ?_
  refine va_get (D := (dC, dI)) (ci := 0) (v := .ref gp) (C := xR_SR) (T := xT_SR) (N := 6) hx hb hts (fun w h => List.mem_cons_of_mem _ (iw_SR w h)) hown hK hP 0 rfl rfl 1 (by decide) (hts _ (List.mem_cons_of_mem _ wm_247)) (fun _ h9 => h9) rfl d_SR_point_1 ?_
  refine xr_calli (va_runV (As := []) (rest := []) ⟨hx, hb, hml, hown, hts⟩ (c_SP_isFull l dC dI gp pa pb pd np 30 la px (by first | assumption | omega | decide) (by first | assumption | omega | decide)) (cwV 0 hts (xgV wm_390 wm_391 wm_392 wm_27 wm_393) rfl rfl rfl (by decide +kernel) ⟨Nat.le_of_ble_eq_true rfl, Nat.le_of_ble_eq_true rfl⟩) ⟨xp_blind, va_recv hK hP (ci := 1) (q0 := 1) rfl rfl, fun U hU hW => ⟨rfl, hz.warm hW, by rw [hU]; exact hP.sub [1, 2] rfl, va_K.moved hW.alike (hK.sub [0] rfl)⟩⟩ rfl rfl hl.1 rfl (lv_room (Nat.le_of_ble_eq_true rfl)) d_SR_point_4 ⟨Nat.le_of_ble_eq_true rfl, Nat.le_of_ble_eq_true rfl⟩) (fun r_1 h_2 => ?_)
  refine lv_if_eq (tgt := 20) hx hb d_SR_point_7 (by decide) (fun c_3 => ?_) (fun c_3 => ?_)
  · have b_4 := bI_f h_2 c_3
    exact False.elim (by first | contradiction | omega)
  · have b_5 := bI_t h_2 c_3
    obtain ⟨sa, hsa⟩ := hz.str (own := xR_SR) (idx := 151) (tx := "there are thirty points") (by decide +kernel)
    exact xt_throwS (names := ["java/lang/RuntimeException", "java/lang/Exception"]) hx hb hl9 ⟨⟨d_SR_point_10, d_SR_point_13⟩, d_SR_point_14, d_SR_point_16, d_SR_point_19⟩ hown (by decide +kernel) (by decide +kernel) (hts _ (List.mem_cons_of_mem _ wm_394)) (hts _ (List.mem_cons_of_mem _ wm_38)) hsa (xt_atoms xe_57 hz hH) (hml.trans hl.1.symm) hout hlocks ⟨Nat.le_of_ble_eq_true rfl, Nat.le_of_ble_eq_true rfl, Nat.le_of_ble_eq_true rfl, Nat.le_of_ble_eq_true rfl⟩
set_option maxHeartbeats 4000000 in
set_option maxRecDepth 100000 in
/-- point throws -/
theorem c_SR_point_x2 (l : Launch) (hl9 : l.stackTraces = false) (dC : Nat → ClassId) (dI : Nat → Nat → Nat) (h0 : Nat) (gm : Nat) (gp : Nat) (go : Nat) (gs : Nat) (gl : Nat) (gd : Nat) (pa : Nat) (pb : Nat) (pd : Nat) (np : Nat) (la : ClassId) (lb : ClassId) (ld : ClassId) (px : Nat → Int32) (py : Nat → Int32) (pz : Nat → Int32) (a : Int32) (b : Int32) (d : Int32) (hc : np < 30) (hn : ¬ (sr_near a ∧ sr_near b ∧ sr_near d)) : xt_Met l xy_SR_point xw_SR_point ({ frames := 6, cells := 1, slots := 6, locals := 82 }) (xp_t [.ref h0, .int a, .int b, .int d] (dC, dI) xCl [(h0, .inr (0, [.ref gm, .ref gp, .ref go, .ref gs, .ref gl, .ref gd])), (gp, .inr (1, [.ref pa, .ref pb, .ref pd, .int (nI np)])), (pa, .inl (la, 30, .inl px)), (pb, .inl (lb, 30, .inl py)), (pd, .inl (ld, 30, .inl pz))] [(la, .int), (lb, .int), (ld, .int)]) "java/lang/IllegalArgumentException" 1 6 := by
  refine xt_ofW (cc := prog_1_method_11_code) (maxL := 4) (ret := (some .int)) (by decide) rfl ?_
  intro p e s m args below meth c s₁ B hml hv
  obtain ⟨rfl, hz, hH, hP, hK⟩ := hv
  have hx := B.exec
  have hb := B.bytes
  have hr := B.returns
  have hts := atoms_spec (ws := xw_SR_point) B.pre
  have hown : s.vm.findClass xR_SR = some m.cls := findClass_of_methodNamed B.named
  have hlocks := B.notSynchronized
  have hout := xt_empty B (hts _ List.mem_cons_self)
  have hP : va_P (dC, dI) xCl [(h0, .inr (0, [.ref gm, .ref gp, .ref go, .ref gs, .ref gl, .ref gd])), (gp, .inr (1, [.ref pa, .ref pb, .ref pd, .int (nI np)])), (pa, .inl (la, 30, .inl px)), (pb, .inl (lb, 30, .inl py)), (pd, .inl (ld, 30, .inl pz))] s.heap := hP
  have hl := lv_entry ([.ref h0, .int a, .int b, .int d]) (n := 4) (Nat.le_of_ble_eq_true rfl)
  rw [lg_entry_eq]
  generalize (lg_sl ([.ref h0, .int a, .int b, .int d]) ++ List.replicate (4 - (lg_sl ([.ref h0, .int a, .int b, .int d])).length) Slot.unset).toArray = ls at hl ⊢
  have hl : lv_has ls 4 [(0, .ref h0), (1, .int a), (2, .int b), (3, .int d)] := hl
  refine lv_aload_n hx hb d_SR_point_0 rfl (lv_at hl 0 rfl) ?_
  refine va_get (D := (dC, dI)) (ci := 0) (v := .ref gp) (C := xR_SR) (T := xT_SR) (N := 6) hx hb hts (fun w h => List.mem_cons_of_mem _ (iw_SR w h)) hown hK hP 0 rfl rfl 1 (by decide) (hts _ (List.mem_cons_of_mem _ wm_247)) (fun _ h9 => h9) rfl d_SR_point_1 ?_
  refine xr_calli (va_runV (As := []) (rest := []) ⟨hx, hb, hml, hown, hts⟩ (c_SP_isFull l dC dI gp pa pb pd np 30 la px (by first | assumption | omega | decide) (by first | assumption | omega | decide)) (cwV 0 hts (xgV wm_390 wm_391 wm_392 wm_27 wm_393) rfl rfl rfl (by decide +kernel) ⟨Nat.le_of_ble_eq_true rfl, Nat.le_of_ble_eq_true rfl⟩) ⟨xp_blind, va_recv hK hP (ci := 1) (q0 := 1) rfl rfl, fun U hU hW => ⟨rfl, hz.warm hW, by rw [hU]; exact hP.sub [1, 2] rfl, va_K.moved hW.alike (hK.sub [0] rfl)⟩⟩ rfl rfl hl.1 rfl (lv_room (Nat.le_of_ble_eq_true rfl)) d_SR_point_4 ⟨Nat.le_of_ble_eq_true rfl, Nat.le_of_ble_eq_true rfl⟩) (fun r_1 h_2 => ?_)
  refine lv_if_eq (tgt := 20) hx hb d_SR_point_7 (by decide) (fun c_3 => ?_) (fun c_3 => ?_)
  · have b_4 := bI_f h_2 c_3
    refine lv_iload_n hx hb d_SR_point_20 rfl (lv_at hl 1 rfl) ?_
    refine lv_iload_n hx hb d_SR_point_21 rfl (lv_at hl 2 rfl) ?_
    refine lv_iload_n hx hb d_SR_point_22 rfl (lv_at hl 3 rfl) ?_
    refine xr_calli (va_runS (As := [.int a, .int b, .int d]) (rest := []) ⟨hx, hb, hml, hown, hts⟩ (c_SR_areNear l dC dI a b d) (va_cwS 3 hts (xgS wm_371 wm_372 wm_26 wm_373) rfl rfl rfl (by decide +kernel) ⟨Nat.le_of_ble_eq_true rfl, Nat.le_of_ble_eq_true rfl⟩) ⟨xp_blind, fun U hU hW => ⟨rfl, hz.warm hW, by rw [hU]; exact hP.sub [] rfl, va_K.moved hW.alike (hK.sub [] rfl)⟩⟩ rfl rfl hl.1 rfl (lv_room (Nat.le_of_ble_eq_true rfl)) d_SR_point_23 ⟨Nat.le_of_ble_eq_true rfl, Nat.le_of_ble_eq_true rfl⟩) (fun r_5 h_6 => ?_)
    refine lv_if_ne (tgt := 39) hx hb d_SR_point_26 (by decide) (fun c_7 => ?_) (fun c_7 => ?_)
    · have b_8 := bI_t h_6 c_7
      exact False.elim (by first | contradiction | omega)
    · have b_9 := bI_f h_6 c_7
      obtain ⟨sa, hsa⟩ := hz.str (own := xR_SR) (idx := 153) (tx := "a point lies too far away") (by decide +kernel)
      exact xt_throwS (names := ["java/lang/RuntimeException", "java/lang/Exception"]) hx hb hl9 ⟨⟨d_SR_point_29, d_SR_point_32⟩, d_SR_point_33, d_SR_point_35, d_SR_point_38⟩ hown (by decide +kernel) (by decide +kernel) (hts _ (List.mem_cons_of_mem _ wm_462)) (hts _ (List.mem_cons_of_mem _ wm_39)) hsa (xt_atoms xe_68 hz hH) (hml.trans hl.1.symm) hout hlocks ⟨Nat.le_of_ble_eq_true rfl, Nat.le_of_ble_eq_true rfl, Nat.le_of_ble_eq_true rfl, Nat.le_of_ble_eq_true rfl⟩
  · have b_10 := bI_t h_2 c_3
    exact False.elim (by first | contradiction | omega)
set_option maxHeartbeats 4000000 in
set_option maxRecDepth 100000 in
/-- place throws -/
theorem c_SR_place_x1 (l : Launch) (hl9 : l.stackTraces = false) (dC : Nat → ClassId) (dI : Nat → Nat → Nat) (h0 : Nat) (gm : Nat) (gp : Nat) (go : Nat) (gs : Nat) (gl : Nat) (gd : Nat) (su : Nat) (sp : Nat) (sm : Nat) (se : Nat) (m0 : Nat) (m1 : Nat) (m2 : Nat) (ca : ClassId) (cm : ClassId) (cm0 : ClassId) (cm1 : ClassId) (cm2 : ClassId) (cq : ClassId) (S : sr_St) (sf : Nat → Int64) (pa : Nat) (pb : Nat) (pd : Nat) (np : Nat) (la : ClassId) (lb : ClassId) (ld : ClassId) (px : Nat → Int32) (py : Nat → Int32) (pz : Nat → Int32) (i0 : Int32) (i1 : Int32) (hc : np ≤ 30) (hn : ¬ (xin i0 np ∧ xin i1 3)) : xt_Met l xy_SR_place xw_SR_place ({ frames := 6, cells := 1, slots := 6, locals := 82 }) (xp_t [.ref h0, .int i0, .int i1] (dC, dI) xCl [(h0, .inr (0, [.ref gm, .ref gp, .ref go, .ref gs, .ref gl, .ref gd])), (gs, .inr (4, [.ref su, .ref sp, .ref sm, .ref se, .long (st_dv S), .int (st_ht S), .int (nI (st_sc S)), .int (st_md S)])), (sp, .inl (ca, 4, .inr (.inl (st_fa S)))), (sm, .inl (cm, 3, .inr (.inr (.inr (.inr (xm_3 m0 m1 m2)))))), (m0, .inl (cm0, 20, .inl (st_n0 S))), (m1, .inl (cm1, 20, .inl (st_n1 S))), (m2, .inl (cm2, 20, .inl (st_n2 S))), (se, .inl (cq, 20, .inl (st_fq S))), (su, .inr (3, [.long (sf 1), .long (sf 2), .long (sf 3), .long (sf 4), .long (sf 5), .long (sf 6), .long (sf 7), .long (sf 8), .long (sf 9)])), (gp, .inr (1, [.ref pa, .ref pb, .ref pd, .int (nI np)])), (pa, .inl (la, 30, .inl px)), (pb, .inl (lb, 30, .inl py)), (pd, .inl (ld, 30, .inl pz))] [(ca, .long), (cm, .array .int), (cm0, .int), (cm1, .int), (cm2, .int), (cq, .boolean), (la, .int), (lb, .int), (ld, .int)]) "java/lang/IndexOutOfBoundsException" 1 6 := by
  refine xt_ofW (cc := prog_1_method_12_code) (maxL := 3) (ret := (some .int)) (by decide) rfl ?_
  intro p e s m args below meth c s₁ B hml hv
  obtain ⟨rfl, hz, hH, hP, hK⟩ := hv
  have hx := B.exec
  have hb := B.bytes
  have hr := B.returns
  have hts := atoms_spec (ws := xw_SR_place) B.pre
  have hown : s.vm.findClass xR_SR = some m.cls := findClass_of_methodNamed B.named
  have hlocks := B.notSynchronized
  have hout := xt_empty B (hts _ List.mem_cons_self)
  have hP : va_P (dC, dI) xCl [(h0, .inr (0, [.ref gm, .ref gp, .ref go, .ref gs, .ref gl, .ref gd])), (gs, .inr (4, [.ref su, .ref sp, .ref sm, .ref se, .long (st_dv S), .int (st_ht S), .int (nI (st_sc S)), .int (st_md S)])), (sp, .inl (ca, 4, .inr (.inl (st_fa S)))), (sm, .inl (cm, 3, .inr (.inr (.inr (.inr (xm_3 m0 m1 m2)))))), (m0, .inl (cm0, 20, .inl (st_n0 S))), (m1, .inl (cm1, 20, .inl (st_n1 S))), (m2, .inl (cm2, 20, .inl (st_n2 S))), (se, .inl (cq, 20, .inl (st_fq S))), (su, .inr (3, [.long (sf 1), .long (sf 2), .long (sf 3), .long (sf 4), .long (sf 5), .long (sf 6), .long (sf 7), .long (sf 8), .long (sf 9)])), (gp, .inr (1, [.ref pa, .ref pb, .ref pd, .int (nI np)])), (pa, .inl (la, 30, .inl px)), (pb, .inl (lb, 30, .inl py)), (pd, .inl (ld, 30, .inl pz))] s.heap := hP
  have hl := lv_entry ([.ref h0, .int i0, .int i1]) (n := 3) (Nat.le_of_ble_eq_true rfl)
  rw [lg_entry_eq]
  generalize (lg_sl ([.ref h0, .int i0, .int i1]) ++ List.replicate (3 - (lg_sl ([.ref h0, .int i0, .int i1])).length) Slot.unset).toArray = ls at hl ⊢
  have hl : lv_has ls 3 [(0, .ref h0), (1, .int i0), (2, .int i1)] := hl
  refine lv_aload_n hx hb d_SR_place_0 rfl (lv_at hl 0 rfl) ?_
  refine va_get (D := (dC, dI)) (ci := 0) (v := .ref gp) (C := xR_SR) (T := xT_SR) (N := 6) hx hb hts (fun w h => List.mem_cons_of_mem _ (iw_SR w h)) hown hK hP 0 rfl rfl 1 (by decide) (hts _ (List.mem_cons_of_mem _ wm_247)) (fun _ h9 => h9) rfl d_SR_place_1 ?_
  refine lv_iload_n hx hb d_SR_place_4 rfl (lv_at hl 1 rfl) ?_
  refine xr_calli (va_runV (As := [.int i0]) (rest := []) ⟨hx, hb, hml, hown, hts⟩ (c_SP_has l dC dI gp pa pb pd np i0 (by first | assumption | omega | decide)) (cwV 1 hts (xgV wm_363 wm_364 wm_365 wm_27 wm_366) rfl rfl rfl (by decide +kernel) ⟨Nat.le_of_ble_eq_true rfl, Nat.le_of_ble_eq_true rfl⟩) ⟨xp_blind, va_recv hK hP (ci := 1) (q0 := 9) rfl rfl, fun U hU hW => ⟨rfl, hz.warm hW, by rw [hU]; exact hP.sub [9] rfl, va_K.moved hW.alike (hK.sub [] rfl)⟩⟩ rfl rfl hl.1 rfl (lv_room (Nat.le_of_ble_eq_true rfl)) d_SR_place_5 ⟨Nat.le_of_ble_eq_true rfl, Nat.le_of_ble_eq_true rfl⟩) (fun r_1 h_2 => ?_)
  refine lv_if_eq (tgt := 18) hx hb d_SR_place_8 (by decide) (fun c_3 => ?_) (fun c_3 => ?_)
  · have b_4 := bI_f h_2 c_3
    obtain ⟨sa, hsa⟩ := hz.str (own := xR_SR) (idx := 155) (tx := "no such point or axis") (by decide +kernel)
    exact xt_throwS (names := ["java/lang/RuntimeException", "java/lang/Exception"]) hx hb hl9 ⟨⟨d_SR_place_18, d_SR_place_21⟩, d_SR_place_22, d_SR_place_24, d_SR_place_27⟩ hown (by decide +kernel) (by decide +kernel) (hts _ (List.mem_cons_of_mem _ wm_490)) (hts _ (List.mem_cons_of_mem _ wm_40)) hsa (xt_atoms xe_81 hz hH) (hml.trans hl.1.symm) hout hlocks ⟨Nat.le_of_ble_eq_true rfl, Nat.le_of_ble_eq_true rfl, Nat.le_of_ble_eq_true rfl, Nat.le_of_ble_eq_true rfl⟩
  · have b_5 := bI_t h_2 c_3
    refine lv_iload_n hx hb d_SR_place_11 rfl (lv_at hl 2 rfl) ?_
    refine xr_calli (va_runS (As := [.int i1]) (rest := []) ⟨hx, hb, hml, hown, hts⟩ (c_SR_isAxis l dC dI i1) (va_cwS 1 hts (xgS wm_553 wm_554 wm_26 wm_555) rfl rfl rfl (by decide +kernel) ⟨Nat.le_of_ble_eq_true rfl, Nat.le_of_ble_eq_true rfl⟩) ⟨xp_blind, fun U hU hW => ⟨rfl, hz.warm hW, by rw [hU]; exact hP.sub [] rfl, va_K.moved hW.alike (hK.sub [] rfl)⟩⟩ rfl rfl hl.1 rfl (lv_room (Nat.le_of_ble_eq_true rfl)) d_SR_place_12 ⟨Nat.le_of_ble_eq_true rfl, Nat.le_of_ble_eq_true rfl⟩) (fun r_6 h_7 => ?_)
    refine lv_if_ne (tgt := 28) hx hb d_SR_place_15 (by decide) (fun c_8 => ?_) (fun c_8 => ?_)
    · have b_9 := bI_t h_7 c_8
      exact False.elim (by first | contradiction | omega | exact hn ⟨by assumption, by assumption⟩)
    · have b_10 := bI_f h_7 c_8
      obtain ⟨sa, hsa⟩ := hz.str (own := xR_SR) (idx := 155) (tx := "no such point or axis") (by decide +kernel)
      exact xt_throwS (names := ["java/lang/RuntimeException", "java/lang/Exception"]) hx hb hl9 ⟨⟨d_SR_place_18, d_SR_place_21⟩, d_SR_place_22, d_SR_place_24, d_SR_place_27⟩ hown (by decide +kernel) (by decide +kernel) (hts _ (List.mem_cons_of_mem _ wm_490)) (hts _ (List.mem_cons_of_mem _ wm_40)) hsa (xt_atoms xe_81 hz hH) (hml.trans hl.1.symm) hout hlocks ⟨Nat.le_of_ble_eq_true rfl, Nat.le_of_ble_eq_true rfl, Nat.le_of_ble_eq_true rfl, Nat.le_of_ble_eq_true rfl⟩
set_option maxHeartbeats 4000000 in
set_option maxRecDepth 100000 in
/-- place throws -/
theorem c_SR_place_x2 (l : Launch) (hl9 : l.stackTraces = false) (dC : Nat → ClassId) (dI : Nat → Nat → Nat) (h0 : Nat) (gm : Nat) (gp : Nat) (go : Nat) (gs : Nat) (gl : Nat) (gd : Nat) (su : Nat) (sp : Nat) (sm : Nat) (se : Nat) (m0 : Nat) (m1 : Nat) (m2 : Nat) (ca : ClassId) (cm : ClassId) (cm0 : ClassId) (cm1 : ClassId) (cm2 : ClassId) (cq : ClassId) (S : sr_St) (sf : Nat → Int64) (pa : Nat) (pb : Nat) (pd : Nat) (np : Nat) (la : ClassId) (lb : ClassId) (ld : ClassId) (px : Nat → Int32) (py : Nat → Int32) (pz : Nat → Int32) (i0 : Int32) (i1 : Int32) (hc : np ≤ 30) (hv : xin i0 np) (hvj : xin i1 3) (hm : st_md S = 0) : xt_Met l xy_SR_place xw_SR_place ({ frames := 6, cells := 1, slots := 6, locals := 82 }) (xp_t [.ref h0, .int i0, .int i1] (dC, dI) xCl [(h0, .inr (0, [.ref gm, .ref gp, .ref go, .ref gs, .ref gl, .ref gd])), (gs, .inr (4, [.ref su, .ref sp, .ref sm, .ref se, .long (st_dv S), .int (st_ht S), .int (nI (st_sc S)), .int (st_md S)])), (sp, .inl (ca, 4, .inr (.inl (st_fa S)))), (sm, .inl (cm, 3, .inr (.inr (.inr (.inr (xm_3 m0 m1 m2)))))), (m0, .inl (cm0, 20, .inl (st_n0 S))), (m1, .inl (cm1, 20, .inl (st_n1 S))), (m2, .inl (cm2, 20, .inl (st_n2 S))), (se, .inl (cq, 20, .inl (st_fq S))), (su, .inr (3, [.long (sf 1), .long (sf 2), .long (sf 3), .long (sf 4), .long (sf 5), .long (sf 6), .long (sf 7), .long (sf 8), .long (sf 9)])), (gp, .inr (1, [.ref pa, .ref pb, .ref pd, .int (nI np)])), (pa, .inl (la, 30, .inl px)), (pb, .inl (lb, 30, .inl py)), (pd, .inl (ld, 30, .inl pz))] [(ca, .long), (cm, .array .int), (cm0, .int), (cm1, .int), (cm2, .int), (cq, .boolean), (la, .int), (lb, .int), (ld, .int)]) "java/lang/IllegalStateException" 1 6 := by
  refine xt_ofW (cc := prog_1_method_12_code) (maxL := 3) (ret := (some .int)) (by decide) rfl ?_
  intro p e s m args below meth c s₁ B hml hv
  obtain ⟨rfl, hz, hH, hP, hK⟩ := hv
  have hx := B.exec
  have hb := B.bytes
  have hr := B.returns
  have hts := atoms_spec (ws := xw_SR_place) B.pre
  have hown : s.vm.findClass xR_SR = some m.cls := findClass_of_methodNamed B.named
  have hlocks := B.notSynchronized
  have hout := xt_empty B (hts _ List.mem_cons_self)
  have hP : va_P (dC, dI) xCl [(h0, .inr (0, [.ref gm, .ref gp, .ref go, .ref gs, .ref gl, .ref gd])), (gs, .inr (4, [.ref su, .ref sp, .ref sm, .ref se, .long (st_dv S), .int (st_ht S), .int (nI (st_sc S)), .int (st_md S)])), (sp, .inl (ca, 4, .inr (.inl (st_fa S)))), (sm, .inl (cm, 3, .inr (.inr (.inr (.inr (xm_3 m0 m1 m2)))))), (m0, .inl (cm0, 20, .inl (st_n0 S))), (m1, .inl (cm1, 20, .inl (st_n1 S))), (m2, .inl (cm2, 20, .inl (st_n2 S))), (se, .inl (cq, 20, .inl (st_fq S))), (su, .inr (3, [.long (sf 1), .long (sf 2), .long (sf 3), .long (sf 4), .long (sf 5), .long (sf 6), .long (sf 7), .long (sf 8), .long (sf 9)])), (gp, .inr (1, [.ref pa, .ref pb, .ref pd, .int (nI np)])), (pa, .inl (la, 30, .inl px)), (pb, .inl (lb, 30, .inl py)), (pd, .inl (ld, 30, .inl pz))] s.heap := hP
  have hl := lv_entry ([.ref h0, .int i0, .int i1]) (n := 3) (Nat.le_of_ble_eq_true rfl)
  rw [lg_entry_eq]
  generalize (lg_sl ([.ref h0, .int i0, .int i1]) ++ List.replicate (3 - (lg_sl ([.ref h0, .int i0, .int i1])).length) Slot.unset).toArray = ls at hl ⊢
  have hl : lv_has ls 3 [(0, .ref h0), (1, .int i0), (2, .int i1)] := hl
  refine lv_aload_n hx hb d_SR_place_0 rfl (lv_at hl 0 rfl) ?_
  refine va_get (D := (dC, dI)) (ci := 0) (v := .ref gp) (C := xR_SR) (T := xT_SR) (N := 6) hx hb hts (fun w h => List.mem_cons_of_mem _ (iw_SR w h)) hown hK hP 0 rfl rfl 1 (by decide) (hts _ (List.mem_cons_of_mem _ wm_247)) (fun _ h9 => h9) rfl d_SR_place_1 ?_
  refine lv_iload_n hx hb d_SR_place_4 rfl (lv_at hl 1 rfl) ?_
  refine xr_calli (va_runV (As := [.int i0]) (rest := []) ⟨hx, hb, hml, hown, hts⟩ (c_SP_has l dC dI gp pa pb pd np i0 (by first | assumption | omega | decide)) (cwV 1 hts (xgV wm_363 wm_364 wm_365 wm_27 wm_366) rfl rfl rfl (by decide +kernel) ⟨Nat.le_of_ble_eq_true rfl, Nat.le_of_ble_eq_true rfl⟩) ⟨xp_blind, va_recv hK hP (ci := 1) (q0 := 9) rfl rfl, fun U hU hW => ⟨rfl, hz.warm hW, by rw [hU]; exact hP.sub [9] rfl, va_K.moved hW.alike (hK.sub [] rfl)⟩⟩ rfl rfl hl.1 rfl (lv_room (Nat.le_of_ble_eq_true rfl)) d_SR_place_5 ⟨Nat.le_of_ble_eq_true rfl, Nat.le_of_ble_eq_true rfl⟩) (fun r_1 h_2 => ?_)
  refine lv_if_eq (tgt := 18) hx hb d_SR_place_8 (by decide) (fun c_3 => ?_) (fun c_3 => ?_)
  · have b_4 := bI_f h_2 c_3
    exact False.elim (by first | contradiction | omega)
  · have b_5 := bI_t h_2 c_3
    refine lv_iload_n hx hb d_SR_place_11 rfl (lv_at hl 2 rfl) ?_
    refine xr_calli (va_runS (As := [.int i1]) (rest := []) ⟨hx, hb, hml, hown, hts⟩ (c_SR_isAxis l dC dI i1) (va_cwS 1 hts (xgS wm_553 wm_554 wm_26 wm_555) rfl rfl rfl (by decide +kernel) ⟨Nat.le_of_ble_eq_true rfl, Nat.le_of_ble_eq_true rfl⟩) ⟨xp_blind, fun U hU hW => ⟨rfl, hz.warm hW, by rw [hU]; exact hP.sub [] rfl, va_K.moved hW.alike (hK.sub [] rfl)⟩⟩ rfl rfl hl.1 rfl (lv_room (Nat.le_of_ble_eq_true rfl)) d_SR_place_12 ⟨Nat.le_of_ble_eq_true rfl, Nat.le_of_ble_eq_true rfl⟩) (fun r_6 h_7 => ?_)
    refine lv_if_ne (tgt := 28) hx hb d_SR_place_15 (by decide) (fun c_8 => ?_) (fun c_8 => ?_)
    · have b_9 := bI_t h_7 c_8
      refine lv_aload_n hx hb d_SR_place_28 rfl (lv_at hl 0 rfl) ?_
      refine va_get (D := (dC, dI)) (ci := 0) (v := .ref gs) (C := xR_SR) (T := xT_SR) (N := 6) hx hb hts (fun w h => List.mem_cons_of_mem _ (iw_SR w h)) hown hK hP 0 rfl rfl 3 (by decide) (hts _ (List.mem_cons_of_mem _ wm_249)) (fun _ h9 => h9) rfl d_SR_place_29 ?_
      refine va_get (D := (dC, dI)) (ci := 4) (v := .int (st_md S)) (C := xR_SU) (T := xT_SU) (N := 8) hx hb hts (fun w h => List.mem_cons_of_mem _ (iw_SU w h)) hown hK hP 1 rfl rfl 7 (by decide) (hts _ (List.mem_cons_of_mem _ wm_188)) (fun _ h9 => h9) rfl d_SR_place_32 ?_
      refine lv_if_ne (tgt := 48) hx hb d_SR_place_35 (by decide) (fun c_10 => ?_) (fun c_10 => ?_)
      · exact False.elim (by first | contradiction | omega)
      · obtain ⟨sa, hsa⟩ := hz.str (own := xR_SR) (idx := 120) (tx := "not set up") (by decide +kernel)
        exact xt_throwS (names := ["java/lang/RuntimeException", "java/lang/Exception"]) hx hb hl9 ⟨⟨d_SR_place_38, d_SR_place_41⟩, d_SR_place_42, d_SR_place_44, d_SR_place_47⟩ hown (by decide +kernel) (by decide +kernel) (hts _ (List.mem_cons_of_mem _ wm_394)) (hts _ (List.mem_cons_of_mem _ wm_38)) hsa (xt_atoms xe_57 hz hH) (hml.trans hl.1.symm) hout hlocks ⟨Nat.le_of_ble_eq_true rfl, Nat.le_of_ble_eq_true rfl, Nat.le_of_ble_eq_true rfl, Nat.le_of_ble_eq_true rfl⟩
    · have b_11 := bI_f h_7 c_8
      exact False.elim (by first | contradiction | omega)
set_option maxHeartbeats 4000000 in
set_option maxRecDepth 100000 in
/-- level throws -/
theorem c_SR_level_x1 (l : Launch) (hl9 : l.stackTraces = false) (dC : Nat → ClassId) (dI : Nat → Nat → Nat) (h0 : Nat) (gm : Nat) (gp : Nat) (go : Nat) (gs : Nat) (gl : Nat) (gd : Nat) (qd : Nat) (ql : Nat) (nl : Nat) (cd : ClassId) (cl : ClassId) (fd : Nat → Int32) (fl : Nat → Int32) (a : Int32) (b : Int32) (hc : nl ≤ 12) (hf : 12 ≤ nl) : xt_Met l xy_SR_level xw_SR_level ({ frames := 6, cells := 1, slots := 6, locals := 82 }) (xp_t [.ref h0, .int a, .int b] (dC, dI) xCl [(h0, .inr (0, [.ref gm, .ref gp, .ref go, .ref gs, .ref gl, .ref gd])), (gl, .inr (5, [.ref qd, .ref ql, .int (nI nl)])), (qd, .inl (cd, 12, .inl fd)), (ql, .inl (cl, 12, .inl fl))] [(cd, .int), (cl, .int)]) "java/lang/IllegalStateException" 1 6 := by
  refine xt_ofW (cc := prog_1_method_13_code) (maxL := 3) (ret := (some .int)) (by decide) rfl ?_
  intro p e s m args below meth c s₁ B hml hv
  obtain ⟨rfl, hz, hH, hP, hK⟩ := hv
  have hx := B.exec
  have hb := B.bytes
  have hr := B.returns
  have hts := atoms_spec (ws := xw_SR_level) B.pre
  have hown : s.vm.findClass xR_SR = some m.cls := findClass_of_methodNamed B.named
  have hlocks := B.notSynchronized
  have hout := xt_empty B (hts _ List.mem_cons_self)
  have hP : va_P (dC, dI) xCl [(h0, .inr (0, [.ref gm, .ref gp, .ref go, .ref gs, .ref gl, .ref gd])), (gl, .inr (5, [.ref qd, .ref ql, .int (nI nl)])), (qd, .inl (cd, 12, .inl fd)), (ql, .inl (cl, 12, .inl fl))] s.heap := hP
  have hl := lv_entry ([.ref h0, .int a, .int b]) (n := 3) (Nat.le_of_ble_eq_true rfl)
  rw [lg_entry_eq]
  generalize (lg_sl ([.ref h0, .int a, .int b]) ++ List.replicate (3 - (lg_sl ([.ref h0, .int a, .int b])).length) Slot.unset).toArray = ls at hl ⊢
  have hl : lv_has ls 3 [(0, .ref h0), (1, .int a), (2, .int b)] := hl
  refine lv_aload_n hx hb d_SR_level_0 rfl (lv_at hl 0 rfl) ?_
  refine va_get (D := (dC, dI)) (ci := 0) (v := .ref gl) (C := xR_SR) (T := xT_SR) (N := 6) hx hb hts (fun w h => List.mem_cons_of_mem _ (iw_SR w h)) hown hK hP 0 rfl rfl 4 (by decide) (hts _ (List.mem_cons_of_mem _ wm_250)) (fun _ h9 => h9) rfl d_SR_level_1 ?_
  refine xr_calli (va_runV (As := []) (rest := []) ⟨hx, hb, hml, hown, hts⟩ (c_LE_isFull l dC dI gl qd ql nl (by first | assumption | omega | decide)) (cwV 0 hts (xgV wm_619 wm_620 wm_621 wm_32 wm_622) rfl rfl rfl (by decide +kernel) ⟨Nat.le_of_ble_eq_true rfl, Nat.le_of_ble_eq_true rfl⟩) ⟨xp_blind, va_recv hK hP (ci := 5) (q0 := 1) rfl rfl, fun U hU hW => ⟨rfl, hz.warm hW, by rw [hU]; exact hP.sub [1] rfl, va_K.moved hW.alike (hK.sub [] rfl)⟩⟩ rfl rfl hl.1 rfl (lv_room (Nat.le_of_ble_eq_true rfl)) d_SR_level_4 ⟨Nat.le_of_ble_eq_true rfl, Nat.le_of_ble_eq_true rfl⟩) (fun r_1 h_2 => ?_)
  refine lv_if_eq (tgt := 20) hx hb d_SR_level_7 (by decide) (fun c_3 => ?_) (fun c_3 => ?_)
  · have b_4 := bI_f h_2 c_3
    exact False.elim (by first | contradiction | omega)
  · have b_5 := bI_t h_2 c_3
    obtain ⟨sa, hsa⟩ := hz.str (own := xR_SR) (idx := 171) (tx := "there are twelve rows of levels") (by decide +kernel)
    exact xt_throwS (names := ["java/lang/RuntimeException", "java/lang/Exception"]) hx hb hl9 ⟨⟨d_SR_level_10, d_SR_level_13⟩, d_SR_level_14, d_SR_level_16, d_SR_level_19⟩ hown (by decide +kernel) (by decide +kernel) (hts _ (List.mem_cons_of_mem _ wm_394)) (hts _ (List.mem_cons_of_mem _ wm_38)) hsa (xt_atoms xe_57 hz hH) (hml.trans hl.1.symm) hout hlocks ⟨Nat.le_of_ble_eq_true rfl, Nat.le_of_ble_eq_true rfl, Nat.le_of_ble_eq_true rfl, Nat.le_of_ble_eq_true rfl⟩
set_option maxHeartbeats 4000000 in
set_option maxRecDepth 100000 in
/-- level throws -/
theorem c_SR_level_x2 (l : Launch) (hl9 : l.stackTraces = false) (dC : Nat → ClassId) (dI : Nat → Nat → Nat) (h0 : Nat) (gm : Nat) (gp : Nat) (go : Nat) (gs : Nat) (gl : Nat) (gd : Nat) (qd : Nat) (ql : Nat) (nl : Nat) (cd : ClassId) (cl : ClassId) (fd : Nat → Int32) (fl : Nat → Int32) (a : Int32) (b : Int32) (hc : nl < 12) (hn : ¬ (¬ a < -100000 ∧ a ≤ 100000)) : xt_Met l xy_SR_level xw_SR_level ({ frames := 6, cells := 1, slots := 6, locals := 82 }) (xp_t [.ref h0, .int a, .int b] (dC, dI) xCl [(h0, .inr (0, [.ref gm, .ref gp, .ref go, .ref gs, .ref gl, .ref gd])), (gl, .inr (5, [.ref qd, .ref ql, .int (nI nl)])), (qd, .inl (cd, 12, .inl fd)), (ql, .inl (cl, 12, .inl fl))] [(cd, .int), (cl, .int)]) "java/lang/IllegalArgumentException" 1 6 := by
  refine xt_ofW (cc := prog_1_method_13_code) (maxL := 3) (ret := (some .int)) (by decide) rfl ?_
  intro p e s m args below meth c s₁ B hml hv
  obtain ⟨rfl, hz, hH, hP, hK⟩ := hv
  have hx := B.exec
  have hb := B.bytes
  have hr := B.returns
  have hts := atoms_spec (ws := xw_SR_level) B.pre
  have hown : s.vm.findClass xR_SR = some m.cls := findClass_of_methodNamed B.named
  have hlocks := B.notSynchronized
  have hout := xt_empty B (hts _ List.mem_cons_self)
  have hP : va_P (dC, dI) xCl [(h0, .inr (0, [.ref gm, .ref gp, .ref go, .ref gs, .ref gl, .ref gd])), (gl, .inr (5, [.ref qd, .ref ql, .int (nI nl)])), (qd, .inl (cd, 12, .inl fd)), (ql, .inl (cl, 12, .inl fl))] s.heap := hP
  have hl := lv_entry ([.ref h0, .int a, .int b]) (n := 3) (Nat.le_of_ble_eq_true rfl)
  rw [lg_entry_eq]
  generalize (lg_sl ([.ref h0, .int a, .int b]) ++ List.replicate (3 - (lg_sl ([.ref h0, .int a, .int b])).length) Slot.unset).toArray = ls at hl ⊢
  have hl : lv_has ls 3 [(0, .ref h0), (1, .int a), (2, .int b)] := hl
  refine lv_aload_n hx hb d_SR_level_0 rfl (lv_at hl 0 rfl) ?_
  refine va_get (D := (dC, dI)) (ci := 0) (v := .ref gl) (C := xR_SR) (T := xT_SR) (N := 6) hx hb hts (fun w h => List.mem_cons_of_mem _ (iw_SR w h)) hown hK hP 0 rfl rfl 4 (by decide) (hts _ (List.mem_cons_of_mem _ wm_250)) (fun _ h9 => h9) rfl d_SR_level_1 ?_
  refine xr_calli (va_runV (As := []) (rest := []) ⟨hx, hb, hml, hown, hts⟩ (c_LE_isFull l dC dI gl qd ql nl (by first | assumption | omega | decide)) (cwV 0 hts (xgV wm_619 wm_620 wm_621 wm_32 wm_622) rfl rfl rfl (by decide +kernel) ⟨Nat.le_of_ble_eq_true rfl, Nat.le_of_ble_eq_true rfl⟩) ⟨xp_blind, va_recv hK hP (ci := 5) (q0 := 1) rfl rfl, fun U hU hW => ⟨rfl, hz.warm hW, by rw [hU]; exact hP.sub [1] rfl, va_K.moved hW.alike (hK.sub [] rfl)⟩⟩ rfl rfl hl.1 rfl (lv_room (Nat.le_of_ble_eq_true rfl)) d_SR_level_4 ⟨Nat.le_of_ble_eq_true rfl, Nat.le_of_ble_eq_true rfl⟩) (fun r_1 h_2 => ?_)
  refine lv_if_eq (tgt := 20) hx hb d_SR_level_7 (by decide) (fun c_3 => ?_) (fun c_3 => ?_)
  · have b_4 := bI_f h_2 c_3
    refine lv_iload_n hx hb d_SR_level_20 rfl (lv_at hl 1 rfl) ?_
    refine lv_ldc (v := (-100000)) hx hb hown (hts _ (List.mem_cons_of_mem _ wm_624)) d_SR_level_21 ?_
    refine lv_icmp_lt (tgt := 32) hx hb d_SR_level_23 (by decide) (fun c_5 => ?_) (fun c_5 => ?_)
    · obtain ⟨sa, hsa⟩ := hz.str (own := xR_SR) (idx := 174) (tx := "a difference is -100000 to 100000") (by decide +kernel)
      exact xt_throwS (names := ["java/lang/RuntimeException", "java/lang/Exception"]) hx hb hl9 ⟨⟨d_SR_level_32, d_SR_level_35⟩, d_SR_level_36, d_SR_level_38, d_SR_level_41⟩ hown (by decide +kernel) (by decide +kernel) (hts _ (List.mem_cons_of_mem _ wm_462)) (hts _ (List.mem_cons_of_mem _ wm_39)) hsa (xt_atoms xe_68 hz hH) (hml.trans hl.1.symm) hout hlocks ⟨Nat.le_of_ble_eq_true rfl, Nat.le_of_ble_eq_true rfl, Nat.le_of_ble_eq_true rfl, Nat.le_of_ble_eq_true rfl⟩
    · refine lv_iload_n hx hb d_SR_level_26 rfl (lv_at hl 1 rfl) ?_
      refine lv_ldc (v := 100000) hx hb hown (hts _ (List.mem_cons_of_mem _ wm_569)) d_SR_level_27 ?_
      refine lv_icmp_le (tgt := 42) hx hb d_SR_level_29 (by decide) (fun c_6 => ?_) (fun c_6 => ?_)
      · exact False.elim (by first | contradiction | omega | exact hn ⟨by assumption, by assumption⟩)
      · obtain ⟨sa, hsa⟩ := hz.str (own := xR_SR) (idx := 174) (tx := "a difference is -100000 to 100000") (by decide +kernel)
        exact xt_throwS (names := ["java/lang/RuntimeException", "java/lang/Exception"]) hx hb hl9 ⟨⟨d_SR_level_32, d_SR_level_35⟩, d_SR_level_36, d_SR_level_38, d_SR_level_41⟩ hown (by decide +kernel) (by decide +kernel) (hts _ (List.mem_cons_of_mem _ wm_462)) (hts _ (List.mem_cons_of_mem _ wm_39)) hsa (xt_atoms xe_68 hz hH) (hml.trans hl.1.symm) hout hlocks ⟨Nat.le_of_ble_eq_true rfl, Nat.le_of_ble_eq_true rfl, Nat.le_of_ble_eq_true rfl, Nat.le_of_ble_eq_true rfl⟩
  · have b_7 := bI_t h_2 c_3
    exact False.elim (by first | contradiction | omega | exact hn ⟨by assumption, by assumption⟩)
set_option maxHeartbeats 4000000 in
set_option maxRecDepth 100000 in
/-- level throws -/
theorem c_SR_level_x3 (l : Launch) (hl9 : l.stackTraces = false) (dC : Nat → ClassId) (dI : Nat → Nat → Nat) (h0 : Nat) (gm : Nat) (gp : Nat) (go : Nat) (gs : Nat) (gl : Nat) (gd : Nat) (qd : Nat) (ql : Nat) (nl : Nat) (cd : ClassId) (cl : ClassId) (fd : Nat → Int32) (fl : Nat → Int32) (a : Int32) (b : Int32) (hc : nl < 12) (h1 : ¬ a < -100000) (h2 : a ≤ 100000) (hn : ¬ (¬ b < 1 ∧ b ≤ 10000)) : xt_Met l xy_SR_level xw_SR_level ({ frames := 6, cells := 1, slots := 6, locals := 82 }) (xp_t [.ref h0, .int a, .int b] (dC, dI) xCl [(h0, .inr (0, [.ref gm, .ref gp, .ref go, .ref gs, .ref gl, .ref gd])), (gl, .inr (5, [.ref qd, .ref ql, .int (nI nl)])), (qd, .inl (cd, 12, .inl fd)), (ql, .inl (cl, 12, .inl fl))] [(cd, .int), (cl, .int)]) "java/lang/IllegalArgumentException" 1 6 := by
  refine xt_ofW (cc := prog_1_method_13_code) (maxL := 3) (ret := (some .int)) (by decide) rfl ?_
  intro p e s m args below meth c s₁ B hml hv
  obtain ⟨rfl, hz, hH, hP, hK⟩ := hv
  have hx := B.exec
  have hb := B.bytes
  have hr := B.returns
  have hts := atoms_spec (ws := xw_SR_level) B.pre
  have hown : s.vm.findClass xR_SR = some m.cls := findClass_of_methodNamed B.named
  have hlocks := B.notSynchronized
  have hout := xt_empty B (hts _ List.mem_cons_self)
  have hP : va_P (dC, dI) xCl [(h0, .inr (0, [.ref gm, .ref gp, .ref go, .ref gs, .ref gl, .ref gd])), (gl, .inr (5, [.ref qd, .ref ql, .int (nI nl)])), (qd, .inl (cd, 12, .inl fd)), (ql, .inl (cl, 12, .inl fl))] s.heap := hP
  have hl := lv_entry ([.ref h0, .int a, .int b]) (n := 3) (Nat.le_of_ble_eq_true rfl)
  rw [lg_entry_eq]
  generalize (lg_sl ([.ref h0, .int a, .int b]) ++ List.replicate (3 - (lg_sl ([.ref h0, .int a, .int b])).length) Slot.unset).toArray = ls at hl ⊢
  have hl : lv_has ls 3 [(0, .ref h0), (1, .int a), (2, .int b)] := hl
  refine lv_aload_n hx hb d_SR_level_0 rfl (lv_at hl 0 rfl) ?_
  refine va_get (D := (dC, dI)) (ci := 0) (v := .ref gl) (C := xR_SR) (T := xT_SR) (N := 6) hx hb hts (fun w h => List.mem_cons_of_mem _ (iw_SR w h)) hown hK hP 0 rfl rfl 4 (by decide) (hts _ (List.mem_cons_of_mem _ wm_250)) (fun _ h9 => h9) rfl d_SR_level_1 ?_
  refine xr_calli (va_runV (As := []) (rest := []) ⟨hx, hb, hml, hown, hts⟩ (c_LE_isFull l dC dI gl qd ql nl (by first | assumption | omega | decide)) (cwV 0 hts (xgV wm_619 wm_620 wm_621 wm_32 wm_622) rfl rfl rfl (by decide +kernel) ⟨Nat.le_of_ble_eq_true rfl, Nat.le_of_ble_eq_true rfl⟩) ⟨xp_blind, va_recv hK hP (ci := 5) (q0 := 1) rfl rfl, fun U hU hW => ⟨rfl, hz.warm hW, by rw [hU]; exact hP.sub [1] rfl, va_K.moved hW.alike (hK.sub [] rfl)⟩⟩ rfl rfl hl.1 rfl (lv_room (Nat.le_of_ble_eq_true rfl)) d_SR_level_4 ⟨Nat.le_of_ble_eq_true rfl, Nat.le_of_ble_eq_true rfl⟩) (fun r_1 h_2 => ?_)
  refine lv_if_eq (tgt := 20) hx hb d_SR_level_7 (by decide) (fun c_3 => ?_) (fun c_3 => ?_)
  · have b_4 := bI_f h_2 c_3
    refine lv_iload_n hx hb d_SR_level_20 rfl (lv_at hl 1 rfl) ?_
    refine lv_ldc (v := (-100000)) hx hb hown (hts _ (List.mem_cons_of_mem _ wm_624)) d_SR_level_21 ?_
    refine lv_icmp_lt (tgt := 32) hx hb d_SR_level_23 (by decide) (fun c_5 => ?_) (fun c_5 => ?_)
    · exact False.elim (by first | contradiction | omega | exact hn ⟨by assumption, by assumption⟩)
    · refine lv_iload_n hx hb d_SR_level_26 rfl (lv_at hl 1 rfl) ?_
      refine lv_ldc (v := 100000) hx hb hown (hts _ (List.mem_cons_of_mem _ wm_569)) d_SR_level_27 ?_
      refine lv_icmp_le (tgt := 42) hx hb d_SR_level_29 (by decide) (fun c_6 => ?_) (fun c_6 => ?_)
      · refine lv_iload_n hx hb d_SR_level_42 rfl (lv_at hl 2 rfl) ?_
        refine lv_iconst (v := 1) hx hb d_SR_level_43 (by decide) ?_
        refine lv_icmp_lt (tgt := 54) hx hb d_SR_level_44 (by decide) (fun c_7 => ?_) (fun c_7 => ?_)
        · obtain ⟨sa, hsa⟩ := hz.str (own := xR_SR) (idx := 176) (tx := "a length is 1 to 10000") (by decide +kernel)
          exact xt_throwS (names := ["java/lang/RuntimeException", "java/lang/Exception"]) hx hb hl9 ⟨⟨d_SR_level_54, d_SR_level_57⟩, d_SR_level_58, d_SR_level_60, d_SR_level_63⟩ hown (by decide +kernel) (by decide +kernel) (hts _ (List.mem_cons_of_mem _ wm_462)) (hts _ (List.mem_cons_of_mem _ wm_39)) hsa (xt_atoms xe_68 hz hH) (hml.trans hl.1.symm) hout hlocks ⟨Nat.le_of_ble_eq_true rfl, Nat.le_of_ble_eq_true rfl, Nat.le_of_ble_eq_true rfl, Nat.le_of_ble_eq_true rfl⟩
        · refine lv_iload_n hx hb d_SR_level_47 rfl (lv_at hl 2 rfl) ?_
          refine lv_sipush (v := 10000) hx hb d_SR_level_48 (by decide) ?_
          refine lv_icmp_le (tgt := 64) hx hb d_SR_level_51 (by decide) (fun c_8 => ?_) (fun c_8 => ?_)
          · exact False.elim (by first | contradiction | omega | exact hn ⟨by assumption, by assumption⟩)
          · obtain ⟨sa, hsa⟩ := hz.str (own := xR_SR) (idx := 176) (tx := "a length is 1 to 10000") (by decide +kernel)
            exact xt_throwS (names := ["java/lang/RuntimeException", "java/lang/Exception"]) hx hb hl9 ⟨⟨d_SR_level_54, d_SR_level_57⟩, d_SR_level_58, d_SR_level_60, d_SR_level_63⟩ hown (by decide +kernel) (by decide +kernel) (hts _ (List.mem_cons_of_mem _ wm_462)) (hts _ (List.mem_cons_of_mem _ wm_39)) hsa (xt_atoms xe_68 hz hH) (hml.trans hl.1.symm) hout hlocks ⟨Nat.le_of_ble_eq_true rfl, Nat.le_of_ble_eq_true rfl, Nat.le_of_ble_eq_true rfl, Nat.le_of_ble_eq_true rfl⟩
      · exact False.elim (by first | contradiction | omega | exact hn ⟨by assumption, by assumption⟩)
  · have b_9 := bI_t h_2 c_3
    exact False.elim (by first | contradiction | omega | exact hn ⟨by assumption, by assumption⟩)
set_option maxHeartbeats 4000000 in
set_option maxRecDepth 100000 in
/-- closed throws -/
theorem c_SR_closed_x1 (l : Launch) (hl9 : l.stackTraces = false) (dC : Nat → ClassId) (dI : Nat → Nat → Nat) (h0 : Nat) (gm : Nat) (gp : Nat) (go : Nat) (gs : Nat) (gl : Nat) (gd : Nat) (qd : Nat) (ql : Nat) (nl : Nat) (cd : ClassId) (cl : ClassId) (fd : Nat → Int32) (fl : Nat → Int32) (a : Int32) (hc : nl ≤ 12) (hm1 : ¬ a = -1) (hv : ¬ xin a nl) : xt_Met l xy_SR_closed xw_SR_closed ({ frames := 6, cells := 1, slots := 6, locals := 82 }) (xp_t [.ref h0, .int a] (dC, dI) xCl [(h0, .inr (0, [.ref gm, .ref gp, .ref go, .ref gs, .ref gl, .ref gd])), (gl, .inr (5, [.ref qd, .ref ql, .int (nI nl)])), (qd, .inl (cd, 12, .inl fd)), (ql, .inl (cl, 12, .inl fl))] [(cd, .int), (cl, .int)]) "java/lang/IndexOutOfBoundsException" 1 6 := by
  refine xt_ofW (cc := prog_1_method_14_code) (maxL := 2) (ret := (some .int)) (by decide) rfl ?_
  intro p e s m args below meth c s₁ B hml hv
  obtain ⟨rfl, hz, hH, hP, hK⟩ := hv
  have hx := B.exec
  have hb := B.bytes
  have hr := B.returns
  have hts := atoms_spec (ws := xw_SR_closed) B.pre
  have hown : s.vm.findClass xR_SR = some m.cls := findClass_of_methodNamed B.named
  have hlocks := B.notSynchronized
  have hout := xt_empty B (hts _ List.mem_cons_self)
  have hP : va_P (dC, dI) xCl [(h0, .inr (0, [.ref gm, .ref gp, .ref go, .ref gs, .ref gl, .ref gd])), (gl, .inr (5, [.ref qd, .ref ql, .int (nI nl)])), (qd, .inl (cd, 12, .inl fd)), (ql, .inl (cl, 12, .inl fl))] s.heap := hP
  have hl := lv_entry ([.ref h0, .int a]) (n := 2) (Nat.le_of_ble_eq_true rfl)
  rw [lg_entry_eq]
  generalize (lg_sl ([.ref h0, .int a]) ++ List.replicate (2 - (lg_sl ([.ref h0, .int a])).length) Slot.unset).toArray = ls at hl ⊢
  have hl : lv_has ls 2 [(0, .ref h0), (1, .int a)] := hl
  refine lv_iload_n hx hb d_SR_closed_0 rfl (lv_at hl 1 rfl) ?_
  refine lv_iconst (v := (-1)) hx hb d_SR_closed_1 (by decide) ?_
  refine lv_icmp_ne (tgt := 13) hx hb d_SR_closed_2 (by decide) (fun c_1 => ?_) (fun c_1 => ?_)
  · refine lv_aload_n hx hb d_SR_closed_13 rfl (lv_at hl 0 rfl) ?_
    refine va_get (D := (dC, dI)) (ci := 0) (v := .ref gl) (C := xR_SR) (T := xT_SR) (N := 6) hx hb hts (fun w h => List.mem_cons_of_mem _ (iw_SR w h)) hown hK hP 0 rfl rfl 4 (by decide) (hts _ (List.mem_cons_of_mem _ wm_250)) (fun _ h9 => h9) rfl d_SR_closed_14 ?_
    refine lv_iload_n hx hb d_SR_closed_17 rfl (lv_at hl 1 rfl) ?_
    refine xr_calli (va_runV (As := [.int a]) (rest := []) ⟨hx, hb, hml, hown, hts⟩ (c_LE_has l dC dI gl qd ql nl a (by first | assumption | omega | decide)) (cwV 1 hts (xgV wm_642 wm_643 wm_644 wm_32 wm_645) rfl rfl rfl (by decide +kernel) ⟨Nat.le_of_ble_eq_true rfl, Nat.le_of_ble_eq_true rfl⟩) ⟨xp_blind, va_recv hK hP (ci := 5) (q0 := 1) rfl rfl, fun U hU hW => ⟨rfl, hz.warm hW, by rw [hU]; exact hP.sub [1] rfl, va_K.moved hW.alike (hK.sub [] rfl)⟩⟩ rfl rfl hl.1 rfl (lv_room (Nat.le_of_ble_eq_true rfl)) d_SR_closed_18 ⟨Nat.le_of_ble_eq_true rfl, Nat.le_of_ble_eq_true rfl⟩) (fun r_2 h_3 => ?_)
    refine lv_if_ne (tgt := 34) hx hb d_SR_closed_21 (by decide) (fun c_4 => ?_) (fun c_4 => ?_)
    · have b_5 := bI_t h_3 c_4
      exact False.elim (by first | contradiction | omega)
    · have b_6 := bI_f h_3 c_4
      obtain ⟨sa, hsa⟩ := hz.str (own := xR_SR) (idx := 185) (tx := "no such row of levels") (by decide +kernel)
      exact xt_throwS (names := ["java/lang/RuntimeException", "java/lang/Exception"]) hx hb hl9 ⟨⟨d_SR_closed_24, d_SR_closed_27⟩, d_SR_closed_28, d_SR_closed_30, d_SR_closed_33⟩ hown (by decide +kernel) (by decide +kernel) (hts _ (List.mem_cons_of_mem _ wm_490)) (hts _ (List.mem_cons_of_mem _ wm_40)) hsa (xt_atoms xe_81 hz hH) (hml.trans hl.1.symm) hout hlocks ⟨Nat.le_of_ble_eq_true rfl, Nat.le_of_ble_eq_true rfl, Nat.le_of_ble_eq_true rfl, Nat.le_of_ble_eq_true rfl⟩
  · exact False.elim (by first | contradiction | omega)
set_option maxHeartbeats 4000000 in
set_option maxRecDepth 100000 in
/-- unit throws -/
theorem c_SR_unit_x1 (l : Launch) (hl9 : l.stackTraces = false) (dC : Nat → ClassId) (dI : Nat → Nat → Nat) (h0 : Nat) (gm : Nat) (gp : Nat) (go : Nat) (gs : Nat) (gl : Nat) (gd : Nat) (qg : Nat) (qn : Nat) (pn : Nat) (pt : Nat) (a : Int32) (b : Int32) (hc : pn ≤ 200) (ha4 : sr_si a 4 ≤ 4) (hb4 : sr_si b 4 ≤ 4) (hg : 200 < pn + sr_si a 4 + sr_si b 4) : xt_Met l xy_SR_unit xw_SR_unit ({ frames := 6, cells := 1, slots := 6, locals := 82 }) (xp_t [.ref h0, .int a, .int b] (dC, dI) xCl [(h0, .inr (0, [.ref gm, .ref gp, .ref go, .ref gs, .ref gl, .ref gd])), (gd, .inr (6, [.ref qg, .ref qn, .int (nI pn), .int (nI pt)]))] []) "java/lang/IllegalStateException" 1 6 := by
  refine xt_ofW (cc := prog_1_method_16_code) (maxL := 3) (ret := (some .int)) (by decide) rfl ?_
  intro p e s m args below meth c s₁ B hml hv
  obtain ⟨rfl, hz, hH, hP, hK⟩ := hv
  have hx := B.exec
  have hb := B.bytes
  have hr := B.returns
  have hts := atoms_spec (ws := xw_SR_unit) B.pre
  have hown : s.vm.findClass xR_SR = some m.cls := findClass_of_methodNamed B.named
  have hlocks := B.notSynchronized
  have hout := xt_empty B (hts _ List.mem_cons_self)
  have hP : va_P (dC, dI) xCl [(h0, .inr (0, [.ref gm, .ref gp, .ref go, .ref gs, .ref gl, .ref gd])), (gd, .inr (6, [.ref qg, .ref qn, .int (nI pn), .int (nI pt)]))] s.heap := hP
  have hl := lv_entry ([.ref h0, .int a, .int b]) (n := 3) (Nat.le_of_ble_eq_true rfl)
  rw [lg_entry_eq]
  generalize (lg_sl ([.ref h0, .int a, .int b]) ++ List.replicate (3 - (lg_sl ([.ref h0, .int a, .int b])).length) Slot.unset).toArray = ls at hl ⊢
  have hl : lv_has ls 3 [(0, .ref h0), (1, .int a), (2, .int b)] := hl
  refine lv_aload_n hx hb d_SR_unit_0 rfl (lv_at hl 0 rfl) ?_
  refine va_get (D := (dC, dI)) (ci := 0) (v := .ref gd) (C := xR_SR) (T := xT_SR) (N := 6) hx hb hts (fun w h => List.mem_cons_of_mem _ (iw_SR w h)) hown hK hP 0 rfl rfl 5 (by decide) (hts _ (List.mem_cons_of_mem _ wm_251)) (fun _ h9 => h9) rfl d_SR_unit_1 ?_
  refine va_get (D := (dC, dI)) (ci := 6) (v := .int (nI pn)) (C := xR_PA) (T := xT_PA) (N := 4) hx hb hts (fun w h => List.mem_cons_of_mem _ (iw_PA w h)) hown hK hP 1 rfl rfl 2 (by decide) (hts _ (List.mem_cons_of_mem _ wm_234)) (fun _ h9 => h9) rfl d_SR_unit_4 ?_
  refine lv_iload_n hx hb d_SR_unit_7 rfl (lv_at hl 1 rfl) ?_
  refine xr_calli (va_runS (As := [.int a]) (rest := [.int (nI pn)]) ⟨hx, hb, hml, hown, hts⟩ (c_PA_signsIn l dC dI a) (va_cwS 1 hts (xgS wm_668 wm_669 wm_33 wm_670) rfl rfl rfl (by decide +kernel) ⟨Nat.le_of_ble_eq_true rfl, Nat.le_of_ble_eq_true rfl⟩) ⟨xp_blind, fun U hU hW => ⟨rfl, hz.warm hW, by rw [hU]; exact hP.sub [] rfl, va_K.moved hW.alike (hK.sub [] rfl)⟩⟩ rfl rfl hl.1 rfl (lv_room (Nat.le_of_ble_eq_true rfl)) d_SR_unit_8 ⟨Nat.le_of_ble_eq_true rfl, Nat.le_of_ble_eq_true rfl⟩) (fun r_1 h_2 => ?_)
  subst h_2
  refine lv_iadd hx hb d_SR_unit_11 ?_
  refine xv_i (y := nI (pn + (sr_si a 4))) (nI_add _ _) ?_
  refine lv_iload_n hx hb d_SR_unit_12 rfl (lv_at hl 2 rfl) ?_
  refine xr_calli (va_runS (As := [.int b]) (rest := [.int (nI (pn + (sr_si a 4)))]) ⟨hx, hb, hml, hown, hts⟩ (c_PA_signsIn l dC dI b) (va_cwS 1 hts (xgS wm_668 wm_669 wm_33 wm_670) rfl rfl rfl (by decide +kernel) ⟨Nat.le_of_ble_eq_true rfl, Nat.le_of_ble_eq_true rfl⟩) ⟨xp_blind, fun U hU hW => ⟨rfl, hz.warm hW, by rw [hU]; exact hP.sub [] rfl, va_K.moved hW.alike (hK.sub [] rfl)⟩⟩ rfl rfl hl.1 rfl (lv_room (Nat.le_of_ble_eq_true rfl)) d_SR_unit_13 ⟨Nat.le_of_ble_eq_true rfl, Nat.le_of_ble_eq_true rfl⟩) (fun r_3 h_4 => ?_)
  subst h_4
  refine lv_iadd hx hb d_SR_unit_16 ?_
  refine xv_i (y := nI ((pn + (sr_si a 4)) + (sr_si b 4))) (nI_add _ _) ?_
  refine lv_sipush (v := 200) hx hb d_SR_unit_17 (by decide) ?_
  refine lv_icmp_le (tgt := 33) hx hb d_SR_unit_20 (by decide) (fun c_5 => ?_) (fun c_5 => ?_)
  · have n_6 := xn_le (a := ((pn + (sr_si a 4)) + (sr_si b 4))) (b := 200) c_5 rfl (by decide) (by omega) (by omega)
    exact False.elim (by first | contradiction | omega)
  · have n_7 := xn_nle (a := ((pn + (sr_si a 4)) + (sr_si b 4))) (b := 200) c_5 rfl (by decide) (by omega) (by omega)
    obtain ⟨sa, hsa⟩ := hz.str (own := xR_SR) (idx := 199) (tx := "there would be more than 200 signs") (by decide +kernel)
    exact xt_throwS (names := ["java/lang/RuntimeException", "java/lang/Exception"]) hx hb hl9 ⟨⟨d_SR_unit_23, d_SR_unit_26⟩, d_SR_unit_27, d_SR_unit_29, d_SR_unit_32⟩ hown (by decide +kernel) (by decide +kernel) (hts _ (List.mem_cons_of_mem _ wm_394)) (hts _ (List.mem_cons_of_mem _ wm_38)) hsa (xt_atoms xe_57 hz hH) (hml.trans hl.1.symm) hout hlocks ⟨Nat.le_of_ble_eq_true rfl, Nat.le_of_ble_eq_true rfl, Nat.le_of_ble_eq_true rfl, Nat.le_of_ble_eq_true rfl⟩
set_option maxHeartbeats 4000000 in
set_option maxRecDepth 100000 in
/-- unit throws -/
theorem c_SR_unit_x2 (l : Launch) (hl9 : l.stackTraces = false) (dC : Nat → ClassId) (dI : Nat → Nat → Nat) (h0 : Nat) (gm : Nat) (gp : Nat) (go : Nat) (gs : Nat) (gl : Nat) (gd : Nat) (qg : Nat) (qn : Nat) (pn : Nat) (pt : Nat) (a : Int32) (b : Int32) (hc : pn ≤ 200) (hle : pn + sr_si a 4 + sr_si b 4 ≤ 200) (hn : ¬ (sr_gd a 4 = true ∧ sr_gd b 4 = true)) : xt_Met l xy_SR_unit xw_SR_unit ({ frames := 6, cells := 1, slots := 6, locals := 82 }) (xp_t [.ref h0, .int a, .int b] (dC, dI) xCl [(h0, .inr (0, [.ref gm, .ref gp, .ref go, .ref gs, .ref gl, .ref gd])), (gd, .inr (6, [.ref qg, .ref qn, .int (nI pn), .int (nI pt)]))] []) "java/lang/IllegalArgumentException" 1 6 := by
  refine xt_ofW (cc := prog_1_method_16_code) (maxL := 3) (ret := (some .int)) (by decide) rfl ?_
  intro p e s m args below meth c s₁ B hml hv
  obtain ⟨rfl, hz, hH, hP, hK⟩ := hv
  have hx := B.exec
  have hb := B.bytes
  have hr := B.returns
  have hts := atoms_spec (ws := xw_SR_unit) B.pre
  have hown : s.vm.findClass xR_SR = some m.cls := findClass_of_methodNamed B.named
  have hlocks := B.notSynchronized
  have hout := xt_empty B (hts _ List.mem_cons_self)
  have hP : va_P (dC, dI) xCl [(h0, .inr (0, [.ref gm, .ref gp, .ref go, .ref gs, .ref gl, .ref gd])), (gd, .inr (6, [.ref qg, .ref qn, .int (nI pn), .int (nI pt)]))] s.heap := hP
  have hl := lv_entry ([.ref h0, .int a, .int b]) (n := 3) (Nat.le_of_ble_eq_true rfl)
  rw [lg_entry_eq]
  generalize (lg_sl ([.ref h0, .int a, .int b]) ++ List.replicate (3 - (lg_sl ([.ref h0, .int a, .int b])).length) Slot.unset).toArray = ls at hl ⊢
  have hl : lv_has ls 3 [(0, .ref h0), (1, .int a), (2, .int b)] := hl
  refine lv_aload_n hx hb d_SR_unit_0 rfl (lv_at hl 0 rfl) ?_
  refine va_get (D := (dC, dI)) (ci := 0) (v := .ref gd) (C := xR_SR) (T := xT_SR) (N := 6) hx hb hts (fun w h => List.mem_cons_of_mem _ (iw_SR w h)) hown hK hP 0 rfl rfl 5 (by decide) (hts _ (List.mem_cons_of_mem _ wm_251)) (fun _ h9 => h9) rfl d_SR_unit_1 ?_
  refine va_get (D := (dC, dI)) (ci := 6) (v := .int (nI pn)) (C := xR_PA) (T := xT_PA) (N := 4) hx hb hts (fun w h => List.mem_cons_of_mem _ (iw_PA w h)) hown hK hP 1 rfl rfl 2 (by decide) (hts _ (List.mem_cons_of_mem _ wm_234)) (fun _ h9 => h9) rfl d_SR_unit_4 ?_
  refine lv_iload_n hx hb d_SR_unit_7 rfl (lv_at hl 1 rfl) ?_
  refine xr_calli (va_runS (As := [.int a]) (rest := [.int (nI pn)]) ⟨hx, hb, hml, hown, hts⟩ (c_PA_signsIn l dC dI a) (va_cwS 1 hts (xgS wm_668 wm_669 wm_33 wm_670) rfl rfl rfl (by decide +kernel) ⟨Nat.le_of_ble_eq_true rfl, Nat.le_of_ble_eq_true rfl⟩) ⟨xp_blind, fun U hU hW => ⟨rfl, hz.warm hW, by rw [hU]; exact hP.sub [] rfl, va_K.moved hW.alike (hK.sub [] rfl)⟩⟩ rfl rfl hl.1 rfl (lv_room (Nat.le_of_ble_eq_true rfl)) d_SR_unit_8 ⟨Nat.le_of_ble_eq_true rfl, Nat.le_of_ble_eq_true rfl⟩) (fun r_1 h_2 => ?_)
  subst h_2
  refine lv_iadd hx hb d_SR_unit_11 ?_
  refine xv_i (y := nI (pn + (sr_si a 4))) (nI_add _ _) ?_
  refine lv_iload_n hx hb d_SR_unit_12 rfl (lv_at hl 2 rfl) ?_
  refine xr_calli (va_runS (As := [.int b]) (rest := [.int (nI (pn + (sr_si a 4)))]) ⟨hx, hb, hml, hown, hts⟩ (c_PA_signsIn l dC dI b) (va_cwS 1 hts (xgS wm_668 wm_669 wm_33 wm_670) rfl rfl rfl (by decide +kernel) ⟨Nat.le_of_ble_eq_true rfl, Nat.le_of_ble_eq_true rfl⟩) ⟨xp_blind, fun U hU hW => ⟨rfl, hz.warm hW, by rw [hU]; exact hP.sub [] rfl, va_K.moved hW.alike (hK.sub [] rfl)⟩⟩ rfl rfl hl.1 rfl (lv_room (Nat.le_of_ble_eq_true rfl)) d_SR_unit_13 ⟨Nat.le_of_ble_eq_true rfl, Nat.le_of_ble_eq_true rfl⟩) (fun r_3 h_4 => ?_)
  subst h_4
  refine lv_iadd hx hb d_SR_unit_16 ?_
  refine xv_i (y := nI ((pn + (sr_si a 4)) + (sr_si b 4))) (nI_add _ _) ?_
  refine lv_sipush (v := 200) hx hb d_SR_unit_17 (by decide) ?_
  refine lv_icmp_le (tgt := 33) hx hb d_SR_unit_20 (by decide) (fun c_5 => ?_) (fun c_5 => ?_)
  · have n_6 := xn_le (a := ((pn + (sr_si a 4)) + (sr_si b 4))) (b := 200) c_5 rfl (by decide) (by omega) (by omega)
    refine lv_iload_n hx hb d_SR_unit_33 rfl (lv_at hl 1 rfl) ?_
    refine xr_calli (va_runS (As := [.int a]) (rest := []) ⟨hx, hb, hml, hown, hts⟩ (c_PA_isGood l dC dI a) (va_cwS 1 hts (xgS wm_675 wm_676 wm_33 wm_677) rfl rfl rfl (by decide +kernel) ⟨Nat.le_of_ble_eq_true rfl, Nat.le_of_ble_eq_true rfl⟩) ⟨xp_blind, fun U hU hW => ⟨rfl, hz.warm hW, by rw [hU]; exact hP.sub [] rfl, va_K.moved hW.alike (hK.sub [] rfl)⟩⟩ rfl rfl hl.1 rfl (lv_room (Nat.le_of_ble_eq_true rfl)) d_SR_unit_34 ⟨Nat.le_of_ble_eq_true rfl, Nat.le_of_ble_eq_true rfl⟩) (fun r_7 h_8 => ?_)
    refine lv_if_eq (tgt := 47) hx hb d_SR_unit_37 (by decide) (fun c_9 => ?_) (fun c_9 => ?_)
    · have b_10 := bI_f h_8 c_9
      obtain ⟨sa, hsa⟩ := hz.str (own := xR_SR) (idx := 204) (tx := "a sign is none of the pad's") (by decide +kernel)
      exact xt_throwS (names := ["java/lang/RuntimeException", "java/lang/Exception"]) hx hb hl9 ⟨⟨d_SR_unit_47, d_SR_unit_50⟩, d_SR_unit_51, d_SR_unit_53, d_SR_unit_56⟩ hown (by decide +kernel) (by decide +kernel) (hts _ (List.mem_cons_of_mem _ wm_462)) (hts _ (List.mem_cons_of_mem _ wm_39)) hsa (xt_atoms xe_68 hz hH) (hml.trans hl.1.symm) hout hlocks ⟨Nat.le_of_ble_eq_true rfl, Nat.le_of_ble_eq_true rfl, Nat.le_of_ble_eq_true rfl, Nat.le_of_ble_eq_true rfl⟩
    · have b_11 := bI_t h_8 c_9
      refine lv_iload_n hx hb d_SR_unit_40 rfl (lv_at hl 2 rfl) ?_
      refine xr_calli (va_runS (As := [.int b]) (rest := []) ⟨hx, hb, hml, hown, hts⟩ (c_PA_isGood l dC dI b) (va_cwS 1 hts (xgS wm_675 wm_676 wm_33 wm_677) rfl rfl rfl (by decide +kernel) ⟨Nat.le_of_ble_eq_true rfl, Nat.le_of_ble_eq_true rfl⟩) ⟨xp_blind, fun U hU hW => ⟨rfl, hz.warm hW, by rw [hU]; exact hP.sub [] rfl, va_K.moved hW.alike (hK.sub [] rfl)⟩⟩ rfl rfl hl.1 rfl (lv_room (Nat.le_of_ble_eq_true rfl)) d_SR_unit_41 ⟨Nat.le_of_ble_eq_true rfl, Nat.le_of_ble_eq_true rfl⟩) (fun r_12 h_13 => ?_)
      refine lv_if_ne (tgt := 57) hx hb d_SR_unit_44 (by decide) (fun c_14 => ?_) (fun c_14 => ?_)
      · have b_15 := bI_t h_13 c_14
        exact False.elim (by first | contradiction | omega | exact hn ⟨by assumption, by assumption⟩)
      · have b_16 := bI_f h_13 c_14
        obtain ⟨sa, hsa⟩ := hz.str (own := xR_SR) (idx := 204) (tx := "a sign is none of the pad's") (by decide +kernel)
        exact xt_throwS (names := ["java/lang/RuntimeException", "java/lang/Exception"]) hx hb hl9 ⟨⟨d_SR_unit_47, d_SR_unit_50⟩, d_SR_unit_51, d_SR_unit_53, d_SR_unit_56⟩ hown (by decide +kernel) (by decide +kernel) (hts _ (List.mem_cons_of_mem _ wm_462)) (hts _ (List.mem_cons_of_mem _ wm_39)) hsa (xt_atoms xe_68 hz hH) (hml.trans hl.1.symm) hout hlocks ⟨Nat.le_of_ble_eq_true rfl, Nat.le_of_ble_eq_true rfl, Nat.le_of_ble_eq_true rfl, Nat.le_of_ble_eq_true rfl⟩
  · have n_17 := xn_nle (a := ((pn + (sr_si a 4)) + (sr_si b 4))) (b := 200) c_5 rfl (by decide) (by omega) (by omega)
    exact False.elim (by first | contradiction | omega | exact hn ⟨by assumption, by assumption⟩)
set_option maxHeartbeats 4000000 in
set_option maxRecDepth 100000 in
/-- count throws -/
theorem c_SR_count_x1 (l : Launch) (hl9 : l.stackTraces = false) (dC : Nat → ClassId) (dI : Nat → Nat → Nat) (h0 : Nat) (gm : Nat) (gp : Nat) (go : Nat) (gs : Nat) (gl : Nat) (gd : Nat) (a : Int32) (hv : ¬ xin a 6) : xt_Met l xy_SR_count xw_SR_count ({ frames := 6, cells := 1, slots := 6, locals := 82 }) (xp_t [.ref h0, .int a] (dC, dI) xCl [(h0, .inr (0, [.ref gm, .ref gp, .ref go, .ref gs, .ref gl, .ref gd]))] []) "java/lang/IndexOutOfBoundsException" 1 6 := by
  refine xt_ofW (cc := prog_1_method_18_code) (maxL := 2) (ret := (some .int)) (by decide) rfl ?_
  intro p e s m args below meth c s₁ B hml hv
  obtain ⟨rfl, hz, hH, hP, hK⟩ := hv
  have hx := B.exec
  have hb := B.bytes
  have hr := B.returns
  have hts := atoms_spec (ws := xw_SR_count) B.pre
  have hown : s.vm.findClass xR_SR = some m.cls := findClass_of_methodNamed B.named
  have hlocks := B.notSynchronized
  have hout := xt_empty B (hts _ List.mem_cons_self)
  have hP : va_P (dC, dI) xCl [(h0, .inr (0, [.ref gm, .ref gp, .ref go, .ref gs, .ref gl, .ref gd]))] s.heap := hP
  have hl := lv_entry ([.ref h0, .int a]) (n := 2) (Nat.le_of_ble_eq_true rfl)
  rw [lg_entry_eq]
  generalize (lg_sl ([.ref h0, .int a]) ++ List.replicate (2 - (lg_sl ([.ref h0, .int a])).length) Slot.unset).toArray = ls at hl ⊢
  have hl : lv_has ls 2 [(0, .ref h0), (1, .int a)] := hl
  refine lv_iload_n hx hb d_SR_count_0 rfl (lv_at hl 1 rfl) ?_
  refine lv_tableOut (tgt := 88) hx hb d_SR_count_1 (xt_out6 hv) (by decide) ?_
  obtain ⟨sa, hsa⟩ := hz.str (own := xR_SR) (idx := 214) (tx := "nothing of that number is counted") (by decide +kernel)
  exact xt_throwS (names := ["java/lang/RuntimeException", "java/lang/Exception"]) hx hb hl9 ⟨⟨d_SR_count_88, d_SR_count_91⟩, d_SR_count_92, d_SR_count_94, d_SR_count_97⟩ hown (by decide +kernel) (by decide +kernel) (hts _ (List.mem_cons_of_mem _ wm_490)) (hts _ (List.mem_cons_of_mem _ wm_40)) hsa (xt_atoms xe_81 hz hH) (hml.trans hl.1.symm) hout hlocks ⟨Nat.le_of_ble_eq_true rfl, Nat.le_of_ble_eq_true rfl, Nat.le_of_ble_eq_true rfl, Nat.le_of_ble_eq_true rfl⟩
