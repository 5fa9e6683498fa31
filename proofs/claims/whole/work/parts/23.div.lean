theorem d_JM_floorDiv_0 : decode prog_14_method_49_code 0 = .ok (.lload_n 0, 1) := by decide +kernel
theorem d_JM_floorDiv_1 : decode prog_14_method_49_code 1 = .ok (.lload_n 2, 1) := by decide +kernel
theorem d_JM_floorDiv_2 : decode prog_14_method_49_code 2 = .ok (.ldiv, 1) := by decide +kernel
theorem d_JM_floorDiv_3 : decode prog_14_method_49_code 3 = .ok (.lstore 4, 2) := by decide +kernel
theorem d_JM_floorDiv_5 : decode prog_14_method_49_code 5 = .ok (.lload_n 0, 1) := by decide +kernel
theorem d_JM_floorDiv_6 : decode prog_14_method_49_code 6 = .ok (.lload_n 2, 1) := by decide +kernel
theorem d_JM_floorDiv_7 : decode prog_14_method_49_code 7 = .ok (.lxor, 1) := by decide +kernel
theorem d_JM_floorDiv_8 : decode prog_14_method_49_code 8 = .ok (.lconst 0, 1) := by decide +kernel
theorem d_JM_floorDiv_9 : decode prog_14_method_49_code 9 = .ok (.lcmp, 1) := by decide +kernel
theorem d_JM_floorDiv_10 : decode prog_14_method_49_code 10 = .ok (.ifCond .ge 17, 3) := by decide +kernel
theorem d_JM_floorDiv_13 : decode prog_14_method_49_code 13 = .ok (.lload 4, 2) := by decide +kernel
theorem d_JM_floorDiv_15 : decode prog_14_method_49_code 15 = .ok (.lload_n 2, 1) := by decide +kernel
theorem d_JM_floorDiv_16 : decode prog_14_method_49_code 16 = .ok (.lmul, 1) := by decide +kernel
theorem d_JM_floorDiv_17 : decode prog_14_method_49_code 17 = .ok (.lload_n 0, 1) := by decide +kernel
theorem d_JM_floorDiv_18 : decode prog_14_method_49_code 18 = .ok (.lcmp, 1) := by decide +kernel
theorem d_JM_floorDiv_19 : decode prog_14_method_49_code 19 = .ok (.ifCond .eq 8, 3) := by decide +kernel
theorem d_JM_floorDiv_22 : decode prog_14_method_49_code 22 = .ok (.lload 4, 2) := by decide +kernel
theorem d_JM_floorDiv_24 : decode prog_14_method_49_code 24 = .ok (.lconst 1, 1) := by decide +kernel
theorem d_JM_floorDiv_25 : decode prog_14_method_49_code 25 = .ok (.lsub, 1) := by decide +kernel
theorem d_JM_floorDiv_26 : decode prog_14_method_49_code 26 = .ok (.lreturn, 1) := by decide +kernel
theorem d_JM_floorDiv_27 : decode prog_14_method_49_code 27 = .ok (.lload 4, 2) := by decide +kernel
theorem d_JM_floorDiv_29 : decode prog_14_method_49_code 29 = .ok (.lreturn, 1) := by decide +kernel
theorem d_SR_dividedDown_0 : decode prog_1_method_25_code 0 = .ok (.lload_n 2, 1) := by decide +kernel
theorem d_SR_dividedDown_1 : decode prog_1_method_25_code 1 = .ok (.lconst 0, 1) := by decide +kernel
theorem d_SR_dividedDown_2 : decode prog_1_method_25_code 2 = .ok (.lcmp, 1) := by decide +kernel
theorem d_SR_dividedDown_3 : decode prog_1_method_25_code 3 = .ok (.ifCond .gt 7, 3) := by decide +kernel
theorem d_SR_dividedDown_6 : decode prog_1_method_25_code 6 = .ok (.lconst 0, 1) := by decide +kernel
theorem d_SR_dividedDown_7 : decode prog_1_method_25_code 7 = .ok (.goto 8, 3) := by decide +kernel
theorem d_SR_dividedDown_10 : decode prog_1_method_25_code 10 = .ok (.lload_n 0, 1) := by decide +kernel
theorem d_SR_dividedDown_11 : decode prog_1_method_25_code 11 = .ok (.lload_n 2, 1) := by decide +kernel
theorem d_SR_dividedDown_12 : decode prog_1_method_25_code 12 = .ok (.invokestatic 239, 3) := by decide +kernel
theorem d_SR_dividedDown_15 : decode prog_1_method_25_code 15 = .ok (.lreturn, 1) := by decide +kernel
set_option maxHeartbeats 4000000 in
set_option maxRecDepth 100000 in
/-- Math.floorDiv -/
theorem c_floorDiv (l : Launch) (dC : Nat → ClassId) (dI : Nat → Nat → Nat) (x : Int64) (y : Int64) (hy : 0 < y) : Met l xy_JM_floorDiv xw_JM_floorDiv ({ frames := 0, cells := 0, slots := 0, locals := 0 }) (xp_r [.long x, .long y] (dC, dI) xCl [] []) (xr_l (fun r => r = sr_fd x y)) 0 0 (fun _ => False) := by
  refine va_MetF (cc := prog_14_method_49_code) (maxL := 6) (ret := (some .long)) (by decide +kernel) rfl ?_
  intro p e s m args below meth c s₁ B hml hv
  obtain ⟨rfl, hz, hP, hK⟩ := hv
  have hx := B.exec
  have hb := B.bytes
  have hr := B.returns
  have hts := atoms_spec (ws := xw_JM_floorDiv) B.pre
  have hown : s.vm.findClass xR_JM = some m.cls := findClass_of_methodNamed B.named
  have hlocks := B.notSynchronized
  have hP : va_P (dC, dI) xCl [] s.heap := hP
  have hl := lv_entry ([.long x, .long y]) (n := 6) (Nat.le_of_ble_eq_true rfl)
  rw [lg_entry_eq]
  generalize (lg_sl ([.long x, .long y]) ++ List.replicate (6 - (lg_sl ([.long x, .long y])).length) Slot.unset).toArray = ls at hl ⊢
  have hl : lv_has ls 6 [(0, .long x), (2, .long y)] := hl
  refine lv_lload_n hx hb d_JM_floorDiv_0 rfl (lv_at hl 0 rfl) ?_
  refine lv_lload_n hx hb d_JM_floorDiv_1 rfl (lv_at hl 1 rfl) ?_
  refine lv_ldiv hx hb d_JM_floorDiv_2 (fun q => by rw [q] at hy; exact Int64.lt_irrefl hy) ?_
  refine lv_lstore (lv' := [(4, .long (x / y)), (0, .long x), (2, .long y)]) hx hb d_JM_floorDiv_3 hl (by decide) rfl (fun ls hl => ?_)
  refine lv_lload_n hx hb d_JM_floorDiv_5 rfl (lv_at hl 1 rfl) ?_
  refine lv_lload_n hx hb d_JM_floorDiv_6 rfl (lv_at hl 2 rfl) ?_
  refine lv_lxor hx hb d_JM_floorDiv_7 ?_
  refine lv_lconst (v := 0) hx hb d_JM_floorDiv_8 (by decide) ?_
  refine W.lcmp hx hb d_JM_floorDiv_9 ?_
  refine lv_if_ge (tgt := 27) hx hb d_JM_floorDiv_10 (by decide) (fun c_1 => ?_) (fun c_1 => ?_)
  · have l_2 := lc_ge.mp c_1
    refine lv_lload hx hb d_JM_floorDiv_27 (lv_at hl 0 rfl) ?_
    exact xr_lret (v := x / y) hx hb hr (by exact (fd_keep hy (Or.inl (Int64.not_lt.mpr l_2)))) d_JM_floorDiv_29 hlocks
  · have l_3 := fun q => c_1 (lc_ge.mpr q)
    refine lv_lload hx hb d_JM_floorDiv_13 (lv_at hl 0 rfl) ?_
    refine lv_lload_n hx hb d_JM_floorDiv_15 rfl (lv_at hl 2 rfl) ?_
    refine lv_lmul hx hb d_JM_floorDiv_16 ?_
    refine lv_lload_n hx hb d_JM_floorDiv_17 rfl (lv_at hl 1 rfl) ?_
    refine W.lcmp hx hb d_JM_floorDiv_18 ?_
    refine lv_if_eq (tgt := 27) hx hb d_JM_floorDiv_19 (by decide) (fun c_4 => ?_) (fun c_4 => ?_)
    · have l_5 := lc_eq.mp c_4
      refine lv_lload hx hb d_JM_floorDiv_27 (lv_at hl 0 rfl) ?_
      exact xr_lret (v := x / y) hx hb hr (by exact (fd_keep hy (Or.inr l_5))) d_JM_floorDiv_29 hlocks
    · have l_6 := fun q => c_4 (lc_eq.mpr q)
      refine lv_lload hx hb d_JM_floorDiv_22 (lv_at hl 0 rfl) ?_
      refine lv_lconst (v := 1) hx hb d_JM_floorDiv_24 (by decide) ?_
      refine lv_lsub hx hb d_JM_floorDiv_25 ?_
      exact xr_lret (v := (x / y) - 1) hx hb hr (by exact (fd_less hy (Int64.not_le.mp l_3) l_6)) d_JM_floorDiv_26 hlocks
set_option maxHeartbeats 4000000 in
set_option maxRecDepth 100000 in
/-- dividedDown -/
theorem c_SR_dividedDown (l : Launch) (dC : Nat → ClassId) (dI : Nat → Nat → Nat) (x : Int64) (y : Int64)  : Met l xy_SR_dividedDown xw_SR_dividedDown ({ frames := 1, cells := 0, slots := 0, locals := 25 }) (xp_r [.long x, .long y] (dC, dI) xCl [] []) (xr_l (fun r => r = sr_dd x y)) 0 0 (fun _ => False) := by
  refine Met.ofW (cc := prog_1_method_25_code) (maxL := 4) (ret := (some .long)) (by decide) rfl ?_
  intro p e s m args below meth c s₁ B hml hv
  obtain ⟨rfl, hz, hP, hK⟩ := hv
  have hx := B.exec
  have hb := B.bytes
  have hr := B.returns
  have hts := atoms_spec (ws := xw_SR_dividedDown) B.pre
  have hown : s.vm.findClass xR_SR = some m.cls := findClass_of_methodNamed B.named
  have hlocks := B.notSynchronized
  have hP : va_P (dC, dI) xCl [] s.heap := hP
  have hl := lv_entry ([.long x, .long y]) (n := 4) (Nat.le_of_ble_eq_true rfl)
  rw [lg_entry_eq]
  generalize (lg_sl ([.long x, .long y]) ++ List.replicate (4 - (lg_sl ([.long x, .long y])).length) Slot.unset).toArray = ls at hl ⊢
  have hl : lv_has ls 4 [(0, .long x), (2, .long y)] := hl
  refine lv_lload_n hx hb d_SR_dividedDown_0 rfl (lv_at hl 1 rfl) ?_
  refine lv_lconst (v := 0) hx hb d_SR_dividedDown_1 (by decide) ?_
  refine W.lcmp hx hb d_SR_dividedDown_2 ?_
  refine lv_if_gt (tgt := 10) hx hb d_SR_dividedDown_3 (by decide) (fun c_1 => ?_) (fun c_1 => ?_)
  · have l_2 := lc_gt.mp c_1
    refine lv_lload_n hx hb d_SR_dividedDown_10 rfl (lv_at hl 0 rfl) ?_
    refine lv_lload_n hx hb d_SR_dividedDown_11 rfl (lv_at hl 1 rfl) ?_
    refine xr_calll (va_runS (As := [.long x, .long y]) (rest := []) ⟨hx, hb, hml, hown, hts⟩ (c_floorDiv l dC dI x y (by first | assumption | omega | decide)) (va_cwS 2 hts (xgS wm_308 wm_309 wm_28 wm_310) rfl rfl rfl (by decide +kernel) ⟨Nat.le_of_ble_eq_true rfl, Nat.le_of_ble_eq_true rfl⟩) ⟨xp_blind, fun U hU hW => ⟨rfl, hz.warm hW, by rw [hU]; exact hP.sub [] rfl, va_K.moved hW.alike (hK.sub [] rfl)⟩⟩ rfl rfl hl.1 rfl (lv_room (Nat.le_of_ble_eq_true rfl)) d_SR_dividedDown_12 ⟨Nat.le_of_ble_eq_true rfl, Nat.le_of_ble_eq_true rfl⟩) (fun r_3 h_4 => ?_)
    subst h_4
    exact xr_lret (v := sr_fd x y) hx hb hr (by exact ((if_neg (Int64.not_le.mpr l_2)).symm)) d_SR_dividedDown_15 hlocks
  · have l_5 := fun q => c_1 (lc_gt.mpr q)
    refine lv_lconst (v := 0) hx hb d_SR_dividedDown_6 (by decide) ?_
    refine lv_goto (tgt := 15) hx hb d_SR_dividedDown_7 (by decide) ?_
    exact xr_lret (v := 0) hx hb hr (by exact ((if_pos (Int64.not_lt.mp l_5)).symm)) d_SR_dividedDown_15 hlocks
