theorem d_LE_has_0 : decode prog_2_method_2_code 0 = .ok (.iload_n 1, 1) := by decide +kernel
theorem d_LE_has_1 : decode prog_2_method_2_code 1 = .ok (.ifCond .lt 15, 3) := by decide +kernel
theorem d_LE_has_4 : decode prog_2_method_2_code 4 = .ok (.iload_n 1, 1) := by decide +kernel
theorem d_LE_has_5 : decode prog_2_method_2_code 5 = .ok (.aload_n 0, 1) := by decide +kernel
theorem d_LE_has_6 : decode prog_2_method_2_code 6 = .ok (.getfield 18, 3) := by decide +kernel
theorem d_LE_has_9 : decode prog_2_method_2_code 9 = .ok (.if_icmp .ge 7, 3) := by decide +kernel
theorem d_LE_has_12 : decode prog_2_method_2_code 12 = .ok (.iconst 1, 1) := by decide +kernel
theorem d_LE_has_13 : decode prog_2_method_2_code 13 = .ok (.goto 4, 3) := by decide +kernel
theorem d_LE_has_16 : decode prog_2_method_2_code 16 = .ok (.iconst 0, 1) := by decide +kernel
theorem d_LE_has_17 : decode prog_2_method_2_code 17 = .ok (.ireturn, 1) := by decide +kernel
theorem d_LE_isFull_0 : decode prog_2_method_3_code 0 = .ok (.aload_n 0, 1) := by decide +kernel
theorem d_LE_isFull_1 : decode prog_2_method_3_code 1 = .ok (.getfield 18, 3) := by decide +kernel
theorem d_LE_isFull_4 : decode prog_2_method_3_code 4 = .ok (.bipush 12, 2) := by decide +kernel
theorem d_LE_isFull_6 : decode prog_2_method_3_code 6 = .ok (.if_icmp .lt 7, 3) := by decide +kernel
theorem d_LE_isFull_9 : decode prog_2_method_3_code 9 = .ok (.iconst 1, 1) := by decide +kernel
theorem d_LE_isFull_10 : decode prog_2_method_3_code 10 = .ok (.goto 4, 3) := by decide +kernel
theorem d_LE_isFull_13 : decode prog_2_method_3_code 13 = .ok (.iconst 0, 1) := by decide +kernel
theorem d_LE_isFull_14 : decode prog_2_method_3_code 14 = .ok (.ireturn, 1) := by decide +kernel
theorem d_LE_add_0 : decode prog_2_method_4_code 0 = .ok (.aload_n 0, 1) := by decide +kernel
theorem d_LE_add_1 : decode prog_2_method_4_code 1 = .ok (.getfield 9, 3) := by decide +kernel
theorem d_LE_add_4 : decode prog_2_method_4_code 4 = .ok (.aload_n 0, 1) := by decide +kernel
theorem d_LE_add_5 : decode prog_2_method_4_code 5 = .ok (.getfield 18, 3) := by decide +kernel
theorem d_LE_add_8 : decode prog_2_method_4_code 8 = .ok (.iload_n 1, 1) := by decide +kernel
theorem d_LE_add_9 : decode prog_2_method_4_code 9 = .ok (.iastore, 1) := by decide +kernel
theorem d_LE_add_10 : decode prog_2_method_4_code 10 = .ok (.aload_n 0, 1) := by decide +kernel
theorem d_LE_add_11 : decode prog_2_method_4_code 11 = .ok (.getfield 15, 3) := by decide +kernel
theorem d_LE_add_14 : decode prog_2_method_4_code 14 = .ok (.aload_n 0, 1) := by decide +kernel
theorem d_LE_add_15 : decode prog_2_method_4_code 15 = .ok (.getfield 18, 3) := by decide +kernel
theorem d_LE_add_18 : decode prog_2_method_4_code 18 = .ok (.iload_n 2, 1) := by decide +kernel
theorem d_LE_add_19 : decode prog_2_method_4_code 19 = .ok (.iastore, 1) := by decide +kernel
theorem d_LE_add_20 : decode prog_2_method_4_code 20 = .ok (.aload_n 0, 1) := by decide +kernel
theorem d_LE_add_21 : decode prog_2_method_4_code 21 = .ok (.dup, 1) := by decide +kernel
theorem d_LE_add_22 : decode prog_2_method_4_code 22 = .ok (.getfield 18, 3) := by decide +kernel
theorem d_LE_add_25 : decode prog_2_method_4_code 25 = .ok (.iconst 1, 1) := by decide +kernel
theorem d_LE_add_26 : decode prog_2_method_4_code 26 = .ok (.iadd, 1) := by decide +kernel
theorem d_LE_add_27 : decode prog_2_method_4_code 27 = .ok (.putfield 18, 3) := by decide +kernel
theorem d_LE_add_30 : decode prog_2_method_4_code 30 = .ok (.aload_n 0, 1) := by decide +kernel
theorem d_LE_add_31 : decode prog_2_method_4_code 31 = .ok (.getfield 18, 3) := by decide +kernel
theorem d_LE_add_34 : decode prog_2_method_4_code 34 = .ok (.iconst 1, 1) := by decide +kernel
theorem d_LE_add_35 : decode prog_2_method_4_code 35 = .ok (.isub, 1) := by decide +kernel
theorem d_LE_add_36 : decode prog_2_method_4_code 36 = .ok (.ireturn, 1) := by decide +kernel
theorem d_LE_sumOfDifferences_0 : decode prog_2_method_5_code 0 = .ok (.iconst 0, 1) := by decide +kernel
theorem d_LE_sumOfDifferences_1 : decode prog_2_method_5_code 1 = .ok (.istore_n 1, 1) := by decide +kernel
theorem d_LE_sumOfDifferences_2 : decode prog_2_method_5_code 2 = .ok (.iconst 0, 1) := by decide +kernel
theorem d_LE_sumOfDifferences_3 : decode prog_2_method_5_code 3 = .ok (.istore_n 2, 1) := by decide +kernel
theorem d_LE_sumOfDifferences_4 : decode prog_2_method_5_code 4 = .ok (.iload_n 2, 1) := by decide +kernel
theorem d_LE_sumOfDifferences_5 : decode prog_2_method_5_code 5 = .ok (.aload_n 0, 1) := by decide +kernel
theorem d_LE_sumOfDifferences_6 : decode prog_2_method_5_code 6 = .ok (.getfield 18, 3) := by decide +kernel
theorem d_LE_sumOfDifferences_9 : decode prog_2_method_5_code 9 = .ok (.if_icmp .ge 18, 3) := by decide +kernel
theorem d_LE_sumOfDifferences_12 : decode prog_2_method_5_code 12 = .ok (.iload_n 1, 1) := by decide +kernel
theorem d_LE_sumOfDifferences_13 : decode prog_2_method_5_code 13 = .ok (.aload_n 0, 1) := by decide +kernel
theorem d_LE_sumOfDifferences_14 : decode prog_2_method_5_code 14 = .ok (.getfield 9, 3) := by decide +kernel
theorem d_LE_sumOfDifferences_17 : decode prog_2_method_5_code 17 = .ok (.iload_n 2, 1) := by decide +kernel
theorem d_LE_sumOfDifferences_18 : decode prog_2_method_5_code 18 = .ok (.iaload, 1) := by decide +kernel
theorem d_LE_sumOfDifferences_19 : decode prog_2_method_5_code 19 = .ok (.iadd, 1) := by decide +kernel
theorem d_LE_sumOfDifferences_20 : decode prog_2_method_5_code 20 = .ok (.istore_n 1, 1) := by decide +kernel
theorem d_LE_sumOfDifferences_21 : decode prog_2_method_5_code 21 = .ok (.iinc 2 1, 3) := by decide +kernel
theorem d_LE_sumOfDifferences_24 : decode prog_2_method_5_code 24 = .ok (.goto (-20), 3) := by decide +kernel
theorem d_LE_sumOfDifferences_27 : decode prog_2_method_5_code 27 = .ok (.iload_n 1, 1) := by decide +kernel
theorem d_LE_sumOfDifferences_28 : decode prog_2_method_5_code 28 = .ok (.ireturn, 1) := by decide +kernel
theorem d_LE_lengthOf_0 : decode prog_2_method_8_code 0 = .ok (.lconst 0, 1) := by decide +kernel
theorem d_LE_lengthOf_1 : decode prog_2_method_8_code 1 = .ok (.lstore_n 2, 1) := by decide +kernel
theorem d_LE_lengthOf_2 : decode prog_2_method_8_code 2 = .ok (.iconst 0, 1) := by decide +kernel
theorem d_LE_lengthOf_3 : decode prog_2_method_8_code 3 = .ok (.istore 4, 2) := by decide +kernel
theorem d_LE_lengthOf_5 : decode prog_2_method_8_code 5 = .ok (.iload 4, 2) := by decide +kernel
theorem d_LE_lengthOf_7 : decode prog_2_method_8_code 7 = .ok (.iload_n 1, 1) := by decide +kernel
theorem d_LE_lengthOf_8 : decode prog_2_method_8_code 8 = .ok (.if_icmp .ge 29, 3) := by decide +kernel
theorem d_LE_lengthOf_11 : decode prog_2_method_8_code 11 = .ok (.iload 4, 2) := by decide +kernel
theorem d_LE_lengthOf_13 : decode prog_2_method_8_code 13 = .ok (.aload_n 0, 1) := by decide +kernel
theorem d_LE_lengthOf_14 : decode prog_2_method_8_code 14 = .ok (.getfield 18, 3) := by decide +kernel
theorem d_LE_lengthOf_17 : decode prog_2_method_8_code 17 = .ok (.if_icmp .ge 20, 3) := by decide +kernel
theorem d_LE_lengthOf_20 : decode prog_2_method_8_code 20 = .ok (.lload_n 2, 1) := by decide +kernel
theorem d_LE_lengthOf_21 : decode prog_2_method_8_code 21 = .ok (.aload_n 0, 1) := by decide +kernel
theorem d_LE_lengthOf_22 : decode prog_2_method_8_code 22 = .ok (.getfield 15, 3) := by decide +kernel
theorem d_LE_lengthOf_25 : decode prog_2_method_8_code 25 = .ok (.iload 4, 2) := by decide +kernel
theorem d_LE_lengthOf_27 : decode prog_2_method_8_code 27 = .ok (.iaload, 1) := by decide +kernel
theorem d_LE_lengthOf_28 : decode prog_2_method_8_code 28 = .ok (.i2l, 1) := by decide +kernel
theorem d_LE_lengthOf_29 : decode prog_2_method_8_code 29 = .ok (.ladd, 1) := by decide +kernel
theorem d_LE_lengthOf_30 : decode prog_2_method_8_code 30 = .ok (.lstore_n 2, 1) := by decide +kernel
theorem d_LE_lengthOf_31 : decode prog_2_method_8_code 31 = .ok (.iinc 4 1, 3) := by decide +kernel
theorem d_LE_lengthOf_34 : decode prog_2_method_8_code 34 = .ok (.goto (-29), 3) := by decide +kernel
theorem d_LE_lengthOf_37 : decode prog_2_method_8_code 37 = .ok (.lload_n 2, 1) := by decide +kernel
theorem d_LE_lengthOf_38 : decode prog_2_method_8_code 38 = .ok (.lreturn, 1) := by decide +kernel
theorem d_LE_sharedOver_0 : decode prog_2_method_7_code 0 = .ok (.aload_n 0, 1) := by decide +kernel
theorem d_LE_sharedOver_1 : decode prog_2_method_7_code 1 = .ok (.invokevirtual 26, 3) := by decide +kernel
theorem d_LE_sharedOver_4 : decode prog_2_method_7_code 4 = .ok (.i2l, 1) := by decide +kernel
theorem d_LE_sharedOver_5 : decode prog_2_method_7_code 5 = .ok (.aload_n 0, 1) := by decide +kernel
theorem d_LE_sharedOver_6 : decode prog_2_method_7_code 6 = .ok (.iload_n 1, 1) := by decide +kernel
theorem d_LE_sharedOver_7 : decode prog_2_method_7_code 7 = .ok (.invokevirtual 30, 3) := by decide +kernel
theorem d_LE_sharedOver_10 : decode prog_2_method_7_code 10 = .ok (.lmul, 1) := by decide +kernel
theorem d_LE_sharedOver_11 : decode prog_2_method_7_code 11 = .ok (.aload_n 0, 1) := by decide +kernel
theorem d_LE_sharedOver_12 : decode prog_2_method_7_code 12 = .ok (.aload_n 0, 1) := by decide +kernel
theorem d_LE_sharedOver_13 : decode prog_2_method_7_code 13 = .ok (.getfield 18, 3) := by decide +kernel
theorem d_LE_sharedOver_16 : decode prog_2_method_7_code 16 = .ok (.invokevirtual 30, 3) := by decide +kernel
theorem d_LE_sharedOver_19 : decode prog_2_method_7_code 19 = .ok (.invokestatic 33, 3) := by decide +kernel
theorem d_LE_sharedOver_22 : decode prog_2_method_7_code 22 = .ok (.lreturn, 1) := by decide +kernel
theorem d_LE_closedDifference_0 : decode prog_2_method_6_code 0 = .ok (.aload_n 0, 1) := by decide +kernel
theorem d_LE_closedDifference_1 : decode prog_2_method_6_code 1 = .ok (.iload_n 1, 1) := by decide +kernel
theorem d_LE_closedDifference_2 : decode prog_2_method_6_code 2 = .ok (.iconst 1, 1) := by decide +kernel
theorem d_LE_closedDifference_3 : decode prog_2_method_6_code 3 = .ok (.iadd, 1) := by decide +kernel
theorem d_LE_closedDifference_4 : decode prog_2_method_6_code 4 = .ok (.invokevirtual 22, 3) := by decide +kernel
theorem d_LE_closedDifference_7 : decode prog_2_method_6_code 7 = .ok (.aload_n 0, 1) := by decide +kernel
theorem d_LE_closedDifference_8 : decode prog_2_method_6_code 8 = .ok (.iload_n 1, 1) := by decide +kernel
theorem d_LE_closedDifference_9 : decode prog_2_method_6_code 9 = .ok (.invokevirtual 22, 3) := by decide +kernel
theorem d_LE_closedDifference_12 : decode prog_2_method_6_code 12 = .ok (.lsub, 1) := by decide +kernel
theorem d_LE_closedDifference_13 : decode prog_2_method_6_code 13 = .ok (.lstore_n 2, 1) := by decide +kernel
theorem d_LE_closedDifference_14 : decode prog_2_method_6_code 14 = .ok (.aload_n 0, 1) := by decide +kernel
theorem d_LE_closedDifference_15 : decode prog_2_method_6_code 15 = .ok (.getfield 9, 3) := by decide +kernel
theorem d_LE_closedDifference_18 : decode prog_2_method_6_code 18 = .ok (.iload_n 1, 1) := by decide +kernel
theorem d_LE_closedDifference_19 : decode prog_2_method_6_code 19 = .ok (.iaload, 1) := by decide +kernel
theorem d_LE_closedDifference_20 : decode prog_2_method_6_code 20 = .ok (.i2l, 1) := by decide +kernel
theorem d_LE_closedDifference_21 : decode prog_2_method_6_code 21 = .ok (.lload_n 2, 1) := by decide +kernel
theorem d_LE_closedDifference_22 : decode prog_2_method_6_code 22 = .ok (.lsub, 1) := by decide +kernel
theorem d_LE_closedDifference_23 : decode prog_2_method_6_code 23 = .ok (.l2i, 1) := by decide +kernel
theorem d_LE_closedDifference_24 : decode prog_2_method_6_code 24 = .ok (.ireturn, 1) := by decide +kernel
theorem d_LE_init_0 : decode prog_2_method_1_code 0 = .ok (.aload_n 0, 1) := by decide +kernel
theorem d_LE_init_1 : decode prog_2_method_1_code 1 = .ok (.invokespecial 3, 3) := by decide +kernel
theorem d_LE_init_4 : decode prog_2_method_1_code 4 = .ok (.aload_n 0, 1) := by decide +kernel
theorem d_LE_init_5 : decode prog_2_method_1_code 5 = .ok (.bipush 12, 2) := by decide +kernel
theorem d_LE_init_7 : decode prog_2_method_1_code 7 = .ok (.newarray .int, 2) := by decide +kernel
theorem d_LE_init_9 : decode prog_2_method_1_code 9 = .ok (.putfield 9, 3) := by decide +kernel
theorem d_LE_init_12 : decode prog_2_method_1_code 12 = .ok (.aload_n 0, 1) := by decide +kernel
theorem d_LE_init_13 : decode prog_2_method_1_code 13 = .ok (.bipush 12, 2) := by decide +kernel
theorem d_LE_init_15 : decode prog_2_method_1_code 15 = .ok (.newarray .int, 2) := by decide +kernel
theorem d_LE_init_17 : decode prog_2_method_1_code 17 = .ok (.putfield 15, 3) := by decide +kernel
theorem d_LE_init_20 : decode prog_2_method_1_code 20 = .ok (.return_, 1) := by decide +kernel
set_option maxHeartbeats 4000000 in
set_option maxRecDepth 100000 in
/-- Levels.has -/
theorem c_LE_has (l : Launch) (dC : Nat → ClassId) (dI : Nat → Nat → Nat) (h0 : Nat) (qd : Nat) (ql : Nat) (nl : Nat) (a : Int32) (hc : nl < 2 ^ 31) : Met l xy_LE_has xw_LE_has ({ frames := 0, cells := 0, slots := 0, locals := 0 }) (xp_r [.ref h0, .int a] (dC, dI) xCl [(h0, .inr (5, [.ref qd, .ref ql, .int (nI nl)]))] []) (xr_i (fun r => r = bI (xin a nl))) 0 0 (fun _ => False) := by
  refine Met.ofW (cc := prog_2_method_2_code) (maxL := 2) (ret := (some .boolean)) (by decide) rfl ?_
  intro p e s m args below meth c s₁ B hml hv
  obtain ⟨rfl, hz, hP, hK⟩ := hv
  have hx := B.exec
  have hb := B.bytes
  have hr := B.returns
  have hts := atoms_spec (ws := xw_LE_has) B.pre
  have hown : s.vm.findClass xR_LE = some m.cls := findClass_of_methodNamed B.named
  have hlocks := B.notSynchronized
  have hP : va_P (dC, dI) xCl [(h0, .inr (5, [.ref qd, .ref ql, .int (nI nl)]))] s.heap := hP
  have hl := lv_entry ([.ref h0, .int a]) (n := 2) (Nat.le_of_ble_eq_true rfl)
  rw [lg_entry_eq]
  generalize (lg_sl ([.ref h0, .int a]) ++ List.replicate (2 - (lg_sl ([.ref h0, .int a])).length) Slot.unset).toArray = ls at hl ⊢
  have hl : lv_has ls 2 [(0, .ref h0), (1, .int a)] := hl
  refine lv_iload_n hx hb d_LE_has_0 rfl (lv_at hl 1 rfl) ?_
  refine lv_if_lt (tgt := 16) hx hb d_LE_has_1 (by decide) (fun c_1 => ?_) (fun c_1 => ?_)
  · refine lv_iconst (v := 0) hx hb d_LE_has_16 (by decide) ?_
    exact xr_zret (v := 0) (ty := .boolean) hx hb hr (by exact rfl) (by exact bI_n (xn_notin0 c_1)) d_LE_has_17 hlocks
  · refine lv_iload_n hx hb d_LE_has_4 rfl (lv_at hl 1 rfl) ?_
    refine lv_aload_n hx hb d_LE_has_5 rfl (lv_at hl 0 rfl) ?_
    refine va_get (D := (dC, dI)) (ci := 5) (v := .int (nI nl)) (C := xR_LE) (T := xT_LE) (N := 3) hx hb hts (fun w h => List.mem_cons_of_mem _ (iw_LE w h)) hown hK hP 0 rfl rfl 2 (by decide) (hts _ (List.mem_cons_of_mem _ wm_215)) (fun _ h9 => h9) rfl d_LE_has_6 ?_
    refine lv_icmp_ge (tgt := 16) hx hb d_LE_has_9 (by decide) (fun c_2 => ?_) (fun c_2 => ?_)
    · refine lv_iconst (v := 0) hx hb d_LE_has_16 (by decide) ?_
      exact xr_zret (v := 0) (ty := .boolean) hx hb hr (by exact rfl) (by exact bI_n (xn_notin1 c_2 hc)) d_LE_has_17 hlocks
    · refine lv_iconst (v := 1) hx hb d_LE_has_12 (by decide) ?_
      refine lv_goto (tgt := 17) hx hb d_LE_has_13 (by decide) ?_
      exact xr_zret (v := 1) (ty := .boolean) hx hb hr (by exact rfl) (by exact bI_p (xn_in c_1 (Int32.not_le.mp c_2) hc)) d_LE_has_17 hlocks
set_option maxHeartbeats 4000000 in
set_option maxRecDepth 100000 in
/-- Levels.isFull -/
theorem c_LE_isFull (l : Launch) (dC : Nat → ClassId) (dI : Nat → Nat → Nat) (h0 : Nat) (qd : Nat) (ql : Nat) (nl : Nat) (hc : nl < 2 ^ 31) : Met l xy_LE_isFull xw_LE_isFull ({ frames := 0, cells := 0, slots := 0, locals := 0 }) (xp_r [.ref h0] (dC, dI) xCl [(h0, .inr (5, [.ref qd, .ref ql, .int (nI nl)]))] []) (xr_i (fun r => r = bI (12 ≤ nl))) 0 0 (fun _ => False) := by
  refine Met.ofW (cc := prog_2_method_3_code) (maxL := 1) (ret := (some .boolean)) (by decide) rfl ?_
  intro p e s m args below meth c s₁ B hml hv
  obtain ⟨rfl, hz, hP, hK⟩ := hv
  have hx := B.exec
  have hb := B.bytes
  have hr := B.returns
  have hts := atoms_spec (ws := xw_LE_isFull) B.pre
  have hown : s.vm.findClass xR_LE = some m.cls := findClass_of_methodNamed B.named
  have hlocks := B.notSynchronized
  have hP : va_P (dC, dI) xCl [(h0, .inr (5, [.ref qd, .ref ql, .int (nI nl)]))] s.heap := hP
  have hl := lv_entry ([.ref h0]) (n := 1) (Nat.le_of_ble_eq_true rfl)
  rw [lg_entry_eq]
  generalize (lg_sl ([.ref h0]) ++ List.replicate (1 - (lg_sl ([.ref h0])).length) Slot.unset).toArray = ls at hl ⊢
  have hl : lv_has ls 1 [(0, .ref h0)] := hl
  refine lv_aload_n hx hb d_LE_isFull_0 rfl (lv_at hl 0 rfl) ?_
  refine va_get (D := (dC, dI)) (ci := 5) (v := .int (nI nl)) (C := xR_LE) (T := xT_LE) (N := 3) hx hb hts (fun w h => List.mem_cons_of_mem _ (iw_LE w h)) hown hK hP 0 rfl rfl 2 (by decide) (hts _ (List.mem_cons_of_mem _ wm_215)) (fun _ h9 => h9) rfl d_LE_isFull_1 ?_
  refine lv_bipush (v := 12) hx hb d_LE_isFull_4 (by decide) ?_
  refine lv_icmp_lt (tgt := 13) hx hb d_LE_isFull_6 (by decide) (fun c_1 => ?_) (fun c_1 => ?_)
  · have n_2 := xn_lt (a := nl) (b := 12) c_1 rfl (by decide) (by omega) (by omega)
    refine lv_iconst (v := 0) hx hb d_LE_isFull_13 (by decide) ?_
    exact xr_zret (v := 0) (ty := .boolean) hx hb hr (by exact rfl) (by exact bI_n (by omega)) d_LE_isFull_14 hlocks
  · have n_3 := xn_nlt (a := nl) (b := 12) c_1 rfl (by decide) (by omega) (by omega)
    refine lv_iconst (v := 1) hx hb d_LE_isFull_9 (by decide) ?_
    refine lv_goto (tgt := 14) hx hb d_LE_isFull_10 (by decide) ?_
    exact xr_zret (v := 1) (ty := .boolean) hx hb hr (by exact rfl) (by exact bI_p n_3) d_LE_isFull_14 hlocks
set_option maxHeartbeats 4000000 in
set_option maxRecDepth 100000 in
/-- Levels.add -/
theorem c_LE_add (l : Launch) (dC : Nat → ClassId) (dI : Nat → Nat → Nat) (sz : Nat) (h0 : Nat) (qd : Nat) (ql : Nat) (nl : Nat) (cd : ClassId) (cl : ClassId) (fd : Nat → Int32) (fl : Nat → Int32) (a : Int32) (b : Int32) (hc : nl < 12) : Met l xy_LE_add xw_LE_add ({ frames := 0, cells := 0, slots := 0, locals := 0 }) (xp_w [.ref h0, .int a, .int b] sz (dC, dI) xCl [(h0, .inr (5, [.ref qd, .ref ql, .int (nI nl)])), (qd, .inl (cd, 12, .inl fd)), (ql, .inl (cl, 12, .inl fl))] [(cd, .int), (cl, .int)]) (va_Qi (fun (r : Int32) (_ : Unit) => r = nI nl) (fun _ t => xb_w (dC, dI) xCl [(h0, .inr (5, [.ref qd, .ref ql, .int (nI (nl + 1))])), (qd, .inl (cd, 12, .inl (upd fd nl a))), (ql, .inl (cl, 12, .inl (upd fl nl b)))] [(cd, .int), (cl, .int)] (va_A [(h0, .inr (5, [.ref qd, .ref ql, .int (nI nl)])), (qd, .inl (cd, 12, .inl fd)), (ql, .inl (cl, 12, .inl fl))] sz) t) (va_A [(h0, .inr (5, [.ref qd, .ref ql, .int (nI nl)])), (qd, .inl (cd, 12, .inl fd)), (ql, .inl (cl, 12, .inl fl))] sz)) 0 0 (va_A [(h0, .inr (5, [.ref qd, .ref ql, .int (nI nl)])), (qd, .inl (cd, 12, .inl fd)), (ql, .inl (cl, 12, .inl fl))] sz) := by
  refine Met.ofW (cc := prog_2_method_4_code) (maxL := 3) (ret := (some .int)) (by decide) rfl ?_
  intro p e s m args below meth c s₁ B hml hv
  obtain ⟨rfl, hsz, hz, hP, hK, hD0⟩ := hv
  have hx := B.exec
  have hb := B.bytes
  have hr := B.returns
  have hts := atoms_spec (ws := xw_LE_add) B.pre
  have hown : s.vm.findClass xR_LE = some m.cls := findClass_of_methodNamed B.named
  have hlocks := B.notSynchronized
  subst hsz
  have hD := hD0.self (sz := s.heap.size)
  generalize hAe : va_A [(h0, .inr (5, [.ref qd, .ref ql, .int (nI nl)])), (qd, .inl (cd, 12, .inl fd)), (ql, .inl (cl, 12, .inl fl))] s.heap.size = A at hD ⊢
  have hA : ∀ q : Nat, s.heap.size ≤ q → A q := fun q h => by rw [← hAe]; exact Or.inr h
  have hS : va_S A s.heap s.heap [] := va_S.rf
  have hP : va_P (dC, dI) xCl [(h0, .inr (5, [.ref qd, .ref ql, .int (nI nl)])), (qd, .inl (cd, 12, .inl fd)), (ql, .inl (cl, 12, .inl fl))] s.heap := hP
  have hl := lv_entry ([.ref h0, .int a, .int b]) (n := 3) (Nat.le_of_ble_eq_true rfl)
  rw [lg_entry_eq]
  generalize (lg_sl ([.ref h0, .int a, .int b]) ++ List.replicate (3 - (lg_sl ([.ref h0, .int a, .int b])).length) Slot.unset).toArray = ls at hl ⊢
  have hl : lv_has ls 3 [(0, .ref h0), (1, .int a), (2, .int b)] := hl
  refine lv_aload_n hx hb d_LE_add_0 rfl (lv_at hl 0 rfl) ?_
  refine va_get (D := (dC, dI)) (ci := 5) (v := .ref qd) (C := xR_LE) (T := xT_LE) (N := 3) hx hb hts (fun w h => List.mem_cons_of_mem _ (iw_LE w h)) hown hK hP 0 rfl rfl 0 (by decide) (hts _ (List.mem_cons_of_mem _ wm_213)) (fun _ h9 => h9) rfl d_LE_add_1 ?_
  refine lv_aload_n hx hb d_LE_add_4 rfl (lv_at hl 0 rfl) ?_
  refine va_get (D := (dC, dI)) (ci := 5) (v := .int (nI nl)) (C := xR_LE) (T := xT_LE) (N := 3) hx hb hts (fun w h => List.mem_cons_of_mem _ (iw_LE w h)) hown hK hP 0 rfl rfl 2 (by decide) (hts _ (List.mem_cons_of_mem _ wm_215)) (fun _ h9 => h9) rfl d_LE_add_5 ?_
  refine lv_iload_n hx hb d_LE_add_8 rfl (lv_at hl 1 rfl) ?_
  refine xa_iast hx hb hK hP hD hS 1 0 rfl rfl nl rfl (by omega) (by decide) d_LE_add_9 (fun H locs hP hD hS => ?_)
  have hP : va_P (dC, dI) xCl [(h0, .inr (5, [.ref qd, .ref ql, .int (nI nl)])), (qd, .inl (cd, 12, .inl (upd fd nl a))), (ql, .inl (cl, 12, .inl fl))] H := hP
  have hD : va_D A [(h0, .inr (5, [.ref qd, .ref ql, .int (nI nl)])), (qd, .inl (cd, 12, .inl (upd fd nl a))), (ql, .inl (cl, 12, .inl fl))] := hD
  refine lv_aload_n hx hb d_LE_add_10 rfl (lv_at hl 0 rfl) ?_
  refine va_get (D := (dC, dI)) (ci := 5) (v := .ref ql) (C := xR_LE) (T := xT_LE) (N := 3) hx hb hts (fun w h => List.mem_cons_of_mem _ (iw_LE w h)) hown hK hP 0 rfl rfl 1 (by decide) (hts _ (List.mem_cons_of_mem _ wm_214)) (fun _ h9 => h9) rfl d_LE_add_11 ?_
  refine lv_aload_n hx hb d_LE_add_14 rfl (lv_at hl 0 rfl) ?_
  refine va_get (D := (dC, dI)) (ci := 5) (v := .int (nI nl)) (C := xR_LE) (T := xT_LE) (N := 3) hx hb hts (fun w h => List.mem_cons_of_mem _ (iw_LE w h)) hown hK hP 0 rfl rfl 2 (by decide) (hts _ (List.mem_cons_of_mem _ wm_215)) (fun _ h9 => h9) rfl d_LE_add_15 ?_
  refine lv_iload_n hx hb d_LE_add_18 rfl (lv_at hl 2 rfl) ?_
  refine xa_iast hx hb hK hP hD hS 2 1 rfl rfl nl rfl (by omega) (by decide) d_LE_add_19 (fun H locs hP hD hS => ?_)
  have hP : va_P (dC, dI) xCl [(h0, .inr (5, [.ref qd, .ref ql, .int (nI nl)])), (qd, .inl (cd, 12, .inl (upd fd nl a))), (ql, .inl (cl, 12, .inl (upd fl nl b)))] H := hP
  have hD : va_D A [(h0, .inr (5, [.ref qd, .ref ql, .int (nI nl)])), (qd, .inl (cd, 12, .inl (upd fd nl a))), (ql, .inl (cl, 12, .inl (upd fl nl b)))] := hD
  refine lv_aload_n hx hb d_LE_add_20 rfl (lv_at hl 0 rfl) ?_
  refine lv_dup hx hb d_LE_add_21 rfl ?_
  refine va_get (D := (dC, dI)) (ci := 5) (v := .int (nI nl)) (C := xR_LE) (T := xT_LE) (N := 3) hx hb hts (fun w h => List.mem_cons_of_mem _ (iw_LE w h)) hown hK hP 0 rfl rfl 2 (by decide) (hts _ (List.mem_cons_of_mem _ wm_215)) (fun _ h9 => h9) rfl d_LE_add_22 ?_
  refine lv_iconst (v := 1) hx hb d_LE_add_25 (by decide) ?_
  refine lv_iadd hx hb d_LE_add_26 ?_
  refine xv_i (y := nI (nl + 1)) (nI_1 _) ?_
  refine va_put (D := (dC, dI)) (ci := 5) (v := .int (nI (nl + 1))) (ty := .int) (C := xR_LE) (T := xT_LE) (N := 3) hx hb hts (fun w h => List.mem_cons_of_mem _ (iw_LE w h)) xt_LE xt_LE_ok xn_LE_nm hown hK hP hD hS 0 rfl rfl 2 (by decide) (hts _ (List.mem_cons_of_mem _ wm_215)) (fun _ h9 => h9) rfl (by decide +kernel) rfl rfl (Nat.le_of_ble_eq_true rfl) d_LE_add_27 (fun H locs hP hD hS => ?_)
  have hP : va_P (dC, dI) xCl [(h0, .inr (5, [.ref qd, .ref ql, .int (nI (nl + 1))])), (qd, .inl (cd, 12, .inl (upd fd nl a))), (ql, .inl (cl, 12, .inl (upd fl nl b)))] H := hP
  have hD : va_D A [(h0, .inr (5, [.ref qd, .ref ql, .int (nI (nl + 1))])), (qd, .inl (cd, 12, .inl (upd fd nl a))), (ql, .inl (cl, 12, .inl (upd fl nl b)))] := hD
  refine lv_aload_n hx hb d_LE_add_30 rfl (lv_at hl 0 rfl) ?_
  refine va_get (D := (dC, dI)) (ci := 5) (v := .int (nI (nl + 1))) (C := xR_LE) (T := xT_LE) (N := 3) hx hb hts (fun w h => List.mem_cons_of_mem _ (iw_LE w h)) hown hK hP 0 rfl rfl 2 (by decide) (hts _ (List.mem_cons_of_mem _ wm_215)) (fun _ h9 => h9) rfl d_LE_add_31 ?_
  refine lv_iconst (v := 1) hx hb d_LE_add_34 (by decide) ?_
  refine lv_isub hx hb d_LE_add_35 ?_
  refine xv_i (y := nI nl) (nI_pred _) ?_
  have hP9 := hP.sub (ws' := [(h0, .inr (5, [.ref qd, .ref ql, .int (nI (nl + 1))])), (qd, .inl (cd, 12, .inl (upd fd nl a))), (ql, .inl (cl, 12, .inl (upd fl nl b)))]) [0, 1, 2] rfl
  have hD9 := hD.sub (ws' := [(h0, .inr (5, [.ref qd, .ref ql, .int (nI (nl + 1))])), (qd, .inl (cd, 12, .inl (upd fd nl a))), (ql, .inl (cl, 12, .inl (upd fl nl b)))]) [0, 1, 2] (by decide) rfl
  have hK9 := hK.sub (tys' := [(cd, .int), (cl, .int)]) [0, 1] rfl
  exact W.iret (v := nI nl) hx hb hr (fun t ht hW => ⟨⟨nI nl, (), rfl, rfl, ⟨by rw [ht]; exact hP9, va_K.moved hW.alike hK9, by exact hD9⟩⟩, hS.F ht⟩) hS.2.2 d_LE_add_36 hlocks
set_option maxHeartbeats 4000000 in
set_option maxRecDepth 100000 in
/-- Levels.sumOfDifferences -/
theorem c_LE_sumOfDifferences (l : Launch) (dC : Nat → ClassId) (dI : Nat → Nat → Nat) (h0 : Nat) (qd : Nat) (ql : Nat) (nl : Nat) (cd : ClassId) (fd : Nat → Int32) (hc : nl ≤ 12) : Met l xy_LE_sumOfDifferences xw_LE_sumOfDifferences ({ frames := 0, cells := 0, slots := 0, locals := 0 }) (xp_r [.ref h0] (dC, dI) xCl [(h0, .inr (5, [.ref qd, .ref ql, .int (nI nl)])), (qd, .inl (cd, 12, .inl fd))] [(cd, .int)]) (xr_i (fun r => r = sr_su fd nl)) 0 0 (fun _ => False) := by
  refine Met.ofW (cc := prog_2_method_5_code) (maxL := 3) (ret := (some .int)) (by decide) rfl ?_
  intro p e s m args below meth c s₁ B hml hv
  obtain ⟨rfl, hz, hP, hK⟩ := hv
  have hx := B.exec
  have hb := B.bytes
  have hr := B.returns
  have hts := atoms_spec (ws := xw_LE_sumOfDifferences) B.pre
  have hown : s.vm.findClass xR_LE = some m.cls := findClass_of_methodNamed B.named
  have hlocks := B.notSynchronized
  have hP : va_P (dC, dI) xCl [(h0, .inr (5, [.ref qd, .ref ql, .int (nI nl)])), (qd, .inl (cd, 12, .inl fd))] s.heap := hP
  have hl := lv_entry ([.ref h0]) (n := 3) (Nat.le_of_ble_eq_true rfl)
  rw [lg_entry_eq]
  generalize (lg_sl ([.ref h0]) ++ List.replicate (3 - (lg_sl ([.ref h0])).length) Slot.unset).toArray = ls at hl ⊢
  have hl : lv_has ls 3 [(0, .ref h0)] := hl
  refine lv_iconst (v := 0) hx hb d_LE_sumOfDifferences_0 (by decide) ?_
  refine lv_istore_n (lv' := [(1, .int 0), (0, .ref h0)]) hx hb d_LE_sumOfDifferences_1 rfl hl (by decide) rfl (fun ls hl => ?_)
  refine lv_iconst (v := 0) hx hb d_LE_sumOfDifferences_2 (by decide) ?_
  refine lv_istore_n (lv' := [(2, .int 0), (1, .int 0), (0, .ref h0)]) hx hb d_LE_sumOfDifferences_3 rfl hl (by decide) rfl (fun ls hl => ?_)
  have lp4 : ∀ (fuel : Nat) (i : Nat) (x1 : Int32), nl - i < fuel → i ≤ nl → x1 = sr_su fd i → ∀ (ls : Array Slot), lv_has ls 3 [(0, .ref h0), (1, .int x1), (2, .int (nI i))] → W p l e (headSpec xw_LE_sumOfDifferences ({ frames := 0, cells := 0, slots := 0, locals := 0 })).room s m ([.ref h0] : List Value).toArray below meth c s.heap [] 0 0 (MQ below (xr_i (fun r => r = sr_su fd nl)) ([.ref h0] : List Value).toArray s 0 0 (fun _ => False)) (F0 m 4 ls []) := by
    intro fuel
    induction fuel with
    | zero => intro i x1 hfu; exact absurd hfu (Nat.not_lt_zero _)
    | succ fuel ih =>
      intro i x1 hfu hi hx1 ls hl
      subst hx1
      refine lv_iload_n hx hb d_LE_sumOfDifferences_4 rfl (lv_at hl 2 rfl) ?_
      refine lv_aload_n hx hb d_LE_sumOfDifferences_5 rfl (lv_at hl 0 rfl) ?_
      refine va_get (D := (dC, dI)) (ci := 5) (v := .int (nI nl)) (C := xR_LE) (T := xT_LE) (N := 3) hx hb hts (fun w h => List.mem_cons_of_mem _ (iw_LE w h)) hown hK hP 0 rfl rfl 2 (by decide) (hts _ (List.mem_cons_of_mem _ wm_215)) (fun _ h9 => h9) rfl d_LE_sumOfDifferences_6 ?_
      refine lv_icmp_ge (tgt := 27) hx hb d_LE_sumOfDifferences_9 (by decide) (fun c_1 => ?_) (fun c_1 => ?_)
      · have n_2 := xn_le (a := nl) (b := i) c_1 rfl rfl (by omega) (by omega)
        refine lv_iload_n hx hb d_LE_sumOfDifferences_27 rfl (lv_at hl 1 rfl) ?_
        exact xr_iret (v := sr_su fd i) hx hb hr (by exact (by rw [show i = nl by omega])) d_LE_sumOfDifferences_28 hlocks
      · have n_3 := xn_nle (a := nl) (b := i) c_1 rfl rfl (by omega) (by omega)
        refine lv_iload_n hx hb d_LE_sumOfDifferences_12 rfl (lv_at hl 1 rfl) ?_
        refine lv_aload_n hx hb d_LE_sumOfDifferences_13 rfl (lv_at hl 0 rfl) ?_
        refine va_get (D := (dC, dI)) (ci := 5) (v := .ref qd) (C := xR_LE) (T := xT_LE) (N := 3) hx hb hts (fun w h => List.mem_cons_of_mem _ (iw_LE w h)) hown hK hP 0 rfl rfl 0 (by decide) (hts _ (List.mem_cons_of_mem _ wm_213)) (fun _ h9 => h9) rfl d_LE_sumOfDifferences_14 ?_
        refine lv_iload_n hx hb d_LE_sumOfDifferences_17 rfl (lv_at hl 2 rfl) ?_
        refine xa_iald hx hb hK hP 1 0 rfl rfl i rfl (by omega) (by decide) d_LE_sumOfDifferences_18 ?_
        refine lv_iadd hx hb d_LE_sumOfDifferences_19 ?_
        refine lv_istore_n (lv' := [(1, .int ((sr_su fd i) + (fd i))), (0, .ref h0), (2, .int (nI i))]) hx hb d_LE_sumOfDifferences_20 rfl hl (by decide) rfl (fun ls hl => ?_)
        refine lv_iinc (v := nI (i + 1)) (lv' := [(2, .int (nI (i + 1))), (1, .int ((sr_su fd i) + (fd i))), (0, .ref h0)]) hx hb d_LE_sumOfDifferences_21 hl (k := 2) rfl (nI_1 _) (by decide) rfl (fun ls hl => ?_)
        refine lv_goto (tgt := 4) hx hb d_LE_sumOfDifferences_24 (by decide) ?_
        exact ih  (i + 1) ((sr_su fd i) + (fd i)) (by omega) (by omega) rfl ls (lv_sub hl [2, 1, 0] rfl)
  exact lp4 (nl - 0 + 1) 0 0 (by omega) (Nat.zero_le _) rfl ls (lv_sub hl [2, 1, 0] rfl)
set_option maxHeartbeats 4000000 in
set_option maxRecDepth 100000 in
/-- Levels.lengthOf -/
theorem c_LE_lengthOf (l : Launch) (dC : Nat → ClassId) (dI : Nat → Nat → Nat) (h0 : Nat) (qd : Nat) (ql : Nat) (nl : Nat) (cl : ClassId) (fl : Nat → Int32) (k : Nat) (hc : nl ≤ 12) (hk : k ≤ 12) : Met l xy_LE_lengthOf xw_LE_lengthOf ({ frames := 0, cells := 0, slots := 0, locals := 0 }) (xp_r [.ref h0, .int (nI k)] (dC, dI) xCl [(h0, .inr (5, [.ref qd, .ref ql, .int (nI nl)])), (ql, .inl (cl, 12, .inl fl))] [(cl, .int)]) (xr_l (fun r => r = sr_sl fl (min k nl))) 0 0 (fun _ => False) := by
  refine Met.ofW (cc := prog_2_method_8_code) (maxL := 5) (ret := (some .long)) (by decide) rfl ?_
  intro p e s m args below meth c s₁ B hml hv
  obtain ⟨rfl, hz, hP, hK⟩ := hv
  have hx := B.exec
  have hb := B.bytes
  have hr := B.returns
  have hts := atoms_spec (ws := xw_LE_lengthOf) B.pre
  have hown : s.vm.findClass xR_LE = some m.cls := findClass_of_methodNamed B.named
  have hlocks := B.notSynchronized
  have hP : va_P (dC, dI) xCl [(h0, .inr (5, [.ref qd, .ref ql, .int (nI nl)])), (ql, .inl (cl, 12, .inl fl))] s.heap := hP
  have hl := lv_entry ([.ref h0, .int (nI k)]) (n := 5) (Nat.le_of_ble_eq_true rfl)
  rw [lg_entry_eq]
  generalize (lg_sl ([.ref h0, .int (nI k)]) ++ List.replicate (5 - (lg_sl ([.ref h0, .int (nI k)])).length) Slot.unset).toArray = ls at hl ⊢
  have hl : lv_has ls 5 [(0, .ref h0), (1, .int (nI k))] := hl
  refine lv_lconst (v := 0) hx hb d_LE_lengthOf_0 (by decide) ?_
  refine lv_lstore_n (lv' := [(2, .long 0), (0, .ref h0), (1, .int (nI k))]) hx hb d_LE_lengthOf_1 rfl hl (by decide) rfl (fun ls hl => ?_)
  refine lv_iconst (v := 0) hx hb d_LE_lengthOf_2 (by decide) ?_
  refine lv_istore (lv' := [(4, .int 0), (2, .long 0), (0, .ref h0), (1, .int (nI k))]) hx hb d_LE_lengthOf_3 hl (by decide) rfl (fun ls hl => ?_)
  have lp5 : ∀ (fuel : Nat) (i : Nat) (x1 : Int64), 12 - i < fuel → i ≤ min k nl → x1 = sr_sl fl i → ∀ (ls : Array Slot), lv_has ls 5 [(0, .ref h0), (1, .int (nI k)), (2, .long x1), (4, .int (nI i))] → W p l e (headSpec xw_LE_lengthOf ({ frames := 0, cells := 0, slots := 0, locals := 0 })).room s m ([.ref h0, .int (nI k)] : List Value).toArray below meth c s.heap [] 0 0 (MQ below (xr_l (fun r => r = sr_sl fl (min k nl))) ([.ref h0, .int (nI k)] : List Value).toArray s 0 0 (fun _ => False)) (F0 m 5 ls []) := by
    intro fuel
    induction fuel with
    | zero => intro i x1 hfu; exact absurd hfu (Nat.not_lt_zero _)
    | succ fuel ih =>
      intro i x1 hfu hi hx1 ls hl
      subst hx1
      refine lv_iload hx hb d_LE_lengthOf_5 (lv_at hl 3 rfl) ?_
      refine lv_iload_n hx hb d_LE_lengthOf_7 rfl (lv_at hl 1 rfl) ?_
      refine lv_icmp_ge (tgt := 37) hx hb d_LE_lengthOf_8 (by decide) (fun c_1 => ?_) (fun c_1 => ?_)
      · have n_2 := xn_le (a := k) (b := i) c_1 rfl rfl (by omega) (by omega)
        refine lv_lload_n hx hb d_LE_lengthOf_37 rfl (lv_at hl 2 rfl) ?_
        exact xr_lret (v := sr_sl fl i) hx hb hr (by exact (by rw [show i = min k nl by omega])) d_LE_lengthOf_38 hlocks
      · have n_3 := xn_nle (a := k) (b := i) c_1 rfl rfl (by omega) (by omega)
        refine lv_iload hx hb d_LE_lengthOf_11 (lv_at hl 3 rfl) ?_
        refine lv_aload_n hx hb d_LE_lengthOf_13 rfl (lv_at hl 0 rfl) ?_
        refine va_get (D := (dC, dI)) (ci := 5) (v := .int (nI nl)) (C := xR_LE) (T := xT_LE) (N := 3) hx hb hts (fun w h => List.mem_cons_of_mem _ (iw_LE w h)) hown hK hP 0 rfl rfl 2 (by decide) (hts _ (List.mem_cons_of_mem _ wm_215)) (fun _ h9 => h9) rfl d_LE_lengthOf_14 ?_
        refine lv_icmp_ge (tgt := 37) hx hb d_LE_lengthOf_17 (by decide) (fun c_4 => ?_) (fun c_4 => ?_)
        · have n_5 := xn_le (a := nl) (b := i) c_4 rfl rfl (by omega) (by omega)
          refine lv_lload_n hx hb d_LE_lengthOf_37 rfl (lv_at hl 2 rfl) ?_
          exact xr_lret (v := sr_sl fl i) hx hb hr (by exact (by rw [show i = min k nl by omega])) d_LE_lengthOf_38 hlocks
        · have n_6 := xn_nle (a := nl) (b := i) c_4 rfl rfl (by omega) (by omega)
          refine lv_lload_n hx hb d_LE_lengthOf_20 rfl (lv_at hl 2 rfl) ?_
          refine lv_aload_n hx hb d_LE_lengthOf_21 rfl (lv_at hl 0 rfl) ?_
          refine va_get (D := (dC, dI)) (ci := 5) (v := .ref ql) (C := xR_LE) (T := xT_LE) (N := 3) hx hb hts (fun w h => List.mem_cons_of_mem _ (iw_LE w h)) hown hK hP 0 rfl rfl 1 (by decide) (hts _ (List.mem_cons_of_mem _ wm_214)) (fun _ h9 => h9) rfl d_LE_lengthOf_22 ?_
          refine lv_iload hx hb d_LE_lengthOf_25 (lv_at hl 3 rfl) ?_
          refine xa_iald hx hb hK hP 1 0 rfl rfl i rfl (by omega) (by decide) d_LE_lengthOf_27 ?_
          refine lv_i2l (v := (fl i).toInt64) hx hb d_LE_lengthOf_28 rfl ?_
          refine lv_ladd hx hb d_LE_lengthOf_29 ?_
          refine lv_lstore_n (lv' := [(2, .long ((sr_sl fl i) + ((fl i).toInt64))), (0, .ref h0), (1, .int (nI k)), (4, .int (nI i))]) hx hb d_LE_lengthOf_30 rfl hl (by decide) rfl (fun ls hl => ?_)
          refine lv_iinc (v := nI (i + 1)) (lv' := [(4, .int (nI (i + 1))), (2, .long ((sr_sl fl i) + ((fl i).toInt64))), (0, .ref h0), (1, .int (nI k))]) hx hb d_LE_lengthOf_31 hl (k := 3) rfl (nI_1 _) (by decide) rfl (fun ls hl => ?_)
          refine lv_goto (tgt := 5) hx hb d_LE_lengthOf_34 (by decide) ?_
          exact ih  (i + 1) ((sr_sl fl i) + ((fl i).toInt64)) (by omega) (by omega) rfl ls (lv_sub hl [2, 3, 1, 0] rfl)
  exact lp5 (12 - 0 + 1) 0 0 (by omega) (Nat.zero_le _) rfl ls (lv_sub hl [2, 3, 1, 0] rfl)
set_option maxHeartbeats 4000000 in
set_option maxRecDepth 100000 in
/-- Levels.sharedOver -/
theorem c_LE_sharedOver (l : Launch) (dC : Nat → ClassId) (dI : Nat → Nat → Nat) (h0 : Nat) (qd : Nat) (ql : Nat) (nl : Nat) (cd : ClassId) (cl : ClassId) (fd : Nat → Int32) (fl : Nat → Int32) (k : Nat) (hc : nl ≤ 12) (hk : k ≤ 12) : Met l xy_LE_sharedOver xw_LE_sharedOver ({ frames := 2, cells := 0, slots := 0, locals := 48 }) (xp_r [.ref h0, .int (nI k)] (dC, dI) xCl [(h0, .inr (5, [.ref qd, .ref ql, .int (nI nl)])), (qd, .inl (cd, 12, .inl fd)), (ql, .inl (cl, 12, .inl fl))] [(cd, .int), (cl, .int)]) (xr_l (fun r => r = sr_sh fd fl nl k)) 0 0 (fun _ => False) := by
  refine Met.ofW (cc := prog_2_method_7_code) (maxL := 2) (ret := (some .long)) (by decide) rfl ?_
  intro p e s m args below meth c s₁ B hml hv
  obtain ⟨rfl, hz, hP, hK⟩ := hv
  have hx := B.exec
  have hb := B.bytes
  have hr := B.returns
  have hts := atoms_spec (ws := xw_LE_sharedOver) B.pre
  have hown : s.vm.findClass xR_LE = some m.cls := findClass_of_methodNamed B.named
  have hlocks := B.notSynchronized
  have hP : va_P (dC, dI) xCl [(h0, .inr (5, [.ref qd, .ref ql, .int (nI nl)])), (qd, .inl (cd, 12, .inl fd)), (ql, .inl (cl, 12, .inl fl))] s.heap := hP
  have hl := lv_entry ([.ref h0, .int (nI k)]) (n := 2) (Nat.le_of_ble_eq_true rfl)
  rw [lg_entry_eq]
  generalize (lg_sl ([.ref h0, .int (nI k)]) ++ List.replicate (2 - (lg_sl ([.ref h0, .int (nI k)])).length) Slot.unset).toArray = ls at hl ⊢
  have hl : lv_has ls 2 [(0, .ref h0), (1, .int (nI k))] := hl
  refine lv_aload_n hx hb d_LE_sharedOver_0 rfl (lv_at hl 0 rfl) ?_
  refine xr_calli (va_runV (As := []) (rest := []) ⟨hx, hb, hml, hown, hts⟩ (c_LE_sumOfDifferences l dC dI h0 qd ql nl cd fd (by first | assumption | omega | decide)) (cwV 0 hts (xgV wm_655 wm_639 wm_640 wm_32 wm_641) rfl rfl rfl (by decide +kernel) ⟨Nat.le_of_ble_eq_true rfl, Nat.le_of_ble_eq_true rfl⟩) ⟨xp_blind, va_recv hK hP (ci := 5) (q0 := 0) rfl rfl, fun U hU hW => ⟨rfl, hz.warm hW, by rw [hU]; exact hP.sub [0, 1] rfl, va_K.moved hW.alike (hK.sub [0] rfl)⟩⟩ rfl rfl hl.1 rfl (lv_room (Nat.le_of_ble_eq_true rfl)) d_LE_sharedOver_1 ⟨Nat.le_of_ble_eq_true rfl, Nat.le_of_ble_eq_true rfl⟩) (fun r_1 h_2 => ?_)
  subst h_2
  refine lv_i2l (v := (sr_su fd nl).toInt64) hx hb d_LE_sharedOver_4 rfl ?_
  refine lv_aload_n hx hb d_LE_sharedOver_5 rfl (lv_at hl 0 rfl) ?_
  refine lv_iload_n hx hb d_LE_sharedOver_6 rfl (lv_at hl 1 rfl) ?_
  refine xr_calll (va_runV (As := [.int (nI k)]) (rest := [.long ((sr_su fd nl).toInt64)]) ⟨hx, hb, hml, hown, hts⟩ (c_LE_lengthOf l dC dI h0 qd ql nl cl fl k (by first | assumption | omega | decide) (by first | assumption | omega | decide)) (cwV 1 hts (xgV wm_656 wm_658 wm_12 wm_32 wm_659) rfl rfl rfl (by decide +kernel) ⟨Nat.le_of_ble_eq_true rfl, Nat.le_of_ble_eq_true rfl⟩) ⟨xp_blind, va_recv hK hP (ci := 5) (q0 := 0) rfl rfl, fun U hU hW => ⟨rfl, hz.warm hW, by rw [hU]; exact hP.sub [0, 2] rfl, va_K.moved hW.alike (hK.sub [1] rfl)⟩⟩ rfl rfl hl.1 rfl (lv_room (Nat.le_of_ble_eq_true rfl)) d_LE_sharedOver_7 ⟨Nat.le_of_ble_eq_true rfl, Nat.le_of_ble_eq_true rfl⟩) (fun r_3 h_4 => ?_)
  subst h_4
  refine lv_lmul hx hb d_LE_sharedOver_10 ?_
  refine lv_aload_n hx hb d_LE_sharedOver_11 rfl (lv_at hl 0 rfl) ?_
  refine lv_aload_n hx hb d_LE_sharedOver_12 rfl (lv_at hl 0 rfl) ?_
  refine va_get (D := (dC, dI)) (ci := 5) (v := .int (nI nl)) (C := xR_LE) (T := xT_LE) (N := 3) hx hb hts (fun w h => List.mem_cons_of_mem _ (iw_LE w h)) hown hK hP 0 rfl rfl 2 (by decide) (hts _ (List.mem_cons_of_mem _ wm_215)) (fun _ h9 => h9) rfl d_LE_sharedOver_13 ?_
  refine xr_calll (va_runV (As := [.int (nI nl)]) (rest := [.long (((sr_su fd nl).toInt64) * (sr_sl fl (min k nl)))]) ⟨hx, hb, hml, hown, hts⟩ (c_LE_lengthOf l dC dI h0 qd ql nl cl fl nl (by first | assumption | omega | decide) (by first | assumption | omega | decide)) (cwV 1 hts (xgV wm_656 wm_658 wm_12 wm_32 wm_659) rfl rfl rfl (by decide +kernel) ⟨Nat.le_of_ble_eq_true rfl, Nat.le_of_ble_eq_true rfl⟩) ⟨xp_blind, va_recv hK hP (ci := 5) (q0 := 0) rfl rfl, fun U hU hW => ⟨rfl, hz.warm hW, by rw [hU]; exact hP.sub [0, 2] rfl, va_K.moved hW.alike (hK.sub [1] rfl)⟩⟩ rfl rfl hl.1 rfl (lv_room (Nat.le_of_ble_eq_true rfl)) d_LE_sharedOver_16 ⟨Nat.le_of_ble_eq_true rfl, Nat.le_of_ble_eq_true rfl⟩) (fun r_5 h_6 => ?_)
  subst h_6
  refine xr_calll (va_runSN (As := [.long (((sr_su fd nl).toInt64) * (sr_sl fl (min k nl))), .long (sr_sl fl (min nl nl))]) (rest := []) ⟨hx, hb, hml, hown, hts⟩ (c_SR_dividedDown l dC dI (((sr_su fd nl).toInt64) * (sr_sl fl (min k nl))) (sr_sl fl (min nl nl))) ⟨(va_cnB (host := "StationRounds") 2 hts (xg wm_307) rfl rfl rfl (hz.nest (own := xR_LE) (idx := 33) (y := xy_SR_dividedDown) (by decide +kernel)) (hts _ (List.mem_cons_of_mem _ wm_26)) (by decide +kernel) ⟨Nat.le_of_ble_eq_true rfl, Nat.le_of_ble_eq_true rfl⟩), hts _ (List.mem_cons_of_mem _ wm_306), trivial⟩ ⟨xp_blind, fun U hU hW => ⟨rfl, hz.warm hW, by rw [hU]; exact hP.sub [] rfl, va_K.moved hW.alike (hK.sub [] rfl)⟩⟩ rfl rfl hl.1 rfl (lv_room (Nat.le_of_ble_eq_true rfl)) d_LE_sharedOver_19 ⟨Nat.le_of_ble_eq_true rfl, Nat.le_of_ble_eq_true rfl⟩) (fun r_7 h_8 => ?_)
  subst h_8
  exact xr_lret (v := sr_dd (((sr_su fd nl).toInt64) * (sr_sl fl (min k nl))) (sr_sl fl (min nl nl))) hx hb hr (by exact rfl) d_LE_sharedOver_22 hlocks
set_option maxHeartbeats 4000000 in
set_option maxRecDepth 100000 in
/-- Levels.closedDifference -/
theorem c_LE_closedDifference (l : Launch) (dC : Nat → ClassId) (dI : Nat → Nat → Nat) (h0 : Nat) (qd : Nat) (ql : Nat) (nl : Nat) (cd : ClassId) (cl : ClassId) (fd : Nat → Int32) (fl : Nat → Int32) (k : Nat) (hc : nl ≤ 12) (hk : k < nl) : Met l xy_LE_closedDifference xw_LE_closedDifference ({ frames := 3, cells := 0, slots := 0, locals := 69 }) (xp_r [.ref h0, .int (nI k)] (dC, dI) xCl [(h0, .inr (5, [.ref qd, .ref ql, .int (nI nl)])), (qd, .inl (cd, 12, .inl fd)), (ql, .inl (cl, 12, .inl fl))] [(cd, .int), (cl, .int)]) (xr_i (fun r => r = sr_cd fd fl nl k)) 0 0 (fun _ => False) := by
  refine Met.ofW (cc := prog_2_method_6_code) (maxL := 4) (ret := (some .int)) (by decide) rfl ?_
  intro p e s m args below meth c s₁ B hml hv
  obtain ⟨rfl, hz, hP, hK⟩ := hv
  have hx := B.exec
  have hb := B.bytes
  have hr := B.returns
  have hts := atoms_spec (ws := xw_LE_closedDifference) B.pre
  have hown : s.vm.findClass xR_LE = some m.cls := findClass_of_methodNamed B.named
  have hlocks := B.notSynchronized
  have hP : va_P (dC, dI) xCl [(h0, .inr (5, [.ref qd, .ref ql, .int (nI nl)])), (qd, .inl (cd, 12, .inl fd)), (ql, .inl (cl, 12, .inl fl))] s.heap := hP
  have hl := lv_entry ([.ref h0, .int (nI k)]) (n := 4) (Nat.le_of_ble_eq_true rfl)
  rw [lg_entry_eq]
  generalize (lg_sl ([.ref h0, .int (nI k)]) ++ List.replicate (4 - (lg_sl ([.ref h0, .int (nI k)])).length) Slot.unset).toArray = ls at hl ⊢
  have hl : lv_has ls 4 [(0, .ref h0), (1, .int (nI k))] := hl
  refine lv_aload_n hx hb d_LE_closedDifference_0 rfl (lv_at hl 0 rfl) ?_
  refine lv_iload_n hx hb d_LE_closedDifference_1 rfl (lv_at hl 1 rfl) ?_
  refine lv_iconst (v := 1) hx hb d_LE_closedDifference_2 (by decide) ?_
  refine lv_iadd hx hb d_LE_closedDifference_3 ?_
  refine xv_i (y := nI (k + 1)) (nI_1 _) ?_
  refine xr_calll (va_runV (As := [.int (nI (k + 1))]) (rest := []) ⟨hx, hb, hml, hown, hts⟩ (c_LE_sharedOver l dC dI h0 qd ql nl cd cl fd fl (k + 1) (by first | assumption | omega | decide) (by first | assumption | omega | decide)) (cwV 1 hts (xgV wm_651 wm_653 wm_11 wm_32 wm_654) rfl rfl rfl (by decide +kernel) ⟨Nat.le_of_ble_eq_true rfl, Nat.le_of_ble_eq_true rfl⟩) ⟨xp_blind, va_recv hK hP (ci := 5) (q0 := 0) rfl rfl, fun U hU hW => ⟨rfl, hz.warm hW, by rw [hU]; exact hP.sub [0, 1, 2] rfl, va_K.moved hW.alike (hK.sub [0, 1] rfl)⟩⟩ rfl rfl hl.1 rfl (lv_room (Nat.le_of_ble_eq_true rfl)) d_LE_closedDifference_4 ⟨Nat.le_of_ble_eq_true rfl, Nat.le_of_ble_eq_true rfl⟩) (fun r_1 h_2 => ?_)
  subst h_2
  refine lv_aload_n hx hb d_LE_closedDifference_7 rfl (lv_at hl 0 rfl) ?_
  refine lv_iload_n hx hb d_LE_closedDifference_8 rfl (lv_at hl 1 rfl) ?_
  refine xr_calll (va_runV (As := [.int (nI k)]) (rest := [.long (sr_sh fd fl nl (k + 1))]) ⟨hx, hb, hml, hown, hts⟩ (c_LE_sharedOver l dC dI h0 qd ql nl cd cl fd fl k (by first | assumption | omega | decide) (by first | assumption | omega | decide)) (cwV 1 hts (xgV wm_651 wm_653 wm_11 wm_32 wm_654) rfl rfl rfl (by decide +kernel) ⟨Nat.le_of_ble_eq_true rfl, Nat.le_of_ble_eq_true rfl⟩) ⟨xp_blind, va_recv hK hP (ci := 5) (q0 := 0) rfl rfl, fun U hU hW => ⟨rfl, hz.warm hW, by rw [hU]; exact hP.sub [0, 1, 2] rfl, va_K.moved hW.alike (hK.sub [0, 1] rfl)⟩⟩ rfl rfl hl.1 rfl (lv_room (Nat.le_of_ble_eq_true rfl)) d_LE_closedDifference_9 ⟨Nat.le_of_ble_eq_true rfl, Nat.le_of_ble_eq_true rfl⟩) (fun r_3 h_4 => ?_)
  subst h_4
  refine lv_lsub hx hb d_LE_closedDifference_12 ?_
  refine lv_lstore_n (lv' := [(2, .long ((sr_sh fd fl nl (k + 1)) - (sr_sh fd fl nl k))), (0, .ref h0), (1, .int (nI k))]) hx hb d_LE_closedDifference_13 rfl hl (by decide) rfl (fun ls hl => ?_)
  refine lv_aload_n hx hb d_LE_closedDifference_14 rfl (lv_at hl 1 rfl) ?_
  refine va_get (D := (dC, dI)) (ci := 5) (v := .ref qd) (C := xR_LE) (T := xT_LE) (N := 3) hx hb hts (fun w h => List.mem_cons_of_mem _ (iw_LE w h)) hown hK hP 0 rfl rfl 0 (by decide) (hts _ (List.mem_cons_of_mem _ wm_213)) (fun _ h9 => h9) rfl d_LE_closedDifference_15 ?_
  refine lv_iload_n hx hb d_LE_closedDifference_18 rfl (lv_at hl 2 rfl) ?_
  refine xa_iald hx hb hK hP 1 0 rfl rfl k rfl (by omega) (by decide) d_LE_closedDifference_19 ?_
  refine lv_i2l (v := (fd k).toInt64) hx hb d_LE_closedDifference_20 rfl ?_
  refine lv_lload_n hx hb d_LE_closedDifference_21 rfl (lv_at hl 0 rfl) ?_
  refine lv_lsub hx hb d_LE_closedDifference_22 ?_
  refine lv_l2i (v := (((fd k).toInt64) - ((sr_sh fd fl nl (k + 1)) - (sr_sh fd fl nl k))).toInt32) hx hb d_LE_closedDifference_23 rfl ?_
  exact xr_iret (v := (((fd k).toInt64) - ((sr_sh fd fl nl (k + 1)) - (sr_sh fd fl nl k))).toInt32) hx hb hr (by exact rfl) d_LE_closedDifference_24 hlocks
set_option maxHeartbeats 4000000 in
set_option maxRecDepth 100000 in
/-- Levels() -/
theorem c_LE_init (l : Launch) (dC : Nat → ClassId) (dI : Nat → Nat → Nat) (sz : Nat) (h0 : Nat)  : Met l xy_LE_init xw_LE_init ({ frames := 1, cells := 2, slots := 24, locals := 12 }) (xp_w [.ref h0] sz (dC, dI) xCl [(h0, .inr (5, [.null, .null, .int 0]))] []) (va_Qv (fun (_ : Unit) => True) (fun _ t => ∃ (qd : Nat) (ql : Nat) (cd : ClassId) (cl : ClassId), xb_w (dC, dI) xCl [(h0, .inr (5, [.ref qd, .ref ql, .int (nI 0)])), (qd, .inl (cd, 12, .inl (fun _ => 0))), (ql, .inl (cl, 12, .inl (fun _ => 0)))] [(cd, .int), (cl, .int)] (va_A [(h0, .inr (5, [.null, .null, .int 0]))] sz) t) (va_A [(h0, .inr (5, [.null, .null, .int 0]))] sz)) 2 24 (va_A [(h0, .inr (5, [.null, .null, .int 0]))] sz) := by
  refine Met.ofW (cc := prog_2_method_1_code) (maxL := 1) (ret := none) (by decide) rfl ?_
  intro p e s m args below meth c s₁ B hml hv
  obtain ⟨rfl, hsz, hz, hP, hK, hD0⟩ := hv
  have hx := B.exec
  have hb := B.bytes
  have hr := B.returns
  have hts := atoms_spec (ws := xw_LE_init) B.pre
  have hown : s.vm.findClass xR_LE = some m.cls := findClass_of_methodNamed B.named
  have hlocks := B.notSynchronized
  have hin : meth.name = "<init>" := (name_of_methodNamed B.named B.method).1
  subst hsz
  have hD := hD0.self (sz := s.heap.size)
  generalize hAe : va_A [(h0, .inr (5, [.null, .null, .int 0]))] s.heap.size = A at hD ⊢
  have hA : ∀ q : Nat, s.heap.size ≤ q → A q := fun q h => by rw [← hAe]; exact Or.inr h
  have hS : va_S A s.heap s.heap [] := va_S.rf
  have hP : va_P (dC, dI) xCl [(h0, .inr (5, [.null, .null, .int 0]))] s.heap := hP
  have hl := lv_entry ([.ref h0]) (n := 1) (Nat.le_of_ble_eq_true rfl)
  rw [lg_entry_eq]
  generalize (lg_sl ([.ref h0]) ++ List.replicate (1 - (lg_sl ([.ref h0])).length) Slot.unset).toArray = ls at hl ⊢
  have hl : lv_has ls 1 [(0, .ref h0)] := hl
  refine lv_aload_n hx hb d_LE_init_0 rfl (lv_at hl 0 rfl) ?_
  refine W.objInit hx hb hown (hts _ (List.mem_cons_of_mem _ wm_212)) (hts _ (List.mem_cons_of_mem _ wm_47)) (hts _ (List.mem_cons_of_mem _ wm_48)) rfl (by rw [hml]; exact hl.1) rfl d_LE_init_1 (Nat.le_of_ble_eq_true rfl) (Nat.le_of_ble_eq_true rfl) ?_
  refine W.eq (g2 := F0 m 4 ls []) rfl ?_
  refine lv_aload_n hx hb d_LE_init_4 rfl (lv_at hl 0 rfl) ?_
  refine lv_bipush (v := 12) hx hb d_LE_init_5 (by decide) ?_
  refine va_newa (atype := .int) (a0 := (12, .inl (fun _ => 0))) (N' := 12) hx hb (hts _ (List.mem_cons_of_mem _ wm_78)) rfl hK hP hD hS hA (fun _ => rfl) (by decide) (by decide) (by decide) (Nat.le_of_ble_eq_true rfl) (Nat.le_of_ble_eq_true rfl) d_LE_init_7 (fun q_1 cA_2 H hK hP hD hS => ?_)
  have hK : va_K (dC, dI) xCl [(cA_2, .int)] s := hK
  have hP : va_P (dC, dI) xCl [(h0, .inr (5, [.null, .null, .int 0])), (q_1, .inl (cA_2, 12, .inl (fun _ => 0)))] H := hP
  have hD : va_D A [(h0, .inr (5, [.null, .null, .int 0])), (q_1, .inl (cA_2, 12, .inl (fun _ => 0)))] := hD
  refine W.widen (k := 1) (n := 12) (by decide) (by decide) ?_
  refine va_putF (D := (dC, dI)) (ci := 5) (v := .ref q_1) (ty := (.array .int)) (C := xR_LE) (T := xT_LE) (N := 3) hx hb hts (fun w h => List.mem_cons_of_mem _ (iw_LE w h)) xt_LE xt_LE_ok xn_LE_nm hown hK hP hD hS 0 rfl rfl 0 (by decide) (hts _ (List.mem_cons_of_mem _ wm_213)) (fun _ h9 => h9) rfl hin rfl (by decide +kernel) rfl rfl (Nat.le_of_ble_eq_true rfl) d_LE_init_9 (fun H locs hP hD hS => ?_)
  have hP : va_P (dC, dI) xCl [(h0, .inr (5, [.ref q_1, .null, .int 0])), (q_1, .inl (cA_2, 12, .inl (fun _ => 0)))] H := hP
  have hD : va_D A [(h0, .inr (5, [.ref q_1, .null, .int 0])), (q_1, .inl (cA_2, 12, .inl (fun _ => 0)))] := hD
  refine lv_aload_n hx hb d_LE_init_12 rfl (lv_at hl 0 rfl) ?_
  refine lv_bipush (v := 12) hx hb d_LE_init_13 (by decide) ?_
  refine va_newa (atype := .int) (a0 := (12, .inl (fun _ => 0))) (N' := 12) hx hb (hts _ (List.mem_cons_of_mem _ wm_78)) rfl hK hP hD hS hA (fun _ => rfl) (by decide) (by decide) (by decide) (Nat.le_of_ble_eq_true rfl) (Nat.le_of_ble_eq_true rfl) d_LE_init_15 (fun q_3 cA_4 H hK hP hD hS => ?_)
  have hK : va_K (dC, dI) xCl [(cA_2, .int), (cA_4, .int)] s := hK
  have hP : va_P (dC, dI) xCl [(h0, .inr (5, [.ref q_1, .null, .int 0])), (q_1, .inl (cA_2, 12, .inl (fun _ => 0))), (q_3, .inl (cA_4, 12, .inl (fun _ => 0)))] H := hP
  have hD : va_D A [(h0, .inr (5, [.ref q_1, .null, .int 0])), (q_1, .inl (cA_2, 12, .inl (fun _ => 0))), (q_3, .inl (cA_4, 12, .inl (fun _ => 0)))] := hD
  refine W.widen (k := 2) (n := 24) (by decide) (by decide) ?_
  refine va_putF (D := (dC, dI)) (ci := 5) (v := .ref q_3) (ty := (.array .int)) (C := xR_LE) (T := xT_LE) (N := 3) hx hb hts (fun w h => List.mem_cons_of_mem _ (iw_LE w h)) xt_LE xt_LE_ok xn_LE_nm hown hK hP hD hS 0 rfl rfl 1 (by decide) (hts _ (List.mem_cons_of_mem _ wm_214)) (fun _ h9 => h9) rfl hin rfl (by decide +kernel) rfl rfl (Nat.le_of_ble_eq_true rfl) d_LE_init_17 (fun H locs hP hD hS => ?_)
  have hP : va_P (dC, dI) xCl [(h0, .inr (5, [.ref q_1, .ref q_3, .int 0])), (q_1, .inl (cA_2, 12, .inl (fun _ => 0))), (q_3, .inl (cA_4, 12, .inl (fun _ => 0)))] H := hP
  have hD : va_D A [(h0, .inr (5, [.ref q_1, .ref q_3, .int 0])), (q_1, .inl (cA_2, 12, .inl (fun _ => 0))), (q_3, .inl (cA_4, 12, .inl (fun _ => 0)))] := hD
  have hP9 := hP.sub (ws' := [(h0, .inr (5, [.ref q_1, .ref q_3, .int 0])), (q_1, .inl (cA_2, 12, .inl (fun _ => 0))), (q_3, .inl (cA_4, 12, .inl (fun _ => 0)))]) [0, 1, 2] rfl
  have hD9 := hD.sub (ws' := [(h0, .inr (5, [.ref q_1, .ref q_3, .int 0])), (q_1, .inl (cA_2, 12, .inl (fun _ => 0))), (q_3, .inl (cA_4, 12, .inl (fun _ => 0)))]) [0, 1, 2] (by decide) rfl
  have hK9 := hK.sub (tys' := [(cA_2, .int), (cA_4, .int)]) [0, 1] rfl
  exact W.vret hx hb hr (fun t ht hW => ⟨⟨(), rfl, trivial, q_1, q_3, cA_2, cA_4, ⟨by rw [ht]; exact hP9, va_K.moved hW.alike hK9, by exact hD9⟩⟩, hS.F ht⟩) hS.2.2 d_LE_init_20 hlocks
