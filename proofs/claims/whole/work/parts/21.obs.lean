theorem d_OB_has_0 : decode prog_3_method_2_code 0 = .ok (.iload_n 1, 1) := by decide +kernel
theorem d_OB_has_1 : decode prog_3_method_2_code 1 = .ok (.ifCond .lt 15, 3) := by decide +kernel
theorem d_OB_has_4 : decode prog_3_method_2_code 4 = .ok (.iload_n 1, 1) := by decide +kernel
theorem d_OB_has_5 : decode prog_3_method_2_code 5 = .ok (.aload_n 0, 1) := by decide +kernel
theorem d_OB_has_6 : decode prog_3_method_2_code 6 = .ok (.getfield 37, 3) := by decide +kernel
theorem d_OB_has_9 : decode prog_3_method_2_code 9 = .ok (.if_icmp .ge 7, 3) := by decide +kernel
theorem d_OB_has_12 : decode prog_3_method_2_code 12 = .ok (.iconst 1, 1) := by decide +kernel
theorem d_OB_has_13 : decode prog_3_method_2_code 13 = .ok (.goto 4, 3) := by decide +kernel
theorem d_OB_has_16 : decode prog_3_method_2_code 16 = .ok (.iconst 0, 1) := by decide +kernel
theorem d_OB_has_17 : decode prog_3_method_2_code 17 = .ok (.ireturn, 1) := by decide +kernel
theorem d_OB_isFull_0 : decode prog_3_method_3_code 0 = .ok (.aload_n 0, 1) := by decide +kernel
theorem d_OB_isFull_1 : decode prog_3_method_3_code 1 = .ok (.getfield 37, 3) := by decide +kernel
theorem d_OB_isFull_4 : decode prog_3_method_3_code 4 = .ok (.bipush 20, 2) := by decide +kernel
theorem d_OB_isFull_6 : decode prog_3_method_3_code 6 = .ok (.if_icmp .lt 7, 3) := by decide +kernel
theorem d_OB_isFull_9 : decode prog_3_method_3_code 9 = .ok (.iconst 1, 1) := by decide +kernel
theorem d_OB_isFull_10 : decode prog_3_method_3_code 10 = .ok (.goto 4, 3) := by decide +kernel
theorem d_OB_isFull_13 : decode prog_3_method_3_code 13 = .ok (.iconst 0, 1) := by decide +kernel
theorem d_OB_isFull_14 : decode prog_3_method_3_code 14 = .ok (.ireturn, 1) := by decide +kernel
theorem d_OB_add_0 : decode prog_3_method_4_code 0 = .ok (.aload_n 0, 1) := by decide +kernel
theorem d_OB_add_1 : decode prog_3_method_4_code 1 = .ok (.getfield 9, 3) := by decide +kernel
theorem d_OB_add_4 : decode prog_3_method_4_code 4 = .ok (.aload_n 0, 1) := by decide +kernel
theorem d_OB_add_5 : decode prog_3_method_4_code 5 = .ok (.getfield 37, 3) := by decide +kernel
theorem d_OB_add_8 : decode prog_3_method_4_code 8 = .ok (.aload_n 1, 1) := by decide +kernel
theorem d_OB_add_9 : decode prog_3_method_4_code 9 = .ok (.getfield 41, 3) := by decide +kernel
theorem d_OB_add_12 : decode prog_3_method_4_code 12 = .ok (.iload_n 2, 1) := by decide +kernel
theorem d_OB_add_13 : decode prog_3_method_4_code 13 = .ok (.iaload, 1) := by decide +kernel
theorem d_OB_add_14 : decode prog_3_method_4_code 14 = .ok (.iastore, 1) := by decide +kernel
theorem d_OB_add_15 : decode prog_3_method_4_code 15 = .ok (.aload_n 0, 1) := by decide +kernel
theorem d_OB_add_16 : decode prog_3_method_4_code 16 = .ok (.getfield 15, 3) := by decide +kernel
theorem d_OB_add_19 : decode prog_3_method_4_code 19 = .ok (.aload_n 0, 1) := by decide +kernel
theorem d_OB_add_20 : decode prog_3_method_4_code 20 = .ok (.getfield 37, 3) := by decide +kernel
theorem d_OB_add_23 : decode prog_3_method_4_code 23 = .ok (.aload_n 1, 1) := by decide +kernel
theorem d_OB_add_24 : decode prog_3_method_4_code 24 = .ok (.getfield 46, 3) := by decide +kernel
theorem d_OB_add_27 : decode prog_3_method_4_code 27 = .ok (.iload_n 2, 1) := by decide +kernel
theorem d_OB_add_28 : decode prog_3_method_4_code 28 = .ok (.iaload, 1) := by decide +kernel
theorem d_OB_add_29 : decode prog_3_method_4_code 29 = .ok (.iastore, 1) := by decide +kernel
theorem d_OB_add_30 : decode prog_3_method_4_code 30 = .ok (.aload_n 0, 1) := by decide +kernel
theorem d_OB_add_31 : decode prog_3_method_4_code 31 = .ok (.getfield 18, 3) := by decide +kernel
theorem d_OB_add_34 : decode prog_3_method_4_code 34 = .ok (.aload_n 0, 1) := by decide +kernel
theorem d_OB_add_35 : decode prog_3_method_4_code 35 = .ok (.getfield 37, 3) := by decide +kernel
theorem d_OB_add_38 : decode prog_3_method_4_code 38 = .ok (.aload_n 1, 1) := by decide +kernel
theorem d_OB_add_39 : decode prog_3_method_4_code 39 = .ok (.getfield 49, 3) := by decide +kernel
theorem d_OB_add_42 : decode prog_3_method_4_code 42 = .ok (.iload_n 2, 1) := by decide +kernel
theorem d_OB_add_43 : decode prog_3_method_4_code 43 = .ok (.iaload, 1) := by decide +kernel
theorem d_OB_add_44 : decode prog_3_method_4_code 44 = .ok (.iastore, 1) := by decide +kernel
theorem d_OB_add_45 : decode prog_3_method_4_code 45 = .ok (.aload_n 0, 1) := by decide +kernel
theorem d_OB_add_46 : decode prog_3_method_4_code 46 = .ok (.getfield 21, 3) := by decide +kernel
theorem d_OB_add_49 : decode prog_3_method_4_code 49 = .ok (.aload_n 0, 1) := by decide +kernel
theorem d_OB_add_50 : decode prog_3_method_4_code 50 = .ok (.getfield 37, 3) := by decide +kernel
theorem d_OB_add_53 : decode prog_3_method_4_code 53 = .ok (.iload_n 3, 1) := by decide +kernel
theorem d_OB_add_54 : decode prog_3_method_4_code 54 = .ok (.iastore, 1) := by decide +kernel
theorem d_OB_add_55 : decode prog_3_method_4_code 55 = .ok (.aload_n 0, 1) := by decide +kernel
theorem d_OB_add_56 : decode prog_3_method_4_code 56 = .ok (.getfield 24, 3) := by decide +kernel
theorem d_OB_add_59 : decode prog_3_method_4_code 59 = .ok (.aload_n 0, 1) := by decide +kernel
theorem d_OB_add_60 : decode prog_3_method_4_code 60 = .ok (.getfield 37, 3) := by decide +kernel
theorem d_OB_add_63 : decode prog_3_method_4_code 63 = .ok (.iload 4, 2) := by decide +kernel
theorem d_OB_add_65 : decode prog_3_method_4_code 65 = .ok (.iastore, 1) := by decide +kernel
theorem d_OB_add_66 : decode prog_3_method_4_code 66 = .ok (.aload_n 0, 1) := by decide +kernel
theorem d_OB_add_67 : decode prog_3_method_4_code 67 = .ok (.getfield 27, 3) := by decide +kernel
theorem d_OB_add_70 : decode prog_3_method_4_code 70 = .ok (.aload_n 0, 1) := by decide +kernel
theorem d_OB_add_71 : decode prog_3_method_4_code 71 = .ok (.getfield 37, 3) := by decide +kernel
theorem d_OB_add_74 : decode prog_3_method_4_code 74 = .ok (.iload 5, 2) := by decide +kernel
theorem d_OB_add_76 : decode prog_3_method_4_code 76 = .ok (.iastore, 1) := by decide +kernel
theorem d_OB_add_77 : decode prog_3_method_4_code 77 = .ok (.aload_n 0, 1) := by decide +kernel
theorem d_OB_add_78 : decode prog_3_method_4_code 78 = .ok (.getfield 30, 3) := by decide +kernel
theorem d_OB_add_81 : decode prog_3_method_4_code 81 = .ok (.aload_n 0, 1) := by decide +kernel
theorem d_OB_add_82 : decode prog_3_method_4_code 82 = .ok (.getfield 37, 3) := by decide +kernel
theorem d_OB_add_85 : decode prog_3_method_4_code 85 = .ok (.iconst 0, 1) := by decide +kernel
theorem d_OB_add_86 : decode prog_3_method_4_code 86 = .ok (.iastore, 1) := by decide +kernel
theorem d_OB_add_87 : decode prog_3_method_4_code 87 = .ok (.aload_n 0, 1) := by decide +kernel
theorem d_OB_add_88 : decode prog_3_method_4_code 88 = .ok (.getfield 33, 3) := by decide +kernel
theorem d_OB_add_91 : decode prog_3_method_4_code 91 = .ok (.aload_n 0, 1) := by decide +kernel
theorem d_OB_add_92 : decode prog_3_method_4_code 92 = .ok (.getfield 37, 3) := by decide +kernel
theorem d_OB_add_95 : decode prog_3_method_4_code 95 = .ok (.iconst 1, 1) := by decide +kernel
theorem d_OB_add_96 : decode prog_3_method_4_code 96 = .ok (.bastore, 1) := by decide +kernel
theorem d_OB_add_97 : decode prog_3_method_4_code 97 = .ok (.aload_n 0, 1) := by decide +kernel
theorem d_OB_add_98 : decode prog_3_method_4_code 98 = .ok (.dup, 1) := by decide +kernel
theorem d_OB_add_99 : decode prog_3_method_4_code 99 = .ok (.getfield 37, 3) := by decide +kernel
theorem d_OB_add_102 : decode prog_3_method_4_code 102 = .ok (.iconst 1, 1) := by decide +kernel
theorem d_OB_add_103 : decode prog_3_method_4_code 103 = .ok (.iadd, 1) := by decide +kernel
theorem d_OB_add_104 : decode prog_3_method_4_code 104 = .ok (.putfield 37, 3) := by decide +kernel
theorem d_OB_add_107 : decode prog_3_method_4_code 107 = .ok (.aload_n 0, 1) := by decide +kernel
theorem d_OB_add_108 : decode prog_3_method_4_code 108 = .ok (.getfield 37, 3) := by decide +kernel
theorem d_OB_add_111 : decode prog_3_method_4_code 111 = .ok (.iconst 1, 1) := by decide +kernel
theorem d_OB_add_112 : decode prog_3_method_4_code 112 = .ok (.isub, 1) := by decide +kernel
theorem d_OB_add_113 : decode prog_3_method_4_code 113 = .ok (.ireturn, 1) := by decide +kernel
theorem d_OB_countUsed_0 : decode prog_3_method_5_code 0 = .ok (.iconst 0, 1) := by decide +kernel
theorem d_OB_countUsed_1 : decode prog_3_method_5_code 1 = .ok (.istore_n 1, 1) := by decide +kernel
theorem d_OB_countUsed_2 : decode prog_3_method_5_code 2 = .ok (.iconst 0, 1) := by decide +kernel
theorem d_OB_countUsed_3 : decode prog_3_method_5_code 3 = .ok (.istore_n 2, 1) := by decide +kernel
theorem d_OB_countUsed_4 : decode prog_3_method_5_code 4 = .ok (.iload_n 2, 1) := by decide +kernel
theorem d_OB_countUsed_5 : decode prog_3_method_5_code 5 = .ok (.aload_n 0, 1) := by decide +kernel
theorem d_OB_countUsed_6 : decode prog_3_method_5_code 6 = .ok (.getfield 37, 3) := by decide +kernel
theorem d_OB_countUsed_9 : decode prog_3_method_5_code 9 = .ok (.if_icmp .ge 26, 3) := by decide +kernel
theorem d_OB_countUsed_12 : decode prog_3_method_5_code 12 = .ok (.iload_n 1, 1) := by decide +kernel
theorem d_OB_countUsed_13 : decode prog_3_method_5_code 13 = .ok (.aload_n 0, 1) := by decide +kernel
theorem d_OB_countUsed_14 : decode prog_3_method_5_code 14 = .ok (.getfield 33, 3) := by decide +kernel
theorem d_OB_countUsed_17 : decode prog_3_method_5_code 17 = .ok (.iload_n 2, 1) := by decide +kernel
theorem d_OB_countUsed_18 : decode prog_3_method_5_code 18 = .ok (.baload, 1) := by decide +kernel
theorem d_OB_countUsed_19 : decode prog_3_method_5_code 19 = .ok (.ifCond .eq 7, 3) := by decide +kernel
theorem d_OB_countUsed_22 : decode prog_3_method_5_code 22 = .ok (.iconst 1, 1) := by decide +kernel
theorem d_OB_countUsed_23 : decode prog_3_method_5_code 23 = .ok (.goto 4, 3) := by decide +kernel
theorem d_OB_countUsed_26 : decode prog_3_method_5_code 26 = .ok (.iconst 0, 1) := by decide +kernel
theorem d_OB_countUsed_27 : decode prog_3_method_5_code 27 = .ok (.iadd, 1) := by decide +kernel
theorem d_OB_countUsed_28 : decode prog_3_method_5_code 28 = .ok (.istore_n 1, 1) := by decide +kernel
theorem d_OB_countUsed_29 : decode prog_3_method_5_code 29 = .ok (.iinc 2 1, 3) := by decide +kernel
theorem d_OB_countUsed_32 : decode prog_3_method_5_code 32 = .ok (.goto (-28), 3) := by decide +kernel
theorem d_OB_countUsed_35 : decode prog_3_method_5_code 35 = .ok (.iload_n 1, 1) := by decide +kernel
theorem d_OB_countUsed_36 : decode prog_3_method_5_code 36 = .ok (.ireturn, 1) := by decide +kernel
theorem d_OB_upLessPrism_0 : decode prog_3_method_6_code 0 = .ok (.aload_n 0, 1) := by decide +kernel
theorem d_OB_upLessPrism_1 : decode prog_3_method_6_code 1 = .ok (.getfield 27, 3) := by decide +kernel
theorem d_OB_upLessPrism_4 : decode prog_3_method_6_code 4 = .ok (.iload_n 1, 1) := by decide +kernel
theorem d_OB_upLessPrism_5 : decode prog_3_method_6_code 5 = .ok (.iaload, 1) := by decide +kernel
theorem d_OB_upLessPrism_6 : decode prog_3_method_6_code 6 = .ok (.aload_n 0, 1) := by decide +kernel
theorem d_OB_upLessPrism_7 : decode prog_3_method_6_code 7 = .ok (.getfield 30, 3) := by decide +kernel
theorem d_OB_upLessPrism_10 : decode prog_3_method_6_code 10 = .ok (.iload_n 1, 1) := by decide +kernel
theorem d_OB_upLessPrism_11 : decode prog_3_method_6_code 11 = .ok (.iaload, 1) := by decide +kernel
theorem d_OB_upLessPrism_12 : decode prog_3_method_6_code 12 = .ok (.isub, 1) := by decide +kernel
theorem d_OB_upLessPrism_13 : decode prog_3_method_6_code 13 = .ok (.ireturn, 1) := by decide +kernel
theorem d_OB_init_0 : decode prog_3_method_1_code 0 = .ok (.aload_n 0, 1) := by decide +kernel
theorem d_OB_init_1 : decode prog_3_method_1_code 1 = .ok (.invokespecial 3, 3) := by decide +kernel
theorem d_OB_init_4 : decode prog_3_method_1_code 4 = .ok (.aload_n 0, 1) := by decide +kernel
theorem d_OB_init_5 : decode prog_3_method_1_code 5 = .ok (.bipush 20, 2) := by decide +kernel
theorem d_OB_init_7 : decode prog_3_method_1_code 7 = .ok (.newarray .int, 2) := by decide +kernel
theorem d_OB_init_9 : decode prog_3_method_1_code 9 = .ok (.putfield 9, 3) := by decide +kernel
theorem d_OB_init_12 : decode prog_3_method_1_code 12 = .ok (.aload_n 0, 1) := by decide +kernel
theorem d_OB_init_13 : decode prog_3_method_1_code 13 = .ok (.bipush 20, 2) := by decide +kernel
theorem d_OB_init_15 : decode prog_3_method_1_code 15 = .ok (.newarray .int, 2) := by decide +kernel
theorem d_OB_init_17 : decode prog_3_method_1_code 17 = .ok (.putfield 15, 3) := by decide +kernel
theorem d_OB_init_20 : decode prog_3_method_1_code 20 = .ok (.aload_n 0, 1) := by decide +kernel
theorem d_OB_init_21 : decode prog_3_method_1_code 21 = .ok (.bipush 20, 2) := by decide +kernel
theorem d_OB_init_23 : decode prog_3_method_1_code 23 = .ok (.newarray .int, 2) := by decide +kernel
theorem d_OB_init_25 : decode prog_3_method_1_code 25 = .ok (.putfield 18, 3) := by decide +kernel
theorem d_OB_init_28 : decode prog_3_method_1_code 28 = .ok (.aload_n 0, 1) := by decide +kernel
theorem d_OB_init_29 : decode prog_3_method_1_code 29 = .ok (.bipush 20, 2) := by decide +kernel
theorem d_OB_init_31 : decode prog_3_method_1_code 31 = .ok (.newarray .int, 2) := by decide +kernel
theorem d_OB_init_33 : decode prog_3_method_1_code 33 = .ok (.putfield 21, 3) := by decide +kernel
theorem d_OB_init_36 : decode prog_3_method_1_code 36 = .ok (.aload_n 0, 1) := by decide +kernel
theorem d_OB_init_37 : decode prog_3_method_1_code 37 = .ok (.bipush 20, 2) := by decide +kernel
theorem d_OB_init_39 : decode prog_3_method_1_code 39 = .ok (.newarray .int, 2) := by decide +kernel
theorem d_OB_init_41 : decode prog_3_method_1_code 41 = .ok (.putfield 24, 3) := by decide +kernel
theorem d_OB_init_44 : decode prog_3_method_1_code 44 = .ok (.aload_n 0, 1) := by decide +kernel
theorem d_OB_init_45 : decode prog_3_method_1_code 45 = .ok (.bipush 20, 2) := by decide +kernel
theorem d_OB_init_47 : decode prog_3_method_1_code 47 = .ok (.newarray .int, 2) := by decide +kernel
theorem d_OB_init_49 : decode prog_3_method_1_code 49 = .ok (.putfield 27, 3) := by decide +kernel
theorem d_OB_init_52 : decode prog_3_method_1_code 52 = .ok (.aload_n 0, 1) := by decide +kernel
theorem d_OB_init_53 : decode prog_3_method_1_code 53 = .ok (.bipush 20, 2) := by decide +kernel
theorem d_OB_init_55 : decode prog_3_method_1_code 55 = .ok (.newarray .int, 2) := by decide +kernel
theorem d_OB_init_57 : decode prog_3_method_1_code 57 = .ok (.putfield 30, 3) := by decide +kernel
theorem d_OB_init_60 : decode prog_3_method_1_code 60 = .ok (.aload_n 0, 1) := by decide +kernel
theorem d_OB_init_61 : decode prog_3_method_1_code 61 = .ok (.bipush 20, 2) := by decide +kernel
theorem d_OB_init_63 : decode prog_3_method_1_code 63 = .ok (.newarray .boolean, 2) := by decide +kernel
theorem d_OB_init_65 : decode prog_3_method_1_code 65 = .ok (.putfield 33, 3) := by decide +kernel
theorem d_OB_init_68 : decode prog_3_method_1_code 68 = .ok (.return_, 1) := by decide +kernel
set_option maxHeartbeats 4000000 in
set_option maxRecDepth 100000 in
/-- Observations.has -/
theorem c_OB_has (l : Launch) (dC : Nat → ClassId) (dI : Nat → Nat → Nat) (h0 : Nat) (qx : Nat) (qy : Nat) (qz : Nat) (qu : Nat) (qv : Nat) (qw : Nat) (qp : Nat) (qe : Nat) (no : Nat) (a : Int32) (hc : no < 2 ^ 31) : Met l xy_OB_has xw_OB_has ({ frames := 0, cells := 0, slots := 0, locals := 0 }) (xp_r [.ref h0, .int a] (dC, dI) xCl [(h0, .inr (2, [.ref qx, .ref qy, .ref qz, .ref qu, .ref qv, .ref qw, .ref qp, .ref qe, .int (nI no)]))] []) (xr_i (fun r => r = bI (xin a no))) 0 0 (fun _ => False) := by
  refine Met.ofW (cc := prog_3_method_2_code) (maxL := 2) (ret := (some .boolean)) (by decide) rfl ?_
  intro p e s m args below meth c s₁ B hml hv
  obtain ⟨rfl, hz, hP, hK⟩ := hv
  have hx := B.exec
  have hb := B.bytes
  have hr := B.returns
  have hts := atoms_spec (ws := xw_OB_has) B.pre
  have hown : s.vm.findClass xR_OB = some m.cls := findClass_of_methodNamed B.named
  have hlocks := B.notSynchronized
  have hP : va_P (dC, dI) xCl [(h0, .inr (2, [.ref qx, .ref qy, .ref qz, .ref qu, .ref qv, .ref qw, .ref qp, .ref qe, .int (nI no)]))] s.heap := hP
  have hl := lv_entry ([.ref h0, .int a]) (n := 2) (Nat.le_of_ble_eq_true rfl)
  rw [lg_entry_eq]
  generalize (lg_sl ([.ref h0, .int a]) ++ List.replicate (2 - (lg_sl ([.ref h0, .int a])).length) Slot.unset).toArray = ls at hl ⊢
  have hl : lv_has ls 2 [(0, .ref h0), (1, .int a)] := hl
  refine lv_iload_n hx hb d_OB_has_0 rfl (lv_at hl 1 rfl) ?_
  refine lv_if_lt (tgt := 16) hx hb d_OB_has_1 (by decide) (fun c_1 => ?_) (fun c_1 => ?_)
  · refine lv_iconst (v := 0) hx hb d_OB_has_16 (by decide) ?_
    exact xr_zret (v := 0) (ty := .boolean) hx hb hr (by exact rfl) (by exact bI_n (xn_notin0 c_1)) d_OB_has_17 hlocks
  · refine lv_iload_n hx hb d_OB_has_4 rfl (lv_at hl 1 rfl) ?_
    refine lv_aload_n hx hb d_OB_has_5 rfl (lv_at hl 0 rfl) ?_
    refine va_get (D := (dC, dI)) (ci := 2) (v := .int (nI no)) (C := xR_OB) (T := xT_OB) (N := 9) hx hb hts (fun w h => List.mem_cons_of_mem _ (iw_OB w h)) hown hK hP 0 rfl rfl 8 (by decide) (hts _ (List.mem_cons_of_mem _ wm_107)) (fun _ h9 => h9) rfl d_OB_has_6 ?_
    refine lv_icmp_ge (tgt := 16) hx hb d_OB_has_9 (by decide) (fun c_2 => ?_) (fun c_2 => ?_)
    · refine lv_iconst (v := 0) hx hb d_OB_has_16 (by decide) ?_
      exact xr_zret (v := 0) (ty := .boolean) hx hb hr (by exact rfl) (by exact bI_n (xn_notin1 c_2 hc)) d_OB_has_17 hlocks
    · refine lv_iconst (v := 1) hx hb d_OB_has_12 (by decide) ?_
      refine lv_goto (tgt := 17) hx hb d_OB_has_13 (by decide) ?_
      exact xr_zret (v := 1) (ty := .boolean) hx hb hr (by exact rfl) (by exact bI_p (xn_in c_1 (Int32.not_le.mp c_2) hc)) d_OB_has_17 hlocks
set_option maxHeartbeats 4000000 in
set_option maxRecDepth 100000 in
/-- Observations.isFull -/
theorem c_OB_isFull (l : Launch) (dC : Nat → ClassId) (dI : Nat → Nat → Nat) (h0 : Nat) (qx : Nat) (qy : Nat) (qz : Nat) (qu : Nat) (qv : Nat) (qw : Nat) (qp : Nat) (qe : Nat) (no : Nat) (hc : no < 2 ^ 31) : Met l xy_OB_isFull xw_OB_isFull ({ frames := 0, cells := 0, slots := 0, locals := 0 }) (xp_r [.ref h0] (dC, dI) xCl [(h0, .inr (2, [.ref qx, .ref qy, .ref qz, .ref qu, .ref qv, .ref qw, .ref qp, .ref qe, .int (nI no)]))] []) (xr_i (fun r => r = bI (20 ≤ no))) 0 0 (fun _ => False) := by
  refine Met.ofW (cc := prog_3_method_3_code) (maxL := 1) (ret := (some .boolean)) (by decide) rfl ?_
  intro p e s m args below meth c s₁ B hml hv
  obtain ⟨rfl, hz, hP, hK⟩ := hv
  have hx := B.exec
  have hb := B.bytes
  have hr := B.returns
  have hts := atoms_spec (ws := xw_OB_isFull) B.pre
  have hown : s.vm.findClass xR_OB = some m.cls := findClass_of_methodNamed B.named
  have hlocks := B.notSynchronized
  have hP : va_P (dC, dI) xCl [(h0, .inr (2, [.ref qx, .ref qy, .ref qz, .ref qu, .ref qv, .ref qw, .ref qp, .ref qe, .int (nI no)]))] s.heap := hP
  have hl := lv_entry ([.ref h0]) (n := 1) (Nat.le_of_ble_eq_true rfl)
  rw [lg_entry_eq]
  generalize (lg_sl ([.ref h0]) ++ List.replicate (1 - (lg_sl ([.ref h0])).length) Slot.unset).toArray = ls at hl ⊢
  have hl : lv_has ls 1 [(0, .ref h0)] := hl
  refine lv_aload_n hx hb d_OB_isFull_0 rfl (lv_at hl 0 rfl) ?_
  refine va_get (D := (dC, dI)) (ci := 2) (v := .int (nI no)) (C := xR_OB) (T := xT_OB) (N := 9) hx hb hts (fun w h => List.mem_cons_of_mem _ (iw_OB w h)) hown hK hP 0 rfl rfl 8 (by decide) (hts _ (List.mem_cons_of_mem _ wm_107)) (fun _ h9 => h9) rfl d_OB_isFull_1 ?_
  refine lv_bipush (v := 20) hx hb d_OB_isFull_4 (by decide) ?_
  refine lv_icmp_lt (tgt := 13) hx hb d_OB_isFull_6 (by decide) (fun c_1 => ?_) (fun c_1 => ?_)
  · have n_2 := xn_lt (a := no) (b := 20) c_1 rfl (by decide) (by omega) (by omega)
    refine lv_iconst (v := 0) hx hb d_OB_isFull_13 (by decide) ?_
    exact xr_zret (v := 0) (ty := .boolean) hx hb hr (by exact rfl) (by exact bI_n (by omega)) d_OB_isFull_14 hlocks
  · have n_3 := xn_nlt (a := no) (b := 20) c_1 rfl (by decide) (by omega) (by omega)
    refine lv_iconst (v := 1) hx hb d_OB_isFull_9 (by decide) ?_
    refine lv_goto (tgt := 14) hx hb d_OB_isFull_10 (by decide) ?_
    exact xr_zret (v := 1) (ty := .boolean) hx hb hr (by exact rfl) (by exact bI_p n_3) d_OB_isFull_14 hlocks
set_option maxHeartbeats 4000000 in
set_option maxRecDepth 100000 in
/-- Observations.add -/
theorem c_OB_add (l : Launch) (dC : Nat → ClassId) (dI : Nat → Nat → Nat) (sz : Nat) (h0 : Nat) (qx : Nat) (qy : Nat) (qz : Nat) (qu : Nat) (qv : Nat) (qw : Nat) (qp : Nat) (qe : Nat) (no : Nat) (cx : ClassId) (cy : ClassId) (cz : ClassId) (cu : ClassId) (cv : ClassId) (cw : ClassId) (cp : ClassId) (ce : ClassId) (fx : Nat → Int32) (fy : Nat → Int32) (fz : Nat → Int32) (fu : Nat → Int32) (fv : Nat → Int32) (fw : Nat → Int32) (fp : Nat → Int32) (fe : Nat → Int32) (h1 : Nat) (q1 : Nat) (q2 : Nat) (q3 : Nat) (nm : Nat) (k : Nat) (n : Nat) (c1 : ClassId) (c2 : ClassId) (c3 : ClassId) (g1 : Nat → Int32) (g2 : Nat → Int32) (g3 : Nat → Int32) (a : Int32) (b : Int32) (d : Int32) (hc : no < 20) (hk : k < n) (hn : n < 2 ^ 31) : Met l xy_OB_add xw_OB_add ({ frames := 0, cells := 0, slots := 0, locals := 0 }) (xp_w [.ref h0, .ref h1, .int (nI k), .int a, .int b, .int d] sz (dC, dI) xCl [(h0, .inr (2, [.ref qx, .ref qy, .ref qz, .ref qu, .ref qv, .ref qw, .ref qp, .ref qe, .int (nI no)])), (qx, .inl (cx, 20, .inl fx)), (qy, .inl (cy, 20, .inl fy)), (qz, .inl (cz, 20, .inl fz)), (qu, .inl (cu, 20, .inl fu)), (qv, .inl (cv, 20, .inl fv)), (qw, .inl (cw, 20, .inl fw)), (qp, .inl (cp, 20, .inl fp)), (qe, .inl (ce, 20, .inl fe)), (h1, .inr (1, [.ref q1, .ref q2, .ref q3, .int (nI nm)])), (q1, .inl (c1, n, .inl g1)), (q2, .inl (c2, n, .inl g2)), (q3, .inl (c3, n, .inl g3))] [(cx, .int), (cy, .int), (cz, .int), (cu, .int), (cv, .int), (cw, .int), (cp, .int), (ce, .boolean), (c1, .int), (c2, .int), (c3, .int)]) (va_Qi (fun (r : Int32) (_ : Unit) => r = nI no) (fun _ t => xb_w (dC, dI) xCl [(h0, .inr (2, [.ref qx, .ref qy, .ref qz, .ref qu, .ref qv, .ref qw, .ref qp, .ref qe, .int (nI (no + 1))])), (qx, .inl (cx, 20, .inl (upd fx no (g1 k)))), (qy, .inl (cy, 20, .inl (upd fy no (g2 k)))), (qz, .inl (cz, 20, .inl (upd fz no (g3 k)))), (qu, .inl (cu, 20, .inl (upd fu no a))), (qv, .inl (cv, 20, .inl (upd fv no b))), (qw, .inl (cw, 20, .inl (upd fw no d))), (qp, .inl (cp, 20, .inl (upd fp no 0))), (qe, .inl (ce, 20, .inl (upd fe no 1))), (h1, .inr (1, [.ref q1, .ref q2, .ref q3, .int (nI nm)])), (q1, .inl (c1, n, .inl g1)), (q2, .inl (c2, n, .inl g2)), (q3, .inl (c3, n, .inl g3))] [(cx, .int), (cy, .int), (cz, .int), (cu, .int), (cv, .int), (cw, .int), (cp, .int), (ce, .boolean), (c1, .int), (c2, .int), (c3, .int)] (va_A [(h0, .inr (2, [.ref qx, .ref qy, .ref qz, .ref qu, .ref qv, .ref qw, .ref qp, .ref qe, .int (nI no)])), (qx, .inl (cx, 20, .inl fx)), (qy, .inl (cy, 20, .inl fy)), (qz, .inl (cz, 20, .inl fz)), (qu, .inl (cu, 20, .inl fu)), (qv, .inl (cv, 20, .inl fv)), (qw, .inl (cw, 20, .inl fw)), (qp, .inl (cp, 20, .inl fp)), (qe, .inl (ce, 20, .inl fe)), (h1, .inr (1, [.ref q1, .ref q2, .ref q3, .int (nI nm)])), (q1, .inl (c1, n, .inl g1)), (q2, .inl (c2, n, .inl g2)), (q3, .inl (c3, n, .inl g3))] sz) t) (va_A [(h0, .inr (2, [.ref qx, .ref qy, .ref qz, .ref qu, .ref qv, .ref qw, .ref qp, .ref qe, .int (nI no)])), (qx, .inl (cx, 20, .inl fx)), (qy, .inl (cy, 20, .inl fy)), (qz, .inl (cz, 20, .inl fz)), (qu, .inl (cu, 20, .inl fu)), (qv, .inl (cv, 20, .inl fv)), (qw, .inl (cw, 20, .inl fw)), (qp, .inl (cp, 20, .inl fp)), (qe, .inl (ce, 20, .inl fe)), (h1, .inr (1, [.ref q1, .ref q2, .ref q3, .int (nI nm)])), (q1, .inl (c1, n, .inl g1)), (q2, .inl (c2, n, .inl g2)), (q3, .inl (c3, n, .inl g3))] sz)) 0 0 (va_A [(h0, .inr (2, [.ref qx, .ref qy, .ref qz, .ref qu, .ref qv, .ref qw, .ref qp, .ref qe, .int (nI no)])), (qx, .inl (cx, 20, .inl fx)), (qy, .inl (cy, 20, .inl fy)), (qz, .inl (cz, 20, .inl fz)), (qu, .inl (cu, 20, .inl fu)), (qv, .inl (cv, 20, .inl fv)), (qw, .inl (cw, 20, .inl fw)), (qp, .inl (cp, 20, .inl fp)), (qe, .inl (ce, 20, .inl fe)), (h1, .inr (1, [.ref q1, .ref q2, .ref q3, .int (nI nm)])), (q1, .inl (c1, n, .inl g1)), (q2, .inl (c2, n, .inl g2)), (q3, .inl (c3, n, .inl g3))] sz) := by
  refine Met.ofW (cc := prog_3_method_4_code) (maxL := 6) (ret := (some .int)) (by decide) rfl ?_
  intro p e s m args below meth c s₁ B hml hv
  obtain ⟨rfl, hsz, hz, hP, hK, hD0⟩ := hv
  have hx := B.exec
  have hb := B.bytes
  have hr := B.returns
  have hts := atoms_spec (ws := xw_OB_add) B.pre
  have hown : s.vm.findClass xR_OB = some m.cls := findClass_of_methodNamed B.named
  have hlocks := B.notSynchronized
  subst hsz
  have hD := hD0.self (sz := s.heap.size)
  generalize hAe : va_A [(h0, .inr (2, [.ref qx, .ref qy, .ref qz, .ref qu, .ref qv, .ref qw, .ref qp, .ref qe, .int (nI no)])), (qx, .inl (cx, 20, .inl fx)), (qy, .inl (cy, 20, .inl fy)), (qz, .inl (cz, 20, .inl fz)), (qu, .inl (cu, 20, .inl fu)), (qv, .inl (cv, 20, .inl fv)), (qw, .inl (cw, 20, .inl fw)), (qp, .inl (cp, 20, .inl fp)), (qe, .inl (ce, 20, .inl fe)), (h1, .inr (1, [.ref q1, .ref q2, .ref q3, .int (nI nm)])), (q1, .inl (c1, n, .inl g1)), (q2, .inl (c2, n, .inl g2)), (q3, .inl (c3, n, .inl g3))] s.heap.size = A at hD ⊢
  have hA : ∀ q : Nat, s.heap.size ≤ q → A q := fun q h => by rw [← hAe]; exact Or.inr h
  have hS : va_S A s.heap s.heap [] := va_S.rf
  have hP : va_P (dC, dI) xCl [(h0, .inr (2, [.ref qx, .ref qy, .ref qz, .ref qu, .ref qv, .ref qw, .ref qp, .ref qe, .int (nI no)])), (qx, .inl (cx, 20, .inl fx)), (qy, .inl (cy, 20, .inl fy)), (qz, .inl (cz, 20, .inl fz)), (qu, .inl (cu, 20, .inl fu)), (qv, .inl (cv, 20, .inl fv)), (qw, .inl (cw, 20, .inl fw)), (qp, .inl (cp, 20, .inl fp)), (qe, .inl (ce, 20, .inl fe)), (h1, .inr (1, [.ref q1, .ref q2, .ref q3, .int (nI nm)])), (q1, .inl (c1, n, .inl g1)), (q2, .inl (c2, n, .inl g2)), (q3, .inl (c3, n, .inl g3))] s.heap := hP
  have hl := lv_entry ([.ref h0, .ref h1, .int (nI k), .int a, .int b, .int d]) (n := 6) (Nat.le_of_ble_eq_true rfl)
  rw [lg_entry_eq]
  generalize (lg_sl ([.ref h0, .ref h1, .int (nI k), .int a, .int b, .int d]) ++ List.replicate (6 - (lg_sl ([.ref h0, .ref h1, .int (nI k), .int a, .int b, .int d])).length) Slot.unset).toArray = ls at hl ⊢
  have hl : lv_has ls 6 [(0, .ref h0), (1, .ref h1), (2, .int (nI k)), (3, .int a), (4, .int b), (5, .int d)] := hl
  refine lv_aload_n hx hb d_OB_add_0 rfl (lv_at hl 0 rfl) ?_
  refine va_get (D := (dC, dI)) (ci := 2) (v := .ref qx) (C := xR_OB) (T := xT_OB) (N := 9) hx hb hts (fun w h => List.mem_cons_of_mem _ (iw_OB w h)) hown hK hP 0 rfl rfl 0 (by decide) (hts _ (List.mem_cons_of_mem _ wm_85)) (fun _ h9 => h9) rfl d_OB_add_1 ?_
  refine lv_aload_n hx hb d_OB_add_4 rfl (lv_at hl 0 rfl) ?_
  refine va_get (D := (dC, dI)) (ci := 2) (v := .int (nI no)) (C := xR_OB) (T := xT_OB) (N := 9) hx hb hts (fun w h => List.mem_cons_of_mem _ (iw_OB w h)) hown hK hP 0 rfl rfl 8 (by decide) (hts _ (List.mem_cons_of_mem _ wm_107)) (fun _ h9 => h9) rfl d_OB_add_5 ?_
  refine lv_aload_n hx hb d_OB_add_8 rfl (lv_at hl 1 rfl) ?_
  refine va_get (D := (dC, dI)) (ci := 1) (v := .ref q1) (C := xR_SP) (T := xT_SP) (N := 4) hx hb hts (fun w h => List.mem_cons_of_mem _ (iw_SP w h)) hown hK hP 9 rfl rfl 0 (by decide) (hts _ (List.mem_cons_of_mem _ wm_59)) (fun _ h9 => h9) rfl d_OB_add_9 ?_
  refine lv_iload_n hx hb d_OB_add_12 rfl (lv_at hl 2 rfl) ?_
  refine xa_iald hx hb hK hP 10 8 rfl rfl k rfl (by omega) (by omega) d_OB_add_13 ?_
  refine xa_iast hx hb hK hP hD hS 1 0 rfl rfl no rfl (by omega) (by decide) d_OB_add_14 (fun H locs hP hD hS => ?_)
  have hP : va_P (dC, dI) xCl [(h0, .inr (2, [.ref qx, .ref qy, .ref qz, .ref qu, .ref qv, .ref qw, .ref qp, .ref qe, .int (nI no)])), (qx, .inl (cx, 20, .inl (upd fx no (g1 k)))), (qy, .inl (cy, 20, .inl fy)), (qz, .inl (cz, 20, .inl fz)), (qu, .inl (cu, 20, .inl fu)), (qv, .inl (cv, 20, .inl fv)), (qw, .inl (cw, 20, .inl fw)), (qp, .inl (cp, 20, .inl fp)), (qe, .inl (ce, 20, .inl fe)), (h1, .inr (1, [.ref q1, .ref q2, .ref q3, .int (nI nm)])), (q1, .inl (c1, n, .inl g1)), (q2, .inl (c2, n, .inl g2)), (q3, .inl (c3, n, .inl g3))] H := hP
  have hD : va_D A [(h0, .inr (2, [.ref qx, .ref qy, .ref qz, .ref qu, .ref qv, .ref qw, .ref qp, .ref qe, .int (nI no)])), (qx, .inl (cx, 20, .inl (upd fx no (g1 k)))), (qy, .inl (cy, 20, .inl fy)), (qz, .inl (cz, 20, .inl fz)), (qu, .inl (cu, 20, .inl fu)), (qv, .inl (cv, 20, .inl fv)), (qw, .inl (cw, 20, .inl fw)), (qp, .inl (cp, 20, .inl fp)), (qe, .inl (ce, 20, .inl fe)), (h1, .inr (1, [.ref q1, .ref q2, .ref q3, .int (nI nm)])), (q1, .inl (c1, n, .inl g1)), (q2, .inl (c2, n, .inl g2)), (q3, .inl (c3, n, .inl g3))] := hD
  refine lv_aload_n hx hb d_OB_add_15 rfl (lv_at hl 0 rfl) ?_
  refine va_get (D := (dC, dI)) (ci := 2) (v := .ref qy) (C := xR_OB) (T := xT_OB) (N := 9) hx hb hts (fun w h => List.mem_cons_of_mem _ (iw_OB w h)) hown hK hP 0 rfl rfl 1 (by decide) (hts _ (List.mem_cons_of_mem _ wm_88)) (fun _ h9 => h9) rfl d_OB_add_16 ?_
  refine lv_aload_n hx hb d_OB_add_19 rfl (lv_at hl 0 rfl) ?_
  refine va_get (D := (dC, dI)) (ci := 2) (v := .int (nI no)) (C := xR_OB) (T := xT_OB) (N := 9) hx hb hts (fun w h => List.mem_cons_of_mem _ (iw_OB w h)) hown hK hP 0 rfl rfl 8 (by decide) (hts _ (List.mem_cons_of_mem _ wm_107)) (fun _ h9 => h9) rfl d_OB_add_20 ?_
  refine lv_aload_n hx hb d_OB_add_23 rfl (lv_at hl 1 rfl) ?_
  refine va_get (D := (dC, dI)) (ci := 1) (v := .ref q2) (C := xR_SP) (T := xT_SP) (N := 4) hx hb hts (fun w h => List.mem_cons_of_mem _ (iw_SP w h)) hown hK hP 9 rfl rfl 1 (by decide) (hts _ (List.mem_cons_of_mem _ wm_62)) (fun _ h9 => h9) rfl d_OB_add_24 ?_
  refine lv_iload_n hx hb d_OB_add_27 rfl (lv_at hl 2 rfl) ?_
  refine xa_iald hx hb hK hP 11 9 rfl rfl k rfl (by omega) (by omega) d_OB_add_28 ?_
  refine xa_iast hx hb hK hP hD hS 2 1 rfl rfl no rfl (by omega) (by decide) d_OB_add_29 (fun H locs hP hD hS => ?_)
  have hP : va_P (dC, dI) xCl [(h0, .inr (2, [.ref qx, .ref qy, .ref qz, .ref qu, .ref qv, .ref qw, .ref qp, .ref qe, .int (nI no)])), (qx, .inl (cx, 20, .inl (upd fx no (g1 k)))), (qy, .inl (cy, 20, .inl (upd fy no (g2 k)))), (qz, .inl (cz, 20, .inl fz)), (qu, .inl (cu, 20, .inl fu)), (qv, .inl (cv, 20, .inl fv)), (qw, .inl (cw, 20, .inl fw)), (qp, .inl (cp, 20, .inl fp)), (qe, .inl (ce, 20, .inl fe)), (h1, .inr (1, [.ref q1, .ref q2, .ref q3, .int (nI nm)])), (q1, .inl (c1, n, .inl g1)), (q2, .inl (c2, n, .inl g2)), (q3, .inl (c3, n, .inl g3))] H := hP
  have hD : va_D A [(h0, .inr (2, [.ref qx, .ref qy, .ref qz, .ref qu, .ref qv, .ref qw, .ref qp, .ref qe, .int (nI no)])), (qx, .inl (cx, 20, .inl (upd fx no (g1 k)))), (qy, .inl (cy, 20, .inl (upd fy no (g2 k)))), (qz, .inl (cz, 20, .inl fz)), (qu, .inl (cu, 20, .inl fu)), (qv, .inl (cv, 20, .inl fv)), (qw, .inl (cw, 20, .inl fw)), (qp, .inl (cp, 20, .inl fp)), (qe, .inl (ce, 20, .inl fe)), (h1, .inr (1, [.ref q1, .ref q2, .ref q3, .int (nI nm)])), (q1, .inl (c1, n, .inl g1)), (q2, .inl (c2, n, .inl g2)), (q3, .inl (c3, n, .inl g3))] := hD
  refine lv_aload_n hx hb d_OB_add_30 rfl (lv_at hl 0 rfl) ?_
  refine va_get (D := (dC, dI)) (ci := 2) (v := .ref qz) (C := xR_OB) (T := xT_OB) (N := 9) hx hb hts (fun w h => List.mem_cons_of_mem _ (iw_OB w h)) hown hK hP 0 rfl rfl 2 (by decide) (hts _ (List.mem_cons_of_mem _ wm_91)) (fun _ h9 => h9) rfl d_OB_add_31 ?_
  refine lv_aload_n hx hb d_OB_add_34 rfl (lv_at hl 0 rfl) ?_
  refine va_get (D := (dC, dI)) (ci := 2) (v := .int (nI no)) (C := xR_OB) (T := xT_OB) (N := 9) hx hb hts (fun w h => List.mem_cons_of_mem _ (iw_OB w h)) hown hK hP 0 rfl rfl 8 (by decide) (hts _ (List.mem_cons_of_mem _ wm_107)) (fun _ h9 => h9) rfl d_OB_add_35 ?_
  refine lv_aload_n hx hb d_OB_add_38 rfl (lv_at hl 1 rfl) ?_
  refine va_get (D := (dC, dI)) (ci := 1) (v := .ref q3) (C := xR_SP) (T := xT_SP) (N := 4) hx hb hts (fun w h => List.mem_cons_of_mem _ (iw_SP w h)) hown hK hP 9 rfl rfl 2 (by decide) (hts _ (List.mem_cons_of_mem _ wm_65)) (fun _ h9 => h9) rfl d_OB_add_39 ?_
  refine lv_iload_n hx hb d_OB_add_42 rfl (lv_at hl 2 rfl) ?_
  refine xa_iald hx hb hK hP 12 10 rfl rfl k rfl (by omega) (by omega) d_OB_add_43 ?_
  refine xa_iast hx hb hK hP hD hS 3 2 rfl rfl no rfl (by omega) (by decide) d_OB_add_44 (fun H locs hP hD hS => ?_)
  have hP : va_P (dC, dI) xCl [(h0, .inr (2, [.ref qx, .ref qy, .ref qz, .ref qu, .ref qv, .ref qw, .ref qp, .ref qe, .int (nI no)])), (qx, .inl (cx, 20, .inl (upd fx no (g1 k)))), (qy, .inl (cy, 20, .inl (upd fy no (g2 k)))), (qz, .inl (cz, 20, .inl (upd fz no (g3 k)))), (qu, .inl (cu, 20, .inl fu)), (qv, .inl (cv, 20, .inl fv)), (qw, .inl (cw, 20, .inl fw)), (qp, .inl (cp, 20, .inl fp)), (qe, .inl (ce, 20, .inl fe)), (h1, .inr (1, [.ref q1, .ref q2, .ref q3, .int (nI nm)])), (q1, .inl (c1, n, .inl g1)), (q2, .inl (c2, n, .inl g2)), (q3, .inl (c3, n, .inl g3))] H := hP
  have hD : va_D A [(h0, .inr (2, [.ref qx, .ref qy, .ref qz, .ref qu, .ref qv, .ref qw, .ref qp, .ref qe, .int (nI no)])), (qx, .inl (cx, 20, .inl (upd fx no (g1 k)))), (qy, .inl (cy, 20, .inl (upd fy no (g2 k)))), (qz, .inl (cz, 20, .inl (upd fz no (g3 k)))), (qu, .inl (cu, 20, .inl fu)), (qv, .inl (cv, 20, .inl fv)), (qw, .inl (cw, 20, .inl fw)), (qp, .inl (cp, 20, .inl fp)), (qe, .inl (ce, 20, .inl fe)), (h1, .inr (1, [.ref q1, .ref q2, .ref q3, .int (nI nm)])), (q1, .inl (c1, n, .inl g1)), (q2, .inl (c2, n, .inl g2)), (q3, .inl (c3, n, .inl g3))] := hD
  refine lv_aload_n hx hb d_OB_add_45 rfl (lv_at hl 0 rfl) ?_
  refine va_get (D := (dC, dI)) (ci := 2) (v := .ref qu) (C := xR_OB) (T := xT_OB) (N := 9) hx hb hts (fun w h => List.mem_cons_of_mem _ (iw_OB w h)) hown hK hP 0 rfl rfl 3 (by decide) (hts _ (List.mem_cons_of_mem _ wm_94)) (fun _ h9 => h9) rfl d_OB_add_46 ?_
  refine lv_aload_n hx hb d_OB_add_49 rfl (lv_at hl 0 rfl) ?_
  refine va_get (D := (dC, dI)) (ci := 2) (v := .int (nI no)) (C := xR_OB) (T := xT_OB) (N := 9) hx hb hts (fun w h => List.mem_cons_of_mem _ (iw_OB w h)) hown hK hP 0 rfl rfl 8 (by decide) (hts _ (List.mem_cons_of_mem _ wm_107)) (fun _ h9 => h9) rfl d_OB_add_50 ?_
  refine lv_iload_n hx hb d_OB_add_53 rfl (lv_at hl 3 rfl) ?_
  refine xa_iast hx hb hK hP hD hS 4 3 rfl rfl no rfl (by omega) (by decide) d_OB_add_54 (fun H locs hP hD hS => ?_)
  have hP : va_P (dC, dI) xCl [(h0, .inr (2, [.ref qx, .ref qy, .ref qz, .ref qu, .ref qv, .ref qw, .ref qp, .ref qe, .int (nI no)])), (qx, .inl (cx, 20, .inl (upd fx no (g1 k)))), (qy, .inl (cy, 20, .inl (upd fy no (g2 k)))), (qz, .inl (cz, 20, .inl (upd fz no (g3 k)))), (qu, .inl (cu, 20, .inl (upd fu no a))), (qv, .inl (cv, 20, .inl fv)), (qw, .inl (cw, 20, .inl fw)), (qp, .inl (cp, 20, .inl fp)), (qe, .inl (ce, 20, .inl fe)), (h1, .inr (1, [.ref q1, .ref q2, .ref q3, .int (nI nm)])), (q1, .inl (c1, n, .inl g1)), (q2, .inl (c2, n, .inl g2)), (q3, .inl (c3, n, .inl g3))] H := hP
  have hD : va_D A [(h0, .inr (2, [.ref qx, .ref qy, .ref qz, .ref qu, .ref qv, .ref qw, .ref qp, .ref qe, .int (nI no)])), (qx, .inl (cx, 20, .inl (upd fx no (g1 k)))), (qy, .inl (cy, 20, .inl (upd fy no (g2 k)))), (qz, .inl (cz, 20, .inl (upd fz no (g3 k)))), (qu, .inl (cu, 20, .inl (upd fu no a))), (qv, .inl (cv, 20, .inl fv)), (qw, .inl (cw, 20, .inl fw)), (qp, .inl (cp, 20, .inl fp)), (qe, .inl (ce, 20, .inl fe)), (h1, .inr (1, [.ref q1, .ref q2, .ref q3, .int (nI nm)])), (q1, .inl (c1, n, .inl g1)), (q2, .inl (c2, n, .inl g2)), (q3, .inl (c3, n, .inl g3))] := hD
  refine lv_aload_n hx hb d_OB_add_55 rfl (lv_at hl 0 rfl) ?_
  refine va_get (D := (dC, dI)) (ci := 2) (v := .ref qv) (C := xR_OB) (T := xT_OB) (N := 9) hx hb hts (fun w h => List.mem_cons_of_mem _ (iw_OB w h)) hown hK hP 0 rfl rfl 4 (by decide) (hts _ (List.mem_cons_of_mem _ wm_97)) (fun _ h9 => h9) rfl d_OB_add_56 ?_
  refine lv_aload_n hx hb d_OB_add_59 rfl (lv_at hl 0 rfl) ?_
  refine va_get (D := (dC, dI)) (ci := 2) (v := .int (nI no)) (C := xR_OB) (T := xT_OB) (N := 9) hx hb hts (fun w h => List.mem_cons_of_mem _ (iw_OB w h)) hown hK hP 0 rfl rfl 8 (by decide) (hts _ (List.mem_cons_of_mem _ wm_107)) (fun _ h9 => h9) rfl d_OB_add_60 ?_
  refine lv_iload hx hb d_OB_add_63 (lv_at hl 4 rfl) ?_
  refine xa_iast hx hb hK hP hD hS 5 4 rfl rfl no rfl (by omega) (by decide) d_OB_add_65 (fun H locs hP hD hS => ?_)
  have hP : va_P (dC, dI) xCl [(h0, .inr (2, [.ref qx, .ref qy, .ref qz, .ref qu, .ref qv, .ref qw, .ref qp, .ref qe, .int (nI no)])), (qx, .inl (cx, 20, .inl (upd fx no (g1 k)))), (qy, .inl (cy, 20, .inl (upd fy no (g2 k)))), (qz, .inl (cz, 20, .inl (upd fz no (g3 k)))), (qu, .inl (cu, 20, .inl (upd fu no a))), (qv, .inl (cv, 20, .inl (upd fv no b))), (qw, .inl (cw, 20, .inl fw)), (qp, .inl (cp, 20, .inl fp)), (qe, .inl (ce, 20, .inl fe)), (h1, .inr (1, [.ref q1, .ref q2, .ref q3, .int (nI nm)])), (q1, .inl (c1, n, .inl g1)), (q2, .inl (c2, n, .inl g2)), (q3, .inl (c3, n, .inl g3))] H := hP
  have hD : va_D A [(h0, .inr (2, [.ref qx, .ref qy, .ref qz, .ref qu, .ref qv, .ref qw, .ref qp, .ref qe, .int (nI no)])), (qx, .inl (cx, 20, .inl (upd fx no (g1 k)))), (qy, .inl (cy, 20, .inl (upd fy no (g2 k)))), (qz, .inl (cz, 20, .inl (upd fz no (g3 k)))), (qu, .inl (cu, 20, .inl (upd fu no a))), (qv, .inl (cv, 20, .inl (upd fv no b))), (qw, .inl (cw, 20, .inl fw)), (qp, .inl (cp, 20, .inl fp)), (qe, .inl (ce, 20, .inl fe)), (h1, .inr (1, [.ref q1, .ref q2, .ref q3, .int (nI nm)])), (q1, .inl (c1, n, .inl g1)), (q2, .inl (c2, n, .inl g2)), (q3, .inl (c3, n, .inl g3))] := hD
  refine lv_aload_n hx hb d_OB_add_66 rfl (lv_at hl 0 rfl) ?_
  refine va_get (D := (dC, dI)) (ci := 2) (v := .ref qw) (C := xR_OB) (T := xT_OB) (N := 9) hx hb hts (fun w h => List.mem_cons_of_mem _ (iw_OB w h)) hown hK hP 0 rfl rfl 5 (by decide) (hts _ (List.mem_cons_of_mem _ wm_100)) (fun _ h9 => h9) rfl d_OB_add_67 ?_
  refine lv_aload_n hx hb d_OB_add_70 rfl (lv_at hl 0 rfl) ?_
  refine va_get (D := (dC, dI)) (ci := 2) (v := .int (nI no)) (C := xR_OB) (T := xT_OB) (N := 9) hx hb hts (fun w h => List.mem_cons_of_mem _ (iw_OB w h)) hown hK hP 0 rfl rfl 8 (by decide) (hts _ (List.mem_cons_of_mem _ wm_107)) (fun _ h9 => h9) rfl d_OB_add_71 ?_
  refine lv_iload hx hb d_OB_add_74 (lv_at hl 5 rfl) ?_
  refine xa_iast hx hb hK hP hD hS 6 5 rfl rfl no rfl (by omega) (by decide) d_OB_add_76 (fun H locs hP hD hS => ?_)
  have hP : va_P (dC, dI) xCl [(h0, .inr (2, [.ref qx, .ref qy, .ref qz, .ref qu, .ref qv, .ref qw, .ref qp, .ref qe, .int (nI no)])), (qx, .inl (cx, 20, .inl (upd fx no (g1 k)))), (qy, .inl (cy, 20, .inl (upd fy no (g2 k)))), (qz, .inl (cz, 20, .inl (upd fz no (g3 k)))), (qu, .inl (cu, 20, .inl (upd fu no a))), (qv, .inl (cv, 20, .inl (upd fv no b))), (qw, .inl (cw, 20, .inl (upd fw no d))), (qp, .inl (cp, 20, .inl fp)), (qe, .inl (ce, 20, .inl fe)), (h1, .inr (1, [.ref q1, .ref q2, .ref q3, .int (nI nm)])), (q1, .inl (c1, n, .inl g1)), (q2, .inl (c2, n, .inl g2)), (q3, .inl (c3, n, .inl g3))] H := hP
  have hD : va_D A [(h0, .inr (2, [.ref qx, .ref qy, .ref qz, .ref qu, .ref qv, .ref qw, .ref qp, .ref qe, .int (nI no)])), (qx, .inl (cx, 20, .inl (upd fx no (g1 k)))), (qy, .inl (cy, 20, .inl (upd fy no (g2 k)))), (qz, .inl (cz, 20, .inl (upd fz no (g3 k)))), (qu, .inl (cu, 20, .inl (upd fu no a))), (qv, .inl (cv, 20, .inl (upd fv no b))), (qw, .inl (cw, 20, .inl (upd fw no d))), (qp, .inl (cp, 20, .inl fp)), (qe, .inl (ce, 20, .inl fe)), (h1, .inr (1, [.ref q1, .ref q2, .ref q3, .int (nI nm)])), (q1, .inl (c1, n, .inl g1)), (q2, .inl (c2, n, .inl g2)), (q3, .inl (c3, n, .inl g3))] := hD
  refine lv_aload_n hx hb d_OB_add_77 rfl (lv_at hl 0 rfl) ?_
  refine va_get (D := (dC, dI)) (ci := 2) (v := .ref qp) (C := xR_OB) (T := xT_OB) (N := 9) hx hb hts (fun w h => List.mem_cons_of_mem _ (iw_OB w h)) hown hK hP 0 rfl rfl 6 (by decide) (hts _ (List.mem_cons_of_mem _ wm_101)) (fun _ h9 => h9) rfl d_OB_add_78 ?_
  refine lv_aload_n hx hb d_OB_add_81 rfl (lv_at hl 0 rfl) ?_
  refine va_get (D := (dC, dI)) (ci := 2) (v := .int (nI no)) (C := xR_OB) (T := xT_OB) (N := 9) hx hb hts (fun w h => List.mem_cons_of_mem _ (iw_OB w h)) hown hK hP 0 rfl rfl 8 (by decide) (hts _ (List.mem_cons_of_mem _ wm_107)) (fun _ h9 => h9) rfl d_OB_add_82 ?_
  refine lv_iconst (v := 0) hx hb d_OB_add_85 (by decide) ?_
  refine xa_iast hx hb hK hP hD hS 7 6 rfl rfl no rfl (by omega) (by decide) d_OB_add_86 (fun H locs hP hD hS => ?_)
  have hP : va_P (dC, dI) xCl [(h0, .inr (2, [.ref qx, .ref qy, .ref qz, .ref qu, .ref qv, .ref qw, .ref qp, .ref qe, .int (nI no)])), (qx, .inl (cx, 20, .inl (upd fx no (g1 k)))), (qy, .inl (cy, 20, .inl (upd fy no (g2 k)))), (qz, .inl (cz, 20, .inl (upd fz no (g3 k)))), (qu, .inl (cu, 20, .inl (upd fu no a))), (qv, .inl (cv, 20, .inl (upd fv no b))), (qw, .inl (cw, 20, .inl (upd fw no d))), (qp, .inl (cp, 20, .inl (upd fp no 0))), (qe, .inl (ce, 20, .inl fe)), (h1, .inr (1, [.ref q1, .ref q2, .ref q3, .int (nI nm)])), (q1, .inl (c1, n, .inl g1)), (q2, .inl (c2, n, .inl g2)), (q3, .inl (c3, n, .inl g3))] H := hP
  have hD : va_D A [(h0, .inr (2, [.ref qx, .ref qy, .ref qz, .ref qu, .ref qv, .ref qw, .ref qp, .ref qe, .int (nI no)])), (qx, .inl (cx, 20, .inl (upd fx no (g1 k)))), (qy, .inl (cy, 20, .inl (upd fy no (g2 k)))), (qz, .inl (cz, 20, .inl (upd fz no (g3 k)))), (qu, .inl (cu, 20, .inl (upd fu no a))), (qv, .inl (cv, 20, .inl (upd fv no b))), (qw, .inl (cw, 20, .inl (upd fw no d))), (qp, .inl (cp, 20, .inl (upd fp no 0))), (qe, .inl (ce, 20, .inl fe)), (h1, .inr (1, [.ref q1, .ref q2, .ref q3, .int (nI nm)])), (q1, .inl (c1, n, .inl g1)), (q2, .inl (c2, n, .inl g2)), (q3, .inl (c3, n, .inl g3))] := hD
  refine lv_aload_n hx hb d_OB_add_87 rfl (lv_at hl 0 rfl) ?_
  refine va_get (D := (dC, dI)) (ci := 2) (v := .ref qe) (C := xR_OB) (T := xT_OB) (N := 9) hx hb hts (fun w h => List.mem_cons_of_mem _ (iw_OB w h)) hown hK hP 0 rfl rfl 7 (by decide) (hts _ (List.mem_cons_of_mem _ wm_103)) (fun _ h9 => h9) rfl d_OB_add_88 ?_
  refine lv_aload_n hx hb d_OB_add_91 rfl (lv_at hl 0 rfl) ?_
  refine va_get (D := (dC, dI)) (ci := 2) (v := .int (nI no)) (C := xR_OB) (T := xT_OB) (N := 9) hx hb hts (fun w h => List.mem_cons_of_mem _ (iw_OB w h)) hown hK hP 0 rfl rfl 8 (by decide) (hts _ (List.mem_cons_of_mem _ wm_107)) (fun _ h9 => h9) rfl d_OB_add_92 ?_
  refine lv_iconst (v := 1) hx hb d_OB_add_95 (by decide) ?_
  refine xa_zast hx hb hK hP hD hS 8 7 rfl rfl no rfl (by omega) (by decide) rfl d_OB_add_96 (fun H locs hP hD hS => ?_)
  have hP : va_P (dC, dI) xCl [(h0, .inr (2, [.ref qx, .ref qy, .ref qz, .ref qu, .ref qv, .ref qw, .ref qp, .ref qe, .int (nI no)])), (qx, .inl (cx, 20, .inl (upd fx no (g1 k)))), (qy, .inl (cy, 20, .inl (upd fy no (g2 k)))), (qz, .inl (cz, 20, .inl (upd fz no (g3 k)))), (qu, .inl (cu, 20, .inl (upd fu no a))), (qv, .inl (cv, 20, .inl (upd fv no b))), (qw, .inl (cw, 20, .inl (upd fw no d))), (qp, .inl (cp, 20, .inl (upd fp no 0))), (qe, .inl (ce, 20, .inl (upd fe no 1))), (h1, .inr (1, [.ref q1, .ref q2, .ref q3, .int (nI nm)])), (q1, .inl (c1, n, .inl g1)), (q2, .inl (c2, n, .inl g2)), (q3, .inl (c3, n, .inl g3))] H := hP
  have hD : va_D A [(h0, .inr (2, [.ref qx, .ref qy, .ref qz, .ref qu, .ref qv, .ref qw, .ref qp, .ref qe, .int (nI no)])), (qx, .inl (cx, 20, .inl (upd fx no (g1 k)))), (qy, .inl (cy, 20, .inl (upd fy no (g2 k)))), (qz, .inl (cz, 20, .inl (upd fz no (g3 k)))), (qu, .inl (cu, 20, .inl (upd fu no a))), (qv, .inl (cv, 20, .inl (upd fv no b))), (qw, .inl (cw, 20, .inl (upd fw no d))), (qp, .inl (cp, 20, .inl (upd fp no 0))), (qe, .inl (ce, 20, .inl (upd fe no 1))), (h1, .inr (1, [.ref q1, .ref q2, .ref q3, .int (nI nm)])), (q1, .inl (c1, n, .inl g1)), (q2, .inl (c2, n, .inl g2)), (q3, .inl (c3, n, .inl g3))] := hD
  refine lv_aload_n hx hb d_OB_add_97 rfl (lv_at hl 0 rfl) ?_
  refine lv_dup hx hb d_OB_add_98 rfl ?_
  refine va_get (D := (dC, dI)) (ci := 2) (v := .int (nI no)) (C := xR_OB) (T := xT_OB) (N := 9) hx hb hts (fun w h => List.mem_cons_of_mem _ (iw_OB w h)) hown hK hP 0 rfl rfl 8 (by decide) (hts _ (List.mem_cons_of_mem _ wm_107)) (fun _ h9 => h9) rfl d_OB_add_99 ?_
  refine lv_iconst (v := 1) hx hb d_OB_add_102 (by decide) ?_
  refine lv_iadd hx hb d_OB_add_103 ?_
  refine xv_i (y := nI (no + 1)) (nI_1 _) ?_
  refine va_put (D := (dC, dI)) (ci := 2) (v := .int (nI (no + 1))) (ty := .int) (C := xR_OB) (T := xT_OB) (N := 9) hx hb hts (fun w h => List.mem_cons_of_mem _ (iw_OB w h)) xt_OB xt_OB_ok xn_OB_nm hown hK hP hD hS 0 rfl rfl 8 (by decide) (hts _ (List.mem_cons_of_mem _ wm_107)) (fun _ h9 => h9) rfl (by decide +kernel) rfl rfl (Nat.le_of_ble_eq_true rfl) d_OB_add_104 (fun H locs hP hD hS => ?_)
  have hP : va_P (dC, dI) xCl [(h0, .inr (2, [.ref qx, .ref qy, .ref qz, .ref qu, .ref qv, .ref qw, .ref qp, .ref qe, .int (nI (no + 1))])), (qx, .inl (cx, 20, .inl (upd fx no (g1 k)))), (qy, .inl (cy, 20, .inl (upd fy no (g2 k)))), (qz, .inl (cz, 20, .inl (upd fz no (g3 k)))), (qu, .inl (cu, 20, .inl (upd fu no a))), (qv, .inl (cv, 20, .inl (upd fv no b))), (qw, .inl (cw, 20, .inl (upd fw no d))), (qp, .inl (cp, 20, .inl (upd fp no 0))), (qe, .inl (ce, 20, .inl (upd fe no 1))), (h1, .inr (1, [.ref q1, .ref q2, .ref q3, .int (nI nm)])), (q1, .inl (c1, n, .inl g1)), (q2, .inl (c2, n, .inl g2)), (q3, .inl (c3, n, .inl g3))] H := hP
  have hD : va_D A [(h0, .inr (2, [.ref qx, .ref qy, .ref qz, .ref qu, .ref qv, .ref qw, .ref qp, .ref qe, .int (nI (no + 1))])), (qx, .inl (cx, 20, .inl (upd fx no (g1 k)))), (qy, .inl (cy, 20, .inl (upd fy no (g2 k)))), (qz, .inl (cz, 20, .inl (upd fz no (g3 k)))), (qu, .inl (cu, 20, .inl (upd fu no a))), (qv, .inl (cv, 20, .inl (upd fv no b))), (qw, .inl (cw, 20, .inl (upd fw no d))), (qp, .inl (cp, 20, .inl (upd fp no 0))), (qe, .inl (ce, 20, .inl (upd fe no 1))), (h1, .inr (1, [.ref q1, .ref q2, .ref q3, .int (nI nm)])), (q1, .inl (c1, n, .inl g1)), (q2, .inl (c2, n, .inl g2)), (q3, .inl (c3, n, .inl g3))] := hD
  refine lv_aload_n hx hb d_OB_add_107 rfl (lv_at hl 0 rfl) ?_
  refine va_get (D := (dC, dI)) (ci := 2) (v := .int (nI (no + 1))) (C := xR_OB) (T := xT_OB) (N := 9) hx hb hts (fun w h => List.mem_cons_of_mem _ (iw_OB w h)) hown hK hP 0 rfl rfl 8 (by decide) (hts _ (List.mem_cons_of_mem _ wm_107)) (fun _ h9 => h9) rfl d_OB_add_108 ?_
  refine lv_iconst (v := 1) hx hb d_OB_add_111 (by decide) ?_
  refine lv_isub hx hb d_OB_add_112 ?_
  refine xv_i (y := nI no) (nI_pred _) ?_
  have hP9 := hP.sub (ws' := [(h0, .inr (2, [.ref qx, .ref qy, .ref qz, .ref qu, .ref qv, .ref qw, .ref qp, .ref qe, .int (nI (no + 1))])), (qx, .inl (cx, 20, .inl (upd fx no (g1 k)))), (qy, .inl (cy, 20, .inl (upd fy no (g2 k)))), (qz, .inl (cz, 20, .inl (upd fz no (g3 k)))), (qu, .inl (cu, 20, .inl (upd fu no a))), (qv, .inl (cv, 20, .inl (upd fv no b))), (qw, .inl (cw, 20, .inl (upd fw no d))), (qp, .inl (cp, 20, .inl (upd fp no 0))), (qe, .inl (ce, 20, .inl (upd fe no 1))), (h1, .inr (1, [.ref q1, .ref q2, .ref q3, .int (nI nm)])), (q1, .inl (c1, n, .inl g1)), (q2, .inl (c2, n, .inl g2)), (q3, .inl (c3, n, .inl g3))]) [0, 1, 2, 3, 4, 5, 6, 7, 8, 9, 10, 11, 12] rfl
  have hD9 := hD.sub (ws' := [(h0, .inr (2, [.ref qx, .ref qy, .ref qz, .ref qu, .ref qv, .ref qw, .ref qp, .ref qe, .int (nI (no + 1))])), (qx, .inl (cx, 20, .inl (upd fx no (g1 k)))), (qy, .inl (cy, 20, .inl (upd fy no (g2 k)))), (qz, .inl (cz, 20, .inl (upd fz no (g3 k)))), (qu, .inl (cu, 20, .inl (upd fu no a))), (qv, .inl (cv, 20, .inl (upd fv no b))), (qw, .inl (cw, 20, .inl (upd fw no d))), (qp, .inl (cp, 20, .inl (upd fp no 0))), (qe, .inl (ce, 20, .inl (upd fe no 1))), (h1, .inr (1, [.ref q1, .ref q2, .ref q3, .int (nI nm)])), (q1, .inl (c1, n, .inl g1)), (q2, .inl (c2, n, .inl g2)), (q3, .inl (c3, n, .inl g3))]) [0, 1, 2, 3, 4, 5, 6, 7, 8, 9, 10, 11, 12] (by decide) rfl
  have hK9 := hK.sub (tys' := [(cx, .int), (cy, .int), (cz, .int), (cu, .int), (cv, .int), (cw, .int), (cp, .int), (ce, .boolean), (c1, .int), (c2, .int), (c3, .int)]) [0, 1, 2, 3, 4, 5, 6, 7, 8, 9, 10] rfl
  exact W.iret (v := nI no) hx hb hr (fun t ht hW => ⟨⟨nI no, (), rfl, rfl, ⟨by rw [ht]; exact hP9, va_K.moved hW.alike hK9, by exact hD9⟩⟩, hS.F ht⟩) hS.2.2 d_OB_add_113 hlocks
set_option maxHeartbeats 4000000 in
set_option maxRecDepth 100000 in
/-- Observations.countUsed -/
theorem c_OB_countUsed (l : Launch) (dC : Nat → ClassId) (dI : Nat → Nat → Nat) (h0 : Nat) (qx : Nat) (qy : Nat) (qz : Nat) (qu : Nat) (qv : Nat) (qw : Nat) (qp : Nat) (qe : Nat) (no : Nat) (ce : ClassId) (fe : Nat → Int32) (hc : no ≤ 20) : Met l xy_OB_countUsed xw_OB_countUsed ({ frames := 0, cells := 0, slots := 0, locals := 0 }) (xp_r [.ref h0] (dC, dI) xCl [(h0, .inr (2, [.ref qx, .ref qy, .ref qz, .ref qu, .ref qv, .ref qw, .ref qp, .ref qe, .int (nI no)])), (qe, .inl (ce, 20, .inl fe))] [(ce, .boolean)]) (xr_i (fun r => r = nI (sr_cu fe no))) 0 0 (fun _ => False) := by
  refine Met.ofW (cc := prog_3_method_5_code) (maxL := 3) (ret := (some .int)) (by decide) rfl ?_
  intro p e s m args below meth c s₁ B hml hv
  obtain ⟨rfl, hz, hP, hK⟩ := hv
  have hx := B.exec
  have hb := B.bytes
  have hr := B.returns
  have hts := atoms_spec (ws := xw_OB_countUsed) B.pre
  have hown : s.vm.findClass xR_OB = some m.cls := findClass_of_methodNamed B.named
  have hlocks := B.notSynchronized
  have hP : va_P (dC, dI) xCl [(h0, .inr (2, [.ref qx, .ref qy, .ref qz, .ref qu, .ref qv, .ref qw, .ref qp, .ref qe, .int (nI no)])), (qe, .inl (ce, 20, .inl fe))] s.heap := hP
  have hl := lv_entry ([.ref h0]) (n := 3) (Nat.le_of_ble_eq_true rfl)
  rw [lg_entry_eq]
  generalize (lg_sl ([.ref h0]) ++ List.replicate (3 - (lg_sl ([.ref h0])).length) Slot.unset).toArray = ls at hl ⊢
  have hl : lv_has ls 3 [(0, .ref h0)] := hl
  refine lv_iconst (v := 0) hx hb d_OB_countUsed_0 (by decide) ?_
  refine lv_istore_n (lv' := [(1, .int 0), (0, .ref h0)]) hx hb d_OB_countUsed_1 rfl hl (by decide) rfl (fun ls hl => ?_)
  refine lv_iconst (v := 0) hx hb d_OB_countUsed_2 (by decide) ?_
  refine lv_istore_n (lv' := [(2, .int 0), (1, .int 0), (0, .ref h0)]) hx hb d_OB_countUsed_3 rfl hl (by decide) rfl (fun ls hl => ?_)
  have lp4 : ∀ (fuel : Nat) (i : Nat) (x1 : Int32), no - i < fuel → i ≤ no → x1 = nI (sr_cu fe i) → ∀ (ls : Array Slot), lv_has ls 3 [(0, .ref h0), (1, .int x1), (2, .int (nI i))] → W p l e (headSpec xw_OB_countUsed ({ frames := 0, cells := 0, slots := 0, locals := 0 })).room s m ([.ref h0] : List Value).toArray below meth c s.heap [] 0 0 (MQ below (xr_i (fun r => r = nI (sr_cu fe no))) ([.ref h0] : List Value).toArray s 0 0 (fun _ => False)) (F0 m 4 ls []) := by
    intro fuel
    induction fuel with
    | zero => intro i x1 hfu; exact absurd hfu (Nat.not_lt_zero _)
    | succ fuel ih =>
      intro i x1 hfu hi hx1 ls hl
      subst hx1
      refine lv_iload_n hx hb d_OB_countUsed_4 rfl (lv_at hl 2 rfl) ?_
      refine lv_aload_n hx hb d_OB_countUsed_5 rfl (lv_at hl 0 rfl) ?_
      refine va_get (D := (dC, dI)) (ci := 2) (v := .int (nI no)) (C := xR_OB) (T := xT_OB) (N := 9) hx hb hts (fun w h => List.mem_cons_of_mem _ (iw_OB w h)) hown hK hP 0 rfl rfl 8 (by decide) (hts _ (List.mem_cons_of_mem _ wm_107)) (fun _ h9 => h9) rfl d_OB_countUsed_6 ?_
      refine lv_icmp_ge (tgt := 35) hx hb d_OB_countUsed_9 (by decide) (fun c_1 => ?_) (fun c_1 => ?_)
      · have n_2 := xn_le (a := no) (b := i) c_1 rfl rfl (by omega) (by omega)
        refine lv_iload_n hx hb d_OB_countUsed_35 rfl (lv_at hl 1 rfl) ?_
        exact xr_iret (v := nI (sr_cu fe i)) hx hb hr (by exact (by rw [show i = no by omega])) d_OB_countUsed_36 hlocks
      · have n_3 := xn_nle (a := no) (b := i) c_1 rfl rfl (by omega) (by omega)
        refine lv_iload_n hx hb d_OB_countUsed_12 rfl (lv_at hl 1 rfl) ?_
        refine lv_aload_n hx hb d_OB_countUsed_13 rfl (lv_at hl 0 rfl) ?_
        refine va_get (D := (dC, dI)) (ci := 2) (v := .ref qe) (C := xR_OB) (T := xT_OB) (N := 9) hx hb hts (fun w h => List.mem_cons_of_mem _ (iw_OB w h)) hown hK hP 0 rfl rfl 7 (by decide) (hts _ (List.mem_cons_of_mem _ wm_103)) (fun _ h9 => h9) rfl d_OB_countUsed_14 ?_
        refine lv_iload_n hx hb d_OB_countUsed_17 rfl (lv_at hl 2 rfl) ?_
        refine xa_zald hx hb hK hP 1 0 rfl rfl i rfl (by omega) (by decide) d_OB_countUsed_18 ?_
        refine lv_if_eq (tgt := 26) hx hb d_OB_countUsed_19 (by decide) (fun c_4 => ?_) (fun c_4 => ?_)
        · refine lv_iconst (v := 0) hx hb d_OB_countUsed_26 (by decide) ?_
          refine lv_iadd hx hb d_OB_countUsed_27 ?_
          refine xv_i (y := nI ((sr_cu fe i) + 0)) (nI_add _ 0) ?_
          refine lv_istore_n (lv' := [(1, .int (nI ((sr_cu fe i) + 0))), (0, .ref h0), (2, .int (nI i))]) hx hb d_OB_countUsed_28 rfl hl (by decide) rfl (fun ls hl => ?_)
          refine lv_iinc (v := nI (i + 1)) (lv' := [(2, .int (nI (i + 1))), (1, .int (nI ((sr_cu fe i) + 0))), (0, .ref h0)]) hx hb d_OB_countUsed_29 hl (k := 2) rfl (nI_1 _) (by decide) rfl (fun ls hl => ?_)
          refine lv_goto (tgt := 4) hx hb d_OB_countUsed_32 (by decide) ?_
          exact ih  (i + 1) (nI ((sr_cu fe i) + 0)) (by omega) (by omega) (congrArg nI (sr_cu_f c_4).symm) ls (lv_sub hl [2, 1, 0] rfl)
        · refine lv_iconst (v := 1) hx hb d_OB_countUsed_22 (by decide) ?_
          refine lv_goto (tgt := 27) hx hb d_OB_countUsed_23 (by decide) ?_
          refine lv_iadd hx hb d_OB_countUsed_27 ?_
          refine xv_i (y := nI ((sr_cu fe i) + 1)) (nI_1 _) ?_
          refine lv_istore_n (lv' := [(1, .int (nI ((sr_cu fe i) + 1))), (0, .ref h0), (2, .int (nI i))]) hx hb d_OB_countUsed_28 rfl hl (by decide) rfl (fun ls hl => ?_)
          refine lv_iinc (v := nI (i + 1)) (lv' := [(2, .int (nI (i + 1))), (1, .int (nI ((sr_cu fe i) + 1))), (0, .ref h0)]) hx hb d_OB_countUsed_29 hl (k := 2) rfl (nI_1 _) (by decide) rfl (fun ls hl => ?_)
          refine lv_goto (tgt := 4) hx hb d_OB_countUsed_32 (by decide) ?_
          exact ih  (i + 1) (nI ((sr_cu fe i) + 1)) (by omega) (by omega) (congrArg nI (sr_cu_t c_4).symm) ls (lv_sub hl [2, 1, 0] rfl)
  exact lp4 (no - 0 + 1) 0 0 (by omega) (Nat.zero_le _) nI_0.symm ls (lv_sub hl [2, 1, 0] rfl)
set_option maxHeartbeats 4000000 in
set_option maxRecDepth 100000 in
/-- Observations.upLessPrism -/
theorem c_OB_upLessPrism (l : Launch) (dC : Nat → ClassId) (dI : Nat → Nat → Nat) (h0 : Nat) (qx : Nat) (qy : Nat) (qz : Nat) (qu : Nat) (qv : Nat) (qw : Nat) (qp : Nat) (qe : Nat) (no : Nat) (cw : ClassId) (cp : ClassId) (fw : Nat → Int32) (fp : Nat → Int32) (k : Nat) (hk : k < 20) : Met l xy_OB_upLessPrism xw_OB_upLessPrism ({ frames := 0, cells := 0, slots := 0, locals := 0 }) (xp_r [.ref h0, .int (nI k)] (dC, dI) xCl [(h0, .inr (2, [.ref qx, .ref qy, .ref qz, .ref qu, .ref qv, .ref qw, .ref qp, .ref qe, .int (nI no)])), (qw, .inl (cw, 20, .inl fw)), (qp, .inl (cp, 20, .inl fp))] [(cw, .int), (cp, .int)]) (xr_i (fun r => r = fw k - fp k)) 0 0 (fun _ => False) := by
  refine Met.ofW (cc := prog_3_method_6_code) (maxL := 2) (ret := (some .int)) (by decide) rfl ?_
  intro p e s m args below meth c s₁ B hml hv
  obtain ⟨rfl, hz, hP, hK⟩ := hv
  have hx := B.exec
  have hb := B.bytes
  have hr := B.returns
  have hts := atoms_spec (ws := xw_OB_upLessPrism) B.pre
  have hown : s.vm.findClass xR_OB = some m.cls := findClass_of_methodNamed B.named
  have hlocks := B.notSynchronized
  have hP : va_P (dC, dI) xCl [(h0, .inr (2, [.ref qx, .ref qy, .ref qz, .ref qu, .ref qv, .ref qw, .ref qp, .ref qe, .int (nI no)])), (qw, .inl (cw, 20, .inl fw)), (qp, .inl (cp, 20, .inl fp))] s.heap := hP
  have hl := lv_entry ([.ref h0, .int (nI k)]) (n := 2) (Nat.le_of_ble_eq_true rfl)
  rw [lg_entry_eq]
  generalize (lg_sl ([.ref h0, .int (nI k)]) ++ List.replicate (2 - (lg_sl ([.ref h0, .int (nI k)])).length) Slot.unset).toArray = ls at hl ⊢
  have hl : lv_has ls 2 [(0, .ref h0), (1, .int (nI k))] := hl
  refine lv_aload_n hx hb d_OB_upLessPrism_0 rfl (lv_at hl 0 rfl) ?_
  refine va_get (D := (dC, dI)) (ci := 2) (v := .ref qw) (C := xR_OB) (T := xT_OB) (N := 9) hx hb hts (fun w h => List.mem_cons_of_mem _ (iw_OB w h)) hown hK hP 0 rfl rfl 5 (by decide) (hts _ (List.mem_cons_of_mem _ wm_100)) (fun _ h9 => h9) rfl d_OB_upLessPrism_1 ?_
  refine lv_iload_n hx hb d_OB_upLessPrism_4 rfl (lv_at hl 1 rfl) ?_
  refine xa_iald hx hb hK hP 1 0 rfl rfl k rfl (by omega) (by decide) d_OB_upLessPrism_5 ?_
  refine lv_aload_n hx hb d_OB_upLessPrism_6 rfl (lv_at hl 0 rfl) ?_
  refine va_get (D := (dC, dI)) (ci := 2) (v := .ref qp) (C := xR_OB) (T := xT_OB) (N := 9) hx hb hts (fun w h => List.mem_cons_of_mem _ (iw_OB w h)) hown hK hP 0 rfl rfl 6 (by decide) (hts _ (List.mem_cons_of_mem _ wm_101)) (fun _ h9 => h9) rfl d_OB_upLessPrism_7 ?_
  refine lv_iload_n hx hb d_OB_upLessPrism_10 rfl (lv_at hl 1 rfl) ?_
  refine xa_iald hx hb hK hP 2 1 rfl rfl k rfl (by omega) (by decide) d_OB_upLessPrism_11 ?_
  refine lv_isub hx hb d_OB_upLessPrism_12 ?_
  exact xr_iret (v := (fw k) - (fp k)) hx hb hr (by exact rfl) d_OB_upLessPrism_13 hlocks
set_option maxHeartbeats 4000000 in
set_option maxRecDepth 100000 in
/-- Observations() -/
theorem c_OB_init (l : Launch) (dC : Nat → ClassId) (dI : Nat → Nat → Nat) (sz : Nat) (h0 : Nat)  : Met l xy_OB_init xw_OB_init ({ frames := 1, cells := 8, slots := 160, locals := 12 }) (xp_w [.ref h0] sz (dC, dI) xCl [(h0, .inr (2, [.null, .null, .null, .null, .null, .null, .null, .null, .int 0]))] []) (va_Qv (fun (_ : Unit) => True) (fun _ t => ∃ (qx : Nat) (qy : Nat) (qz : Nat) (qu : Nat) (qv : Nat) (qw : Nat) (qp : Nat) (qe : Nat) (cx : ClassId) (cy : ClassId) (cz : ClassId) (cu : ClassId) (cv : ClassId) (cw : ClassId) (cp : ClassId) (ce : ClassId), xb_w (dC, dI) xCl [(h0, .inr (2, [.ref qx, .ref qy, .ref qz, .ref qu, .ref qv, .ref qw, .ref qp, .ref qe, .int (nI 0)])), (qx, .inl (cx, 20, .inl (fun _ => 0))), (qy, .inl (cy, 20, .inl (fun _ => 0))), (qz, .inl (cz, 20, .inl (fun _ => 0))), (qu, .inl (cu, 20, .inl (fun _ => 0))), (qv, .inl (cv, 20, .inl (fun _ => 0))), (qw, .inl (cw, 20, .inl (fun _ => 0))), (qp, .inl (cp, 20, .inl (fun _ => 0))), (qe, .inl (ce, 20, .inl (fun _ => 0)))] [(cx, .int), (cy, .int), (cz, .int), (cu, .int), (cv, .int), (cw, .int), (cp, .int), (ce, .boolean)] (va_A [(h0, .inr (2, [.null, .null, .null, .null, .null, .null, .null, .null, .int 0]))] sz) t) (va_A [(h0, .inr (2, [.null, .null, .null, .null, .null, .null, .null, .null, .int 0]))] sz)) 8 160 (va_A [(h0, .inr (2, [.null, .null, .null, .null, .null, .null, .null, .null, .int 0]))] sz) := by
  refine Met.ofW (cc := prog_3_method_1_code) (maxL := 1) (ret := none) (by decide) rfl ?_
  intro p e s m args below meth c s₁ B hml hv
  obtain ⟨rfl, hsz, hz, hP, hK, hD0⟩ := hv
  have hx := B.exec
  have hb := B.bytes
  have hr := B.returns
  have hts := atoms_spec (ws := xw_OB_init) B.pre
  have hown : s.vm.findClass xR_OB = some m.cls := findClass_of_methodNamed B.named
  have hlocks := B.notSynchronized
  have hin : meth.name = "<init>" := (name_of_methodNamed B.named B.method).1
  subst hsz
  have hD := hD0.self (sz := s.heap.size)
  generalize hAe : va_A [(h0, .inr (2, [.null, .null, .null, .null, .null, .null, .null, .null, .int 0]))] s.heap.size = A at hD ⊢
  have hA : ∀ q : Nat, s.heap.size ≤ q → A q := fun q h => by rw [← hAe]; exact Or.inr h
  have hS : va_S A s.heap s.heap [] := va_S.rf
  have hP : va_P (dC, dI) xCl [(h0, .inr (2, [.null, .null, .null, .null, .null, .null, .null, .null, .int 0]))] s.heap := hP
  have hl := lv_entry ([.ref h0]) (n := 1) (Nat.le_of_ble_eq_true rfl)
  rw [lg_entry_eq]
  generalize (lg_sl ([.ref h0]) ++ List.replicate (1 - (lg_sl ([.ref h0])).length) Slot.unset).toArray = ls at hl ⊢
  have hl : lv_has ls 1 [(0, .ref h0)] := hl
  refine lv_aload_n hx hb d_OB_init_0 rfl (lv_at hl 0 rfl) ?_
  refine W.objInit hx hb hown (hts _ (List.mem_cons_of_mem _ wm_84)) (hts _ (List.mem_cons_of_mem _ wm_47)) (hts _ (List.mem_cons_of_mem _ wm_48)) rfl (by rw [hml]; exact hl.1) rfl d_OB_init_1 (Nat.le_of_ble_eq_true rfl) (Nat.le_of_ble_eq_true rfl) ?_
  refine W.eq (g2 := F0 m 4 ls []) rfl ?_
  refine lv_aload_n hx hb d_OB_init_4 rfl (lv_at hl 0 rfl) ?_
  refine lv_bipush (v := 20) hx hb d_OB_init_5 (by decide) ?_
  refine va_newa (atype := .int) (a0 := (20, .inl (fun _ => 0))) (N' := 20) hx hb (hts _ (List.mem_cons_of_mem _ wm_78)) rfl hK hP hD hS hA (fun _ => rfl) (by decide) (by decide) (by decide) (Nat.le_of_ble_eq_true rfl) (Nat.le_of_ble_eq_true rfl) d_OB_init_7 (fun q_1 cA_2 H hK hP hD hS => ?_)
  have hK : va_K (dC, dI) xCl [(cA_2, .int)] s := hK
  have hP : va_P (dC, dI) xCl [(h0, .inr (2, [.null, .null, .null, .null, .null, .null, .null, .null, .int 0])), (q_1, .inl (cA_2, 20, .inl (fun _ => 0)))] H := hP
  have hD : va_D A [(h0, .inr (2, [.null, .null, .null, .null, .null, .null, .null, .null, .int 0])), (q_1, .inl (cA_2, 20, .inl (fun _ => 0)))] := hD
  refine W.widen (k := 1) (n := 20) (by decide) (by decide) ?_
  refine va_putF (D := (dC, dI)) (ci := 2) (v := .ref q_1) (ty := (.array .int)) (C := xR_OB) (T := xT_OB) (N := 9) hx hb hts (fun w h => List.mem_cons_of_mem _ (iw_OB w h)) xt_OB xt_OB_ok xn_OB_nm hown hK hP hD hS 0 rfl rfl 0 (by decide) (hts _ (List.mem_cons_of_mem _ wm_85)) (fun _ h9 => h9) rfl hin rfl (by decide +kernel) rfl rfl (Nat.le_of_ble_eq_true rfl) d_OB_init_9 (fun H locs hP hD hS => ?_)
  have hP : va_P (dC, dI) xCl [(h0, .inr (2, [.ref q_1, .null, .null, .null, .null, .null, .null, .null, .int 0])), (q_1, .inl (cA_2, 20, .inl (fun _ => 0)))] H := hP
  have hD : va_D A [(h0, .inr (2, [.ref q_1, .null, .null, .null, .null, .null, .null, .null, .int 0])), (q_1, .inl (cA_2, 20, .inl (fun _ => 0)))] := hD
  refine lv_aload_n hx hb d_OB_init_12 rfl (lv_at hl 0 rfl) ?_
  refine lv_bipush (v := 20) hx hb d_OB_init_13 (by decide) ?_
  refine va_newa (atype := .int) (a0 := (20, .inl (fun _ => 0))) (N' := 20) hx hb (hts _ (List.mem_cons_of_mem _ wm_78)) rfl hK hP hD hS hA (fun _ => rfl) (by decide) (by decide) (by decide) (Nat.le_of_ble_eq_true rfl) (Nat.le_of_ble_eq_true rfl) d_OB_init_15 (fun q_3 cA_4 H hK hP hD hS => ?_)
  have hK : va_K (dC, dI) xCl [(cA_2, .int), (cA_4, .int)] s := hK
  have hP : va_P (dC, dI) xCl [(h0, .inr (2, [.ref q_1, .null, .null, .null, .null, .null, .null, .null, .int 0])), (q_1, .inl (cA_2, 20, .inl (fun _ => 0))), (q_3, .inl (cA_4, 20, .inl (fun _ => 0)))] H := hP
  have hD : va_D A [(h0, .inr (2, [.ref q_1, .null, .null, .null, .null, .null, .null, .null, .int 0])), (q_1, .inl (cA_2, 20, .inl (fun _ => 0))), (q_3, .inl (cA_4, 20, .inl (fun _ => 0)))] := hD
  refine W.widen (k := 2) (n := 40) (by decide) (by decide) ?_
  refine va_putF (D := (dC, dI)) (ci := 2) (v := .ref q_3) (ty := (.array .int)) (C := xR_OB) (T := xT_OB) (N := 9) hx hb hts (fun w h => List.mem_cons_of_mem _ (iw_OB w h)) xt_OB xt_OB_ok xn_OB_nm hown hK hP hD hS 0 rfl rfl 1 (by decide) (hts _ (List.mem_cons_of_mem _ wm_88)) (fun _ h9 => h9) rfl hin rfl (by decide +kernel) rfl rfl (Nat.le_of_ble_eq_true rfl) d_OB_init_17 (fun H locs hP hD hS => ?_)
  have hP : va_P (dC, dI) xCl [(h0, .inr (2, [.ref q_1, .ref q_3, .null, .null, .null, .null, .null, .null, .int 0])), (q_1, .inl (cA_2, 20, .inl (fun _ => 0))), (q_3, .inl (cA_4, 20, .inl (fun _ => 0)))] H := hP
  have hD : va_D A [(h0, .inr (2, [.ref q_1, .ref q_3, .null, .null, .null, .null, .null, .null, .int 0])), (q_1, .inl (cA_2, 20, .inl (fun _ => 0))), (q_3, .inl (cA_4, 20, .inl (fun _ => 0)))] := hD
  refine lv_aload_n hx hb d_OB_init_20 rfl (lv_at hl 0 rfl) ?_
  refine lv_bipush (v := 20) hx hb d_OB_init_21 (by decide) ?_
  refine va_newa (atype := .int) (a0 := (20, .inl (fun _ => 0))) (N' := 20) hx hb (hts _ (List.mem_cons_of_mem _ wm_78)) rfl hK hP hD hS hA (fun _ => rfl) (by decide) (by decide) (by decide) (Nat.le_of_ble_eq_true rfl) (Nat.le_of_ble_eq_true rfl) d_OB_init_23 (fun q_5 cA_6 H hK hP hD hS => ?_)
  have hK : va_K (dC, dI) xCl [(cA_2, .int), (cA_4, .int), (cA_6, .int)] s := hK
  have hP : va_P (dC, dI) xCl [(h0, .inr (2, [.ref q_1, .ref q_3, .null, .null, .null, .null, .null, .null, .int 0])), (q_1, .inl (cA_2, 20, .inl (fun _ => 0))), (q_3, .inl (cA_4, 20, .inl (fun _ => 0))), (q_5, .inl (cA_6, 20, .inl (fun _ => 0)))] H := hP
  have hD : va_D A [(h0, .inr (2, [.ref q_1, .ref q_3, .null, .null, .null, .null, .null, .null, .int 0])), (q_1, .inl (cA_2, 20, .inl (fun _ => 0))), (q_3, .inl (cA_4, 20, .inl (fun _ => 0))), (q_5, .inl (cA_6, 20, .inl (fun _ => 0)))] := hD
  refine W.widen (k := 3) (n := 60) (by decide) (by decide) ?_
  refine va_putF (D := (dC, dI)) (ci := 2) (v := .ref q_5) (ty := (.array .int)) (C := xR_OB) (T := xT_OB) (N := 9) hx hb hts (fun w h => List.mem_cons_of_mem _ (iw_OB w h)) xt_OB xt_OB_ok xn_OB_nm hown hK hP hD hS 0 rfl rfl 2 (by decide) (hts _ (List.mem_cons_of_mem _ wm_91)) (fun _ h9 => h9) rfl hin rfl (by decide +kernel) rfl rfl (Nat.le_of_ble_eq_true rfl) d_OB_init_25 (fun H locs hP hD hS => ?_)
  have hP : va_P (dC, dI) xCl [(h0, .inr (2, [.ref q_1, .ref q_3, .ref q_5, .null, .null, .null, .null, .null, .int 0])), (q_1, .inl (cA_2, 20, .inl (fun _ => 0))), (q_3, .inl (cA_4, 20, .inl (fun _ => 0))), (q_5, .inl (cA_6, 20, .inl (fun _ => 0)))] H := hP
  have hD : va_D A [(h0, .inr (2, [.ref q_1, .ref q_3, .ref q_5, .null, .null, .null, .null, .null, .int 0])), (q_1, .inl (cA_2, 20, .inl (fun _ => 0))), (q_3, .inl (cA_4, 20, .inl (fun _ => 0))), (q_5, .inl (cA_6, 20, .inl (fun _ => 0)))] := hD
  refine lv_aload_n hx hb d_OB_init_28 rfl (lv_at hl 0 rfl) ?_
  refine lv_bipush (v := 20) hx hb d_OB_init_29 (by decide) ?_
  refine va_newa (atype := .int) (a0 := (20, .inl (fun _ => 0))) (N' := 20) hx hb (hts _ (List.mem_cons_of_mem _ wm_78)) rfl hK hP hD hS hA (fun _ => rfl) (by decide) (by decide) (by decide) (Nat.le_of_ble_eq_true rfl) (Nat.le_of_ble_eq_true rfl) d_OB_init_31 (fun q_7 cA_8 H hK hP hD hS => ?_)
  have hK : va_K (dC, dI) xCl [(cA_2, .int), (cA_4, .int), (cA_6, .int), (cA_8, .int)] s := hK
  have hP : va_P (dC, dI) xCl [(h0, .inr (2, [.ref q_1, .ref q_3, .ref q_5, .null, .null, .null, .null, .null, .int 0])), (q_1, .inl (cA_2, 20, .inl (fun _ => 0))), (q_3, .inl (cA_4, 20, .inl (fun _ => 0))), (q_5, .inl (cA_6, 20, .inl (fun _ => 0))), (q_7, .inl (cA_8, 20, .inl (fun _ => 0)))] H := hP
  have hD : va_D A [(h0, .inr (2, [.ref q_1, .ref q_3, .ref q_5, .null, .null, .null, .null, .null, .int 0])), (q_1, .inl (cA_2, 20, .inl (fun _ => 0))), (q_3, .inl (cA_4, 20, .inl (fun _ => 0))), (q_5, .inl (cA_6, 20, .inl (fun _ => 0))), (q_7, .inl (cA_8, 20, .inl (fun _ => 0)))] := hD
  refine W.widen (k := 4) (n := 80) (by decide) (by decide) ?_
  refine va_putF (D := (dC, dI)) (ci := 2) (v := .ref q_7) (ty := (.array .int)) (C := xR_OB) (T := xT_OB) (N := 9) hx hb hts (fun w h => List.mem_cons_of_mem _ (iw_OB w h)) xt_OB xt_OB_ok xn_OB_nm hown hK hP hD hS 0 rfl rfl 3 (by decide) (hts _ (List.mem_cons_of_mem _ wm_94)) (fun _ h9 => h9) rfl hin rfl (by decide +kernel) rfl rfl (Nat.le_of_ble_eq_true rfl) d_OB_init_33 (fun H locs hP hD hS => ?_)
  have hP : va_P (dC, dI) xCl [(h0, .inr (2, [.ref q_1, .ref q_3, .ref q_5, .ref q_7, .null, .null, .null, .null, .int 0])), (q_1, .inl (cA_2, 20, .inl (fun _ => 0))), (q_3, .inl (cA_4, 20, .inl (fun _ => 0))), (q_5, .inl (cA_6, 20, .inl (fun _ => 0))), (q_7, .inl (cA_8, 20, .inl (fun _ => 0)))] H := hP
  have hD : va_D A [(h0, .inr (2, [.ref q_1, .ref q_3, .ref q_5, .ref q_7, .null, .null, .null, .null, .int 0])), (q_1, .inl (cA_2, 20, .inl (fun _ => 0))), (q_3, .inl (cA_4, 20, .inl (fun _ => 0))), (q_5, .inl (cA_6, 20, .inl (fun _ => 0))), (q_7, .inl (cA_8, 20, .inl (fun _ => 0)))] := hD
  refine lv_aload_n hx hb d_OB_init_36 rfl (lv_at hl 0 rfl) ?_
  refine lv_bipush (v := 20) hx hb d_OB_init_37 (by decide) ?_
  refine va_newa (atype := .int) (a0 := (20, .inl (fun _ => 0))) (N' := 20) hx hb (hts _ (List.mem_cons_of_mem _ wm_78)) rfl hK hP hD hS hA (fun _ => rfl) (by decide) (by decide) (by decide) (Nat.le_of_ble_eq_true rfl) (Nat.le_of_ble_eq_true rfl) d_OB_init_39 (fun q_9 cA_10 H hK hP hD hS => ?_)
  have hK : va_K (dC, dI) xCl [(cA_2, .int), (cA_4, .int), (cA_6, .int), (cA_8, .int), (cA_10, .int)] s := hK
  have hP : va_P (dC, dI) xCl [(h0, .inr (2, [.ref q_1, .ref q_3, .ref q_5, .ref q_7, .null, .null, .null, .null, .int 0])), (q_1, .inl (cA_2, 20, .inl (fun _ => 0))), (q_3, .inl (cA_4, 20, .inl (fun _ => 0))), (q_5, .inl (cA_6, 20, .inl (fun _ => 0))), (q_7, .inl (cA_8, 20, .inl (fun _ => 0))), (q_9, .inl (cA_10, 20, .inl (fun _ => 0)))] H := hP
  have hD : va_D A [(h0, .inr (2, [.ref q_1, .ref q_3, .ref q_5, .ref q_7, .null, .null, .null, .null, .int 0])), (q_1, .inl (cA_2, 20, .inl (fun _ => 0))), (q_3, .inl (cA_4, 20, .inl (fun _ => 0))), (q_5, .inl (cA_6, 20, .inl (fun _ => 0))), (q_7, .inl (cA_8, 20, .inl (fun _ => 0))), (q_9, .inl (cA_10, 20, .inl (fun _ => 0)))] := hD
  refine W.widen (k := 5) (n := 100) (by decide) (by decide) ?_
  refine va_putF (D := (dC, dI)) (ci := 2) (v := .ref q_9) (ty := (.array .int)) (C := xR_OB) (T := xT_OB) (N := 9) hx hb hts (fun w h => List.mem_cons_of_mem _ (iw_OB w h)) xt_OB xt_OB_ok xn_OB_nm hown hK hP hD hS 0 rfl rfl 4 (by decide) (hts _ (List.mem_cons_of_mem _ wm_97)) (fun _ h9 => h9) rfl hin rfl (by decide +kernel) rfl rfl (Nat.le_of_ble_eq_true rfl) d_OB_init_41 (fun H locs hP hD hS => ?_)
  have hP : va_P (dC, dI) xCl [(h0, .inr (2, [.ref q_1, .ref q_3, .ref q_5, .ref q_7, .ref q_9, .null, .null, .null, .int 0])), (q_1, .inl (cA_2, 20, .inl (fun _ => 0))), (q_3, .inl (cA_4, 20, .inl (fun _ => 0))), (q_5, .inl (cA_6, 20, .inl (fun _ => 0))), (q_7, .inl (cA_8, 20, .inl (fun _ => 0))), (q_9, .inl (cA_10, 20, .inl (fun _ => 0)))] H := hP
  have hD : va_D A [(h0, .inr (2, [.ref q_1, .ref q_3, .ref q_5, .ref q_7, .ref q_9, .null, .null, .null, .int 0])), (q_1, .inl (cA_2, 20, .inl (fun _ => 0))), (q_3, .inl (cA_4, 20, .inl (fun _ => 0))), (q_5, .inl (cA_6, 20, .inl (fun _ => 0))), (q_7, .inl (cA_8, 20, .inl (fun _ => 0))), (q_9, .inl (cA_10, 20, .inl (fun _ => 0)))] := hD
  refine lv_aload_n hx hb d_OB_init_44 rfl (lv_at hl 0 rfl) ?_
  refine lv_bipush (v := 20) hx hb d_OB_init_45 (by decide) ?_
  refine va_newa (atype := .int) (a0 := (20, .inl (fun _ => 0))) (N' := 20) hx hb (hts _ (List.mem_cons_of_mem _ wm_78)) rfl hK hP hD hS hA (fun _ => rfl) (by decide) (by decide) (by decide) (Nat.le_of_ble_eq_true rfl) (Nat.le_of_ble_eq_true rfl) d_OB_init_47 (fun q_11 cA_12 H hK hP hD hS => ?_)
  have hK : va_K (dC, dI) xCl [(cA_2, .int), (cA_4, .int), (cA_6, .int), (cA_8, .int), (cA_10, .int), (cA_12, .int)] s := hK
  have hP : va_P (dC, dI) xCl [(h0, .inr (2, [.ref q_1, .ref q_3, .ref q_5, .ref q_7, .ref q_9, .null, .null, .null, .int 0])), (q_1, .inl (cA_2, 20, .inl (fun _ => 0))), (q_3, .inl (cA_4, 20, .inl (fun _ => 0))), (q_5, .inl (cA_6, 20, .inl (fun _ => 0))), (q_7, .inl (cA_8, 20, .inl (fun _ => 0))), (q_9, .inl (cA_10, 20, .inl (fun _ => 0))), (q_11, .inl (cA_12, 20, .inl (fun _ => 0)))] H := hP
  have hD : va_D A [(h0, .inr (2, [.ref q_1, .ref q_3, .ref q_5, .ref q_7, .ref q_9, .null, .null, .null, .int 0])), (q_1, .inl (cA_2, 20, .inl (fun _ => 0))), (q_3, .inl (cA_4, 20, .inl (fun _ => 0))), (q_5, .inl (cA_6, 20, .inl (fun _ => 0))), (q_7, .inl (cA_8, 20, .inl (fun _ => 0))), (q_9, .inl (cA_10, 20, .inl (fun _ => 0))), (q_11, .inl (cA_12, 20, .inl (fun _ => 0)))] := hD
  refine W.widen (k := 6) (n := 120) (by decide) (by decide) ?_
  refine va_putF (D := (dC, dI)) (ci := 2) (v := .ref q_11) (ty := (.array .int)) (C := xR_OB) (T := xT_OB) (N := 9) hx hb hts (fun w h => List.mem_cons_of_mem _ (iw_OB w h)) xt_OB xt_OB_ok xn_OB_nm hown hK hP hD hS 0 rfl rfl 5 (by decide) (hts _ (List.mem_cons_of_mem _ wm_100)) (fun _ h9 => h9) rfl hin rfl (by decide +kernel) rfl rfl (Nat.le_of_ble_eq_true rfl) d_OB_init_49 (fun H locs hP hD hS => ?_)
  have hP : va_P (dC, dI) xCl [(h0, .inr (2, [.ref q_1, .ref q_3, .ref q_5, .ref q_7, .ref q_9, .ref q_11, .null, .null, .int 0])), (q_1, .inl (cA_2, 20, .inl (fun _ => 0))), (q_3, .inl (cA_4, 20, .inl (fun _ => 0))), (q_5, .inl (cA_6, 20, .inl (fun _ => 0))), (q_7, .inl (cA_8, 20, .inl (fun _ => 0))), (q_9, .inl (cA_10, 20, .inl (fun _ => 0))), (q_11, .inl (cA_12, 20, .inl (fun _ => 0)))] H := hP
  have hD : va_D A [(h0, .inr (2, [.ref q_1, .ref q_3, .ref q_5, .ref q_7, .ref q_9, .ref q_11, .null, .null, .int 0])), (q_1, .inl (cA_2, 20, .inl (fun _ => 0))), (q_3, .inl (cA_4, 20, .inl (fun _ => 0))), (q_5, .inl (cA_6, 20, .inl (fun _ => 0))), (q_7, .inl (cA_8, 20, .inl (fun _ => 0))), (q_9, .inl (cA_10, 20, .inl (fun _ => 0))), (q_11, .inl (cA_12, 20, .inl (fun _ => 0)))] := hD
  refine lv_aload_n hx hb d_OB_init_52 rfl (lv_at hl 0 rfl) ?_
  refine lv_bipush (v := 20) hx hb d_OB_init_53 (by decide) ?_
  refine va_newa (atype := .int) (a0 := (20, .inl (fun _ => 0))) (N' := 20) hx hb (hts _ (List.mem_cons_of_mem _ wm_78)) rfl hK hP hD hS hA (fun _ => rfl) (by decide) (by decide) (by decide) (Nat.le_of_ble_eq_true rfl) (Nat.le_of_ble_eq_true rfl) d_OB_init_55 (fun q_13 cA_14 H hK hP hD hS => ?_)
  have hK : va_K (dC, dI) xCl [(cA_2, .int), (cA_4, .int), (cA_6, .int), (cA_8, .int), (cA_10, .int), (cA_12, .int), (cA_14, .int)] s := hK
  have hP : va_P (dC, dI) xCl [(h0, .inr (2, [.ref q_1, .ref q_3, .ref q_5, .ref q_7, .ref q_9, .ref q_11, .null, .null, .int 0])), (q_1, .inl (cA_2, 20, .inl (fun _ => 0))), (q_3, .inl (cA_4, 20, .inl (fun _ => 0))), (q_5, .inl (cA_6, 20, .inl (fun _ => 0))), (q_7, .inl (cA_8, 20, .inl (fun _ => 0))), (q_9, .inl (cA_10, 20, .inl (fun _ => 0))), (q_11, .inl (cA_12, 20, .inl (fun _ => 0))), (q_13, .inl (cA_14, 20, .inl (fun _ => 0)))] H := hP
  have hD : va_D A [(h0, .inr (2, [.ref q_1, .ref q_3, .ref q_5, .ref q_7, .ref q_9, .ref q_11, .null, .null, .int 0])), (q_1, .inl (cA_2, 20, .inl (fun _ => 0))), (q_3, .inl (cA_4, 20, .inl (fun _ => 0))), (q_5, .inl (cA_6, 20, .inl (fun _ => 0))), (q_7, .inl (cA_8, 20, .inl (fun _ => 0))), (q_9, .inl (cA_10, 20, .inl (fun _ => 0))), (q_11, .inl (cA_12, 20, .inl (fun _ => 0))), (q_13, .inl (cA_14, 20, .inl (fun _ => 0)))] := hD
  refine W.widen (k := 7) (n := 140) (by decide) (by decide) ?_
  refine va_putF (D := (dC, dI)) (ci := 2) (v := .ref q_13) (ty := (.array .int)) (C := xR_OB) (T := xT_OB) (N := 9) hx hb hts (fun w h => List.mem_cons_of_mem _ (iw_OB w h)) xt_OB xt_OB_ok xn_OB_nm hown hK hP hD hS 0 rfl rfl 6 (by decide) (hts _ (List.mem_cons_of_mem _ wm_101)) (fun _ h9 => h9) rfl hin rfl (by decide +kernel) rfl rfl (Nat.le_of_ble_eq_true rfl) d_OB_init_57 (fun H locs hP hD hS => ?_)
  have hP : va_P (dC, dI) xCl [(h0, .inr (2, [.ref q_1, .ref q_3, .ref q_5, .ref q_7, .ref q_9, .ref q_11, .ref q_13, .null, .int 0])), (q_1, .inl (cA_2, 20, .inl (fun _ => 0))), (q_3, .inl (cA_4, 20, .inl (fun _ => 0))), (q_5, .inl (cA_6, 20, .inl (fun _ => 0))), (q_7, .inl (cA_8, 20, .inl (fun _ => 0))), (q_9, .inl (cA_10, 20, .inl (fun _ => 0))), (q_11, .inl (cA_12, 20, .inl (fun _ => 0))), (q_13, .inl (cA_14, 20, .inl (fun _ => 0)))] H := hP
  have hD : va_D A [(h0, .inr (2, [.ref q_1, .ref q_3, .ref q_5, .ref q_7, .ref q_9, .ref q_11, .ref q_13, .null, .int 0])), (q_1, .inl (cA_2, 20, .inl (fun _ => 0))), (q_3, .inl (cA_4, 20, .inl (fun _ => 0))), (q_5, .inl (cA_6, 20, .inl (fun _ => 0))), (q_7, .inl (cA_8, 20, .inl (fun _ => 0))), (q_9, .inl (cA_10, 20, .inl (fun _ => 0))), (q_11, .inl (cA_12, 20, .inl (fun _ => 0))), (q_13, .inl (cA_14, 20, .inl (fun _ => 0)))] := hD
  refine lv_aload_n hx hb d_OB_init_60 rfl (lv_at hl 0 rfl) ?_
  refine lv_bipush (v := 20) hx hb d_OB_init_61 (by decide) ?_
  refine va_newa (atype := .boolean) (a0 := (20, .inl (fun _ => 0))) (N' := 20) hx hb (hts _ (List.mem_cons_of_mem _ wm_130)) rfl hK hP hD hS hA (fun _ => rfl) (by decide) (by decide) (by decide) (Nat.le_of_ble_eq_true rfl) (Nat.le_of_ble_eq_true rfl) d_OB_init_63 (fun q_15 cA_16 H hK hP hD hS => ?_)
  have hK : va_K (dC, dI) xCl [(cA_2, .int), (cA_4, .int), (cA_6, .int), (cA_8, .int), (cA_10, .int), (cA_12, .int), (cA_14, .int), (cA_16, .boolean)] s := hK
  have hP : va_P (dC, dI) xCl [(h0, .inr (2, [.ref q_1, .ref q_3, .ref q_5, .ref q_7, .ref q_9, .ref q_11, .ref q_13, .null, .int 0])), (q_1, .inl (cA_2, 20, .inl (fun _ => 0))), (q_3, .inl (cA_4, 20, .inl (fun _ => 0))), (q_5, .inl (cA_6, 20, .inl (fun _ => 0))), (q_7, .inl (cA_8, 20, .inl (fun _ => 0))), (q_9, .inl (cA_10, 20, .inl (fun _ => 0))), (q_11, .inl (cA_12, 20, .inl (fun _ => 0))), (q_13, .inl (cA_14, 20, .inl (fun _ => 0))), (q_15, .inl (cA_16, 20, .inl (fun _ => 0)))] H := hP
  have hD : va_D A [(h0, .inr (2, [.ref q_1, .ref q_3, .ref q_5, .ref q_7, .ref q_9, .ref q_11, .ref q_13, .null, .int 0])), (q_1, .inl (cA_2, 20, .inl (fun _ => 0))), (q_3, .inl (cA_4, 20, .inl (fun _ => 0))), (q_5, .inl (cA_6, 20, .inl (fun _ => 0))), (q_7, .inl (cA_8, 20, .inl (fun _ => 0))), (q_9, .inl (cA_10, 20, .inl (fun _ => 0))), (q_11, .inl (cA_12, 20, .inl (fun _ => 0))), (q_13, .inl (cA_14, 20, .inl (fun _ => 0))), (q_15, .inl (cA_16, 20, .inl (fun _ => 0)))] := hD
  refine W.widen (k := 8) (n := 160) (by decide) (by decide) ?_
  refine va_putF (D := (dC, dI)) (ci := 2) (v := .ref q_15) (ty := (.array .boolean)) (C := xR_OB) (T := xT_OB) (N := 9) hx hb hts (fun w h => List.mem_cons_of_mem _ (iw_OB w h)) xt_OB xt_OB_ok xn_OB_nm hown hK hP hD hS 0 rfl rfl 7 (by decide) (hts _ (List.mem_cons_of_mem _ wm_103)) (fun _ h9 => h9) rfl hin rfl (by decide +kernel) rfl rfl (Nat.le_of_ble_eq_true rfl) d_OB_init_65 (fun H locs hP hD hS => ?_)
  have hP : va_P (dC, dI) xCl [(h0, .inr (2, [.ref q_1, .ref q_3, .ref q_5, .ref q_7, .ref q_9, .ref q_11, .ref q_13, .ref q_15, .int 0])), (q_1, .inl (cA_2, 20, .inl (fun _ => 0))), (q_3, .inl (cA_4, 20, .inl (fun _ => 0))), (q_5, .inl (cA_6, 20, .inl (fun _ => 0))), (q_7, .inl (cA_8, 20, .inl (fun _ => 0))), (q_9, .inl (cA_10, 20, .inl (fun _ => 0))), (q_11, .inl (cA_12, 20, .inl (fun _ => 0))), (q_13, .inl (cA_14, 20, .inl (fun _ => 0))), (q_15, .inl (cA_16, 20, .inl (fun _ => 0)))] H := hP
  have hD : va_D A [(h0, .inr (2, [.ref q_1, .ref q_3, .ref q_5, .ref q_7, .ref q_9, .ref q_11, .ref q_13, .ref q_15, .int 0])), (q_1, .inl (cA_2, 20, .inl (fun _ => 0))), (q_3, .inl (cA_4, 20, .inl (fun _ => 0))), (q_5, .inl (cA_6, 20, .inl (fun _ => 0))), (q_7, .inl (cA_8, 20, .inl (fun _ => 0))), (q_9, .inl (cA_10, 20, .inl (fun _ => 0))), (q_11, .inl (cA_12, 20, .inl (fun _ => 0))), (q_13, .inl (cA_14, 20, .inl (fun _ => 0))), (q_15, .inl (cA_16, 20, .inl (fun _ => 0)))] := hD
  have hP9 := hP.sub (ws' := [(h0, .inr (2, [.ref q_1, .ref q_3, .ref q_5, .ref q_7, .ref q_9, .ref q_11, .ref q_13, .ref q_15, .int 0])), (q_1, .inl (cA_2, 20, .inl (fun _ => 0))), (q_3, .inl (cA_4, 20, .inl (fun _ => 0))), (q_5, .inl (cA_6, 20, .inl (fun _ => 0))), (q_7, .inl (cA_8, 20, .inl (fun _ => 0))), (q_9, .inl (cA_10, 20, .inl (fun _ => 0))), (q_11, .inl (cA_12, 20, .inl (fun _ => 0))), (q_13, .inl (cA_14, 20, .inl (fun _ => 0))), (q_15, .inl (cA_16, 20, .inl (fun _ => 0)))]) [0, 1, 2, 3, 4, 5, 6, 7, 8] rfl
  have hD9 := hD.sub (ws' := [(h0, .inr (2, [.ref q_1, .ref q_3, .ref q_5, .ref q_7, .ref q_9, .ref q_11, .ref q_13, .ref q_15, .int 0])), (q_1, .inl (cA_2, 20, .inl (fun _ => 0))), (q_3, .inl (cA_4, 20, .inl (fun _ => 0))), (q_5, .inl (cA_6, 20, .inl (fun _ => 0))), (q_7, .inl (cA_8, 20, .inl (fun _ => 0))), (q_9, .inl (cA_10, 20, .inl (fun _ => 0))), (q_11, .inl (cA_12, 20, .inl (fun _ => 0))), (q_13, .inl (cA_14, 20, .inl (fun _ => 0))), (q_15, .inl (cA_16, 20, .inl (fun _ => 0)))]) [0, 1, 2, 3, 4, 5, 6, 7, 8] (by decide) rfl
  have hK9 := hK.sub (tys' := [(cA_2, .int), (cA_4, .int), (cA_6, .int), (cA_8, .int), (cA_10, .int), (cA_12, .int), (cA_14, .int), (cA_16, .boolean)]) [0, 1, 2, 3, 4, 5, 6, 7] rfl
  exact W.vret hx hb hr (fun t ht hW => ⟨⟨(), rfl, trivial, q_1, q_3, q_5, q_7, q_9, q_11, q_13, q_15, cA_2, cA_4, cA_6, cA_8, cA_10, cA_12, cA_14, cA_16, ⟨by rw [ht]; exact hP9, va_K.moved hW.alike hK9, by exact hD9⟩⟩, hS.F ht⟩) hS.2.2 d_OB_init_68 hlocks
