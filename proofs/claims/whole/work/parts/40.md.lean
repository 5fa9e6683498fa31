theorem d_MD_thrown_0 : decode prog_9_method_2_code 0 = .ok (.aload_n 0, 1) := by decide +kernel
theorem d_MD_thrown_1 : decode prog_9_method_2_code 1 = .ok (.getfield 48, 3) := by decide +kernel
theorem d_MD_thrown_4 : decode prog_9_method_2_code 4 = .ok (.ireturn, 1) := by decide +kernel
theorem d_MD_goes_0 : decode prog_9_method_3_code 0 = .ok (.aload_n 0, 1) := by decide +kernel
theorem d_MD_goes_1 : decode prog_9_method_3_code 1 = .ok (.iload_n 1, 1) := by decide +kernel
theorem d_MD_goes_2 : decode prog_9_method_3_code 2 = .ok (.ifCond .ne 7, 3) := by decide +kernel
theorem d_MD_goes_5 : decode prog_9_method_3_code 5 = .ok (.iconst 1, 1) := by decide +kernel
theorem d_MD_goes_6 : decode prog_9_method_3_code 6 = .ok (.goto 20, 3) := by decide +kernel
theorem d_MD_goes_9 : decode prog_9_method_3_code 9 = .ok (.iload_n 2, 1) := by decide +kernel
theorem d_MD_goes_10 : decode prog_9_method_3_code 10 = .ok (.ifCond .ne 7, 3) := by decide +kernel
theorem d_MD_goes_13 : decode prog_9_method_3_code 13 = .ok (.iconst 2, 1) := by decide +kernel
theorem d_MD_goes_14 : decode prog_9_method_3_code 14 = .ok (.goto 12, 3) := by decide +kernel
theorem d_MD_goes_17 : decode prog_9_method_3_code 17 = .ok (.iload_n 3, 1) := by decide +kernel
theorem d_MD_goes_18 : decode prog_9_method_3_code 18 = .ok (.ifCond .ne 7, 3) := by decide +kernel
theorem d_MD_goes_21 : decode prog_9_method_3_code 21 = .ok (.iconst 3, 1) := by decide +kernel
theorem d_MD_goes_22 : decode prog_9_method_3_code 22 = .ok (.goto 4, 3) := by decide +kernel
theorem d_MD_goes_25 : decode prog_9_method_3_code 25 = .ok (.iconst 0, 1) := by decide +kernel
theorem d_MD_goes_26 : decode prog_9_method_3_code 26 = .ok (.putfield 48, 3) := by decide +kernel
theorem d_MD_goes_29 : decode prog_9_method_3_code 29 = .ok (.aload_n 0, 1) := by decide +kernel
theorem d_MD_goes_30 : decode prog_9_method_3_code 30 = .ok (.getfield 48, 3) := by decide +kernel
theorem d_MD_goes_33 : decode prog_9_method_3_code 33 = .ok (.ifCond .ne 7, 3) := by decide +kernel
theorem d_MD_goes_36 : decode prog_9_method_3_code 36 = .ok (.iconst 1, 1) := by decide +kernel
theorem d_MD_goes_37 : decode prog_9_method_3_code 37 = .ok (.goto 4, 3) := by decide +kernel
theorem d_MD_goes_40 : decode prog_9_method_3_code 40 = .ok (.iconst 0, 1) := by decide +kernel
theorem d_MD_goes_41 : decode prog_9_method_3_code 41 = .ok (.ireturn, 1) := by decide +kernel
theorem d_MD_within_0 : decode prog_9_method_4_code 0 = .ok (.iload_n 0, 1) := by decide +kernel
theorem d_MD_within_1 : decode prog_9_method_4_code 1 = .ok (.iload_n 1, 1) := by decide +kernel
theorem d_MD_within_2 : decode prog_9_method_4_code 2 = .ok (.if_icmp .lt 12, 3) := by decide +kernel
theorem d_MD_within_5 : decode prog_9_method_4_code 5 = .ok (.iload_n 0, 1) := by decide +kernel
theorem d_MD_within_6 : decode prog_9_method_4_code 6 = .ok (.iload_n 2, 1) := by decide +kernel
theorem d_MD_within_7 : decode prog_9_method_4_code 7 = .ok (.if_icmp .gt 7, 3) := by decide +kernel
theorem d_MD_within_10 : decode prog_9_method_4_code 10 = .ok (.iconst 1, 1) := by decide +kernel
theorem d_MD_within_11 : decode prog_9_method_4_code 11 = .ok (.goto 4, 3) := by decide +kernel
theorem d_MD_within_14 : decode prog_9_method_4_code 14 = .ok (.iconst 0, 1) := by decide +kernel
theorem d_MD_within_15 : decode prog_9_method_4_code 15 = .ok (.ireturn, 1) := by decide +kernel
theorem d_MD_areNear_0 : decode prog_9_method_5_code 0 = .ok (.iload_n 0, 1) := by decide +kernel
theorem d_MD_areNear_1 : decode prog_9_method_5_code 1 = .ok (.sipush (-10000), 3) := by decide +kernel
theorem d_MD_areNear_4 : decode prog_9_method_5_code 4 = .ok (.sipush 10000, 3) := by decide +kernel
theorem d_MD_areNear_7 : decode prog_9_method_5_code 7 = .ok (.invokestatic 51, 3) := by decide +kernel
theorem d_MD_areNear_10 : decode prog_9_method_5_code 10 = .ok (.ifCond .eq 33, 3) := by decide +kernel
theorem d_MD_areNear_13 : decode prog_9_method_5_code 13 = .ok (.iload_n 1, 1) := by decide +kernel
theorem d_MD_areNear_14 : decode prog_9_method_5_code 14 = .ok (.sipush (-10000), 3) := by decide +kernel
theorem d_MD_areNear_17 : decode prog_9_method_5_code 17 = .ok (.sipush 10000, 3) := by decide +kernel
theorem d_MD_areNear_20 : decode prog_9_method_5_code 20 = .ok (.invokestatic 51, 3) := by decide +kernel
theorem d_MD_areNear_23 : decode prog_9_method_5_code 23 = .ok (.ifCond .eq 20, 3) := by decide +kernel
theorem d_MD_areNear_26 : decode prog_9_method_5_code 26 = .ok (.iload_n 2, 1) := by decide +kernel
theorem d_MD_areNear_27 : decode prog_9_method_5_code 27 = .ok (.sipush (-10000), 3) := by decide +kernel
theorem d_MD_areNear_30 : decode prog_9_method_5_code 30 = .ok (.sipush 10000, 3) := by decide +kernel
theorem d_MD_areNear_33 : decode prog_9_method_5_code 33 = .ok (.invokestatic 51, 3) := by decide +kernel
theorem d_MD_areNear_36 : decode prog_9_method_5_code 36 = .ok (.ifCond .eq 7, 3) := by decide +kernel
theorem d_MD_areNear_39 : decode prog_9_method_5_code 39 = .ok (.iconst 1, 1) := by decide +kernel
theorem d_MD_areNear_40 : decode prog_9_method_5_code 40 = .ok (.goto 4, 3) := by decide +kernel
theorem d_MD_areNear_43 : decode prog_9_method_5_code 43 = .ok (.iconst 0, 1) := by decide +kernel
theorem d_MD_areNear_44 : decode prog_9_method_5_code 44 = .ok (.ireturn, 1) := by decide +kernel
theorem d_MD_down_0 : decode prog_9_method_6_code 0 = .ok (.lload_n 0, 1) := by decide +kernel
theorem d_MD_down_1 : decode prog_9_method_6_code 1 = .ok (.lload_n 2, 1) := by decide +kernel
theorem d_MD_down_2 : decode prog_9_method_6_code 2 = .ok (.ldiv, 1) := by decide +kernel
theorem d_MD_down_3 : decode prog_9_method_6_code 3 = .ok (.lstore 4, 2) := by decide +kernel
theorem d_MD_down_5 : decode prog_9_method_6_code 5 = .ok (.lload 4, 2) := by decide +kernel
theorem d_MD_down_7 : decode prog_9_method_6_code 7 = .ok (.lload_n 2, 1) := by decide +kernel
theorem d_MD_down_8 : decode prog_9_method_6_code 8 = .ok (.lmul, 1) := by decide +kernel
theorem d_MD_down_9 : decode prog_9_method_6_code 9 = .ok (.lload_n 0, 1) := by decide +kernel
theorem d_MD_down_10 : decode prog_9_method_6_code 10 = .ok (.lcmp, 1) := by decide +kernel
theorem d_MD_down_11 : decode prog_9_method_6_code 11 = .ok (.ifCond .le 10, 3) := by decide +kernel
theorem d_MD_down_14 : decode prog_9_method_6_code 14 = .ok (.lload 4, 2) := by decide +kernel
theorem d_MD_down_16 : decode prog_9_method_6_code 16 = .ok (.lconst 1, 1) := by decide +kernel
theorem d_MD_down_17 : decode prog_9_method_6_code 17 = .ok (.lsub, 1) := by decide +kernel
theorem d_MD_down_18 : decode prog_9_method_6_code 18 = .ok (.goto 5, 3) := by decide +kernel
theorem d_MD_down_21 : decode prog_9_method_6_code 21 = .ok (.lload 4, 2) := by decide +kernel
theorem d_MD_down_23 : decode prog_9_method_6_code 23 = .ok (.lreturn, 1) := by decide +kernel
theorem d_MD_isObservation_0 : decode prog_9_method_7_code 0 = .ok (.iload_n 1, 1) := by decide +kernel
theorem d_MD_isObservation_1 : decode prog_9_method_7_code 1 = .ok (.iconst 0, 1) := by decide +kernel
theorem d_MD_isObservation_2 : decode prog_9_method_7_code 2 = .ok (.aload_n 0, 1) := by decide +kernel
theorem d_MD_isObservation_3 : decode prog_9_method_7_code 3 = .ok (.getfield 55, 3) := by decide +kernel
theorem d_MD_isObservation_6 : decode prog_9_method_7_code 6 = .ok (.iconst 1, 1) := by decide +kernel
theorem d_MD_isObservation_7 : decode prog_9_method_7_code 7 = .ok (.isub, 1) := by decide +kernel
theorem d_MD_isObservation_8 : decode prog_9_method_7_code 8 = .ok (.invokestatic 51, 3) := by decide +kernel
theorem d_MD_isObservation_11 : decode prog_9_method_7_code 11 = .ok (.ireturn, 1) := by decide +kernel
theorem d_MD_tell_0 : decode prog_9_method_9_code 0 = .ok (.aload_n 0, 1) := by decide +kernel
theorem d_MD_tell_1 : decode prog_9_method_9_code 1 = .ok (.getfield 13, 3) := by decide +kernel
theorem d_MD_tell_4 : decode prog_9_method_9_code 4 = .ok (.aload_n 0, 1) := by decide +kernel
theorem d_MD_tell_5 : decode prog_9_method_9_code 5 = .ok (.getfield 55, 3) := by decide +kernel
theorem d_MD_tell_8 : decode prog_9_method_9_code 8 = .ok (.iload_n 1, 1) := by decide +kernel
theorem d_MD_tell_9 : decode prog_9_method_9_code 9 = .ok (.iastore, 1) := by decide +kernel
theorem d_MD_tell_10 : decode prog_9_method_9_code 10 = .ok (.aload_n 0, 1) := by decide +kernel
theorem d_MD_tell_11 : decode prog_9_method_9_code 11 = .ok (.getfield 16, 3) := by decide +kernel
theorem d_MD_tell_14 : decode prog_9_method_9_code 14 = .ok (.iconst 3, 1) := by decide +kernel
theorem d_MD_tell_15 : decode prog_9_method_9_code 15 = .ok (.aload_n 0, 1) := by decide +kernel
theorem d_MD_tell_16 : decode prog_9_method_9_code 16 = .ok (.getfield 55, 3) := by decide +kernel
theorem d_MD_tell_19 : decode prog_9_method_9_code 19 = .ok (.imul, 1) := by decide +kernel
theorem d_MD_tell_20 : decode prog_9_method_9_code 20 = .ok (.iload_n 2, 1) := by decide +kernel
theorem d_MD_tell_21 : decode prog_9_method_9_code 21 = .ok (.iastore, 1) := by decide +kernel
theorem d_MD_tell_22 : decode prog_9_method_9_code 22 = .ok (.aload_n 0, 1) := by decide +kernel
theorem d_MD_tell_23 : decode prog_9_method_9_code 23 = .ok (.getfield 16, 3) := by decide +kernel
theorem d_MD_tell_26 : decode prog_9_method_9_code 26 = .ok (.iconst 3, 1) := by decide +kernel
theorem d_MD_tell_27 : decode prog_9_method_9_code 27 = .ok (.aload_n 0, 1) := by decide +kernel
theorem d_MD_tell_28 : decode prog_9_method_9_code 28 = .ok (.getfield 55, 3) := by decide +kernel
theorem d_MD_tell_31 : decode prog_9_method_9_code 31 = .ok (.imul, 1) := by decide +kernel
theorem d_MD_tell_32 : decode prog_9_method_9_code 32 = .ok (.iconst 1, 1) := by decide +kernel
theorem d_MD_tell_33 : decode prog_9_method_9_code 33 = .ok (.iadd, 1) := by decide +kernel
theorem d_MD_tell_34 : decode prog_9_method_9_code 34 = .ok (.iload_n 3, 1) := by decide +kernel
theorem d_MD_tell_35 : decode prog_9_method_9_code 35 = .ok (.iastore, 1) := by decide +kernel
theorem d_MD_tell_36 : decode prog_9_method_9_code 36 = .ok (.aload_n 0, 1) := by decide +kernel
theorem d_MD_tell_37 : decode prog_9_method_9_code 37 = .ok (.getfield 16, 3) := by decide +kernel
theorem d_MD_tell_40 : decode prog_9_method_9_code 40 = .ok (.iconst 3, 1) := by decide +kernel
theorem d_MD_tell_41 : decode prog_9_method_9_code 41 = .ok (.aload_n 0, 1) := by decide +kernel
theorem d_MD_tell_42 : decode prog_9_method_9_code 42 = .ok (.getfield 55, 3) := by decide +kernel
theorem d_MD_tell_45 : decode prog_9_method_9_code 45 = .ok (.imul, 1) := by decide +kernel
theorem d_MD_tell_46 : decode prog_9_method_9_code 46 = .ok (.iconst 2, 1) := by decide +kernel
theorem d_MD_tell_47 : decode prog_9_method_9_code 47 = .ok (.iadd, 1) := by decide +kernel
theorem d_MD_tell_48 : decode prog_9_method_9_code 48 = .ok (.iload 4, 2) := by decide +kernel
theorem d_MD_tell_50 : decode prog_9_method_9_code 50 = .ok (.iastore, 1) := by decide +kernel
theorem d_MD_tell_51 : decode prog_9_method_9_code 51 = .ok (.aload_n 0, 1) := by decide +kernel
theorem d_MD_tell_52 : decode prog_9_method_9_code 52 = .ok (.getfield 22, 3) := by decide +kernel
theorem d_MD_tell_55 : decode prog_9_method_9_code 55 = .ok (.aload_n 0, 1) := by decide +kernel
theorem d_MD_tell_56 : decode prog_9_method_9_code 56 = .ok (.getfield 55, 3) := by decide +kernel
theorem d_MD_tell_59 : decode prog_9_method_9_code 59 = .ok (.iconst 1, 1) := by decide +kernel
theorem d_MD_tell_60 : decode prog_9_method_9_code 60 = .ok (.bastore, 1) := by decide +kernel
theorem d_MD_tell_61 : decode prog_9_method_9_code 61 = .ok (.aload_n 0, 1) := by decide +kernel
theorem d_MD_tell_62 : decode prog_9_method_9_code 62 = .ok (.dup, 1) := by decide +kernel
theorem d_MD_tell_63 : decode prog_9_method_9_code 63 = .ok (.getfield 55, 3) := by decide +kernel
theorem d_MD_tell_66 : decode prog_9_method_9_code 66 = .ok (.iconst 1, 1) := by decide +kernel
theorem d_MD_tell_67 : decode prog_9_method_9_code 67 = .ok (.iadd, 1) := by decide +kernel
theorem d_MD_tell_68 : decode prog_9_method_9_code 68 = .ok (.putfield 55, 3) := by decide +kernel
theorem d_MD_tell_71 : decode prog_9_method_9_code 71 = .ok (.return_, 1) := by decide +kernel
set_option maxHeartbeats 4000000 in
set_option maxRecDepth 100000 in
/-- thrown -/
theorem c_MD_thrown (l : Launch) (dC : Nat → ClassId) (dI : Nat → Nat → Nat) (h0 : Nat) (th : Int32) (nm : Nat) (ap : Nat) (no : Nat) (am : Nat) (aw : Nat) (az : Nat) (au : Nat) (kn : Int32) (vP : Int64) (vQ : Int64) (vS : Int64) (vT : Int64) (vB : Int64) (vM : Int64) (vH : Int64) (ao : Nat) (ax : Nat) (np : Nat) (ay : Nat) (nl : Nat) (ad : Nat) (al : Nat) (sn : Nat) (ag : Nat) (ta : Nat) (nb : Int32)  : Met l xy_MD_thrown xw_MD_thrown ({ frames := 0, cells := 0, slots := 0, locals := 0 }) (xp_r [.ref h0] (dC, dI) xCl [(h0, .inr (7, [.int th, .int (nI nm), .ref ap, .int (nI no), .ref am, .ref aw, .ref az, .ref au, .int kn, .long vP, .long vQ, .long vS, .long vT, .long vB, .long vM, .long vH, .ref ao, .ref ax, .int (nI np), .ref ay, .int (nI nl), .ref ad, .ref al, .int (nI sn), .ref ag, .int (nI ta), .int nb]))] []) (xr_i (fun r => r = th)) 0 0 (fun _ => False) := by
  refine Met.ofW (cc := prog_9_method_2_code) (maxL := 1) (ret := (some .int)) (by decide) rfl ?_
  intro p e s m args below meth c s₁ B hml hv
  obtain ⟨rfl, hz, hP, hK⟩ := hv
  have hx := B.exec
  have hb := B.bytes
  have hr := B.returns
  have hts := atoms_spec (ws := xw_MD_thrown) B.pre
  have hown : s.vm.findClass xR_MD = some m.cls := findClass_of_methodNamed B.named
  have hlocks := B.notSynchronized
  have hP : va_P (dC, dI) xCl [(h0, .inr (7, [.int th, .int (nI nm), .ref ap, .int (nI no), .ref am, .ref aw, .ref az, .ref au, .int kn, .long vP, .long vQ, .long vS, .long vT, .long vB, .long vM, .long vH, .ref ao, .ref ax, .int (nI np), .ref ay, .int (nI nl), .ref ad, .ref al, .int (nI sn), .ref ag, .int (nI ta), .int nb]))] s.heap := hP
  have hl := lv_entry ([.ref h0]) (n := 1) (Nat.le_of_ble_eq_true rfl)
  rw [lg_entry_eq]
  generalize (lg_sl ([.ref h0]) ++ List.replicate (1 - (lg_sl ([.ref h0])).length) Slot.unset).toArray = ls at hl ⊢
  have hl : lv_has ls 1 [(0, .ref h0)] := hl
  refine lv_aload_n hx hb d_MD_thrown_0 rfl (lv_at hl 0 rfl) ?_
  refine va_get (D := (dC, dI)) (ci := 7) (v := .int th) (C := xR_MD) (T := xT_MD) (N := 27) hx hb hts (fun w h => List.mem_cons_of_mem _ (iw_MD w h)) hown hK hP 0 rfl rfl 0 (by decide) (hts _ (List.mem_cons_of_mem _ wm_697)) (fun _ h9 => h9) rfl d_MD_thrown_1 ?_
  exact xr_iret (v := th) hx hb hr (by exact rfl) d_MD_thrown_4 hlocks
set_option maxHeartbeats 4000000 in
set_option maxRecDepth 100000 in
/-- goes -/
theorem c_MD_goes (l : Launch) (dC : Nat → ClassId) (dI : Nat → Nat → Nat) (sz : Nat) (h0 : Nat) (th : Int32) (nm : Nat) (ap : Nat) (no : Nat) (am : Nat) (aw : Nat) (az : Nat) (au : Nat) (kn : Int32) (vP : Int64) (vQ : Int64) (vS : Int64) (vT : Int64) (vB : Int64) (vM : Int64) (vH : Int64) (ao : Nat) (ax : Nat) (np : Nat) (ay : Nat) (nl : Nat) (ad : Nat) (al : Nat) (sn : Nat) (ag : Nat) (ta : Nat) (nb : Int32) (o1 : Int32) (o2 : Int32) (o3 : Int32)  : Met l xy_MD_goes xw_MD_goes ({ frames := 0, cells := 0, slots := 0, locals := 0 }) (xp_w [.ref h0, .int o1, .int o2, .int o3] sz (dC, dI) xCl [(h0, .inr (7, [.int th, .int (nI nm), .ref ap, .int (nI no), .ref am, .ref aw, .ref az, .ref au, .int kn, .long vP, .long vQ, .long vS, .long vT, .long vB, .long vM, .long vH, .ref ao, .ref ax, .int (nI np), .ref ay, .int (nI nl), .ref ad, .ref al, .int (nI sn), .ref ag, .int (nI ta), .int nb]))] []) (va_Qi (fun (r : Int32) (_ : Unit) => r = bI (md_th o1 o2 o3 = 0)) (fun _ t => xb_w (dC, dI) xCl [(h0, .inr (7, [.int (md_th o1 o2 o3), .int (nI nm), .ref ap, .int (nI no), .ref am, .ref aw, .ref az, .ref au, .int kn, .long vP, .long vQ, .long vS, .long vT, .long vB, .long vM, .long vH, .ref ao, .ref ax, .int (nI np), .ref ay, .int (nI nl), .ref ad, .ref al, .int (nI sn), .ref ag, .int (nI ta), .int nb]))] [] (va_A [(h0, .inr (7, [.int th, .int (nI nm), .ref ap, .int (nI no), .ref am, .ref aw, .ref az, .ref au, .int kn, .long vP, .long vQ, .long vS, .long vT, .long vB, .long vM, .long vH, .ref ao, .ref ax, .int (nI np), .ref ay, .int (nI nl), .ref ad, .ref al, .int (nI sn), .ref ag, .int (nI ta), .int nb]))] sz) t) (va_A [(h0, .inr (7, [.int th, .int (nI nm), .ref ap, .int (nI no), .ref am, .ref aw, .ref az, .ref au, .int kn, .long vP, .long vQ, .long vS, .long vT, .long vB, .long vM, .long vH, .ref ao, .ref ax, .int (nI np), .ref ay, .int (nI nl), .ref ad, .ref al, .int (nI sn), .ref ag, .int (nI ta), .int nb]))] sz)) 0 0 (va_A [(h0, .inr (7, [.int th, .int (nI nm), .ref ap, .int (nI no), .ref am, .ref aw, .ref az, .ref au, .int kn, .long vP, .long vQ, .long vS, .long vT, .long vB, .long vM, .long vH, .ref ao, .ref ax, .int (nI np), .ref ay, .int (nI nl), .ref ad, .ref al, .int (nI sn), .ref ag, .int (nI ta), .int nb]))] sz) := by
  refine Met.ofW (cc := prog_9_method_3_code) (maxL := 4) (ret := (some .boolean)) (by decide) rfl ?_
  intro p e s m args below meth c s₁ B hml hv
  obtain ⟨rfl, hsz, hz, hP, hK, hD0⟩ := hv
  have hx := B.exec
  have hb := B.bytes
  have hr := B.returns
  have hts := atoms_spec (ws := xw_MD_goes) B.pre
  have hown : s.vm.findClass xR_MD = some m.cls := findClass_of_methodNamed B.named
  have hlocks := B.notSynchronized
  subst hsz
  have hD := hD0.self (sz := s.heap.size)
  generalize hAe : va_A [(h0, .inr (7, [.int th, .int (nI nm), .ref ap, .int (nI no), .ref am, .ref aw, .ref az, .ref au, .int kn, .long vP, .long vQ, .long vS, .long vT, .long vB, .long vM, .long vH, .ref ao, .ref ax, .int (nI np), .ref ay, .int (nI nl), .ref ad, .ref al, .int (nI sn), .ref ag, .int (nI ta), .int nb]))] s.heap.size = A at hD ⊢
  have hA : ∀ q : Nat, s.heap.size ≤ q → A q := fun q h => by rw [← hAe]; exact Or.inr h
  have hS : va_S A s.heap s.heap [] := va_S.rf
  have hP : va_P (dC, dI) xCl [(h0, .inr (7, [.int th, .int (nI nm), .ref ap, .int (nI no), .ref am, .ref aw, .ref az, .ref au, .int kn, .long vP, .long vQ, .long vS, .long vT, .long vB, .long vM, .long vH, .ref ao, .ref ax, .int (nI np), .ref ay, .int (nI nl), .ref ad, .ref al, .int (nI sn), .ref ag, .int (nI ta), .int nb]))] s.heap := hP
  have hl := lv_entry ([.ref h0, .int o1, .int o2, .int o3]) (n := 4) (Nat.le_of_ble_eq_true rfl)
  rw [lg_entry_eq]
  generalize (lg_sl ([.ref h0, .int o1, .int o2, .int o3]) ++ List.replicate (4 - (lg_sl ([.ref h0, .int o1, .int o2, .int o3])).length) Slot.unset).toArray = ls at hl ⊢
  have hl : lv_has ls 4 [(0, .ref h0), (1, .int o1), (2, .int o2), (3, .int o3)] := hl
  refine lv_aload_n hx hb d_MD_goes_0 rfl (lv_at hl 0 rfl) ?_
  refine lv_iload_n hx hb d_MD_goes_1 rfl (lv_at hl 1 rfl) ?_
  refine lv_if_ne (tgt := 9) hx hb d_MD_goes_2 (by decide) (fun c_1 => ?_) (fun c_1 => ?_)
  · refine lv_iload_n hx hb d_MD_goes_9 rfl (lv_at hl 2 rfl) ?_
    refine lv_if_ne (tgt := 17) hx hb d_MD_goes_10 (by decide) (fun c_2 => ?_) (fun c_2 => ?_)
    · refine lv_iload_n hx hb d_MD_goes_17 rfl (lv_at hl 3 rfl) ?_
      refine lv_if_ne (tgt := 25) hx hb d_MD_goes_18 (by decide) (fun c_3 => ?_) (fun c_3 => ?_)
      · refine lv_iconst (v := 0) hx hb d_MD_goes_25 (by decide) ?_
        refine va_put (D := (dC, dI)) (ci := 7) (v := .int 0) (ty := .int) (C := xR_MD) (T := xT_MD) (N := 27) hx hb hts (fun w h => List.mem_cons_of_mem _ (iw_MD w h)) xt_MD xt_MD_ok xn_MD_nm hown hK hP hD hS 0 rfl rfl 0 (by decide) (hts _ (List.mem_cons_of_mem _ wm_697)) (fun _ h9 => h9) rfl (by decide +kernel) rfl rfl (Nat.le_of_ble_eq_true rfl) d_MD_goes_26 (fun H locs hP hD hS => ?_)
        have hP : va_P (dC, dI) xCl [(h0, .inr (7, [.int 0, .int (nI nm), .ref ap, .int (nI no), .ref am, .ref aw, .ref az, .ref au, .int kn, .long vP, .long vQ, .long vS, .long vT, .long vB, .long vM, .long vH, .ref ao, .ref ax, .int (nI np), .ref ay, .int (nI nl), .ref ad, .ref al, .int (nI sn), .ref ag, .int (nI ta), .int nb]))] H := hP
        have hD : va_D A [(h0, .inr (7, [.int 0, .int (nI nm), .ref ap, .int (nI no), .ref am, .ref aw, .ref az, .ref au, .int kn, .long vP, .long vQ, .long vS, .long vT, .long vB, .long vM, .long vH, .ref ao, .ref ax, .int (nI np), .ref ay, .int (nI nl), .ref ad, .ref al, .int (nI sn), .ref ag, .int (nI ta), .int nb]))] := hD
        refine lv_aload_n hx hb d_MD_goes_29 rfl (lv_at hl 0 rfl) ?_
        refine va_get (D := (dC, dI)) (ci := 7) (v := .int 0) (C := xR_MD) (T := xT_MD) (N := 27) hx hb hts (fun w h => List.mem_cons_of_mem _ (iw_MD w h)) hown hK hP 0 rfl rfl 0 (by decide) (hts _ (List.mem_cons_of_mem _ wm_697)) (fun _ h9 => h9) rfl d_MD_goes_30 ?_
        refine lv_if_ne (tgt := 40) hx hb d_MD_goes_33 (by decide) (fun c_4 => ?_) (fun c_4 => ?_)
        · exact absurd c_4 (by decide)
        · refine lv_iconst (v := 1) hx hb d_MD_goes_36 (by decide) ?_
          refine lv_goto (tgt := 41) hx hb d_MD_goes_37 (by decide) ?_
          have hP9 := hP.sub (ws' := [(h0, .inr (7, [.int 0, .int (nI nm), .ref ap, .int (nI no), .ref am, .ref aw, .ref az, .ref au, .int kn, .long vP, .long vQ, .long vS, .long vT, .long vB, .long vM, .long vH, .ref ao, .ref ax, .int (nI np), .ref ay, .int (nI nl), .ref ad, .ref al, .int (nI sn), .ref ag, .int (nI ta), .int nb]))]) [0] rfl
          have hD9 := hD.sub (ws' := [(h0, .inr (7, [.int 0, .int (nI nm), .ref ap, .int (nI no), .ref am, .ref aw, .ref az, .ref au, .int kn, .long vP, .long vQ, .long vS, .long vT, .long vB, .long vM, .long vH, .ref ao, .ref ax, .int (nI np), .ref ay, .int (nI nl), .ref ad, .ref al, .int (nI sn), .ref ag, .int (nI ta), .int nb]))]) [0] (by decide) rfl
          have hK9 := hK.sub (tys' := []) [] rfl
          exact W.zret (v := 1) (ty := .boolean) hx hb hr (by exact rfl) (fun t ht hW => ⟨⟨1, (), rfl, bI_p (md_th_0 c_1 c_2 c_3), ⟨by rw [ht]; rw [(md_th_0 c_1 c_2 c_3)]; exact hP9, va_K.moved hW.alike hK9, by rw [(md_th_0 c_1 c_2 c_3)]; exact hD9⟩⟩, hS.F ht⟩) hS.2.2 d_MD_goes_41 hlocks
      · refine lv_iconst (v := 3) hx hb d_MD_goes_21 (by decide) ?_
        refine lv_goto (tgt := 26) hx hb d_MD_goes_22 (by decide) ?_
        refine va_put (D := (dC, dI)) (ci := 7) (v := .int 3) (ty := .int) (C := xR_MD) (T := xT_MD) (N := 27) hx hb hts (fun w h => List.mem_cons_of_mem _ (iw_MD w h)) xt_MD xt_MD_ok xn_MD_nm hown hK hP hD hS 0 rfl rfl 0 (by decide) (hts _ (List.mem_cons_of_mem _ wm_697)) (fun _ h9 => h9) rfl (by decide +kernel) rfl rfl (Nat.le_of_ble_eq_true rfl) d_MD_goes_26 (fun H locs hP hD hS => ?_)
        have hP : va_P (dC, dI) xCl [(h0, .inr (7, [.int 3, .int (nI nm), .ref ap, .int (nI no), .ref am, .ref aw, .ref az, .ref au, .int kn, .long vP, .long vQ, .long vS, .long vT, .long vB, .long vM, .long vH, .ref ao, .ref ax, .int (nI np), .ref ay, .int (nI nl), .ref ad, .ref al, .int (nI sn), .ref ag, .int (nI ta), .int nb]))] H := hP
        have hD : va_D A [(h0, .inr (7, [.int 3, .int (nI nm), .ref ap, .int (nI no), .ref am, .ref aw, .ref az, .ref au, .int kn, .long vP, .long vQ, .long vS, .long vT, .long vB, .long vM, .long vH, .ref ao, .ref ax, .int (nI np), .ref ay, .int (nI nl), .ref ad, .ref al, .int (nI sn), .ref ag, .int (nI ta), .int nb]))] := hD
        refine lv_aload_n hx hb d_MD_goes_29 rfl (lv_at hl 0 rfl) ?_
        refine va_get (D := (dC, dI)) (ci := 7) (v := .int 3) (C := xR_MD) (T := xT_MD) (N := 27) hx hb hts (fun w h => List.mem_cons_of_mem _ (iw_MD w h)) hown hK hP 0 rfl rfl 0 (by decide) (hts _ (List.mem_cons_of_mem _ wm_697)) (fun _ h9 => h9) rfl d_MD_goes_30 ?_
        refine lv_if_ne (tgt := 40) hx hb d_MD_goes_33 (by decide) (fun c_5 => ?_) (fun c_5 => ?_)
        · refine lv_iconst (v := 0) hx hb d_MD_goes_40 (by decide) ?_
          have hP9 := hP.sub (ws' := [(h0, .inr (7, [.int 3, .int (nI nm), .ref ap, .int (nI no), .ref am, .ref aw, .ref az, .ref au, .int kn, .long vP, .long vQ, .long vS, .long vT, .long vB, .long vM, .long vH, .ref ao, .ref ax, .int (nI np), .ref ay, .int (nI nl), .ref ad, .ref al, .int (nI sn), .ref ag, .int (nI ta), .int nb]))]) [0] rfl
          have hD9 := hD.sub (ws' := [(h0, .inr (7, [.int 3, .int (nI nm), .ref ap, .int (nI no), .ref am, .ref aw, .ref az, .ref au, .int kn, .long vP, .long vQ, .long vS, .long vT, .long vB, .long vM, .long vH, .ref ao, .ref ax, .int (nI np), .ref ay, .int (nI nl), .ref ad, .ref al, .int (nI sn), .ref ag, .int (nI ta), .int nb]))]) [0] (by decide) rfl
          have hK9 := hK.sub (tys' := []) [] rfl
          exact W.zret (v := 0) (ty := .boolean) hx hb hr (by exact rfl) (fun t ht hW => ⟨⟨0, (), rfl, bI_n (by rw [(md_th_3 c_1 c_2 c_3)]; decide), ⟨by rw [ht]; rw [(md_th_3 c_1 c_2 c_3)]; exact hP9, va_K.moved hW.alike hK9, by rw [(md_th_3 c_1 c_2 c_3)]; exact hD9⟩⟩, hS.F ht⟩) hS.2.2 d_MD_goes_41 hlocks
        · exact absurd c_5 (by decide)
    · refine lv_iconst (v := 2) hx hb d_MD_goes_13 (by decide) ?_
      refine lv_goto (tgt := 26) hx hb d_MD_goes_14 (by decide) ?_
      refine va_put (D := (dC, dI)) (ci := 7) (v := .int 2) (ty := .int) (C := xR_MD) (T := xT_MD) (N := 27) hx hb hts (fun w h => List.mem_cons_of_mem _ (iw_MD w h)) xt_MD xt_MD_ok xn_MD_nm hown hK hP hD hS 0 rfl rfl 0 (by decide) (hts _ (List.mem_cons_of_mem _ wm_697)) (fun _ h9 => h9) rfl (by decide +kernel) rfl rfl (Nat.le_of_ble_eq_true rfl) d_MD_goes_26 (fun H locs hP hD hS => ?_)
      have hP : va_P (dC, dI) xCl [(h0, .inr (7, [.int 2, .int (nI nm), .ref ap, .int (nI no), .ref am, .ref aw, .ref az, .ref au, .int kn, .long vP, .long vQ, .long vS, .long vT, .long vB, .long vM, .long vH, .ref ao, .ref ax, .int (nI np), .ref ay, .int (nI nl), .ref ad, .ref al, .int (nI sn), .ref ag, .int (nI ta), .int nb]))] H := hP
      have hD : va_D A [(h0, .inr (7, [.int 2, .int (nI nm), .ref ap, .int (nI no), .ref am, .ref aw, .ref az, .ref au, .int kn, .long vP, .long vQ, .long vS, .long vT, .long vB, .long vM, .long vH, .ref ao, .ref ax, .int (nI np), .ref ay, .int (nI nl), .ref ad, .ref al, .int (nI sn), .ref ag, .int (nI ta), .int nb]))] := hD
      refine lv_aload_n hx hb d_MD_goes_29 rfl (lv_at hl 0 rfl) ?_
      refine va_get (D := (dC, dI)) (ci := 7) (v := .int 2) (C := xR_MD) (T := xT_MD) (N := 27) hx hb hts (fun w h => List.mem_cons_of_mem _ (iw_MD w h)) hown hK hP 0 rfl rfl 0 (by decide) (hts _ (List.mem_cons_of_mem _ wm_697)) (fun _ h9 => h9) rfl d_MD_goes_30 ?_
      refine lv_if_ne (tgt := 40) hx hb d_MD_goes_33 (by decide) (fun c_6 => ?_) (fun c_6 => ?_)
      · refine lv_iconst (v := 0) hx hb d_MD_goes_40 (by decide) ?_
        have hP9 := hP.sub (ws' := [(h0, .inr (7, [.int 2, .int (nI nm), .ref ap, .int (nI no), .ref am, .ref aw, .ref az, .ref au, .int kn, .long vP, .long vQ, .long vS, .long vT, .long vB, .long vM, .long vH, .ref ao, .ref ax, .int (nI np), .ref ay, .int (nI nl), .ref ad, .ref al, .int (nI sn), .ref ag, .int (nI ta), .int nb]))]) [0] rfl
        have hD9 := hD.sub (ws' := [(h0, .inr (7, [.int 2, .int (nI nm), .ref ap, .int (nI no), .ref am, .ref aw, .ref az, .ref au, .int kn, .long vP, .long vQ, .long vS, .long vT, .long vB, .long vM, .long vH, .ref ao, .ref ax, .int (nI np), .ref ay, .int (nI nl), .ref ad, .ref al, .int (nI sn), .ref ag, .int (nI ta), .int nb]))]) [0] (by decide) rfl
        have hK9 := hK.sub (tys' := []) [] rfl
        exact W.zret (v := 0) (ty := .boolean) hx hb hr (by exact rfl) (fun t ht hW => ⟨⟨0, (), rfl, bI_n (by rw [(md_th_2 c_1 c_2)]; decide), ⟨by rw [ht]; rw [(md_th_2 c_1 c_2)]; exact hP9, va_K.moved hW.alike hK9, by rw [(md_th_2 c_1 c_2)]; exact hD9⟩⟩, hS.F ht⟩) hS.2.2 d_MD_goes_41 hlocks
      · exact absurd c_6 (by decide)
  · refine lv_iconst (v := 1) hx hb d_MD_goes_5 (by decide) ?_
    refine lv_goto (tgt := 26) hx hb d_MD_goes_6 (by decide) ?_
    refine va_put (D := (dC, dI)) (ci := 7) (v := .int 1) (ty := .int) (C := xR_MD) (T := xT_MD) (N := 27) hx hb hts (fun w h => List.mem_cons_of_mem _ (iw_MD w h)) xt_MD xt_MD_ok xn_MD_nm hown hK hP hD hS 0 rfl rfl 0 (by decide) (hts _ (List.mem_cons_of_mem _ wm_697)) (fun _ h9 => h9) rfl (by decide +kernel) rfl rfl (Nat.le_of_ble_eq_true rfl) d_MD_goes_26 (fun H locs hP hD hS => ?_)
    have hP : va_P (dC, dI) xCl [(h0, .inr (7, [.int 1, .int (nI nm), .ref ap, .int (nI no), .ref am, .ref aw, .ref az, .ref au, .int kn, .long vP, .long vQ, .long vS, .long vT, .long vB, .long vM, .long vH, .ref ao, .ref ax, .int (nI np), .ref ay, .int (nI nl), .ref ad, .ref al, .int (nI sn), .ref ag, .int (nI ta), .int nb]))] H := hP
    have hD : va_D A [(h0, .inr (7, [.int 1, .int (nI nm), .ref ap, .int (nI no), .ref am, .ref aw, .ref az, .ref au, .int kn, .long vP, .long vQ, .long vS, .long vT, .long vB, .long vM, .long vH, .ref ao, .ref ax, .int (nI np), .ref ay, .int (nI nl), .ref ad, .ref al, .int (nI sn), .ref ag, .int (nI ta), .int nb]))] := hD
    refine lv_aload_n hx hb d_MD_goes_29 rfl (lv_at hl 0 rfl) ?_
    refine va_get (D := (dC, dI)) (ci := 7) (v := .int 1) (C := xR_MD) (T := xT_MD) (N := 27) hx hb hts (fun w h => List.mem_cons_of_mem _ (iw_MD w h)) hown hK hP 0 rfl rfl 0 (by decide) (hts _ (List.mem_cons_of_mem _ wm_697)) (fun _ h9 => h9) rfl d_MD_goes_30 ?_
    refine lv_if_ne (tgt := 40) hx hb d_MD_goes_33 (by decide) (fun c_7 => ?_) (fun c_7 => ?_)
    · refine lv_iconst (v := 0) hx hb d_MD_goes_40 (by decide) ?_
      have hP9 := hP.sub (ws' := [(h0, .inr (7, [.int 1, .int (nI nm), .ref ap, .int (nI no), .ref am, .ref aw, .ref az, .ref au, .int kn, .long vP, .long vQ, .long vS, .long vT, .long vB, .long vM, .long vH, .ref ao, .ref ax, .int (nI np), .ref ay, .int (nI nl), .ref ad, .ref al, .int (nI sn), .ref ag, .int (nI ta), .int nb]))]) [0] rfl
      have hD9 := hD.sub (ws' := [(h0, .inr (7, [.int 1, .int (nI nm), .ref ap, .int (nI no), .ref am, .ref aw, .ref az, .ref au, .int kn, .long vP, .long vQ, .long vS, .long vT, .long vB, .long vM, .long vH, .ref ao, .ref ax, .int (nI np), .ref ay, .int (nI nl), .ref ad, .ref al, .int (nI sn), .ref ag, .int (nI ta), .int nb]))]) [0] (by decide) rfl
      have hK9 := hK.sub (tys' := []) [] rfl
      exact W.zret (v := 0) (ty := .boolean) hx hb hr (by exact rfl) (fun t ht hW => ⟨⟨0, (), rfl, bI_n (by rw [(md_th_1 c_1)]; decide), ⟨by rw [ht]; rw [(md_th_1 c_1)]; exact hP9, va_K.moved hW.alike hK9, by rw [(md_th_1 c_1)]; exact hD9⟩⟩, hS.F ht⟩) hS.2.2 d_MD_goes_41 hlocks
    · exact absurd c_7 (by decide)
set_option maxHeartbeats 4000000 in
set_option maxRecDepth 100000 in
/-- within -/
theorem c_MD_within (l : Launch) (dC : Nat → ClassId) (dI : Nat → Nat → Nat) (a : Int32) (b : Int32) (d : Int32)  : Met l xy_MD_within xw_MD_within ({ frames := 0, cells := 0, slots := 0, locals := 0 }) (xp_r [.int a, .int b, .int d] (dC, dI) xCl [] []) (xr_i (fun r => r = bI (md_win a b d))) 0 0 (fun _ => False) := by
  refine Met.ofW (cc := prog_9_method_4_code) (maxL := 3) (ret := (some .boolean)) (by decide) rfl ?_
  intro p e s m args below meth c s₁ B hml hv
  obtain ⟨rfl, hz, hP, hK⟩ := hv
  have hx := B.exec
  have hb := B.bytes
  have hr := B.returns
  have hts := atoms_spec (ws := xw_MD_within) B.pre
  have hown : s.vm.findClass xR_MD = some m.cls := findClass_of_methodNamed B.named
  have hlocks := B.notSynchronized
  have hP : va_P (dC, dI) xCl [] s.heap := hP
  have hl := lv_entry ([.int a, .int b, .int d]) (n := 3) (Nat.le_of_ble_eq_true rfl)
  rw [lg_entry_eq]
  generalize (lg_sl ([.int a, .int b, .int d]) ++ List.replicate (3 - (lg_sl ([.int a, .int b, .int d])).length) Slot.unset).toArray = ls at hl ⊢
  have hl : lv_has ls 3 [(0, .int a), (1, .int b), (2, .int d)] := hl
  refine lv_iload_n hx hb d_MD_within_0 rfl (lv_at hl 0 rfl) ?_
  refine lv_iload_n hx hb d_MD_within_1 rfl (lv_at hl 1 rfl) ?_
  refine lv_icmp_lt (tgt := 14) hx hb d_MD_within_2 (by decide) (fun c_1 => ?_) (fun c_1 => ?_)
  · refine lv_iconst (v := 0) hx hb d_MD_within_14 (by decide) ?_
    exact xr_zret (v := 0) (ty := .boolean) hx hb hr (by exact rfl) (by exact bI_n (fun q => q.1 c_1)) d_MD_within_15 hlocks
  · refine lv_iload_n hx hb d_MD_within_5 rfl (lv_at hl 0 rfl) ?_
    refine lv_iload_n hx hb d_MD_within_6 rfl (lv_at hl 2 rfl) ?_
    refine lv_icmp_gt (tgt := 14) hx hb d_MD_within_7 (by decide) (fun c_2 => ?_) (fun c_2 => ?_)
    · refine lv_iconst (v := 0) hx hb d_MD_within_14 (by decide) ?_
      exact xr_zret (v := 0) (ty := .boolean) hx hb hr (by exact rfl) (by exact bI_n (fun q => q.2 c_2)) d_MD_within_15 hlocks
    · refine lv_iconst (v := 1) hx hb d_MD_within_10 (by decide) ?_
      refine lv_goto (tgt := 15) hx hb d_MD_within_11 (by decide) ?_
      exact xr_zret (v := 1) (ty := .boolean) hx hb hr (by exact rfl) (by exact bI_p ⟨c_1, c_2⟩) d_MD_within_15 hlocks
set_option maxHeartbeats 4000000 in
set_option maxRecDepth 100000 in
/-- areNear -/
theorem c_MD_areNear (l : Launch) (dC : Nat → ClassId) (dI : Nat → Nat → Nat) (a : Int32) (b : Int32) (d : Int32)  : Met l xy_MD_areNear xw_MD_areNear ({ frames := 1, cells := 0, slots := 0, locals := 22 }) (xp_r [.int a, .int b, .int d] (dC, dI) xCl [] []) (xr_i (fun r => r = bI (sr_near a ∧ sr_near b ∧ sr_near d))) 0 0 (fun _ => False) := by
  refine Met.ofW (cc := prog_9_method_5_code) (maxL := 3) (ret := (some .boolean)) (by decide) rfl ?_
  intro p e s m args below meth c s₁ B hml hv
  obtain ⟨rfl, hz, hP, hK⟩ := hv
  have hx := B.exec
  have hb := B.bytes
  have hr := B.returns
  have hts := atoms_spec (ws := xw_MD_areNear) B.pre
  have hown : s.vm.findClass xR_MD = some m.cls := findClass_of_methodNamed B.named
  have hlocks := B.notSynchronized
  have hP : va_P (dC, dI) xCl [] s.heap := hP
  have hl := lv_entry ([.int a, .int b, .int d]) (n := 3) (Nat.le_of_ble_eq_true rfl)
  rw [lg_entry_eq]
  generalize (lg_sl ([.int a, .int b, .int d]) ++ List.replicate (3 - (lg_sl ([.int a, .int b, .int d])).length) Slot.unset).toArray = ls at hl ⊢
  have hl : lv_has ls 3 [(0, .int a), (1, .int b), (2, .int d)] := hl
  refine lv_iload_n hx hb d_MD_areNear_0 rfl (lv_at hl 0 rfl) ?_
  refine lv_sipush (v := (-10000)) hx hb d_MD_areNear_1 (by decide) ?_
  refine lv_sipush (v := 10000) hx hb d_MD_areNear_4 (by decide) ?_
  refine xr_calli (va_runS (As := [.int a, .int (-10000), .int 10000]) (rest := []) ⟨hx, hb, hml, hown, hts⟩ (c_MD_within l dC dI a (-10000) 10000) (va_cwS 3 hts (xgS wm_790 wm_791 wm_34 wm_792) rfl rfl rfl (by decide +kernel) ⟨Nat.le_of_ble_eq_true rfl, Nat.le_of_ble_eq_true rfl⟩) ⟨xp_blind, fun U hU hW => ⟨rfl, hz.warm hW, by rw [hU]; exact hP.sub [] rfl, va_K.moved hW.alike (hK.sub [] rfl)⟩⟩ rfl rfl hl.1 rfl (lv_room (Nat.le_of_ble_eq_true rfl)) d_MD_areNear_7 ⟨Nat.le_of_ble_eq_true rfl, Nat.le_of_ble_eq_true rfl⟩) (fun r_1 h_2 => ?_)
  subst h_2
  refine lv_if_eq (tgt := 43) hx hb d_MD_areNear_10 (by decide) (fun c_3 => ?_) (fun c_3 => ?_)
  · have b_4 := bI_f (rfl : bI (md_win a (-10000) 10000) = _) c_3
    refine lv_iconst (v := 0) hx hb d_MD_areNear_43 (by decide) ?_
    exact xr_zret (v := 0) (ty := .boolean) hx hb hr (by exact rfl) (by exact bI_n (fun q => b_4 q.1)) d_MD_areNear_44 hlocks
  · have b_5 := bI_t (rfl : bI (md_win a (-10000) 10000) = _) c_3
    refine lv_iload_n hx hb d_MD_areNear_13 rfl (lv_at hl 1 rfl) ?_
    refine lv_sipush (v := (-10000)) hx hb d_MD_areNear_14 (by decide) ?_
    refine lv_sipush (v := 10000) hx hb d_MD_areNear_17 (by decide) ?_
    refine xr_calli (va_runS (As := [.int b, .int (-10000), .int 10000]) (rest := []) ⟨hx, hb, hml, hown, hts⟩ (c_MD_within l dC dI b (-10000) 10000) (va_cwS 3 hts (xgS wm_790 wm_791 wm_34 wm_792) rfl rfl rfl (by decide +kernel) ⟨Nat.le_of_ble_eq_true rfl, Nat.le_of_ble_eq_true rfl⟩) ⟨xp_blind, fun U hU hW => ⟨rfl, hz.warm hW, by rw [hU]; exact hP.sub [] rfl, va_K.moved hW.alike (hK.sub [] rfl)⟩⟩ rfl rfl hl.1 rfl (lv_room (Nat.le_of_ble_eq_true rfl)) d_MD_areNear_20 ⟨Nat.le_of_ble_eq_true rfl, Nat.le_of_ble_eq_true rfl⟩) (fun r_6 h_7 => ?_)
    subst h_7
    refine lv_if_eq (tgt := 43) hx hb d_MD_areNear_23 (by decide) (fun c_8 => ?_) (fun c_8 => ?_)
    · have b_9 := bI_f (rfl : bI (md_win b (-10000) 10000) = _) c_8
      refine lv_iconst (v := 0) hx hb d_MD_areNear_43 (by decide) ?_
      exact xr_zret (v := 0) (ty := .boolean) hx hb hr (by exact rfl) (by exact bI_n (fun q => b_9 q.2.1)) d_MD_areNear_44 hlocks
    · have b_10 := bI_t (rfl : bI (md_win b (-10000) 10000) = _) c_8
      refine lv_iload_n hx hb d_MD_areNear_26 rfl (lv_at hl 2 rfl) ?_
      refine lv_sipush (v := (-10000)) hx hb d_MD_areNear_27 (by decide) ?_
      refine lv_sipush (v := 10000) hx hb d_MD_areNear_30 (by decide) ?_
      refine xr_calli (va_runS (As := [.int d, .int (-10000), .int 10000]) (rest := []) ⟨hx, hb, hml, hown, hts⟩ (c_MD_within l dC dI d (-10000) 10000) (va_cwS 3 hts (xgS wm_790 wm_791 wm_34 wm_792) rfl rfl rfl (by decide +kernel) ⟨Nat.le_of_ble_eq_true rfl, Nat.le_of_ble_eq_true rfl⟩) ⟨xp_blind, fun U hU hW => ⟨rfl, hz.warm hW, by rw [hU]; exact hP.sub [] rfl, va_K.moved hW.alike (hK.sub [] rfl)⟩⟩ rfl rfl hl.1 rfl (lv_room (Nat.le_of_ble_eq_true rfl)) d_MD_areNear_33 ⟨Nat.le_of_ble_eq_true rfl, Nat.le_of_ble_eq_true rfl⟩) (fun r_11 h_12 => ?_)
      subst h_12
      refine lv_if_eq (tgt := 43) hx hb d_MD_areNear_36 (by decide) (fun c_13 => ?_) (fun c_13 => ?_)
      · have b_14 := bI_f (rfl : bI (md_win d (-10000) 10000) = _) c_13
        refine lv_iconst (v := 0) hx hb d_MD_areNear_43 (by decide) ?_
        exact xr_zret (v := 0) (ty := .boolean) hx hb hr (by exact rfl) (by exact bI_n (fun q => b_14 q.2.2)) d_MD_areNear_44 hlocks
      · have b_15 := bI_t (rfl : bI (md_win d (-10000) 10000) = _) c_13
        refine lv_iconst (v := 1) hx hb d_MD_areNear_39 (by decide) ?_
        refine lv_goto (tgt := 44) hx hb d_MD_areNear_40 (by decide) ?_
        exact xr_zret (v := 1) (ty := .boolean) hx hb hr (by exact rfl) (by exact bI_p ⟨b_5, b_10, b_15⟩) d_MD_areNear_44 hlocks
set_option maxHeartbeats 4000000 in
set_option maxRecDepth 100000 in
/-- down -/
theorem c_MD_down (l : Launch) (dC : Nat → ClassId) (dI : Nat → Nat → Nat) (x : Int64) (y : Int64) (hy : 0 < y) : Met l xy_MD_down xw_MD_down ({ frames := 0, cells := 0, slots := 0, locals := 0 }) (xp_r [.long x, .long y] (dC, dI) xCl [] []) (xr_l (fun r => r = sr_fd x y)) 0 0 (fun _ => False) := by
  refine Met.ofW (cc := prog_9_method_6_code) (maxL := 6) (ret := (some .long)) (by decide) rfl ?_
  intro p e s m args below meth c s₁ B hml hv
  obtain ⟨rfl, hz, hP, hK⟩ := hv
  have hx := B.exec
  have hb := B.bytes
  have hr := B.returns
  have hts := atoms_spec (ws := xw_MD_down) B.pre
  have hown : s.vm.findClass xR_MD = some m.cls := findClass_of_methodNamed B.named
  have hlocks := B.notSynchronized
  have hP : va_P (dC, dI) xCl [] s.heap := hP
  have hl := lv_entry ([.long x, .long y]) (n := 6) (Nat.le_of_ble_eq_true rfl)
  rw [lg_entry_eq]
  generalize (lg_sl ([.long x, .long y]) ++ List.replicate (6 - (lg_sl ([.long x, .long y])).length) Slot.unset).toArray = ls at hl ⊢
  have hl : lv_has ls 6 [(0, .long x), (2, .long y)] := hl
  refine lv_lload_n hx hb d_MD_down_0 rfl (lv_at hl 0 rfl) ?_
  refine lv_lload_n hx hb d_MD_down_1 rfl (lv_at hl 1 rfl) ?_
  refine lv_ldiv hx hb d_MD_down_2 (fun q => by rw [q] at hy; exact Int64.lt_irrefl hy) ?_
  refine lv_lstore (lv' := [(4, .long (x / y)), (0, .long x), (2, .long y)]) hx hb d_MD_down_3 hl (by decide) rfl (fun ls hl => ?_)
  refine lv_lload hx hb d_MD_down_5 (lv_at hl 0 rfl) ?_
  refine lv_lload_n hx hb d_MD_down_7 rfl (lv_at hl 2 rfl) ?_
  refine lv_lmul hx hb d_MD_down_8 ?_
  refine lv_lload_n hx hb d_MD_down_9 rfl (lv_at hl 1 rfl) ?_
  refine W.lcmp hx hb d_MD_down_10 ?_
  refine lv_if_le (tgt := 21) hx hb d_MD_down_11 (by decide) (fun c_1 => ?_) (fun c_1 => ?_)
  · have l_2 := lc_le.mp c_1
    refine lv_lload hx hb d_MD_down_21 (lv_at hl 0 rfl) ?_
    exact xr_lret (v := x / y) hx hb hr (by exact (fd_dn0 hy l_2)) d_MD_down_23 hlocks
  · have l_3 := fun q => c_1 (lc_le.mpr q)
    refine lv_lload hx hb d_MD_down_14 (lv_at hl 0 rfl) ?_
    refine lv_lconst (v := 1) hx hb d_MD_down_16 (by decide) ?_
    refine lv_lsub hx hb d_MD_down_17 ?_
    refine lv_goto (tgt := 23) hx hb d_MD_down_18 (by decide) ?_
    exact xr_lret (v := (x / y) - 1) hx hb hr (by exact (fd_dn1 hy l_3)) d_MD_down_23 hlocks
set_option maxHeartbeats 4000000 in
set_option maxRecDepth 100000 in
/-- isObservation -/
theorem c_MD_isObservation (l : Launch) (dC : Nat → ClassId) (dI : Nat → Nat → Nat) (h0 : Nat) (th : Int32) (nm : Nat) (ap : Nat) (no : Nat) (am : Nat) (aw : Nat) (az : Nat) (au : Nat) (kn : Int32) (vP : Int64) (vQ : Int64) (vS : Int64) (vT : Int64) (vB : Int64) (vM : Int64) (vH : Int64) (ao : Nat) (ax : Nat) (np : Nat) (ay : Nat) (nl : Nat) (ad : Nat) (al : Nat) (sn : Nat) (ag : Nat) (ta : Nat) (nb : Int32) (a : Int32) (hno : no ≤ 20) : Met l xy_MD_isObservation xw_MD_isObservation ({ frames := 1, cells := 0, slots := 0, locals := 22 }) (xp_r [.ref h0, .int a] (dC, dI) xCl [(h0, .inr (7, [.int th, .int (nI nm), .ref ap, .int (nI no), .ref am, .ref aw, .ref az, .ref au, .int kn, .long vP, .long vQ, .long vS, .long vT, .long vB, .long vM, .long vH, .ref ao, .ref ax, .int (nI np), .ref ay, .int (nI nl), .ref ad, .ref al, .int (nI sn), .ref ag, .int (nI ta), .int nb]))] []) (xr_i (fun r => r = bI (xin a no))) 0 0 (fun _ => False) := by
  refine Met.ofW (cc := prog_9_method_7_code) (maxL := 2) (ret := (some .boolean)) (by decide) rfl ?_
  intro p e s m args below meth c s₁ B hml hv
  obtain ⟨rfl, hz, hP, hK⟩ := hv
  have hx := B.exec
  have hb := B.bytes
  have hr := B.returns
  have hts := atoms_spec (ws := xw_MD_isObservation) B.pre
  have hown : s.vm.findClass xR_MD = some m.cls := findClass_of_methodNamed B.named
  have hlocks := B.notSynchronized
  have hP : va_P (dC, dI) xCl [(h0, .inr (7, [.int th, .int (nI nm), .ref ap, .int (nI no), .ref am, .ref aw, .ref az, .ref au, .int kn, .long vP, .long vQ, .long vS, .long vT, .long vB, .long vM, .long vH, .ref ao, .ref ax, .int (nI np), .ref ay, .int (nI nl), .ref ad, .ref al, .int (nI sn), .ref ag, .int (nI ta), .int nb]))] s.heap := hP
  have hl := lv_entry ([.ref h0, .int a]) (n := 2) (Nat.le_of_ble_eq_true rfl)
  rw [lg_entry_eq]
  generalize (lg_sl ([.ref h0, .int a]) ++ List.replicate (2 - (lg_sl ([.ref h0, .int a])).length) Slot.unset).toArray = ls at hl ⊢
  have hl : lv_has ls 2 [(0, .ref h0), (1, .int a)] := hl
  refine lv_iload_n hx hb d_MD_isObservation_0 rfl (lv_at hl 1 rfl) ?_
  refine lv_iconst (v := 0) hx hb d_MD_isObservation_1 (by decide) ?_
  refine lv_aload_n hx hb d_MD_isObservation_2 rfl (lv_at hl 0 rfl) ?_
  refine va_get (D := (dC, dI)) (ci := 7) (v := .int (nI no)) (C := xR_MD) (T := xT_MD) (N := 27) hx hb hts (fun w h => List.mem_cons_of_mem _ (iw_MD w h)) hown hK hP 0 rfl rfl 3 (by decide) (hts _ (List.mem_cons_of_mem _ wm_700)) (fun _ h9 => h9) rfl d_MD_isObservation_3 ?_
  refine lv_iconst (v := 1) hx hb d_MD_isObservation_6 (by decide) ?_
  refine lv_isub hx hb d_MD_isObservation_7 ?_
  refine xr_calli (va_runS (As := [.int a, .int 0, .int ((nI no) - 1)]) (rest := []) ⟨hx, hb, hml, hown, hts⟩ (c_MD_within l dC dI a 0 ((nI no) - 1)) (va_cwS 3 hts (xgS wm_790 wm_791 wm_34 wm_792) rfl rfl rfl (by decide +kernel) ⟨Nat.le_of_ble_eq_true rfl, Nat.le_of_ble_eq_true rfl⟩) ⟨xp_blind, fun U hU hW => ⟨rfl, hz.warm hW, by rw [hU]; exact hP.sub [] rfl, va_K.moved hW.alike (hK.sub [] rfl)⟩⟩ rfl rfl hl.1 rfl (lv_room (Nat.le_of_ble_eq_true rfl)) d_MD_isObservation_8 ⟨Nat.le_of_ble_eq_true rfl, Nat.le_of_ble_eq_true rfl⟩) (fun r_1 h_2 => ?_)
  subst h_2
  exact xr_zret (v := bI (md_win a 0 ((nI no) - 1))) (ty := .boolean) hx hb hr (by exact (bI_nar _)) (by exact (bI_congr (md_win_in (by omega)))) d_MD_isObservation_11 hlocks
set_option maxHeartbeats 4000000 in
set_option maxRecDepth 100000 in
/-- tell -/
theorem c_MD_tell (l : Launch) (dC : Nat → ClassId) (dI : Nat → Nat → Nat) (sz : Nat) (h0 : Nat) (th : Int32) (nm : Nat) (ap : Nat) (no : Nat) (am : Nat) (aw : Nat) (az : Nat) (au : Nat) (kn : Int32) (vP : Int64) (vQ : Int64) (vS : Int64) (vT : Int64) (vB : Int64) (vM : Int64) (vH : Int64) (ao : Nat) (ax : Nat) (np : Nat) (ay : Nat) (nl : Nat) (ad : Nat) (al : Nat) (sn : Nat) (ag : Nat) (ta : Nat) (nb : Int32) (km : ClassId) (kw : ClassId) (ku : ClassId) (gm : Nat → Int32) (gw : Nat → Int32) (gu : Nat → Int32) (a : Int32) (b : Int32) (d : Int32) (j4 : Int32) (hno : no < 20) : Met l xy_MD_tell xw_MD_tell ({ frames := 0, cells := 0, slots := 0, locals := 0 }) (xp_w [.ref h0, .int a, .int b, .int d, .int j4] sz (dC, dI) xCl [(h0, .inr (7, [.int th, .int (nI nm), .ref ap, .int (nI no), .ref am, .ref aw, .ref az, .ref au, .int kn, .long vP, .long vQ, .long vS, .long vT, .long vB, .long vM, .long vH, .ref ao, .ref ax, .int (nI np), .ref ay, .int (nI nl), .ref ad, .ref al, .int (nI sn), .ref ag, .int (nI ta), .int nb])), (am, .inl (km, 20, .inl gm)), (aw, .inl (kw, 60, .inl gw)), (au, .inl (ku, 20, .inl gu))] [(km, .int), (kw, .int), (ku, .boolean)]) (va_Qv (fun (_ : Unit) => True) (fun _ t => xb_w (dC, dI) xCl [(h0, .inr (7, [.int th, .int (nI nm), .ref ap, .int (nI (no + 1)), .ref am, .ref aw, .ref az, .ref au, .int kn, .long vP, .long vQ, .long vS, .long vT, .long vB, .long vM, .long vH, .ref ao, .ref ax, .int (nI np), .ref ay, .int (nI nl), .ref ad, .ref al, .int (nI sn), .ref ag, .int (nI ta), .int nb])), (am, .inl (km, 20, .inl (upd gm no a))), (aw, .inl (kw, 60, .inl (upd (upd (upd gw (3 * no) b) (3 * no + 1) d) (3 * no + 2) j4))), (au, .inl (ku, 20, .inl (upd gu no 1)))] [(km, .int), (kw, .int), (ku, .boolean)] (va_A [(h0, .inr (7, [.int th, .int (nI nm), .ref ap, .int (nI no), .ref am, .ref aw, .ref az, .ref au, .int kn, .long vP, .long vQ, .long vS, .long vT, .long vB, .long vM, .long vH, .ref ao, .ref ax, .int (nI np), .ref ay, .int (nI nl), .ref ad, .ref al, .int (nI sn), .ref ag, .int (nI ta), .int nb])), (am, .inl (km, 20, .inl gm)), (aw, .inl (kw, 60, .inl gw)), (au, .inl (ku, 20, .inl gu))] sz) t) (va_A [(h0, .inr (7, [.int th, .int (nI nm), .ref ap, .int (nI no), .ref am, .ref aw, .ref az, .ref au, .int kn, .long vP, .long vQ, .long vS, .long vT, .long vB, .long vM, .long vH, .ref ao, .ref ax, .int (nI np), .ref ay, .int (nI nl), .ref ad, .ref al, .int (nI sn), .ref ag, .int (nI ta), .int nb])), (am, .inl (km, 20, .inl gm)), (aw, .inl (kw, 60, .inl gw)), (au, .inl (ku, 20, .inl gu))] sz)) 0 0 (va_A [(h0, .inr (7, [.int th, .int (nI nm), .ref ap, .int (nI no), .ref am, .ref aw, .ref az, .ref au, .int kn, .long vP, .long vQ, .long vS, .long vT, .long vB, .long vM, .long vH, .ref ao, .ref ax, .int (nI np), .ref ay, .int (nI nl), .ref ad, .ref al, .int (nI sn), .ref ag, .int (nI ta), .int nb])), (am, .inl (km, 20, .inl gm)), (aw, .inl (kw, 60, .inl gw)), (au, .inl (ku, 20, .inl gu))] sz) := by
  refine Met.ofW (cc := prog_9_method_9_code) (maxL := 5) (ret := none) (by decide) rfl ?_
  intro p e s m args below meth c s₁ B hml hv
  obtain ⟨rfl, hsz, hz, hP, hK, hD0⟩ := hv
  have hx := B.exec
  have hb := B.bytes
  have hr := B.returns
  have hts := atoms_spec (ws := xw_MD_tell) B.pre
  have hown : s.vm.findClass xR_MD = some m.cls := findClass_of_methodNamed B.named
  have hlocks := B.notSynchronized
  subst hsz
  have hD := hD0.self (sz := s.heap.size)
  generalize hAe : va_A [(h0, .inr (7, [.int th, .int (nI nm), .ref ap, .int (nI no), .ref am, .ref aw, .ref az, .ref au, .int kn, .long vP, .long vQ, .long vS, .long vT, .long vB, .long vM, .long vH, .ref ao, .ref ax, .int (nI np), .ref ay, .int (nI nl), .ref ad, .ref al, .int (nI sn), .ref ag, .int (nI ta), .int nb])), (am, .inl (km, 20, .inl gm)), (aw, .inl (kw, 60, .inl gw)), (au, .inl (ku, 20, .inl gu))] s.heap.size = A at hD ⊢
  have hA : ∀ q : Nat, s.heap.size ≤ q → A q := fun q h => by rw [← hAe]; exact Or.inr h
  have hS : va_S A s.heap s.heap [] := va_S.rf
  have hP : va_P (dC, dI) xCl [(h0, .inr (7, [.int th, .int (nI nm), .ref ap, .int (nI no), .ref am, .ref aw, .ref az, .ref au, .int kn, .long vP, .long vQ, .long vS, .long vT, .long vB, .long vM, .long vH, .ref ao, .ref ax, .int (nI np), .ref ay, .int (nI nl), .ref ad, .ref al, .int (nI sn), .ref ag, .int (nI ta), .int nb])), (am, .inl (km, 20, .inl gm)), (aw, .inl (kw, 60, .inl gw)), (au, .inl (ku, 20, .inl gu))] s.heap := hP
  have hl := lv_entry ([.ref h0, .int a, .int b, .int d, .int j4]) (n := 5) (Nat.le_of_ble_eq_true rfl)
  rw [lg_entry_eq]
  generalize (lg_sl ([.ref h0, .int a, .int b, .int d, .int j4]) ++ List.replicate (5 - (lg_sl ([.ref h0, .int a, .int b, .int d, .int j4])).length) Slot.unset).toArray = ls at hl ⊢
  have hl : lv_has ls 5 [(0, .ref h0), (1, .int a), (2, .int b), (3, .int d), (4, .int j4)] := hl
  refine lv_aload_n hx hb d_MD_tell_0 rfl (lv_at hl 0 rfl) ?_
  refine va_get (D := (dC, dI)) (ci := 7) (v := .ref am) (C := xR_MD) (T := xT_MD) (N := 27) hx hb hts (fun w h => List.mem_cons_of_mem _ (iw_MD w h)) hown hK hP 0 rfl rfl 4 (by decide) (hts _ (List.mem_cons_of_mem _ wm_701)) (fun _ h9 => h9) rfl d_MD_tell_1 ?_
  refine lv_aload_n hx hb d_MD_tell_4 rfl (lv_at hl 0 rfl) ?_
  refine va_get (D := (dC, dI)) (ci := 7) (v := .int (nI no)) (C := xR_MD) (T := xT_MD) (N := 27) hx hb hts (fun w h => List.mem_cons_of_mem _ (iw_MD w h)) hown hK hP 0 rfl rfl 3 (by decide) (hts _ (List.mem_cons_of_mem _ wm_700)) (fun _ h9 => h9) rfl d_MD_tell_5 ?_
  refine lv_iload_n hx hb d_MD_tell_8 rfl (lv_at hl 1 rfl) ?_
  refine xa_iast hx hb hK hP hD hS 1 0 rfl rfl no rfl (by omega) (by decide) d_MD_tell_9 (fun H locs hP hD hS => ?_)
  have hP : va_P (dC, dI) xCl [(h0, .inr (7, [.int th, .int (nI nm), .ref ap, .int (nI no), .ref am, .ref aw, .ref az, .ref au, .int kn, .long vP, .long vQ, .long vS, .long vT, .long vB, .long vM, .long vH, .ref ao, .ref ax, .int (nI np), .ref ay, .int (nI nl), .ref ad, .ref al, .int (nI sn), .ref ag, .int (nI ta), .int nb])), (am, .inl (km, 20, .inl (upd gm no a))), (aw, .inl (kw, 60, .inl gw)), (au, .inl (ku, 20, .inl gu))] H := hP
  have hD : va_D A [(h0, .inr (7, [.int th, .int (nI nm), .ref ap, .int (nI no), .ref am, .ref aw, .ref az, .ref au, .int kn, .long vP, .long vQ, .long vS, .long vT, .long vB, .long vM, .long vH, .ref ao, .ref ax, .int (nI np), .ref ay, .int (nI nl), .ref ad, .ref al, .int (nI sn), .ref ag, .int (nI ta), .int nb])), (am, .inl (km, 20, .inl (upd gm no a))), (aw, .inl (kw, 60, .inl gw)), (au, .inl (ku, 20, .inl gu))] := hD
  refine lv_aload_n hx hb d_MD_tell_10 rfl (lv_at hl 0 rfl) ?_
  refine va_get (D := (dC, dI)) (ci := 7) (v := .ref aw) (C := xR_MD) (T := xT_MD) (N := 27) hx hb hts (fun w h => List.mem_cons_of_mem _ (iw_MD w h)) hown hK hP 0 rfl rfl 5 (by decide) (hts _ (List.mem_cons_of_mem _ wm_702)) (fun _ h9 => h9) rfl d_MD_tell_11 ?_
  refine lv_iconst (v := 3) hx hb d_MD_tell_14 (by decide) ?_
  refine lv_aload_n hx hb d_MD_tell_15 rfl (lv_at hl 0 rfl) ?_
  refine va_get (D := (dC, dI)) (ci := 7) (v := .int (nI no)) (C := xR_MD) (T := xT_MD) (N := 27) hx hb hts (fun w h => List.mem_cons_of_mem _ (iw_MD w h)) hown hK hP 0 rfl rfl 3 (by decide) (hts _ (List.mem_cons_of_mem _ wm_700)) (fun _ h9 => h9) rfl d_MD_tell_16 ?_
  refine lv_imul hx hb d_MD_tell_19 ?_
  refine xv_i (y := nI (3 * no)) (pk_mul 3 _) ?_
  refine lv_iload_n hx hb d_MD_tell_20 rfl (lv_at hl 2 rfl) ?_
  refine xa_iast hx hb hK hP hD hS 2 1 rfl rfl (3 * no) rfl (by omega) (by decide) d_MD_tell_21 (fun H locs hP hD hS => ?_)
  have hP : va_P (dC, dI) xCl [(h0, .inr (7, [.int th, .int (nI nm), .ref ap, .int (nI no), .ref am, .ref aw, .ref az, .ref au, .int kn, .long vP, .long vQ, .long vS, .long vT, .long vB, .long vM, .long vH, .ref ao, .ref ax, .int (nI np), .ref ay, .int (nI nl), .ref ad, .ref al, .int (nI sn), .ref ag, .int (nI ta), .int nb])), (am, .inl (km, 20, .inl (upd gm no a))), (aw, .inl (kw, 60, .inl (upd gw (3 * no) b))), (au, .inl (ku, 20, .inl gu))] H := hP
  have hD : va_D A [(h0, .inr (7, [.int th, .int (nI nm), .ref ap, .int (nI no), .ref am, .ref aw, .ref az, .ref au, .int kn, .long vP, .long vQ, .long vS, .long vT, .long vB, .long vM, .long vH, .ref ao, .ref ax, .int (nI np), .ref ay, .int (nI nl), .ref ad, .ref al, .int (nI sn), .ref ag, .int (nI ta), .int nb])), (am, .inl (km, 20, .inl (upd gm no a))), (aw, .inl (kw, 60, .inl (upd gw (3 * no) b))), (au, .inl (ku, 20, .inl gu))] := hD
  refine lv_aload_n hx hb d_MD_tell_22 rfl (lv_at hl 0 rfl) ?_
  refine va_get (D := (dC, dI)) (ci := 7) (v := .ref aw) (C := xR_MD) (T := xT_MD) (N := 27) hx hb hts (fun w h => List.mem_cons_of_mem _ (iw_MD w h)) hown hK hP 0 rfl rfl 5 (by decide) (hts _ (List.mem_cons_of_mem _ wm_702)) (fun _ h9 => h9) rfl d_MD_tell_23 ?_
  refine lv_iconst (v := 3) hx hb d_MD_tell_26 (by decide) ?_
  refine lv_aload_n hx hb d_MD_tell_27 rfl (lv_at hl 0 rfl) ?_
  refine va_get (D := (dC, dI)) (ci := 7) (v := .int (nI no)) (C := xR_MD) (T := xT_MD) (N := 27) hx hb hts (fun w h => List.mem_cons_of_mem _ (iw_MD w h)) hown hK hP 0 rfl rfl 3 (by decide) (hts _ (List.mem_cons_of_mem _ wm_700)) (fun _ h9 => h9) rfl d_MD_tell_28 ?_
  refine lv_imul hx hb d_MD_tell_31 ?_
  refine xv_i (y := nI (3 * no)) (pk_mul 3 _) ?_
  refine lv_iconst (v := 1) hx hb d_MD_tell_32 (by decide) ?_
  refine lv_iadd hx hb d_MD_tell_33 ?_
  refine xv_i (y := nI ((3 * no) + 1)) (nI_1 _) ?_
  refine lv_iload_n hx hb d_MD_tell_34 rfl (lv_at hl 3 rfl) ?_
  refine xa_iast hx hb hK hP hD hS 2 1 rfl rfl ((3 * no) + 1) rfl (by omega) (by decide) d_MD_tell_35 (fun H locs hP hD hS => ?_)
  have hP : va_P (dC, dI) xCl [(h0, .inr (7, [.int th, .int (nI nm), .ref ap, .int (nI no), .ref am, .ref aw, .ref az, .ref au, .int kn, .long vP, .long vQ, .long vS, .long vT, .long vB, .long vM, .long vH, .ref ao, .ref ax, .int (nI np), .ref ay, .int (nI nl), .ref ad, .ref al, .int (nI sn), .ref ag, .int (nI ta), .int nb])), (am, .inl (km, 20, .inl (upd gm no a))), (aw, .inl (kw, 60, .inl (upd (upd gw (3 * no) b) ((3 * no) + 1) d))), (au, .inl (ku, 20, .inl gu))] H := hP
  have hD : va_D A [(h0, .inr (7, [.int th, .int (nI nm), .ref ap, .int (nI no), .ref am, .ref aw, .ref az, .ref au, .int kn, .long vP, .long vQ, .long vS, .long vT, .long vB, .long vM, .long vH, .ref ao, .ref ax, .int (nI np), .ref ay, .int (nI nl), .ref ad, .ref al, .int (nI sn), .ref ag, .int (nI ta), .int nb])), (am, .inl (km, 20, .inl (upd gm no a))), (aw, .inl (kw, 60, .inl (upd (upd gw (3 * no) b) ((3 * no) + 1) d))), (au, .inl (ku, 20, .inl gu))] := hD
  refine lv_aload_n hx hb d_MD_tell_36 rfl (lv_at hl 0 rfl) ?_
  refine va_get (D := (dC, dI)) (ci := 7) (v := .ref aw) (C := xR_MD) (T := xT_MD) (N := 27) hx hb hts (fun w h => List.mem_cons_of_mem _ (iw_MD w h)) hown hK hP 0 rfl rfl 5 (by decide) (hts _ (List.mem_cons_of_mem _ wm_702)) (fun _ h9 => h9) rfl d_MD_tell_37 ?_
  refine lv_iconst (v := 3) hx hb d_MD_tell_40 (by decide) ?_
  refine lv_aload_n hx hb d_MD_tell_41 rfl (lv_at hl 0 rfl) ?_
  refine va_get (D := (dC, dI)) (ci := 7) (v := .int (nI no)) (C := xR_MD) (T := xT_MD) (N := 27) hx hb hts (fun w h => List.mem_cons_of_mem _ (iw_MD w h)) hown hK hP 0 rfl rfl 3 (by decide) (hts _ (List.mem_cons_of_mem _ wm_700)) (fun _ h9 => h9) rfl d_MD_tell_42 ?_
  refine lv_imul hx hb d_MD_tell_45 ?_
  refine xv_i (y := nI (3 * no)) (pk_mul 3 _) ?_
  refine lv_iconst (v := 2) hx hb d_MD_tell_46 (by decide) ?_
  refine lv_iadd hx hb d_MD_tell_47 ?_
  refine xv_i (y := nI ((3 * no) + 2)) (nI_add _ 2) ?_
  refine lv_iload hx hb d_MD_tell_48 (lv_at hl 4 rfl) ?_
  refine xa_iast hx hb hK hP hD hS 2 1 rfl rfl ((3 * no) + 2) rfl (by omega) (by decide) d_MD_tell_50 (fun H locs hP hD hS => ?_)
  have hP : va_P (dC, dI) xCl [(h0, .inr (7, [.int th, .int (nI nm), .ref ap, .int (nI no), .ref am, .ref aw, .ref az, .ref au, .int kn, .long vP, .long vQ, .long vS, .long vT, .long vB, .long vM, .long vH, .ref ao, .ref ax, .int (nI np), .ref ay, .int (nI nl), .ref ad, .ref al, .int (nI sn), .ref ag, .int (nI ta), .int nb])), (am, .inl (km, 20, .inl (upd gm no a))), (aw, .inl (kw, 60, .inl (upd (upd (upd gw (3 * no) b) ((3 * no) + 1) d) ((3 * no) + 2) j4))), (au, .inl (ku, 20, .inl gu))] H := hP
  have hD : va_D A [(h0, .inr (7, [.int th, .int (nI nm), .ref ap, .int (nI no), .ref am, .ref aw, .ref az, .ref au, .int kn, .long vP, .long vQ, .long vS, .long vT, .long vB, .long vM, .long vH, .ref ao, .ref ax, .int (nI np), .ref ay, .int (nI nl), .ref ad, .ref al, .int (nI sn), .ref ag, .int (nI ta), .int nb])), (am, .inl (km, 20, .inl (upd gm no a))), (aw, .inl (kw, 60, .inl (upd (upd (upd gw (3 * no) b) ((3 * no) + 1) d) ((3 * no) + 2) j4))), (au, .inl (ku, 20, .inl gu))] := hD
  refine lv_aload_n hx hb d_MD_tell_51 rfl (lv_at hl 0 rfl) ?_
  refine va_get (D := (dC, dI)) (ci := 7) (v := .ref au) (C := xR_MD) (T := xT_MD) (N := 27) hx hb hts (fun w h => List.mem_cons_of_mem _ (iw_MD w h)) hown hK hP 0 rfl rfl 7 (by decide) (hts _ (List.mem_cons_of_mem _ wm_704)) (fun _ h9 => h9) rfl d_MD_tell_52 ?_
  refine lv_aload_n hx hb d_MD_tell_55 rfl (lv_at hl 0 rfl) ?_
  refine va_get (D := (dC, dI)) (ci := 7) (v := .int (nI no)) (C := xR_MD) (T := xT_MD) (N := 27) hx hb hts (fun w h => List.mem_cons_of_mem _ (iw_MD w h)) hown hK hP 0 rfl rfl 3 (by decide) (hts _ (List.mem_cons_of_mem _ wm_700)) (fun _ h9 => h9) rfl d_MD_tell_56 ?_
  refine lv_iconst (v := 1) hx hb d_MD_tell_59 (by decide) ?_
  refine xa_zast hx hb hK hP hD hS 3 2 rfl rfl no rfl (by omega) (by decide) rfl d_MD_tell_60 (fun H locs hP hD hS => ?_)
  have hP : va_P (dC, dI) xCl [(h0, .inr (7, [.int th, .int (nI nm), .ref ap, .int (nI no), .ref am, .ref aw, .ref az, .ref au, .int kn, .long vP, .long vQ, .long vS, .long vT, .long vB, .long vM, .long vH, .ref ao, .ref ax, .int (nI np), .ref ay, .int (nI nl), .ref ad, .ref al, .int (nI sn), .ref ag, .int (nI ta), .int nb])), (am, .inl (km, 20, .inl (upd gm no a))), (aw, .inl (kw, 60, .inl (upd (upd (upd gw (3 * no) b) ((3 * no) + 1) d) ((3 * no) + 2) j4))), (au, .inl (ku, 20, .inl (upd gu no 1)))] H := hP
  have hD : va_D A [(h0, .inr (7, [.int th, .int (nI nm), .ref ap, .int (nI no), .ref am, .ref aw, .ref az, .ref au, .int kn, .long vP, .long vQ, .long vS, .long vT, .long vB, .long vM, .long vH, .ref ao, .ref ax, .int (nI np), .ref ay, .int (nI nl), .ref ad, .ref al, .int (nI sn), .ref ag, .int (nI ta), .int nb])), (am, .inl (km, 20, .inl (upd gm no a))), (aw, .inl (kw, 60, .inl (upd (upd (upd gw (3 * no) b) ((3 * no) + 1) d) ((3 * no) + 2) j4))), (au, .inl (ku, 20, .inl (upd gu no 1)))] := hD
  refine lv_aload_n hx hb d_MD_tell_61 rfl (lv_at hl 0 rfl) ?_
  refine lv_dup hx hb d_MD_tell_62 rfl ?_
  refine va_get (D := (dC, dI)) (ci := 7) (v := .int (nI no)) (C := xR_MD) (T := xT_MD) (N := 27) hx hb hts (fun w h => List.mem_cons_of_mem _ (iw_MD w h)) hown hK hP 0 rfl rfl 3 (by decide) (hts _ (List.mem_cons_of_mem _ wm_700)) (fun _ h9 => h9) rfl d_MD_tell_63 ?_
  refine lv_iconst (v := 1) hx hb d_MD_tell_66 (by decide) ?_
  refine lv_iadd hx hb d_MD_tell_67 ?_
  refine xv_i (y := nI (no + 1)) (nI_1 _) ?_
  refine va_put (D := (dC, dI)) (ci := 7) (v := .int (nI (no + 1))) (ty := .int) (C := xR_MD) (T := xT_MD) (N := 27) hx hb hts (fun w h => List.mem_cons_of_mem _ (iw_MD w h)) xt_MD xt_MD_ok xn_MD_nm hown hK hP hD hS 0 rfl rfl 3 (by decide) (hts _ (List.mem_cons_of_mem _ wm_700)) (fun _ h9 => h9) rfl (by decide +kernel) rfl rfl (Nat.le_of_ble_eq_true rfl) d_MD_tell_68 (fun H locs hP hD hS => ?_)
  have hP : va_P (dC, dI) xCl [(h0, .inr (7, [.int th, .int (nI nm), .ref ap, .int (nI (no + 1)), .ref am, .ref aw, .ref az, .ref au, .int kn, .long vP, .long vQ, .long vS, .long vT, .long vB, .long vM, .long vH, .ref ao, .ref ax, .int (nI np), .ref ay, .int (nI nl), .ref ad, .ref al, .int (nI sn), .ref ag, .int (nI ta), .int nb])), (am, .inl (km, 20, .inl (upd gm no a))), (aw, .inl (kw, 60, .inl (upd (upd (upd gw (3 * no) b) ((3 * no) + 1) d) ((3 * no) + 2) j4))), (au, .inl (ku, 20, .inl (upd gu no 1)))] H := hP
  have hD : va_D A [(h0, .inr (7, [.int th, .int (nI nm), .ref ap, .int (nI (no + 1)), .ref am, .ref aw, .ref az, .ref au, .int kn, .long vP, .long vQ, .long vS, .long vT, .long vB, .long vM, .long vH, .ref ao, .ref ax, .int (nI np), .ref ay, .int (nI nl), .ref ad, .ref al, .int (nI sn), .ref ag, .int (nI ta), .int nb])), (am, .inl (km, 20, .inl (upd gm no a))), (aw, .inl (kw, 60, .inl (upd (upd (upd gw (3 * no) b) ((3 * no) + 1) d) ((3 * no) + 2) j4))), (au, .inl (ku, 20, .inl (upd gu no 1)))] := hD
  have hP9 := hP.sub (ws' := [(h0, .inr (7, [.int th, .int (nI nm), .ref ap, .int (nI (no + 1)), .ref am, .ref aw, .ref az, .ref au, .int kn, .long vP, .long vQ, .long vS, .long vT, .long vB, .long vM, .long vH, .ref ao, .ref ax, .int (nI np), .ref ay, .int (nI nl), .ref ad, .ref al, .int (nI sn), .ref ag, .int (nI ta), .int nb])), (am, .inl (km, 20, .inl (upd gm no a))), (aw, .inl (kw, 60, .inl (upd (upd (upd gw (3 * no) b) ((3 * no) + 1) d) ((3 * no) + 2) j4))), (au, .inl (ku, 20, .inl (upd gu no 1)))]) [0, 1, 2, 3] rfl
  have hD9 := hD.sub (ws' := [(h0, .inr (7, [.int th, .int (nI nm), .ref ap, .int (nI (no + 1)), .ref am, .ref aw, .ref az, .ref au, .int kn, .long vP, .long vQ, .long vS, .long vT, .long vB, .long vM, .long vH, .ref ao, .ref ax, .int (nI np), .ref ay, .int (nI nl), .ref ad, .ref al, .int (nI sn), .ref ag, .int (nI ta), .int nb])), (am, .inl (km, 20, .inl (upd gm no a))), (aw, .inl (kw, 60, .inl (upd (upd (upd gw (3 * no) b) ((3 * no) + 1) d) ((3 * no) + 2) j4))), (au, .inl (ku, 20, .inl (upd gu no 1)))]) [0, 1, 2, 3] (by decide) rfl
  have hK9 := hK.sub (tys' := [(km, .int), (kw, .int), (ku, .boolean)]) [0, 1, 2] rfl
  exact W.vret hx hb hr (fun t ht hW => ⟨⟨(), rfl, trivial, ⟨by rw [ht]; exact hP9, va_K.moved hW.alike hK9, by exact hD9⟩⟩, hS.F ht⟩) hS.2.2 d_MD_tell_71 hlocks
