theorem d_SP_has_0 : decode prog_6_method_2_code 0 = .ok (.iload_n 1, 1) := by decide +kernel
theorem d_SP_has_1 : decode prog_6_method_2_code 1 = .ok (.ifCond .lt 15, 3) := by decide +kernel
theorem d_SP_has_4 : decode prog_6_method_2_code 4 = .ok (.iload_n 1, 1) := by decide +kernel
theorem d_SP_has_5 : decode prog_6_method_2_code 5 = .ok (.aload_n 0, 1) := by decide +kernel
theorem d_SP_has_6 : decode prog_6_method_2_code 6 = .ok (.getfield 25, 3) := by decide +kernel
theorem d_SP_has_9 : decode prog_6_method_2_code 9 = .ok (.if_icmp .ge 7, 3) := by decide +kernel
theorem d_SP_has_12 : decode prog_6_method_2_code 12 = .ok (.iconst 1, 1) := by decide +kernel
theorem d_SP_has_13 : decode prog_6_method_2_code 13 = .ok (.goto 4, 3) := by decide +kernel
theorem d_SP_has_16 : decode prog_6_method_2_code 16 = .ok (.iconst 0, 1) := by decide +kernel
theorem d_SP_has_17 : decode prog_6_method_2_code 17 = .ok (.ireturn, 1) := by decide +kernel
theorem d_SP_isFull_0 : decode prog_6_method_3_code 0 = .ok (.aload_n 0, 1) := by decide +kernel
theorem d_SP_isFull_1 : decode prog_6_method_3_code 1 = .ok (.getfield 25, 3) := by decide +kernel
theorem d_SP_isFull_4 : decode prog_6_method_3_code 4 = .ok (.aload_n 0, 1) := by decide +kernel
theorem d_SP_isFull_5 : decode prog_6_method_3_code 5 = .ok (.getfield 13, 3) := by decide +kernel
theorem d_SP_isFull_8 : decode prog_6_method_3_code 8 = .ok (.arraylength, 1) := by decide +kernel
theorem d_SP_isFull_9 : decode prog_6_method_3_code 9 = .ok (.if_icmp .lt 7, 3) := by decide +kernel
theorem d_SP_isFull_12 : decode prog_6_method_3_code 12 = .ok (.iconst 1, 1) := by decide +kernel
theorem d_SP_isFull_13 : decode prog_6_method_3_code 13 = .ok (.goto 4, 3) := by decide +kernel
theorem d_SP_isFull_16 : decode prog_6_method_3_code 16 = .ok (.iconst 0, 1) := by decide +kernel
theorem d_SP_isFull_17 : decode prog_6_method_3_code 17 = .ok (.ireturn, 1) := by decide +kernel
theorem d_SP_add_0 : decode prog_6_method_4_code 0 = .ok (.aload_n 0, 1) := by decide +kernel
theorem d_SP_add_1 : decode prog_6_method_4_code 1 = .ok (.getfield 13, 3) := by decide +kernel
theorem d_SP_add_4 : decode prog_6_method_4_code 4 = .ok (.aload_n 0, 1) := by decide +kernel
theorem d_SP_add_5 : decode prog_6_method_4_code 5 = .ok (.getfield 25, 3) := by decide +kernel
theorem d_SP_add_8 : decode prog_6_method_4_code 8 = .ok (.iload_n 1, 1) := by decide +kernel
theorem d_SP_add_9 : decode prog_6_method_4_code 9 = .ok (.iastore, 1) := by decide +kernel
theorem d_SP_add_10 : decode prog_6_method_4_code 10 = .ok (.aload_n 0, 1) := by decide +kernel
theorem d_SP_add_11 : decode prog_6_method_4_code 11 = .ok (.getfield 19, 3) := by decide +kernel
theorem d_SP_add_14 : decode prog_6_method_4_code 14 = .ok (.aload_n 0, 1) := by decide +kernel
theorem d_SP_add_15 : decode prog_6_method_4_code 15 = .ok (.getfield 25, 3) := by decide +kernel
theorem d_SP_add_18 : decode prog_6_method_4_code 18 = .ok (.iload_n 2, 1) := by decide +kernel
theorem d_SP_add_19 : decode prog_6_method_4_code 19 = .ok (.iastore, 1) := by decide +kernel
theorem d_SP_add_20 : decode prog_6_method_4_code 20 = .ok (.aload_n 0, 1) := by decide +kernel
theorem d_SP_add_21 : decode prog_6_method_4_code 21 = .ok (.getfield 22, 3) := by decide +kernel
theorem d_SP_add_24 : decode prog_6_method_4_code 24 = .ok (.aload_n 0, 1) := by decide +kernel
theorem d_SP_add_25 : decode prog_6_method_4_code 25 = .ok (.getfield 25, 3) := by decide +kernel
theorem d_SP_add_28 : decode prog_6_method_4_code 28 = .ok (.iload_n 3, 1) := by decide +kernel
theorem d_SP_add_29 : decode prog_6_method_4_code 29 = .ok (.iastore, 1) := by decide +kernel
theorem d_SP_add_30 : decode prog_6_method_4_code 30 = .ok (.aload_n 0, 1) := by decide +kernel
theorem d_SP_add_31 : decode prog_6_method_4_code 31 = .ok (.dup, 1) := by decide +kernel
theorem d_SP_add_32 : decode prog_6_method_4_code 32 = .ok (.getfield 25, 3) := by decide +kernel
theorem d_SP_add_35 : decode prog_6_method_4_code 35 = .ok (.iconst 1, 1) := by decide +kernel
theorem d_SP_add_36 : decode prog_6_method_4_code 36 = .ok (.iadd, 1) := by decide +kernel
theorem d_SP_add_37 : decode prog_6_method_4_code 37 = .ok (.putfield 25, 3) := by decide +kernel
theorem d_SP_add_40 : decode prog_6_method_4_code 40 = .ok (.aload_n 0, 1) := by decide +kernel
theorem d_SP_add_41 : decode prog_6_method_4_code 41 = .ok (.getfield 25, 3) := by decide +kernel
theorem d_SP_add_44 : decode prog_6_method_4_code 44 = .ok (.iconst 1, 1) := by decide +kernel
theorem d_SP_add_45 : decode prog_6_method_4_code 45 = .ok (.isub, 1) := by decide +kernel
theorem d_SP_add_46 : decode prog_6_method_4_code 46 = .ok (.ireturn, 1) := by decide +kernel
theorem d_SP_init_0 : decode prog_6_method_1_code 0 = .ok (.aload_n 0, 1) := by decide +kernel
theorem d_SP_init_1 : decode prog_6_method_1_code 1 = .ok (.invokespecial 1, 3) := by decide +kernel
theorem d_SP_init_4 : decode prog_6_method_1_code 4 = .ok (.iload_n 1, 1) := by decide +kernel
theorem d_SP_init_5 : decode prog_6_method_1_code 5 = .ok (.iconst 0, 1) := by decide +kernel
theorem d_SP_init_6 : decode prog_6_method_1_code 6 = .ok (.invokestatic 7, 3) := by decide +kernel
theorem d_SP_init_9 : decode prog_6_method_1_code 9 = .ok (.istore_n 2, 1) := by decide +kernel
theorem d_SP_init_10 : decode prog_6_method_1_code 10 = .ok (.aload_n 0, 1) := by decide +kernel
theorem d_SP_init_11 : decode prog_6_method_1_code 11 = .ok (.iload_n 2, 1) := by decide +kernel
theorem d_SP_init_12 : decode prog_6_method_1_code 12 = .ok (.newarray .int, 2) := by decide +kernel
theorem d_SP_init_14 : decode prog_6_method_1_code 14 = .ok (.putfield 13, 3) := by decide +kernel
theorem d_SP_init_17 : decode prog_6_method_1_code 17 = .ok (.aload_n 0, 1) := by decide +kernel
theorem d_SP_init_18 : decode prog_6_method_1_code 18 = .ok (.iload_n 2, 1) := by decide +kernel
theorem d_SP_init_19 : decode prog_6_method_1_code 19 = .ok (.newarray .int, 2) := by decide +kernel
theorem d_SP_init_21 : decode prog_6_method_1_code 21 = .ok (.putfield 19, 3) := by decide +kernel
theorem d_SP_init_24 : decode prog_6_method_1_code 24 = .ok (.aload_n 0, 1) := by decide +kernel
theorem d_SP_init_25 : decode prog_6_method_1_code 25 = .ok (.iload_n 2, 1) := by decide +kernel
theorem d_SP_init_26 : decode prog_6_method_1_code 26 = .ok (.newarray .int, 2) := by decide +kernel
theorem d_SP_init_28 : decode prog_6_method_1_code 28 = .ok (.putfield 22, 3) := by decide +kernel
theorem d_SP_init_31 : decode prog_6_method_1_code 31 = .ok (.return_, 1) := by decide +kernel
set_option maxHeartbeats 4000000 in
set_option maxRecDepth 100000 in
/-- Spots.has -/
theorem c_SP_has (l : Launch) (dC : Nat → ClassId) (dI : Nat → Nat → Nat) (h0 : Nat) (q1 : Nat) (q2 : Nat) (q3 : Nat) (cnt : Nat) (a : Int32) (hc : cnt < 2 ^ 31) : Met l xy_SP_has xw_SP_has ({ frames := 0, cells := 0, slots := 0, locals := 0 }) (xp_r [.ref h0, .int a] (dC, dI) xCl [(h0, .inr (1, [.ref q1, .ref q2, .ref q3, .int (nI cnt)]))] []) (xr_i (fun r => r = bI (xin a cnt))) 0 0 (fun _ => False) := by
  refine Met.ofW (cc := prog_6_method_2_code) (maxL := 2) (ret := (some .boolean)) (by decide) rfl ?_
  intro p e s m args below meth c s₁ B hml hv
  obtain ⟨rfl, hz, hP, hK⟩ := hv
  have hx := B.exec
  have hb := B.bytes
  have hr := B.returns
  have hts := atoms_spec (ws := xw_SP_has) B.pre
  have hown : s.vm.findClass xR_SP = some m.cls := findClass_of_methodNamed B.named
  have hlocks := B.notSynchronized
  have hP : va_P (dC, dI) xCl [(h0, .inr (1, [.ref q1, .ref q2, .ref q3, .int (nI cnt)]))] s.heap := hP
  have hl := lv_entry ([.ref h0, .int a]) (n := 2) (Nat.le_of_ble_eq_true rfl)
  rw [lg_entry_eq]
  generalize (lg_sl ([.ref h0, .int a]) ++ List.replicate (2 - (lg_sl ([.ref h0, .int a])).length) Slot.unset).toArray = ls at hl ⊢
  have hl : lv_has ls 2 [(0, .ref h0), (1, .int a)] := hl
  refine lv_iload_n hx hb d_SP_has_0 rfl (lv_at hl 1 rfl) ?_
  refine lv_if_lt (tgt := 16) hx hb d_SP_has_1 (by decide) (fun c_1 => ?_) (fun c_1 => ?_)
  · refine lv_iconst (v := 0) hx hb d_SP_has_16 (by decide) ?_
    exact xr_zret (v := 0) (ty := .boolean) hx hb hr (by exact rfl) (by exact bI_n (xn_notin0 c_1)) d_SP_has_17 hlocks
  · refine lv_iload_n hx hb d_SP_has_4 rfl (lv_at hl 1 rfl) ?_
    refine lv_aload_n hx hb d_SP_has_5 rfl (lv_at hl 0 rfl) ?_
    refine va_get (D := (dC, dI)) (ci := 1) (v := .int (nI cnt)) (C := xR_SP) (T := xT_SP) (N := 4) hx hb hts (fun w h => List.mem_cons_of_mem _ (iw_SP w h)) hown hK hP 0 rfl rfl 3 (by decide) (hts _ (List.mem_cons_of_mem _ wm_67)) (fun _ h9 => h9) rfl d_SP_has_6 ?_
    refine lv_icmp_ge (tgt := 16) hx hb d_SP_has_9 (by decide) (fun c_2 => ?_) (fun c_2 => ?_)
    · refine lv_iconst (v := 0) hx hb d_SP_has_16 (by decide) ?_
      exact xr_zret (v := 0) (ty := .boolean) hx hb hr (by exact rfl) (by exact bI_n (xn_notin1 c_2 hc)) d_SP_has_17 hlocks
    · refine lv_iconst (v := 1) hx hb d_SP_has_12 (by decide) ?_
      refine lv_goto (tgt := 17) hx hb d_SP_has_13 (by decide) ?_
      exact xr_zret (v := 1) (ty := .boolean) hx hb hr (by exact rfl) (by exact bI_p (xn_in c_1 (Int32.not_le.mp c_2) hc)) d_SP_has_17 hlocks
set_option maxHeartbeats 4000000 in
set_option maxRecDepth 100000 in
/-- Spots.isFull -/
theorem c_SP_isFull (l : Launch) (dC : Nat → ClassId) (dI : Nat → Nat → Nat) (h0 : Nat) (q1 : Nat) (q2 : Nat) (q3 : Nat) (cnt : Nat) (n : Nat) (cI : ClassId) (f1 : Nat → Int32) (hc : cnt < 2 ^ 31) (hn : n < 2 ^ 31) : Met l xy_SP_isFull xw_SP_isFull ({ frames := 0, cells := 0, slots := 0, locals := 0 }) (xp_r [.ref h0] (dC, dI) xCl [(h0, .inr (1, [.ref q1, .ref q2, .ref q3, .int (nI cnt)])), (q1, .inl (cI, n, .inl f1))] [(cI, .int)]) (xr_i (fun r => r = bI (n ≤ cnt))) 0 0 (fun _ => False) := by
  refine Met.ofW (cc := prog_6_method_3_code) (maxL := 1) (ret := (some .boolean)) (by decide) rfl ?_
  intro p e s m args below meth c s₁ B hml hv
  obtain ⟨rfl, hz, hP, hK⟩ := hv
  have hx := B.exec
  have hb := B.bytes
  have hr := B.returns
  have hts := atoms_spec (ws := xw_SP_isFull) B.pre
  have hown : s.vm.findClass xR_SP = some m.cls := findClass_of_methodNamed B.named
  have hlocks := B.notSynchronized
  have hP : va_P (dC, dI) xCl [(h0, .inr (1, [.ref q1, .ref q2, .ref q3, .int (nI cnt)])), (q1, .inl (cI, n, .inl f1))] s.heap := hP
  have hl := lv_entry ([.ref h0]) (n := 1) (Nat.le_of_ble_eq_true rfl)
  rw [lg_entry_eq]
  generalize (lg_sl ([.ref h0]) ++ List.replicate (1 - (lg_sl ([.ref h0])).length) Slot.unset).toArray = ls at hl ⊢
  have hl : lv_has ls 1 [(0, .ref h0)] := hl
  refine lv_aload_n hx hb d_SP_isFull_0 rfl (lv_at hl 0 rfl) ?_
  refine va_get (D := (dC, dI)) (ci := 1) (v := .int (nI cnt)) (C := xR_SP) (T := xT_SP) (N := 4) hx hb hts (fun w h => List.mem_cons_of_mem _ (iw_SP w h)) hown hK hP 0 rfl rfl 3 (by decide) (hts _ (List.mem_cons_of_mem _ wm_67)) (fun _ h9 => h9) rfl d_SP_isFull_1 ?_
  refine lv_aload_n hx hb d_SP_isFull_4 rfl (lv_at hl 0 rfl) ?_
  refine va_get (D := (dC, dI)) (ci := 1) (v := .ref q1) (C := xR_SP) (T := xT_SP) (N := 4) hx hb hts (fun w h => List.mem_cons_of_mem _ (iw_SP w h)) hown hK hP 0 rfl rfl 0 (by decide) (hts _ (List.mem_cons_of_mem _ wm_58)) (fun _ h9 => h9) rfl d_SP_isFull_5 ?_
  refine va_alen (v := nI n) hx hb hK hP 1 0 rfl rfl rfl d_SP_isFull_8 ?_
  refine lv_icmp_lt (tgt := 16) hx hb d_SP_isFull_9 (by decide) (fun c_1 => ?_) (fun c_1 => ?_)
  · have n_2 := xn_lt (a := cnt) (b := n) c_1 rfl rfl (by omega) (by omega)
    refine lv_iconst (v := 0) hx hb d_SP_isFull_16 (by decide) ?_
    exact xr_zret (v := 0) (ty := .boolean) hx hb hr (by exact rfl) (by exact bI_n (by omega)) d_SP_isFull_17 hlocks
  · have n_3 := xn_nlt (a := cnt) (b := n) c_1 rfl rfl (by omega) (by omega)
    refine lv_iconst (v := 1) hx hb d_SP_isFull_12 (by decide) ?_
    refine lv_goto (tgt := 17) hx hb d_SP_isFull_13 (by decide) ?_
    exact xr_zret (v := 1) (ty := .boolean) hx hb hr (by exact rfl) (by exact bI_p n_3) d_SP_isFull_17 hlocks
set_option maxHeartbeats 4000000 in
set_option maxRecDepth 100000 in
/-- Spots.add -/
theorem c_SP_add (l : Launch) (dC : Nat → ClassId) (dI : Nat → Nat → Nat) (sz : Nat) (h0 : Nat) (q1 : Nat) (q2 : Nat) (q3 : Nat) (cnt : Nat) (n : Nat) (c1 : ClassId) (c2 : ClassId) (c3 : ClassId) (f1 : Nat → Int32) (f2 : Nat → Int32) (f3 : Nat → Int32) (a : Int32) (b : Int32) (d : Int32) (hc : cnt < n) (hn : n < 2 ^ 31) : Met l xy_SP_add xw_SP_add ({ frames := 0, cells := 0, slots := 0, locals := 0 }) (xp_w [.ref h0, .int a, .int b, .int d] sz (dC, dI) xCl [(h0, .inr (1, [.ref q1, .ref q2, .ref q3, .int (nI cnt)])), (q1, .inl (c1, n, .inl f1)), (q2, .inl (c2, n, .inl f2)), (q3, .inl (c3, n, .inl f3))] [(c1, .int), (c2, .int), (c3, .int)]) (va_Qi (fun (r : Int32) (_ : Unit) => r = nI cnt) (fun _ t => xb_w (dC, dI) xCl [(h0, .inr (1, [.ref q1, .ref q2, .ref q3, .int (nI (cnt + 1))])), (q1, .inl (c1, n, .inl (upd f1 cnt a))), (q2, .inl (c2, n, .inl (upd f2 cnt b))), (q3, .inl (c3, n, .inl (upd f3 cnt d)))] [(c1, .int), (c2, .int), (c3, .int)] (va_A [(h0, .inr (1, [.ref q1, .ref q2, .ref q3, .int (nI cnt)])), (q1, .inl (c1, n, .inl f1)), (q2, .inl (c2, n, .inl f2)), (q3, .inl (c3, n, .inl f3))] sz) t) (va_A [(h0, .inr (1, [.ref q1, .ref q2, .ref q3, .int (nI cnt)])), (q1, .inl (c1, n, .inl f1)), (q2, .inl (c2, n, .inl f2)), (q3, .inl (c3, n, .inl f3))] sz)) 0 0 (va_A [(h0, .inr (1, [.ref q1, .ref q2, .ref q3, .int (nI cnt)])), (q1, .inl (c1, n, .inl f1)), (q2, .inl (c2, n, .inl f2)), (q3, .inl (c3, n, .inl f3))] sz) := by
  refine Met.ofW (cc := prog_6_method_4_code) (maxL := 4) (ret := (some .int)) (by decide) rfl ?_
  intro p e s m args below meth c s₁ B hml hv
  obtain ⟨rfl, hsz, hz, hP, hK, hD0⟩ := hv
  have hx := B.exec
  have hb := B.bytes
  have hr := B.returns
  have hts := atoms_spec (ws := xw_SP_add) B.pre
  have hown : s.vm.findClass xR_SP = some m.cls := findClass_of_methodNamed B.named
  have hlocks := B.notSynchronized
  subst hsz
  have hD := hD0.self (sz := s.heap.size)
  generalize hAe : va_A [(h0, .inr (1, [.ref q1, .ref q2, .ref q3, .int (nI cnt)])), (q1, .inl (c1, n, .inl f1)), (q2, .inl (c2, n, .inl f2)), (q3, .inl (c3, n, .inl f3))] s.heap.size = A at hD ⊢
  have hA : ∀ q : Nat, s.heap.size ≤ q → A q := fun q h => by rw [← hAe]; exact Or.inr h
  have hS : va_S A s.heap s.heap [] := va_S.rf
  have hP : va_P (dC, dI) xCl [(h0, .inr (1, [.ref q1, .ref q2, .ref q3, .int (nI cnt)])), (q1, .inl (c1, n, .inl f1)), (q2, .inl (c2, n, .inl f2)), (q3, .inl (c3, n, .inl f3))] s.heap := hP
  have hl := lv_entry ([.ref h0, .int a, .int b, .int d]) (n := 4) (Nat.le_of_ble_eq_true rfl)
  rw [lg_entry_eq]
  generalize (lg_sl ([.ref h0, .int a, .int b, .int d]) ++ List.replicate (4 - (lg_sl ([.ref h0, .int a, .int b, .int d])).length) Slot.unset).toArray = ls at hl ⊢
  have hl : lv_has ls 4 [(0, .ref h0), (1, .int a), (2, .int b), (3, .int d)] := hl
  refine lv_aload_n hx hb d_SP_add_0 rfl (lv_at hl 0 rfl) ?_
  refine va_get (D := (dC, dI)) (ci := 1) (v := .ref q1) (C := xR_SP) (T := xT_SP) (N := 4) hx hb hts (fun w h => List.mem_cons_of_mem _ (iw_SP w h)) hown hK hP 0 rfl rfl 0 (by decide) (hts _ (List.mem_cons_of_mem _ wm_58)) (fun _ h9 => h9) rfl d_SP_add_1 ?_
  refine lv_aload_n hx hb d_SP_add_4 rfl (lv_at hl 0 rfl) ?_
  refine va_get (D := (dC, dI)) (ci := 1) (v := .int (nI cnt)) (C := xR_SP) (T := xT_SP) (N := 4) hx hb hts (fun w h => List.mem_cons_of_mem _ (iw_SP w h)) hown hK hP 0 rfl rfl 3 (by decide) (hts _ (List.mem_cons_of_mem _ wm_67)) (fun _ h9 => h9) rfl d_SP_add_5 ?_
  refine lv_iload_n hx hb d_SP_add_8 rfl (lv_at hl 1 rfl) ?_
  refine xa_iast hx hb hK hP hD hS 1 0 rfl rfl cnt rfl (by omega) (by omega) d_SP_add_9 (fun H locs hP hD hS => ?_)
  have hP : va_P (dC, dI) xCl [(h0, .inr (1, [.ref q1, .ref q2, .ref q3, .int (nI cnt)])), (q1, .inl (c1, n, .inl (upd f1 cnt a))), (q2, .inl (c2, n, .inl f2)), (q3, .inl (c3, n, .inl f3))] H := hP
  have hD : va_D A [(h0, .inr (1, [.ref q1, .ref q2, .ref q3, .int (nI cnt)])), (q1, .inl (c1, n, .inl (upd f1 cnt a))), (q2, .inl (c2, n, .inl f2)), (q3, .inl (c3, n, .inl f3))] := hD
  refine lv_aload_n hx hb d_SP_add_10 rfl (lv_at hl 0 rfl) ?_
  refine va_get (D := (dC, dI)) (ci := 1) (v := .ref q2) (C := xR_SP) (T := xT_SP) (N := 4) hx hb hts (fun w h => List.mem_cons_of_mem _ (iw_SP w h)) hown hK hP 0 rfl rfl 1 (by decide) (hts _ (List.mem_cons_of_mem _ wm_61)) (fun _ h9 => h9) rfl d_SP_add_11 ?_
  refine lv_aload_n hx hb d_SP_add_14 rfl (lv_at hl 0 rfl) ?_
  refine va_get (D := (dC, dI)) (ci := 1) (v := .int (nI cnt)) (C := xR_SP) (T := xT_SP) (N := 4) hx hb hts (fun w h => List.mem_cons_of_mem _ (iw_SP w h)) hown hK hP 0 rfl rfl 3 (by decide) (hts _ (List.mem_cons_of_mem _ wm_67)) (fun _ h9 => h9) rfl d_SP_add_15 ?_
  refine lv_iload_n hx hb d_SP_add_18 rfl (lv_at hl 2 rfl) ?_
  refine xa_iast hx hb hK hP hD hS 2 1 rfl rfl cnt rfl (by omega) (by omega) d_SP_add_19 (fun H locs hP hD hS => ?_)
  have hP : va_P (dC, dI) xCl [(h0, .inr (1, [.ref q1, .ref q2, .ref q3, .int (nI cnt)])), (q1, .inl (c1, n, .inl (upd f1 cnt a))), (q2, .inl (c2, n, .inl (upd f2 cnt b))), (q3, .inl (c3, n, .inl f3))] H := hP
  have hD : va_D A [(h0, .inr (1, [.ref q1, .ref q2, .ref q3, .int (nI cnt)])), (q1, .inl (c1, n, .inl (upd f1 cnt a))), (q2, .inl (c2, n, .inl (upd f2 cnt b))), (q3, .inl (c3, n, .inl f3))] := hD
  refine lv_aload_n hx hb d_SP_add_20 rfl (lv_at hl 0 rfl) ?_
  refine va_get (D := (dC, dI)) (ci := 1) (v := .ref q3) (C := xR_SP) (T := xT_SP) (N := 4) hx hb hts (fun w h => List.mem_cons_of_mem _ (iw_SP w h)) hown hK hP 0 rfl rfl 2 (by decide) (hts _ (List.mem_cons_of_mem _ wm_64)) (fun _ h9 => h9) rfl d_SP_add_21 ?_
  refine lv_aload_n hx hb d_SP_add_24 rfl (lv_at hl 0 rfl) ?_
  refine va_get (D := (dC, dI)) (ci := 1) (v := .int (nI cnt)) (C := xR_SP) (T := xT_SP) (N := 4) hx hb hts (fun w h => List.mem_cons_of_mem _ (iw_SP w h)) hown hK hP 0 rfl rfl 3 (by decide) (hts _ (List.mem_cons_of_mem _ wm_67)) (fun _ h9 => h9) rfl d_SP_add_25 ?_
  refine lv_iload_n hx hb d_SP_add_28 rfl (lv_at hl 3 rfl) ?_
  refine xa_iast hx hb hK hP hD hS 3 2 rfl rfl cnt rfl (by omega) (by omega) d_SP_add_29 (fun H locs hP hD hS => ?_)
  have hP : va_P (dC, dI) xCl [(h0, .inr (1, [.ref q1, .ref q2, .ref q3, .int (nI cnt)])), (q1, .inl (c1, n, .inl (upd f1 cnt a))), (q2, .inl (c2, n, .inl (upd f2 cnt b))), (q3, .inl (c3, n, .inl (upd f3 cnt d)))] H := hP
  have hD : va_D A [(h0, .inr (1, [.ref q1, .ref q2, .ref q3, .int (nI cnt)])), (q1, .inl (c1, n, .inl (upd f1 cnt a))), (q2, .inl (c2, n, .inl (upd f2 cnt b))), (q3, .inl (c3, n, .inl (upd f3 cnt d)))] := hD
  refine lv_aload_n hx hb d_SP_add_30 rfl (lv_at hl 0 rfl) ?_
  refine lv_dup hx hb d_SP_add_31 rfl ?_
  refine va_get (D := (dC, dI)) (ci := 1) (v := .int (nI cnt)) (C := xR_SP) (T := xT_SP) (N := 4) hx hb hts (fun w h => List.mem_cons_of_mem _ (iw_SP w h)) hown hK hP 0 rfl rfl 3 (by decide) (hts _ (List.mem_cons_of_mem _ wm_67)) (fun _ h9 => h9) rfl d_SP_add_32 ?_
  refine lv_iconst (v := 1) hx hb d_SP_add_35 (by decide) ?_
  refine lv_iadd hx hb d_SP_add_36 ?_
  refine xv_i (y := nI (cnt + 1)) (nI_1 _) ?_
  refine va_put (D := (dC, dI)) (ci := 1) (v := .int (nI (cnt + 1))) (ty := .int) (C := xR_SP) (T := xT_SP) (N := 4) hx hb hts (fun w h => List.mem_cons_of_mem _ (iw_SP w h)) xt_SP xt_SP_ok xn_SP_nm hown hK hP hD hS 0 rfl rfl 3 (by decide) (hts _ (List.mem_cons_of_mem _ wm_67)) (fun _ h9 => h9) rfl (by decide +kernel) rfl rfl (Nat.le_of_ble_eq_true rfl) d_SP_add_37 (fun H locs hP hD hS => ?_)
  have hP : va_P (dC, dI) xCl [(h0, .inr (1, [.ref q1, .ref q2, .ref q3, .int (nI (cnt + 1))])), (q1, .inl (c1, n, .inl (upd f1 cnt a))), (q2, .inl (c2, n, .inl (upd f2 cnt b))), (q3, .inl (c3, n, .inl (upd f3 cnt d)))] H := hP
  have hD : va_D A [(h0, .inr (1, [.ref q1, .ref q2, .ref q3, .int (nI (cnt + 1))])), (q1, .inl (c1, n, .inl (upd f1 cnt a))), (q2, .inl (c2, n, .inl (upd f2 cnt b))), (q3, .inl (c3, n, .inl (upd f3 cnt d)))] := hD
  refine lv_aload_n hx hb d_SP_add_40 rfl (lv_at hl 0 rfl) ?_
  refine va_get (D := (dC, dI)) (ci := 1) (v := .int (nI (cnt + 1))) (C := xR_SP) (T := xT_SP) (N := 4) hx hb hts (fun w h => List.mem_cons_of_mem _ (iw_SP w h)) hown hK hP 0 rfl rfl 3 (by decide) (hts _ (List.mem_cons_of_mem _ wm_67)) (fun _ h9 => h9) rfl d_SP_add_41 ?_
  refine lv_iconst (v := 1) hx hb d_SP_add_44 (by decide) ?_
  refine lv_isub hx hb d_SP_add_45 ?_
  refine xv_i (y := nI cnt) (nI_pred _) ?_
  have hP9 := hP.sub (ws' := [(h0, .inr (1, [.ref q1, .ref q2, .ref q3, .int (nI (cnt + 1))])), (q1, .inl (c1, n, .inl (upd f1 cnt a))), (q2, .inl (c2, n, .inl (upd f2 cnt b))), (q3, .inl (c3, n, .inl (upd f3 cnt d)))]) [0, 1, 2, 3] rfl
  have hD9 := hD.sub (ws' := [(h0, .inr (1, [.ref q1, .ref q2, .ref q3, .int (nI (cnt + 1))])), (q1, .inl (c1, n, .inl (upd f1 cnt a))), (q2, .inl (c2, n, .inl (upd f2 cnt b))), (q3, .inl (c3, n, .inl (upd f3 cnt d)))]) [0, 1, 2, 3] (by decide) rfl
  have hK9 := hK.sub (tys' := [(c1, .int), (c2, .int), (c3, .int)]) [0, 1, 2] rfl
  exact W.iret (v := nI cnt) hx hb hr (fun t ht hW => ⟨⟨nI cnt, (), rfl, rfl, ⟨by rw [ht]; exact hP9, va_K.moved hW.alike hK9, by exact hD9⟩⟩, hS.F ht⟩) hS.2.2 d_SP_add_46 hlocks
set_option maxHeartbeats 4000000 in
set_option maxRecDepth 100000 in
/-- Spots(12) -/
theorem c_SP_init12 (l : Launch) (dC : Nat → ClassId) (dI : Nat → Nat → Nat) (sz : Nat) (h0 : Nat)  : Met l xy_SP_init xw_SP_init ({ frames := 1, cells := 3, slots := 36, locals := 13 }) (xp_w [.ref h0, .int 12] sz (dC, dI) xCl [(h0, .inr (1, [.null, .null, .null, .int 0]))] []) (va_Qv (fun (_ : Unit) => True) (fun _ t => ∃ (q1 : Nat) (q2 : Nat) (q3 : Nat) (c1 : ClassId) (c2 : ClassId) (c3 : ClassId), xb_w (dC, dI) xCl [(h0, .inr (1, [.ref q1, .ref q2, .ref q3, .int (nI 0)])), (q1, .inl (c1, 12, .inl (fun _ => 0))), (q2, .inl (c2, 12, .inl (fun _ => 0))), (q3, .inl (c3, 12, .inl (fun _ => 0)))] [(c1, .int), (c2, .int), (c3, .int)] (va_A [(h0, .inr (1, [.null, .null, .null, .int 0]))] sz) t) (va_A [(h0, .inr (1, [.null, .null, .null, .int 0]))] sz)) 3 36 (va_A [(h0, .inr (1, [.null, .null, .null, .int 0]))] sz) := by
  refine Met.ofW (cc := prog_6_method_1_code) (maxL := 3) (ret := none) (by decide) rfl ?_
  intro p e s m args below meth c s₁ B hml hv
  obtain ⟨rfl, hsz, hz, hP, hK, hD0⟩ := hv
  have hx := B.exec
  have hb := B.bytes
  have hr := B.returns
  have hts := atoms_spec (ws := xw_SP_init) B.pre
  have hown : s.vm.findClass xR_SP = some m.cls := findClass_of_methodNamed B.named
  have hlocks := B.notSynchronized
  have hin : meth.name = "<init>" := (name_of_methodNamed B.named B.method).1
  subst hsz
  have hD := hD0.self (sz := s.heap.size)
  generalize hAe : va_A [(h0, .inr (1, [.null, .null, .null, .int 0]))] s.heap.size = A at hD ⊢
  have hA : ∀ q : Nat, s.heap.size ≤ q → A q := fun q h => by rw [← hAe]; exact Or.inr h
  have hS : va_S A s.heap s.heap [] := va_S.rf
  have hP : va_P (dC, dI) xCl [(h0, .inr (1, [.null, .null, .null, .int 0]))] s.heap := hP
  have hl := lv_entry ([.ref h0, .int 12]) (n := 3) (Nat.le_of_ble_eq_true rfl)
  rw [lg_entry_eq]
  generalize (lg_sl ([.ref h0, .int 12]) ++ List.replicate (3 - (lg_sl ([.ref h0, .int 12])).length) Slot.unset).toArray = ls at hl ⊢
  have hl : lv_has ls 3 [(0, .ref h0), (1, .int 12)] := hl
  refine lv_aload_n hx hb d_SP_init_0 rfl (lv_at hl 0 rfl) ?_
  refine W.objInit hx hb hown (hts _ (List.mem_cons_of_mem _ wm_54)) (hts _ (List.mem_cons_of_mem _ wm_47)) (hts _ (List.mem_cons_of_mem _ wm_48)) rfl (by rw [hml]; exact hl.1) rfl d_SP_init_1 (Nat.le_of_ble_eq_true rfl) (Nat.le_of_ble_eq_true rfl) ?_
  refine W.eq (g2 := F0 m 4 ls []) rfl ?_
  refine lv_iload_n hx hb d_SP_init_4 rfl (lv_at hl 1 rfl) ?_
  refine lv_iconst (v := 0) hx hb d_SP_init_5 (by decide) ?_
  refine va_mmax hx hb (hml.trans hl.1.symm) hown (hts _ (List.mem_cons_of_mem _ wm_55)) (hts _ (List.mem_cons_of_mem _ wm_56)) (hts _ (List.mem_cons_of_mem _ wm_28)) (hts _ (List.mem_cons_of_mem _ wm_57)) (Nat.le_of_ble_eq_true rfl) (Nat.le_of_ble_eq_true rfl) (Nat.le_of_ble_eq_true rfl) (Nat.le_of_ble_eq_true rfl) d_SP_init_6 ?_
  refine xv_i (y := 12) (by decide) ?_
  refine lv_istore_n (lv' := [(2, .int 12), (0, .ref h0), (1, .int 12)]) hx hb d_SP_init_9 rfl hl (by decide) rfl (fun ls hl => ?_)
  refine lv_aload_n hx hb d_SP_init_10 rfl (lv_at hl 1 rfl) ?_
  refine lv_iload_n hx hb d_SP_init_11 rfl (lv_at hl 0 rfl) ?_
  refine va_newa (atype := .int) (a0 := (12, .inl (fun _ => 0))) (N' := 12) hx hb (hts _ (List.mem_cons_of_mem _ wm_78)) rfl hK hP hD hS hA (fun _ => rfl) (by decide) (by decide) (by decide) (Nat.le_of_ble_eq_true rfl) (Nat.le_of_ble_eq_true rfl) d_SP_init_12 (fun q_1 cA_2 H hK hP hD hS => ?_)
  have hK : va_K (dC, dI) xCl [(cA_2, .int)] s := hK
  have hP : va_P (dC, dI) xCl [(h0, .inr (1, [.null, .null, .null, .int 0])), (q_1, .inl (cA_2, 12, .inl (fun _ => 0)))] H := hP
  have hD : va_D A [(h0, .inr (1, [.null, .null, .null, .int 0])), (q_1, .inl (cA_2, 12, .inl (fun _ => 0)))] := hD
  refine W.widen (k := 1) (n := 12) (by decide) (by decide) ?_
  refine va_putF (D := (dC, dI)) (ci := 1) (v := .ref q_1) (ty := (.array .int)) (C := xR_SP) (T := xT_SP) (N := 4) hx hb hts (fun w h => List.mem_cons_of_mem _ (iw_SP w h)) xt_SP xt_SP_ok xn_SP_nm hown hK hP hD hS 0 rfl rfl 0 (by decide) (hts _ (List.mem_cons_of_mem _ wm_58)) (fun _ h9 => h9) rfl hin rfl (by decide +kernel) rfl rfl (Nat.le_of_ble_eq_true rfl) d_SP_init_14 (fun H locs hP hD hS => ?_)
  have hP : va_P (dC, dI) xCl [(h0, .inr (1, [.ref q_1, .null, .null, .int 0])), (q_1, .inl (cA_2, 12, .inl (fun _ => 0)))] H := hP
  have hD : va_D A [(h0, .inr (1, [.ref q_1, .null, .null, .int 0])), (q_1, .inl (cA_2, 12, .inl (fun _ => 0)))] := hD
  refine lv_aload_n hx hb d_SP_init_17 rfl (lv_at hl 1 rfl) ?_
  refine lv_iload_n hx hb d_SP_init_18 rfl (lv_at hl 0 rfl) ?_
  refine va_newa (atype := .int) (a0 := (12, .inl (fun _ => 0))) (N' := 12) hx hb (hts _ (List.mem_cons_of_mem _ wm_78)) rfl hK hP hD hS hA (fun _ => rfl) (by decide) (by decide) (by decide) (Nat.le_of_ble_eq_true rfl) (Nat.le_of_ble_eq_true rfl) d_SP_init_19 (fun q_3 cA_4 H hK hP hD hS => ?_)
  have hK : va_K (dC, dI) xCl [(cA_2, .int), (cA_4, .int)] s := hK
  have hP : va_P (dC, dI) xCl [(h0, .inr (1, [.ref q_1, .null, .null, .int 0])), (q_1, .inl (cA_2, 12, .inl (fun _ => 0))), (q_3, .inl (cA_4, 12, .inl (fun _ => 0)))] H := hP
  have hD : va_D A [(h0, .inr (1, [.ref q_1, .null, .null, .int 0])), (q_1, .inl (cA_2, 12, .inl (fun _ => 0))), (q_3, .inl (cA_4, 12, .inl (fun _ => 0)))] := hD
  refine W.widen (k := 2) (n := 24) (by decide) (by decide) ?_
  refine va_putF (D := (dC, dI)) (ci := 1) (v := .ref q_3) (ty := (.array .int)) (C := xR_SP) (T := xT_SP) (N := 4) hx hb hts (fun w h => List.mem_cons_of_mem _ (iw_SP w h)) xt_SP xt_SP_ok xn_SP_nm hown hK hP hD hS 0 rfl rfl 1 (by decide) (hts _ (List.mem_cons_of_mem _ wm_61)) (fun _ h9 => h9) rfl hin rfl (by decide +kernel) rfl rfl (Nat.le_of_ble_eq_true rfl) d_SP_init_21 (fun H locs hP hD hS => ?_)
  have hP : va_P (dC, dI) xCl [(h0, .inr (1, [.ref q_1, .ref q_3, .null, .int 0])), (q_1, .inl (cA_2, 12, .inl (fun _ => 0))), (q_3, .inl (cA_4, 12, .inl (fun _ => 0)))] H := hP
  have hD : va_D A [(h0, .inr (1, [.ref q_1, .ref q_3, .null, .int 0])), (q_1, .inl (cA_2, 12, .inl (fun _ => 0))), (q_3, .inl (cA_4, 12, .inl (fun _ => 0)))] := hD
  refine lv_aload_n hx hb d_SP_init_24 rfl (lv_at hl 1 rfl) ?_
  refine lv_iload_n hx hb d_SP_init_25 rfl (lv_at hl 0 rfl) ?_
  refine va_newa (atype := .int) (a0 := (12, .inl (fun _ => 0))) (N' := 12) hx hb (hts _ (List.mem_cons_of_mem _ wm_78)) rfl hK hP hD hS hA (fun _ => rfl) (by decide) (by decide) (by decide) (Nat.le_of_ble_eq_true rfl) (Nat.le_of_ble_eq_true rfl) d_SP_init_26 (fun q_5 cA_6 H hK hP hD hS => ?_)
  have hK : va_K (dC, dI) xCl [(cA_2, .int), (cA_4, .int), (cA_6, .int)] s := hK
  have hP : va_P (dC, dI) xCl [(h0, .inr (1, [.ref q_1, .ref q_3, .null, .int 0])), (q_1, .inl (cA_2, 12, .inl (fun _ => 0))), (q_3, .inl (cA_4, 12, .inl (fun _ => 0))), (q_5, .inl (cA_6, 12, .inl (fun _ => 0)))] H := hP
  have hD : va_D A [(h0, .inr (1, [.ref q_1, .ref q_3, .null, .int 0])), (q_1, .inl (cA_2, 12, .inl (fun _ => 0))), (q_3, .inl (cA_4, 12, .inl (fun _ => 0))), (q_5, .inl (cA_6, 12, .inl (fun _ => 0)))] := hD
  refine W.widen (k := 3) (n := 36) (by decide) (by decide) ?_
  refine va_putF (D := (dC, dI)) (ci := 1) (v := .ref q_5) (ty := (.array .int)) (C := xR_SP) (T := xT_SP) (N := 4) hx hb hts (fun w h => List.mem_cons_of_mem _ (iw_SP w h)) xt_SP xt_SP_ok xn_SP_nm hown hK hP hD hS 0 rfl rfl 2 (by decide) (hts _ (List.mem_cons_of_mem _ wm_64)) (fun _ h9 => h9) rfl hin rfl (by decide +kernel) rfl rfl (Nat.le_of_ble_eq_true rfl) d_SP_init_28 (fun H locs hP hD hS => ?_)
  have hP : va_P (dC, dI) xCl [(h0, .inr (1, [.ref q_1, .ref q_3, .ref q_5, .int 0])), (q_1, .inl (cA_2, 12, .inl (fun _ => 0))), (q_3, .inl (cA_4, 12, .inl (fun _ => 0))), (q_5, .inl (cA_6, 12, .inl (fun _ => 0)))] H := hP
  have hD : va_D A [(h0, .inr (1, [.ref q_1, .ref q_3, .ref q_5, .int 0])), (q_1, .inl (cA_2, 12, .inl (fun _ => 0))), (q_3, .inl (cA_4, 12, .inl (fun _ => 0))), (q_5, .inl (cA_6, 12, .inl (fun _ => 0)))] := hD
  have hP9 := hP.sub (ws' := [(h0, .inr (1, [.ref q_1, .ref q_3, .ref q_5, .int 0])), (q_1, .inl (cA_2, 12, .inl (fun _ => 0))), (q_3, .inl (cA_4, 12, .inl (fun _ => 0))), (q_5, .inl (cA_6, 12, .inl (fun _ => 0)))]) [0, 1, 2, 3] rfl
  have hD9 := hD.sub (ws' := [(h0, .inr (1, [.ref q_1, .ref q_3, .ref q_5, .int 0])), (q_1, .inl (cA_2, 12, .inl (fun _ => 0))), (q_3, .inl (cA_4, 12, .inl (fun _ => 0))), (q_5, .inl (cA_6, 12, .inl (fun _ => 0)))]) [0, 1, 2, 3] (by decide) rfl
  have hK9 := hK.sub (tys' := [(cA_2, .int), (cA_4, .int), (cA_6, .int)]) [0, 1, 2] rfl
  exact W.vret hx hb hr (fun t ht hW => ⟨⟨(), rfl, trivial, q_1, q_3, q_5, cA_2, cA_4, cA_6, ⟨by rw [ht]; exact hP9, va_K.moved hW.alike hK9, by exact hD9⟩⟩, hS.F ht⟩) hS.2.2 d_SP_init_31 hlocks
set_option maxHeartbeats 4000000 in
set_option maxRecDepth 100000 in
/-- Spots(30) -/
theorem c_SP_init30 (l : Launch) (dC : Nat → ClassId) (dI : Nat → Nat → Nat) (sz : Nat) (h0 : Nat)  : Met l xy_SP_init xw_SP_init ({ frames := 1, cells := 3, slots := 90, locals := 13 }) (xp_w [.ref h0, .int 30] sz (dC, dI) xCl [(h0, .inr (1, [.null, .null, .null, .int 0]))] []) (va_Qv (fun (_ : Unit) => True) (fun _ t => ∃ (q1 : Nat) (q2 : Nat) (q3 : Nat) (c1 : ClassId) (c2 : ClassId) (c3 : ClassId), xb_w (dC, dI) xCl [(h0, .inr (1, [.ref q1, .ref q2, .ref q3, .int (nI 0)])), (q1, .inl (c1, 30, .inl (fun _ => 0))), (q2, .inl (c2, 30, .inl (fun _ => 0))), (q3, .inl (c3, 30, .inl (fun _ => 0)))] [(c1, .int), (c2, .int), (c3, .int)] (va_A [(h0, .inr (1, [.null, .null, .null, .int 0]))] sz) t) (va_A [(h0, .inr (1, [.null, .null, .null, .int 0]))] sz)) 3 90 (va_A [(h0, .inr (1, [.null, .null, .null, .int 0]))] sz) := by
  refine Met.ofW (cc := prog_6_method_1_code) (maxL := 3) (ret := none) (by decide) rfl ?_
  intro p e s m args below meth c s₁ B hml hv
  obtain ⟨rfl, hsz, hz, hP, hK, hD0⟩ := hv
  have hx := B.exec
  have hb := B.bytes
  have hr := B.returns
  have hts := atoms_spec (ws := xw_SP_init) B.pre
  have hown : s.vm.findClass xR_SP = some m.cls := findClass_of_methodNamed B.named
  have hlocks := B.notSynchronized
  have hin : meth.name = "<init>" := (name_of_methodNamed B.named B.method).1
  subst hsz
  have hD := hD0.self (sz := s.heap.size)
  generalize hAe : va_A [(h0, .inr (1, [.null, .null, .null, .int 0]))] s.heap.size = A at hD ⊢
  have hA : ∀ q : Nat, s.heap.size ≤ q → A q := fun q h => by rw [← hAe]; exact Or.inr h
  have hS : va_S A s.heap s.heap [] := va_S.rf
  have hP : va_P (dC, dI) xCl [(h0, .inr (1, [.null, .null, .null, .int 0]))] s.heap := hP
  have hl := lv_entry ([.ref h0, .int 30]) (n := 3) (Nat.le_of_ble_eq_true rfl)
  rw [lg_entry_eq]
  generalize (lg_sl ([.ref h0, .int 30]) ++ List.replicate (3 - (lg_sl ([.ref h0, .int 30])).length) Slot.unset).toArray = ls at hl ⊢
  have hl : lv_has ls 3 [(0, .ref h0), (1, .int 30)] := hl
  refine lv_aload_n hx hb d_SP_init_0 rfl (lv_at hl 0 rfl) ?_
  refine W.objInit hx hb hown (hts _ (List.mem_cons_of_mem _ wm_54)) (hts _ (List.mem_cons_of_mem _ wm_47)) (hts _ (List.mem_cons_of_mem _ wm_48)) rfl (by rw [hml]; exact hl.1) rfl d_SP_init_1 (Nat.le_of_ble_eq_true rfl) (Nat.le_of_ble_eq_true rfl) ?_
  refine W.eq (g2 := F0 m 4 ls []) rfl ?_
  refine lv_iload_n hx hb d_SP_init_4 rfl (lv_at hl 1 rfl) ?_
  refine lv_iconst (v := 0) hx hb d_SP_init_5 (by decide) ?_
  refine va_mmax hx hb (hml.trans hl.1.symm) hown (hts _ (List.mem_cons_of_mem _ wm_55)) (hts _ (List.mem_cons_of_mem _ wm_56)) (hts _ (List.mem_cons_of_mem _ wm_28)) (hts _ (List.mem_cons_of_mem _ wm_57)) (Nat.le_of_ble_eq_true rfl) (Nat.le_of_ble_eq_true rfl) (Nat.le_of_ble_eq_true rfl) (Nat.le_of_ble_eq_true rfl) d_SP_init_6 ?_
  refine xv_i (y := 30) (by decide) ?_
  refine lv_istore_n (lv' := [(2, .int 30), (0, .ref h0), (1, .int 30)]) hx hb d_SP_init_9 rfl hl (by decide) rfl (fun ls hl => ?_)
  refine lv_aload_n hx hb d_SP_init_10 rfl (lv_at hl 1 rfl) ?_
  refine lv_iload_n hx hb d_SP_init_11 rfl (lv_at hl 0 rfl) ?_
  refine va_newa (atype := .int) (a0 := (30, .inl (fun _ => 0))) (N' := 30) hx hb (hts _ (List.mem_cons_of_mem _ wm_78)) rfl hK hP hD hS hA (fun _ => rfl) (by decide) (by decide) (by decide) (Nat.le_of_ble_eq_true rfl) (Nat.le_of_ble_eq_true rfl) d_SP_init_12 (fun q_1 cA_2 H hK hP hD hS => ?_)
  have hK : va_K (dC, dI) xCl [(cA_2, .int)] s := hK
  have hP : va_P (dC, dI) xCl [(h0, .inr (1, [.null, .null, .null, .int 0])), (q_1, .inl (cA_2, 30, .inl (fun _ => 0)))] H := hP
  have hD : va_D A [(h0, .inr (1, [.null, .null, .null, .int 0])), (q_1, .inl (cA_2, 30, .inl (fun _ => 0)))] := hD
  refine W.widen (k := 1) (n := 30) (by decide) (by decide) ?_
  refine va_putF (D := (dC, dI)) (ci := 1) (v := .ref q_1) (ty := (.array .int)) (C := xR_SP) (T := xT_SP) (N := 4) hx hb hts (fun w h => List.mem_cons_of_mem _ (iw_SP w h)) xt_SP xt_SP_ok xn_SP_nm hown hK hP hD hS 0 rfl rfl 0 (by decide) (hts _ (List.mem_cons_of_mem _ wm_58)) (fun _ h9 => h9) rfl hin rfl (by decide +kernel) rfl rfl (Nat.le_of_ble_eq_true rfl) d_SP_init_14 (fun H locs hP hD hS => ?_)
  have hP : va_P (dC, dI) xCl [(h0, .inr (1, [.ref q_1, .null, .null, .int 0])), (q_1, .inl (cA_2, 30, .inl (fun _ => 0)))] H := hP
  have hD : va_D A [(h0, .inr (1, [.ref q_1, .null, .null, .int 0])), (q_1, .inl (cA_2, 30, .inl (fun _ => 0)))] := hD
  refine lv_aload_n hx hb d_SP_init_17 rfl (lv_at hl 1 rfl) ?_
  refine lv_iload_n hx hb d_SP_init_18 rfl (lv_at hl 0 rfl) ?_
  refine va_newa (atype := .int) (a0 := (30, .inl (fun _ => 0))) (N' := 30) hx hb (hts _ (List.mem_cons_of_mem _ wm_78)) rfl hK hP hD hS hA (fun _ => rfl) (by decide) (by decide) (by decide) (Nat.le_of_ble_eq_true rfl) (Nat.le_of_ble_eq_true rfl) d_SP_init_19 (fun q_3 cA_4 H hK hP hD hS => ?_)
  have hK : va_K (dC, dI) xCl [(cA_2, .int), (cA_4, .int)] s := hK
  have hP : va_P (dC, dI) xCl [(h0, .inr (1, [.ref q_1, .null, .null, .int 0])), (q_1, .inl (cA_2, 30, .inl (fun _ => 0))), (q_3, .inl (cA_4, 30, .inl (fun _ => 0)))] H := hP
  have hD : va_D A [(h0, .inr (1, [.ref q_1, .null, .null, .int 0])), (q_1, .inl (cA_2, 30, .inl (fun _ => 0))), (q_3, .inl (cA_4, 30, .inl (fun _ => 0)))] := hD
  refine W.widen (k := 2) (n := 60) (by decide) (by decide) ?_
  refine va_putF (D := (dC, dI)) (ci := 1) (v := .ref q_3) (ty := (.array .int)) (C := xR_SP) (T := xT_SP) (N := 4) hx hb hts (fun w h => List.mem_cons_of_mem _ (iw_SP w h)) xt_SP xt_SP_ok xn_SP_nm hown hK hP hD hS 0 rfl rfl 1 (by decide) (hts _ (List.mem_cons_of_mem _ wm_61)) (fun _ h9 => h9) rfl hin rfl (by decide +kernel) rfl rfl (Nat.le_of_ble_eq_true rfl) d_SP_init_21 (fun H locs hP hD hS => ?_)
  have hP : va_P (dC, dI) xCl [(h0, .inr (1, [.ref q_1, .ref q_3, .null, .int 0])), (q_1, .inl (cA_2, 30, .inl (fun _ => 0))), (q_3, .inl (cA_4, 30, .inl (fun _ => 0)))] H := hP
  have hD : va_D A [(h0, .inr (1, [.ref q_1, .ref q_3, .null, .int 0])), (q_1, .inl (cA_2, 30, .inl (fun _ => 0))), (q_3, .inl (cA_4, 30, .inl (fun _ => 0)))] := hD
  refine lv_aload_n hx hb d_SP_init_24 rfl (lv_at hl 1 rfl) ?_
  refine lv_iload_n hx hb d_SP_init_25 rfl (lv_at hl 0 rfl) ?_
  refine va_newa (atype := .int) (a0 := (30, .inl (fun _ => 0))) (N' := 30) hx hb (hts _ (List.mem_cons_of_mem _ wm_78)) rfl hK hP hD hS hA (fun _ => rfl) (by decide) (by decide) (by decide) (Nat.le_of_ble_eq_true rfl) (Nat.le_of_ble_eq_true rfl) d_SP_init_26 (fun q_5 cA_6 H hK hP hD hS => ?_)
  have hK : va_K (dC, dI) xCl [(cA_2, .int), (cA_4, .int), (cA_6, .int)] s := hK
  have hP : va_P (dC, dI) xCl [(h0, .inr (1, [.ref q_1, .ref q_3, .null, .int 0])), (q_1, .inl (cA_2, 30, .inl (fun _ => 0))), (q_3, .inl (cA_4, 30, .inl (fun _ => 0))), (q_5, .inl (cA_6, 30, .inl (fun _ => 0)))] H := hP
  have hD : va_D A [(h0, .inr (1, [.ref q_1, .ref q_3, .null, .int 0])), (q_1, .inl (cA_2, 30, .inl (fun _ => 0))), (q_3, .inl (cA_4, 30, .inl (fun _ => 0))), (q_5, .inl (cA_6, 30, .inl (fun _ => 0)))] := hD
  refine W.widen (k := 3) (n := 90) (by decide) (by decide) ?_
  refine va_putF (D := (dC, dI)) (ci := 1) (v := .ref q_5) (ty := (.array .int)) (C := xR_SP) (T := xT_SP) (N := 4) hx hb hts (fun w h => List.mem_cons_of_mem _ (iw_SP w h)) xt_SP xt_SP_ok xn_SP_nm hown hK hP hD hS 0 rfl rfl 2 (by decide) (hts _ (List.mem_cons_of_mem _ wm_64)) (fun _ h9 => h9) rfl hin rfl (by decide +kernel) rfl rfl (Nat.le_of_ble_eq_true rfl) d_SP_init_28 (fun H locs hP hD hS => ?_)
  have hP : va_P (dC, dI) xCl [(h0, .inr (1, [.ref q_1, .ref q_3, .ref q_5, .int 0])), (q_1, .inl (cA_2, 30, .inl (fun _ => 0))), (q_3, .inl (cA_4, 30, .inl (fun _ => 0))), (q_5, .inl (cA_6, 30, .inl (fun _ => 0)))] H := hP
  have hD : va_D A [(h0, .inr (1, [.ref q_1, .ref q_3, .ref q_5, .int 0])), (q_1, .inl (cA_2, 30, .inl (fun _ => 0))), (q_3, .inl (cA_4, 30, .inl (fun _ => 0))), (q_5, .inl (cA_6, 30, .inl (fun _ => 0)))] := hD
  have hP9 := hP.sub (ws' := [(h0, .inr (1, [.ref q_1, .ref q_3, .ref q_5, .int 0])), (q_1, .inl (cA_2, 30, .inl (fun _ => 0))), (q_3, .inl (cA_4, 30, .inl (fun _ => 0))), (q_5, .inl (cA_6, 30, .inl (fun _ => 0)))]) [0, 1, 2, 3] rfl
  have hD9 := hD.sub (ws' := [(h0, .inr (1, [.ref q_1, .ref q_3, .ref q_5, .int 0])), (q_1, .inl (cA_2, 30, .inl (fun _ => 0))), (q_3, .inl (cA_4, 30, .inl (fun _ => 0))), (q_5, .inl (cA_6, 30, .inl (fun _ => 0)))]) [0, 1, 2, 3] (by decide) rfl
  have hK9 := hK.sub (tys' := [(cA_2, .int), (cA_4, .int), (cA_6, .int)]) [0, 1, 2] rfl
  exact W.vret hx hb hr (fun t ht hW => ⟨⟨(), rfl, trivial, q_1, q_3, q_5, cA_2, cA_4, cA_6, ⟨by rw [ht]; exact hP9, va_K.moved hW.alike hK9, by exact hD9⟩⟩, hS.F ht⟩) hS.2.2 d_SP_init_31 hlocks
