theorem d_MD_readsRow_0 : decode prog_9_method_35_code 0 = .ok (.aload_n 0, 1) := by decide +kernel
theorem d_MD_readsRow_1 : decode prog_9_method_35_code 1 = .ok (.bipush 32, 2) := by decide +kernel
theorem d_MD_readsRow_3 : decode prog_9_method_35_code 3 = .ok (.invokevirtual 158, 3) := by decide +kernel
theorem d_MD_readsRow_6 : decode prog_9_method_35_code 6 = .ok (.ifCond .eq 30, 3) := by decide +kernel
theorem d_MD_readsRow_9 : decode prog_9_method_35_code 9 = .ok (.aload_n 0, 1) := by decide +kernel
theorem d_MD_readsRow_10 : decode prog_9_method_35_code 10 = .ok (.getfield 155, 3) := by decide +kernel
theorem d_MD_readsRow_13 : decode prog_9_method_35_code 13 = .ok (.iconst 0, 1) := by decide +kernel
theorem d_MD_readsRow_14 : decode prog_9_method_35_code 14 = .ok (.aload_n 0, 1) := by decide +kernel
theorem d_MD_readsRow_15 : decode prog_9_method_35_code 15 = .ok (.getfield 58, 3) := by decide +kernel
theorem d_MD_readsRow_18 : decode prog_9_method_35_code 18 = .ok (.iconst 1, 1) := by decide +kernel
theorem d_MD_readsRow_19 : decode prog_9_method_35_code 19 = .ok (.isub, 1) := by decide +kernel
theorem d_MD_readsRow_20 : decode prog_9_method_35_code 20 = .ok (.invokestatic 51, 3) := by decide +kernel
theorem d_MD_readsRow_23 : decode prog_9_method_35_code 23 = .ok (.ifCond .eq 13, 3) := by decide +kernel
theorem d_MD_readsRow_26 : decode prog_9_method_35_code 26 = .ok (.iload_n 1, 1) := by decide +kernel
theorem d_MD_readsRow_27 : decode prog_9_method_35_code 27 = .ok (.bipush 20, 2) := by decide +kernel
theorem d_MD_readsRow_29 : decode prog_9_method_35_code 29 = .ok (.if_icmp .ge 7, 3) := by decide +kernel
theorem d_MD_readsRow_32 : decode prog_9_method_35_code 32 = .ok (.iconst 1, 1) := by decide +kernel
theorem d_MD_readsRow_33 : decode prog_9_method_35_code 33 = .ok (.goto 4, 3) := by decide +kernel
theorem d_MD_readsRow_36 : decode prog_9_method_35_code 36 = .ok (.iconst 0, 1) := by decide +kernel
theorem d_MD_readsRow_37 : decode prog_9_method_35_code 37 = .ok (.istore_n 3, 1) := by decide +kernel
theorem d_MD_readsRow_38 : decode prog_9_method_35_code 38 = .ok (.aload_n 0, 1) := by decide +kernel
theorem d_MD_readsRow_39 : decode prog_9_method_35_code 39 = .ok (.getfield 155, 3) := by decide +kernel
theorem d_MD_readsRow_42 : decode prog_9_method_35_code 42 = .ok (.istore 4, 2) := by decide +kernel
theorem d_MD_readsRow_44 : decode prog_9_method_35_code 44 = .ok (.iload_n 3, 1) := by decide +kernel
theorem d_MD_readsRow_45 : decode prog_9_method_35_code 45 = .ok (.ifCond .eq 32, 3) := by decide +kernel
theorem d_MD_readsRow_48 : decode prog_9_method_35_code 48 = .ok (.aload_n 0, 1) := by decide +kernel
theorem d_MD_readsRow_49 : decode prog_9_method_35_code 49 = .ok (.bipush 32, 2) := by decide +kernel
theorem d_MD_readsRow_51 : decode prog_9_method_35_code 51 = .ok (.invokevirtual 158, 3) := by decide +kernel
theorem d_MD_readsRow_54 : decode prog_9_method_35_code 54 = .ok (.ifCond .eq 23, 3) := by decide +kernel
theorem d_MD_readsRow_57 : decode prog_9_method_35_code 57 = .ok (.aload_n 0, 1) := by decide +kernel
theorem d_MD_readsRow_58 : decode prog_9_method_35_code 58 = .ok (.getfield 155, 3) := by decide +kernel
theorem d_MD_readsRow_61 : decode prog_9_method_35_code 61 = .ok (.sipush (-10000), 3) := by decide +kernel
theorem d_MD_readsRow_64 : decode prog_9_method_35_code 64 = .ok (.sipush 10000, 3) := by decide +kernel
theorem d_MD_readsRow_67 : decode prog_9_method_35_code 67 = .ok (.invokestatic 51, 3) := by decide +kernel
theorem d_MD_readsRow_70 : decode prog_9_method_35_code 70 = .ok (.ifCond .eq 7, 3) := by decide +kernel
theorem d_MD_readsRow_73 : decode prog_9_method_35_code 73 = .ok (.iconst 1, 1) := by decide +kernel
theorem d_MD_readsRow_74 : decode prog_9_method_35_code 74 = .ok (.goto 4, 3) := by decide +kernel
theorem d_MD_readsRow_77 : decode prog_9_method_35_code 77 = .ok (.iconst 0, 1) := by decide +kernel
theorem d_MD_readsRow_78 : decode prog_9_method_35_code 78 = .ok (.istore_n 3, 1) := by decide +kernel
theorem d_MD_readsRow_79 : decode prog_9_method_35_code 79 = .ok (.aload_n 0, 1) := by decide +kernel
theorem d_MD_readsRow_80 : decode prog_9_method_35_code 80 = .ok (.getfield 155, 3) := by decide +kernel
theorem d_MD_readsRow_83 : decode prog_9_method_35_code 83 = .ok (.istore 5, 2) := by decide +kernel
theorem d_MD_readsRow_85 : decode prog_9_method_35_code 85 = .ok (.iload_n 3, 1) := by decide +kernel
theorem d_MD_readsRow_86 : decode prog_9_method_35_code 86 = .ok (.ifCond .eq 32, 3) := by decide +kernel
theorem d_MD_readsRow_89 : decode prog_9_method_35_code 89 = .ok (.aload_n 0, 1) := by decide +kernel
theorem d_MD_readsRow_90 : decode prog_9_method_35_code 90 = .ok (.bipush 32, 2) := by decide +kernel
theorem d_MD_readsRow_92 : decode prog_9_method_35_code 92 = .ok (.invokevirtual 158, 3) := by decide +kernel
theorem d_MD_readsRow_95 : decode prog_9_method_35_code 95 = .ok (.ifCond .eq 23, 3) := by decide +kernel
theorem d_MD_readsRow_98 : decode prog_9_method_35_code 98 = .ok (.aload_n 0, 1) := by decide +kernel
theorem d_MD_readsRow_99 : decode prog_9_method_35_code 99 = .ok (.getfield 155, 3) := by decide +kernel
theorem d_MD_readsRow_102 : decode prog_9_method_35_code 102 = .ok (.sipush (-10000), 3) := by decide +kernel
theorem d_MD_readsRow_105 : decode prog_9_method_35_code 105 = .ok (.sipush 10000, 3) := by decide +kernel
theorem d_MD_readsRow_108 : decode prog_9_method_35_code 108 = .ok (.invokestatic 51, 3) := by decide +kernel
theorem d_MD_readsRow_111 : decode prog_9_method_35_code 111 = .ok (.ifCond .eq 7, 3) := by decide +kernel
theorem d_MD_readsRow_114 : decode prog_9_method_35_code 114 = .ok (.iconst 1, 1) := by decide +kernel
theorem d_MD_readsRow_115 : decode prog_9_method_35_code 115 = .ok (.goto 4, 3) := by decide +kernel
theorem d_MD_readsRow_118 : decode prog_9_method_35_code 118 = .ok (.iconst 0, 1) := by decide +kernel
theorem d_MD_readsRow_119 : decode prog_9_method_35_code 119 = .ok (.istore_n 3, 1) := by decide +kernel
theorem d_MD_readsRow_120 : decode prog_9_method_35_code 120 = .ok (.aload_n 0, 1) := by decide +kernel
theorem d_MD_readsRow_121 : decode prog_9_method_35_code 121 = .ok (.getfield 155, 3) := by decide +kernel
theorem d_MD_readsRow_124 : decode prog_9_method_35_code 124 = .ok (.istore 6, 2) := by decide +kernel
theorem d_MD_readsRow_126 : decode prog_9_method_35_code 126 = .ok (.iload_n 3, 1) := by decide +kernel
theorem d_MD_readsRow_127 : decode prog_9_method_35_code 127 = .ok (.ifCond .eq 32, 3) := by decide +kernel
theorem d_MD_readsRow_130 : decode prog_9_method_35_code 130 = .ok (.aload_n 0, 1) := by decide +kernel
theorem d_MD_readsRow_131 : decode prog_9_method_35_code 131 = .ok (.bipush 59, 2) := by decide +kernel
theorem d_MD_readsRow_133 : decode prog_9_method_35_code 133 = .ok (.invokevirtual 158, 3) := by decide +kernel
theorem d_MD_readsRow_136 : decode prog_9_method_35_code 136 = .ok (.ifCond .eq 23, 3) := by decide +kernel
theorem d_MD_readsRow_139 : decode prog_9_method_35_code 139 = .ok (.aload_n 0, 1) := by decide +kernel
theorem d_MD_readsRow_140 : decode prog_9_method_35_code 140 = .ok (.getfield 155, 3) := by decide +kernel
theorem d_MD_readsRow_143 : decode prog_9_method_35_code 143 = .ok (.sipush (-10000), 3) := by decide +kernel
theorem d_MD_readsRow_146 : decode prog_9_method_35_code 146 = .ok (.sipush 10000, 3) := by decide +kernel
theorem d_MD_readsRow_149 : decode prog_9_method_35_code 149 = .ok (.invokestatic 51, 3) := by decide +kernel
theorem d_MD_readsRow_152 : decode prog_9_method_35_code 152 = .ok (.ifCond .eq 7, 3) := by decide +kernel
theorem d_MD_readsRow_155 : decode prog_9_method_35_code 155 = .ok (.iconst 1, 1) := by decide +kernel
theorem d_MD_readsRow_156 : decode prog_9_method_35_code 156 = .ok (.goto 4, 3) := by decide +kernel
theorem d_MD_readsRow_159 : decode prog_9_method_35_code 159 = .ok (.iconst 0, 1) := by decide +kernel
theorem d_MD_readsRow_160 : decode prog_9_method_35_code 160 = .ok (.istore_n 3, 1) := by decide +kernel
theorem d_MD_readsRow_161 : decode prog_9_method_35_code 161 = .ok (.iload_n 3, 1) := by decide +kernel
theorem d_MD_readsRow_162 : decode prog_9_method_35_code 162 = .ok (.ifCond .eq 21, 3) := by decide +kernel
theorem d_MD_readsRow_165 : decode prog_9_method_35_code 165 = .ok (.iload_n 2, 1) := by decide +kernel
theorem d_MD_readsRow_166 : decode prog_9_method_35_code 166 = .ok (.ifCond .eq 17, 3) := by decide +kernel
theorem d_MD_readsRow_169 : decode prog_9_method_35_code 169 = .ok (.aload_n 0, 1) := by decide +kernel
theorem d_MD_readsRow_170 : decode prog_9_method_35_code 170 = .ok (.iload 4, 2) := by decide +kernel
theorem d_MD_readsRow_172 : decode prog_9_method_35_code 172 = .ok (.iload 5, 2) := by decide +kernel
theorem d_MD_readsRow_174 : decode prog_9_method_35_code 174 = .ok (.iload 6, 2) := by decide +kernel
theorem d_MD_readsRow_176 : decode prog_9_method_35_code 176 = .ok (.aload_n 0, 1) := by decide +kernel
theorem d_MD_readsRow_177 : decode prog_9_method_35_code 177 = .ok (.getfield 155, 3) := by decide +kernel
theorem d_MD_readsRow_180 : decode prog_9_method_35_code 180 = .ok (.invokevirtual 68, 3) := by decide +kernel
theorem d_MD_readsRow_183 : decode prog_9_method_35_code 183 = .ok (.iload_n 3, 1) := by decide +kernel
theorem d_MD_readsRow_184 : decode prog_9_method_35_code 184 = .ok (.ireturn, 1) := by decide +kernel
set_option maxHeartbeats 4000000 in
set_option maxRecDepth 100000 in
/-- readsRow, asked -/
theorem c_MD_readsRow_f (l : Launch) (dC : Nat → ClassId) (dI : Nat → Nat → Nat) (sz : Nat) (h0 : Nat) (th : Int32) (nm : Nat) (ap : Nat) (no : Nat) (am : Nat) (aw : Nat) (az : Nat) (au : Nat) (kn : Int32) (vP : Int64) (vQ : Int64) (vS : Int64) (vT : Int64) (vB : Int64) (vM : Int64) (vH : Int64) (ao : Nat) (ax : Nat) (np : Nat) (ay : Nat) (nl : Nat) (ad : Nat) (al : Nat) (sn : Nat) (ag : Nat) (ta : Nat) (nb : Int32) (kg : ClassId) (gg : Nat → Int32) (bf : Nat) (hle : sn ≤ 200) (hta : ta ≤ 200) (hbf : bf ≤ 1000) : Met l xy_MD_readsRow xw_MD_readsRow ({ frames := 2, cells := 0, slots := 0, locals := 46 }) (xp_w [.ref h0, .int (nI bf), .int 0] sz (dC, dI) xCl [(h0, .inr (7, [.int th, .int (nI nm), .ref ap, .int (nI no), .ref am, .ref aw, .ref az, .ref au, .int kn, .long vP, .long vQ, .long vS, .long vT, .long vB, .long vM, .long vH, .ref ao, .ref ax, .int (nI np), .ref ay, .int (nI nl), .ref ad, .ref al, .int (nI sn), .ref ag, .int (nI ta), .int nb])), (ag, .inl (kg, 200, .inl gg))] [(kg, .int)]) (va_Qi (fun (r : Int32) (_ : Unit) => r = bI (md_r4 gg sn ta nm bf)) (fun _ t => xb_w (dC, dI) xCl [(h0, .inr (7, [.int th, .int (nI nm), .ref ap, .int (nI no), .ref am, .ref aw, .ref az, .ref au, .int kn, .long vP, .long vQ, .long vS, .long vT, .long vB, .long vM, .long vH, .ref ao, .ref ax, .int (nI np), .ref ay, .int (nI nl), .ref ad, .ref al, .int (nI sn), .ref ag, .int (nI (md_ta gg sn ta nm bf)), .int (md_nb gg sn ta nm bf)])), (ag, .inl (kg, 200, .inl gg))] [(kg, .int)] (va_A [(h0, .inr (7, [.int th, .int (nI nm), .ref ap, .int (nI no), .ref am, .ref aw, .ref az, .ref au, .int kn, .long vP, .long vQ, .long vS, .long vT, .long vB, .long vM, .long vH, .ref ao, .ref ax, .int (nI np), .ref ay, .int (nI nl), .ref ad, .ref al, .int (nI sn), .ref ag, .int (nI ta), .int nb])), (ag, .inl (kg, 200, .inl gg))] sz) t) (va_A [(h0, .inr (7, [.int th, .int (nI nm), .ref ap, .int (nI no), .ref am, .ref aw, .ref az, .ref au, .int kn, .long vP, .long vQ, .long vS, .long vT, .long vB, .long vM, .long vH, .ref ao, .ref ax, .int (nI np), .ref ay, .int (nI nl), .ref ad, .ref al, .int (nI sn), .ref ag, .int (nI ta), .int nb])), (ag, .inl (kg, 200, .inl gg))] sz)) 0 0 (va_A [(h0, .inr (7, [.int th, .int (nI nm), .ref ap, .int (nI no), .ref am, .ref aw, .ref az, .ref au, .int kn, .long vP, .long vQ, .long vS, .long vT, .long vB, .long vM, .long vH, .ref ao, .ref ax, .int (nI np), .ref ay, .int (nI nl), .ref ad, .ref al, .int (nI sn), .ref ag, .int (nI ta), .int nb])), (ag, .inl (kg, 200, .inl gg))] sz) := by
  refine Met.ofW (cc := prog_9_method_35_code) (maxL := 7) (ret := (some .boolean)) (by decide) rfl ?_
  intro p e s m args below meth c s₁ B hml hv
  obtain ⟨rfl, hsz, hz, hP, hK, hD0⟩ := hv
  have hx := B.exec
  have hb := B.bytes
  have hr := B.returns
  have hts := atoms_spec (ws := xw_MD_readsRow) B.pre
  have hown : s.vm.findClass xR_MD = some m.cls := findClass_of_methodNamed B.named
  have hlocks := B.notSynchronized
  subst hsz
  have hD := hD0.self (sz := s.heap.size)
  generalize hAe : va_A [(h0, .inr (7, [.int th, .int (nI nm), .ref ap, .int (nI no), .ref am, .ref aw, .ref az, .ref au, .int kn, .long vP, .long vQ, .long vS, .long vT, .long vB, .long vM, .long vH, .ref ao, .ref ax, .int (nI np), .ref ay, .int (nI nl), .ref ad, .ref al, .int (nI sn), .ref ag, .int (nI ta), .int nb])), (ag, .inl (kg, 200, .inl gg))] s.heap.size = A at hD ⊢
  have hA : ∀ q : Nat, s.heap.size ≤ q → A q := fun q h => by rw [← hAe]; exact Or.inr h
  have hS : va_S A s.heap s.heap [] := va_S.rf
  have hP : va_P (dC, dI) xCl [(h0, .inr (7, [.int th, .int (nI nm), .ref ap, .int (nI no), .ref am, .ref aw, .ref az, .ref au, .int kn, .long vP, .long vQ, .long vS, .long vT, .long vB, .long vM, .long vH, .ref ao, .ref ax, .int (nI np), .ref ay, .int (nI nl), .ref ad, .ref al, .int (nI sn), .ref ag, .int (nI ta), .int nb])), (ag, .inl (kg, 200, .inl gg))] s.heap := hP
  have hl := lv_entry ([.ref h0, .int (nI bf), .int 0]) (n := 7) (Nat.le_of_ble_eq_true rfl)
  rw [lg_entry_eq]
  generalize (lg_sl ([.ref h0, .int (nI bf), .int 0]) ++ List.replicate (7 - (lg_sl ([.ref h0, .int (nI bf), .int 0])).length) Slot.unset).toArray = ls at hl ⊢
  have hl : lv_has ls 7 [(0, .ref h0), (1, .int (nI bf)), (2, .int 0)] := hl
  refine lv_aload_n hx hb d_MD_readsRow_0 rfl (lv_at hl 0 rfl) ?_
  refine lv_bipush (v := 32) hx hb d_MD_readsRow_1 (by decide) ?_
  have hPc := hP.sub (ws' := [(h0, .inr (7, [.int th, .int (nI nm), .ref ap, .int (nI no), .ref am, .ref aw, .ref az, .ref au, .int kn, .long vP, .long vQ, .long vS, .long vT, .long vB, .long vM, .long vH, .ref ao, .ref ax, .int (nI np), .ref ay, .int (nI nl), .ref ad, .ref al, .int (nI sn), .ref ag, .int (nI ta), .int nb])), (ag, .inl (kg, 200, .inl gg))]) [0, 1] rfl
  have hDc := hD.sub (ws' := [(h0, .inr (7, [.int th, .int (nI nm), .ref ap, .int (nI no), .ref am, .ref aw, .ref az, .ref au, .int kn, .long vP, .long vQ, .long vS, .long vT, .long vB, .long vM, .long vH, .ref ao, .ref ax, .int (nI np), .ref ay, .int (nI nl), .ref ad, .ref al, .int (nI sn), .ref ag, .int (nI ta), .int nb])), (ag, .inl (kg, 200, .inl gg))]) [0, 1] (by decide) rfl
  have hKc := hK.sub (tys' := [(kg, .int)]) [0] rfl
  have hFc := va_free (wc := [(h0, .inr (7, [.int th, .int (nI nm), .ref ap, .int (nI no), .ref am, .ref aw, .ref az, .ref au, .int kn, .long vP, .long vQ, .long vS, .long vT, .long vB, .long vM, .long vH, .ref ao, .ref ax, .int (nI np), .ref ay, .int (nI nl), .ref ad, .ref al, .int (nI sn), .ref ag, .int (nI ta), .int nb])), (ag, .inl (kg, 200, .inl gg))]) hD hS hA [0, 1] rfl
  refine va_calli (va_runV (As := [.int 32]) (rest := []) ⟨hx, hb, hml, hown, hts⟩ (c_MD_reads l dC dI s.heap.size h0 th nm ap no am aw az au kn vP vQ vS vT vB vM vH ao ax np ay nl ad al sn ag ta nb kg gg 32 (by first | assumption | omega | decide) (by first | assumption | omega | decide)) (cwV 1 hts (xgV wm_912 wm_914 wm_24 wm_34 wm_915) rfl rfl rfl (by decide +kernel) ⟨Nat.le_of_ble_eq_true rfl, Nat.le_of_ble_eq_true rfl⟩) ⟨xw_blind, va_recv hKc hPc (ci := 7) (q0 := 0) rfl rfl, fun U hU hW => ⟨rfl, by rw [hU], hz.warm hW, by rw [hU]; exact hPc, va_K.moved hW.alike hKc, hDc.weaken (fun _ _ _ _ => trivial)⟩⟩ rfl rfl hl.1 rfl (lv_room (Nat.le_of_ble_eq_true rfl)) d_MD_readsRow_3 ⟨Nat.le_of_ble_eq_true rfl, Nat.le_of_ble_eq_true rfl⟩) hS (fun q _ h => hFc q h) hFc (fun r_1 _ t H1 locs ht hvm hw_2 hB hz1 hk1 hS => ?_)
  obtain ⟨hP1, hK1, hD1⟩ := hB
  rw [ht] at hP1
  have hK1 := va_K.moved hvm.symm hK1
  obtain ⟨hP, hD⟩ := va_join (wr := []) (w1 := [(h0, .inr (7, [.int th, .int (nI nm), .ref ap, .int (nI no), .ref am, .ref aw, .ref az, .ref au, .int kn, .long vP, .long vQ, .long vS, .long vT, .long vB, .long vM, .long vH, .ref ao, .ref ax, .int (nI np), .ref ay, .int (nI nl), .ref ad, .ref al, .int (nI sn), .ref ag, .int (nI (md_np gg sn ta + 1)), .int (md_nv gg sn ta)])), (ag, .inl (kg, 200, .inl gg))]) hP hD [0, 1] [] rfl rfl (by decide) (by decide) hk1 hFc hP1 hD1
  generalize H1 = H at hP hS ⊢
  have hP : va_P (dC, dI) xCl [(h0, .inr (7, [.int th, .int (nI nm), .ref ap, .int (nI no), .ref am, .ref aw, .ref az, .ref au, .int kn, .long vP, .long vQ, .long vS, .long vT, .long vB, .long vM, .long vH, .ref ao, .ref ax, .int (nI np), .ref ay, .int (nI nl), .ref ad, .ref al, .int (nI sn), .ref ag, .int (nI (md_np gg sn ta + 1)), .int (md_nv gg sn ta)])), (ag, .inl (kg, 200, .inl gg))] H := hP
  have hD : va_D A [(h0, .inr (7, [.int th, .int (nI nm), .ref ap, .int (nI no), .ref am, .ref aw, .ref az, .ref au, .int kn, .long vP, .long vQ, .long vS, .long vT, .long vB, .long vM, .long vH, .ref ao, .ref ax, .int (nI np), .ref ay, .int (nI nl), .ref ad, .ref al, .int (nI sn), .ref ag, .int (nI (md_np gg sn ta + 1)), .int (md_nv gg sn ta)])), (ag, .inl (kg, 200, .inl gg))] := hD
  subst hw_2
  refine lv_if_eq (tgt := 36) hx hb d_MD_readsRow_6 (by decide) (fun c_3 => ?_) (fun c_3 => ?_)
  · have b_4 := bI_f (rfl : bI (md_rs gg sn ta 32) = _) c_3
    refine lv_iconst (v := 0) hx hb d_MD_readsRow_36 (by decide) ?_
    refine lv_istore_n (lv' := [(3, .int 0), (0, .ref h0), (1, .int (nI bf)), (2, .int 0)]) hx hb d_MD_readsRow_37 rfl hl (by decide) rfl (fun ls hl => ?_)
    refine lv_aload_n hx hb d_MD_readsRow_38 rfl (lv_at hl 1 rfl) ?_
    refine va_get (D := (dC, dI)) (ci := 7) (v := .int (md_nv gg sn ta)) (C := xR_MD) (T := xT_MD) (N := 27) hx hb hts (fun w h => List.mem_cons_of_mem _ (iw_MD w h)) hown hK hP 0 rfl rfl 26 (by decide) (hts _ (List.mem_cons_of_mem _ wm_723)) (fun _ h9 => h9) rfl d_MD_readsRow_39 ?_
    refine lv_istore (lv' := [(4, .int (md_nv gg sn ta)), (3, .int 0), (0, .ref h0), (1, .int (nI bf)), (2, .int 0)]) hx hb d_MD_readsRow_42 hl (by decide) rfl (fun ls hl => ?_)
    refine lv_iload_n hx hb d_MD_readsRow_44 rfl (lv_at hl 1 rfl) ?_
    refine lv_if_eq (tgt := 77) hx hb d_MD_readsRow_45 (by decide) (fun c_5 => ?_) (fun c_5 => ?_)
    · refine lv_iconst (v := 0) hx hb d_MD_readsRow_77 (by decide) ?_
      refine lv_istore_n (lv' := [(3, .int 0), (4, .int (md_nv gg sn ta)), (0, .ref h0), (1, .int (nI bf)), (2, .int 0)]) hx hb d_MD_readsRow_78 rfl hl (by decide) rfl (fun ls hl => ?_)
      refine lv_aload_n hx hb d_MD_readsRow_79 rfl (lv_at hl 2 rfl) ?_
      refine va_get (D := (dC, dI)) (ci := 7) (v := .int (md_nv gg sn ta)) (C := xR_MD) (T := xT_MD) (N := 27) hx hb hts (fun w h => List.mem_cons_of_mem _ (iw_MD w h)) hown hK hP 0 rfl rfl 26 (by decide) (hts _ (List.mem_cons_of_mem _ wm_723)) (fun _ h9 => h9) rfl d_MD_readsRow_80 ?_
      refine lv_istore (lv' := [(5, .int (md_nv gg sn ta)), (3, .int 0), (4, .int (md_nv gg sn ta)), (0, .ref h0), (1, .int (nI bf)), (2, .int 0)]) hx hb d_MD_readsRow_83 hl (by decide) rfl (fun ls hl => ?_)
      refine lv_iload_n hx hb d_MD_readsRow_85 rfl (lv_at hl 1 rfl) ?_
      refine lv_if_eq (tgt := 118) hx hb d_MD_readsRow_86 (by decide) (fun c_6 => ?_) (fun c_6 => ?_)
      · refine lv_iconst (v := 0) hx hb d_MD_readsRow_118 (by decide) ?_
        refine lv_istore_n (lv' := [(3, .int 0), (5, .int (md_nv gg sn ta)), (4, .int (md_nv gg sn ta)), (0, .ref h0), (1, .int (nI bf)), (2, .int 0)]) hx hb d_MD_readsRow_119 rfl hl (by decide) rfl (fun ls hl => ?_)
        refine lv_aload_n hx hb d_MD_readsRow_120 rfl (lv_at hl 3 rfl) ?_
        refine va_get (D := (dC, dI)) (ci := 7) (v := .int (md_nv gg sn ta)) (C := xR_MD) (T := xT_MD) (N := 27) hx hb hts (fun w h => List.mem_cons_of_mem _ (iw_MD w h)) hown hK hP 0 rfl rfl 26 (by decide) (hts _ (List.mem_cons_of_mem _ wm_723)) (fun _ h9 => h9) rfl d_MD_readsRow_121 ?_
        refine lv_istore (lv' := [(6, .int (md_nv gg sn ta)), (3, .int 0), (5, .int (md_nv gg sn ta)), (4, .int (md_nv gg sn ta)), (0, .ref h0), (1, .int (nI bf)), (2, .int 0)]) hx hb d_MD_readsRow_124 hl (by decide) rfl (fun ls hl => ?_)
        refine lv_iload_n hx hb d_MD_readsRow_126 rfl (lv_at hl 1 rfl) ?_
        refine lv_if_eq (tgt := 159) hx hb d_MD_readsRow_127 (by decide) (fun c_7 => ?_) (fun c_7 => ?_)
        · refine lv_iconst (v := 0) hx hb d_MD_readsRow_159 (by decide) ?_
          refine lv_istore_n (lv' := [(3, .int 0), (6, .int (md_nv gg sn ta)), (5, .int (md_nv gg sn ta)), (4, .int (md_nv gg sn ta)), (0, .ref h0), (1, .int (nI bf)), (2, .int 0)]) hx hb d_MD_readsRow_160 rfl hl (by decide) rfl (fun ls hl => ?_)
          refine lv_iload_n hx hb d_MD_readsRow_161 rfl (lv_at hl 0 rfl) ?_
          refine lv_if_eq (tgt := 183) hx hb d_MD_readsRow_162 (by decide) (fun c_8 => ?_) (fun c_8 => ?_)
          · refine lv_iload_n hx hb d_MD_readsRow_183 rfl (lv_at hl 0 rfl) ?_
            have hP9 := hP.sub (ws' := [(h0, .inr (7, [.int th, .int (nI nm), .ref ap, .int (nI no), .ref am, .ref aw, .ref az, .ref au, .int kn, .long vP, .long vQ, .long vS, .long vT, .long vB, .long vM, .long vH, .ref ao, .ref ax, .int (nI np), .ref ay, .int (nI nl), .ref ad, .ref al, .int (nI sn), .ref ag, .int (nI (md_np gg sn ta + 1)), .int (md_nv gg sn ta)])), (ag, .inl (kg, 200, .inl gg))]) [0, 1] rfl
            have hD9 := hD.sub (ws' := [(h0, .inr (7, [.int th, .int (nI nm), .ref ap, .int (nI no), .ref am, .ref aw, .ref az, .ref au, .int kn, .long vP, .long vQ, .long vS, .long vT, .long vB, .long vM, .long vH, .ref ao, .ref ax, .int (nI np), .ref ay, .int (nI nl), .ref ad, .ref al, .int (nI sn), .ref ag, .int (nI (md_np gg sn ta + 1)), .int (md_nv gg sn ta)])), (ag, .inl (kg, 200, .inl gg))]) [0, 1] (by decide) rfl
            have hK9 := hK.sub (tys' := [(kg, .int)]) [0] rfl
            exact W.zret (v := 0) (ty := .boolean) hx hb hr (by exact rfl) (fun t ht hW => ⟨⟨0, (), rfl, bI_n (fun (q : md_r4 gg sn ta nm bf) => absurd (show md_r1 gg sn ta nm bf from q.1.1.1) (fun q => b_4 q.1)), ⟨by rw [ht]; rw [md_ta1 (show ¬ md_r1 gg sn ta nm bf from (fun q => b_4 q.1)), md_nb1 (show ¬ md_r1 gg sn ta nm bf from (fun q => b_4 q.1))]; exact hP9, va_K.moved hW.alike hK9, by rw [md_ta1 (show ¬ md_r1 gg sn ta nm bf from (fun q => b_4 q.1)), md_nb1 (show ¬ md_r1 gg sn ta nm bf from (fun q => b_4 q.1))]; exact hD9⟩⟩, hS.F ht⟩) hS.2.2 d_MD_readsRow_184 hlocks
          · exact absurd c_8 (by decide)
        · exact absurd c_7 (by decide)
      · exact absurd c_6 (by decide)
    · exact absurd c_5 (by decide)
  · have b_9 := bI_t (rfl : bI (md_rs gg sn ta 32) = _) c_3
    refine lv_aload_n hx hb d_MD_readsRow_9 rfl (lv_at hl 0 rfl) ?_
    refine va_get (D := (dC, dI)) (ci := 7) (v := .int (md_nv gg sn ta)) (C := xR_MD) (T := xT_MD) (N := 27) hx hb hts (fun w h => List.mem_cons_of_mem _ (iw_MD w h)) hown hK hP 0 rfl rfl 26 (by decide) (hts _ (List.mem_cons_of_mem _ wm_723)) (fun _ h9 => h9) rfl d_MD_readsRow_10 ?_
    refine lv_iconst (v := 0) hx hb d_MD_readsRow_13 (by decide) ?_
    refine lv_aload_n hx hb d_MD_readsRow_14 rfl (lv_at hl 0 rfl) ?_
    refine va_get (D := (dC, dI)) (ci := 7) (v := .int (nI nm)) (C := xR_MD) (T := xT_MD) (N := 27) hx hb hts (fun w h => List.mem_cons_of_mem _ (iw_MD w h)) hown hK hP 0 rfl rfl 1 (by decide) (hts _ (List.mem_cons_of_mem _ wm_698)) (fun _ h9 => h9) rfl d_MD_readsRow_15 ?_
    refine lv_iconst (v := 1) hx hb d_MD_readsRow_18 (by decide) ?_
    refine lv_isub hx hb d_MD_readsRow_19 ?_
    refine xr_calli (va_runS (As := [.int (md_nv gg sn ta), .int 0, .int ((nI nm) - 1)]) (rest := []) ⟨hx, hb, hml, hown, hts⟩ (c_MD_within l dC dI (md_nv gg sn ta) 0 ((nI nm) - 1)) (va_cwS 3 hts (xgS wm_790 wm_791 wm_34 wm_792) rfl rfl rfl (by decide +kernel) ⟨Nat.le_of_ble_eq_true rfl, Nat.le_of_ble_eq_true rfl⟩) ⟨xp_blind, fun U hU hW => ⟨rfl, hz.warm hW, by rw [hU]; exact hP.sub [] rfl, va_K.moved hW.alike (hK.sub [] rfl)⟩⟩ rfl rfl hl.1 rfl (lv_room (Nat.le_of_ble_eq_true rfl)) d_MD_readsRow_20 ⟨Nat.le_of_ble_eq_true rfl, Nat.le_of_ble_eq_true rfl⟩) (fun r_10 h_11 => ?_)
    subst h_11
    refine lv_if_eq (tgt := 36) hx hb d_MD_readsRow_23 (by decide) (fun c_12 => ?_) (fun c_12 => ?_)
    · have b_13 := bI_f (rfl : bI (md_win (md_nv gg sn ta) 0 ((nI nm) - 1)) = _) c_12
      refine lv_iconst (v := 0) hx hb d_MD_readsRow_36 (by decide) ?_
      refine lv_istore_n (lv' := [(3, .int 0), (0, .ref h0), (1, .int (nI bf)), (2, .int 0)]) hx hb d_MD_readsRow_37 rfl hl (by decide) rfl (fun ls hl => ?_)
      refine lv_aload_n hx hb d_MD_readsRow_38 rfl (lv_at hl 1 rfl) ?_
      refine va_get (D := (dC, dI)) (ci := 7) (v := .int (md_nv gg sn ta)) (C := xR_MD) (T := xT_MD) (N := 27) hx hb hts (fun w h => List.mem_cons_of_mem _ (iw_MD w h)) hown hK hP 0 rfl rfl 26 (by decide) (hts _ (List.mem_cons_of_mem _ wm_723)) (fun _ h9 => h9) rfl d_MD_readsRow_39 ?_
      refine lv_istore (lv' := [(4, .int (md_nv gg sn ta)), (3, .int 0), (0, .ref h0), (1, .int (nI bf)), (2, .int 0)]) hx hb d_MD_readsRow_42 hl (by decide) rfl (fun ls hl => ?_)
      refine lv_iload_n hx hb d_MD_readsRow_44 rfl (lv_at hl 1 rfl) ?_
      refine lv_if_eq (tgt := 77) hx hb d_MD_readsRow_45 (by decide) (fun c_14 => ?_) (fun c_14 => ?_)
      · refine lv_iconst (v := 0) hx hb d_MD_readsRow_77 (by decide) ?_
        refine lv_istore_n (lv' := [(3, .int 0), (4, .int (md_nv gg sn ta)), (0, .ref h0), (1, .int (nI bf)), (2, .int 0)]) hx hb d_MD_readsRow_78 rfl hl (by decide) rfl (fun ls hl => ?_)
        refine lv_aload_n hx hb d_MD_readsRow_79 rfl (lv_at hl 2 rfl) ?_
        refine va_get (D := (dC, dI)) (ci := 7) (v := .int (md_nv gg sn ta)) (C := xR_MD) (T := xT_MD) (N := 27) hx hb hts (fun w h => List.mem_cons_of_mem _ (iw_MD w h)) hown hK hP 0 rfl rfl 26 (by decide) (hts _ (List.mem_cons_of_mem _ wm_723)) (fun _ h9 => h9) rfl d_MD_readsRow_80 ?_
        refine lv_istore (lv' := [(5, .int (md_nv gg sn ta)), (3, .int 0), (4, .int (md_nv gg sn ta)), (0, .ref h0), (1, .int (nI bf)), (2, .int 0)]) hx hb d_MD_readsRow_83 hl (by decide) rfl (fun ls hl => ?_)
        refine lv_iload_n hx hb d_MD_readsRow_85 rfl (lv_at hl 1 rfl) ?_
        refine lv_if_eq (tgt := 118) hx hb d_MD_readsRow_86 (by decide) (fun c_15 => ?_) (fun c_15 => ?_)
        · refine lv_iconst (v := 0) hx hb d_MD_readsRow_118 (by decide) ?_
          refine lv_istore_n (lv' := [(3, .int 0), (5, .int (md_nv gg sn ta)), (4, .int (md_nv gg sn ta)), (0, .ref h0), (1, .int (nI bf)), (2, .int 0)]) hx hb d_MD_readsRow_119 rfl hl (by decide) rfl (fun ls hl => ?_)
          refine lv_aload_n hx hb d_MD_readsRow_120 rfl (lv_at hl 3 rfl) ?_
          refine va_get (D := (dC, dI)) (ci := 7) (v := .int (md_nv gg sn ta)) (C := xR_MD) (T := xT_MD) (N := 27) hx hb hts (fun w h => List.mem_cons_of_mem _ (iw_MD w h)) hown hK hP 0 rfl rfl 26 (by decide) (hts _ (List.mem_cons_of_mem _ wm_723)) (fun _ h9 => h9) rfl d_MD_readsRow_121 ?_
          refine lv_istore (lv' := [(6, .int (md_nv gg sn ta)), (3, .int 0), (5, .int (md_nv gg sn ta)), (4, .int (md_nv gg sn ta)), (0, .ref h0), (1, .int (nI bf)), (2, .int 0)]) hx hb d_MD_readsRow_124 hl (by decide) rfl (fun ls hl => ?_)
          refine lv_iload_n hx hb d_MD_readsRow_126 rfl (lv_at hl 1 rfl) ?_
          refine lv_if_eq (tgt := 159) hx hb d_MD_readsRow_127 (by decide) (fun c_16 => ?_) (fun c_16 => ?_)
          · refine lv_iconst (v := 0) hx hb d_MD_readsRow_159 (by decide) ?_
            refine lv_istore_n (lv' := [(3, .int 0), (6, .int (md_nv gg sn ta)), (5, .int (md_nv gg sn ta)), (4, .int (md_nv gg sn ta)), (0, .ref h0), (1, .int (nI bf)), (2, .int 0)]) hx hb d_MD_readsRow_160 rfl hl (by decide) rfl (fun ls hl => ?_)
            refine lv_iload_n hx hb d_MD_readsRow_161 rfl (lv_at hl 0 rfl) ?_
            refine lv_if_eq (tgt := 183) hx hb d_MD_readsRow_162 (by decide) (fun c_17 => ?_) (fun c_17 => ?_)
            · refine lv_iload_n hx hb d_MD_readsRow_183 rfl (lv_at hl 0 rfl) ?_
              have hP9 := hP.sub (ws' := [(h0, .inr (7, [.int th, .int (nI nm), .ref ap, .int (nI no), .ref am, .ref aw, .ref az, .ref au, .int kn, .long vP, .long vQ, .long vS, .long vT, .long vB, .long vM, .long vH, .ref ao, .ref ax, .int (nI np), .ref ay, .int (nI nl), .ref ad, .ref al, .int (nI sn), .ref ag, .int (nI (md_np gg sn ta + 1)), .int (md_nv gg sn ta)])), (ag, .inl (kg, 200, .inl gg))]) [0, 1] rfl
              have hD9 := hD.sub (ws' := [(h0, .inr (7, [.int th, .int (nI nm), .ref ap, .int (nI no), .ref am, .ref aw, .ref az, .ref au, .int kn, .long vP, .long vQ, .long vS, .long vT, .long vB, .long vM, .long vH, .ref ao, .ref ax, .int (nI np), .ref ay, .int (nI nl), .ref ad, .ref al, .int (nI sn), .ref ag, .int (nI (md_np gg sn ta + 1)), .int (md_nv gg sn ta)])), (ag, .inl (kg, 200, .inl gg))]) [0, 1] (by decide) rfl
              have hK9 := hK.sub (tys' := [(kg, .int)]) [0] rfl
              exact W.zret (v := 0) (ty := .boolean) hx hb hr (by exact rfl) (fun t ht hW => ⟨⟨0, (), rfl, bI_n (fun (q : md_r4 gg sn ta nm bf) => absurd (show md_r1 gg sn ta nm bf from q.1.1.1) (fun q => b_13 q.2.1)), ⟨by rw [ht]; rw [md_ta1 (show ¬ md_r1 gg sn ta nm bf from (fun q => b_13 q.2.1)), md_nb1 (show ¬ md_r1 gg sn ta nm bf from (fun q => b_13 q.2.1))]; exact hP9, va_K.moved hW.alike hK9, by rw [md_ta1 (show ¬ md_r1 gg sn ta nm bf from (fun q => b_13 q.2.1)), md_nb1 (show ¬ md_r1 gg sn ta nm bf from (fun q => b_13 q.2.1))]; exact hD9⟩⟩, hS.F ht⟩) hS.2.2 d_MD_readsRow_184 hlocks
            · exact absurd c_17 (by decide)
          · exact absurd c_16 (by decide)
        · exact absurd c_15 (by decide)
      · exact absurd c_14 (by decide)
    · have b_18 := bI_t (rfl : bI (md_win (md_nv gg sn ta) 0 ((nI nm) - 1)) = _) c_12
      refine lv_iload_n hx hb d_MD_readsRow_26 rfl (lv_at hl 1 rfl) ?_
      refine lv_bipush (v := 20) hx hb d_MD_readsRow_27 (by decide) ?_
      refine lv_icmp_ge (tgt := 36) hx hb d_MD_readsRow_29 (by decide) (fun c_19 => ?_) (fun c_19 => ?_)
      · have n_20 := xn_le (a := 20) (b := bf) c_19 (by decide) rfl (by omega) (by omega)
        refine lv_iconst (v := 0) hx hb d_MD_readsRow_36 (by decide) ?_
        refine lv_istore_n (lv' := [(3, .int 0), (0, .ref h0), (1, .int (nI bf)), (2, .int 0)]) hx hb d_MD_readsRow_37 rfl hl (by decide) rfl (fun ls hl => ?_)
        refine lv_aload_n hx hb d_MD_readsRow_38 rfl (lv_at hl 1 rfl) ?_
        refine va_get (D := (dC, dI)) (ci := 7) (v := .int (md_nv gg sn ta)) (C := xR_MD) (T := xT_MD) (N := 27) hx hb hts (fun w h => List.mem_cons_of_mem _ (iw_MD w h)) hown hK hP 0 rfl rfl 26 (by decide) (hts _ (List.mem_cons_of_mem _ wm_723)) (fun _ h9 => h9) rfl d_MD_readsRow_39 ?_
        refine lv_istore (lv' := [(4, .int (md_nv gg sn ta)), (3, .int 0), (0, .ref h0), (1, .int (nI bf)), (2, .int 0)]) hx hb d_MD_readsRow_42 hl (by decide) rfl (fun ls hl => ?_)
        refine lv_iload_n hx hb d_MD_readsRow_44 rfl (lv_at hl 1 rfl) ?_
        refine lv_if_eq (tgt := 77) hx hb d_MD_readsRow_45 (by decide) (fun c_21 => ?_) (fun c_21 => ?_)
        · refine lv_iconst (v := 0) hx hb d_MD_readsRow_77 (by decide) ?_
          refine lv_istore_n (lv' := [(3, .int 0), (4, .int (md_nv gg sn ta)), (0, .ref h0), (1, .int (nI bf)), (2, .int 0)]) hx hb d_MD_readsRow_78 rfl hl (by decide) rfl (fun ls hl => ?_)
          refine lv_aload_n hx hb d_MD_readsRow_79 rfl (lv_at hl 2 rfl) ?_
          refine va_get (D := (dC, dI)) (ci := 7) (v := .int (md_nv gg sn ta)) (C := xR_MD) (T := xT_MD) (N := 27) hx hb hts (fun w h => List.mem_cons_of_mem _ (iw_MD w h)) hown hK hP 0 rfl rfl 26 (by decide) (hts _ (List.mem_cons_of_mem _ wm_723)) (fun _ h9 => h9) rfl d_MD_readsRow_80 ?_
          refine lv_istore (lv' := [(5, .int (md_nv gg sn ta)), (3, .int 0), (4, .int (md_nv gg sn ta)), (0, .ref h0), (1, .int (nI bf)), (2, .int 0)]) hx hb d_MD_readsRow_83 hl (by decide) rfl (fun ls hl => ?_)
          refine lv_iload_n hx hb d_MD_readsRow_85 rfl (lv_at hl 1 rfl) ?_
          refine lv_if_eq (tgt := 118) hx hb d_MD_readsRow_86 (by decide) (fun c_22 => ?_) (fun c_22 => ?_)
          · refine lv_iconst (v := 0) hx hb d_MD_readsRow_118 (by decide) ?_
            refine lv_istore_n (lv' := [(3, .int 0), (5, .int (md_nv gg sn ta)), (4, .int (md_nv gg sn ta)), (0, .ref h0), (1, .int (nI bf)), (2, .int 0)]) hx hb d_MD_readsRow_119 rfl hl (by decide) rfl (fun ls hl => ?_)
            refine lv_aload_n hx hb d_MD_readsRow_120 rfl (lv_at hl 3 rfl) ?_
            refine va_get (D := (dC, dI)) (ci := 7) (v := .int (md_nv gg sn ta)) (C := xR_MD) (T := xT_MD) (N := 27) hx hb hts (fun w h => List.mem_cons_of_mem _ (iw_MD w h)) hown hK hP 0 rfl rfl 26 (by decide) (hts _ (List.mem_cons_of_mem _ wm_723)) (fun _ h9 => h9) rfl d_MD_readsRow_121 ?_
            refine lv_istore (lv' := [(6, .int (md_nv gg sn ta)), (3, .int 0), (5, .int (md_nv gg sn ta)), (4, .int (md_nv gg sn ta)), (0, .ref h0), (1, .int (nI bf)), (2, .int 0)]) hx hb d_MD_readsRow_124 hl (by decide) rfl (fun ls hl => ?_)
            refine lv_iload_n hx hb d_MD_readsRow_126 rfl (lv_at hl 1 rfl) ?_
            refine lv_if_eq (tgt := 159) hx hb d_MD_readsRow_127 (by decide) (fun c_23 => ?_) (fun c_23 => ?_)
            · refine lv_iconst (v := 0) hx hb d_MD_readsRow_159 (by decide) ?_
              refine lv_istore_n (lv' := [(3, .int 0), (6, .int (md_nv gg sn ta)), (5, .int (md_nv gg sn ta)), (4, .int (md_nv gg sn ta)), (0, .ref h0), (1, .int (nI bf)), (2, .int 0)]) hx hb d_MD_readsRow_160 rfl hl (by decide) rfl (fun ls hl => ?_)
              refine lv_iload_n hx hb d_MD_readsRow_161 rfl (lv_at hl 0 rfl) ?_
              refine lv_if_eq (tgt := 183) hx hb d_MD_readsRow_162 (by decide) (fun c_24 => ?_) (fun c_24 => ?_)
              · refine lv_iload_n hx hb d_MD_readsRow_183 rfl (lv_at hl 0 rfl) ?_
                have hP9 := hP.sub (ws' := [(h0, .inr (7, [.int th, .int (nI nm), .ref ap, .int (nI no), .ref am, .ref aw, .ref az, .ref au, .int kn, .long vP, .long vQ, .long vS, .long vT, .long vB, .long vM, .long vH, .ref ao, .ref ax, .int (nI np), .ref ay, .int (nI nl), .ref ad, .ref al, .int (nI sn), .ref ag, .int (nI (md_np gg sn ta + 1)), .int (md_nv gg sn ta)])), (ag, .inl (kg, 200, .inl gg))]) [0, 1] rfl
                have hD9 := hD.sub (ws' := [(h0, .inr (7, [.int th, .int (nI nm), .ref ap, .int (nI no), .ref am, .ref aw, .ref az, .ref au, .int kn, .long vP, .long vQ, .long vS, .long vT, .long vB, .long vM, .long vH, .ref ao, .ref ax, .int (nI np), .ref ay, .int (nI nl), .ref ad, .ref al, .int (nI sn), .ref ag, .int (nI (md_np gg sn ta + 1)), .int (md_nv gg sn ta)])), (ag, .inl (kg, 200, .inl gg))]) [0, 1] (by decide) rfl
                have hK9 := hK.sub (tys' := [(kg, .int)]) [0] rfl
                exact W.zret (v := 0) (ty := .boolean) hx hb hr (by exact rfl) (fun t ht hW => ⟨⟨0, (), rfl, bI_n (fun (q : md_r4 gg sn ta nm bf) => absurd (show md_r1 gg sn ta nm bf from q.1.1.1) (fun q => absurd q.2.2 (by omega))), ⟨by rw [ht]; rw [md_ta1 (show ¬ md_r1 gg sn ta nm bf from (fun q => absurd q.2.2 (by omega))), md_nb1 (show ¬ md_r1 gg sn ta nm bf from (fun q => absurd q.2.2 (by omega)))]; exact hP9, va_K.moved hW.alike hK9, by rw [md_ta1 (show ¬ md_r1 gg sn ta nm bf from (fun q => absurd q.2.2 (by omega))), md_nb1 (show ¬ md_r1 gg sn ta nm bf from (fun q => absurd q.2.2 (by omega)))]; exact hD9⟩⟩, hS.F ht⟩) hS.2.2 d_MD_readsRow_184 hlocks
              · exact absurd c_24 (by decide)
            · exact absurd c_23 (by decide)
          · exact absurd c_22 (by decide)
        · exact absurd c_21 (by decide)
      · have n_25 := xn_nle (a := 20) (b := bf) c_19 (by decide) rfl (by omega) (by omega)
        refine lv_iconst (v := 1) hx hb d_MD_readsRow_32 (by decide) ?_
        refine lv_goto (tgt := 37) hx hb d_MD_readsRow_33 (by decide) ?_
        refine lv_istore_n (lv' := [(3, .int 1), (0, .ref h0), (1, .int (nI bf)), (2, .int 0)]) hx hb d_MD_readsRow_37 rfl hl (by decide) rfl (fun ls hl => ?_)
        refine lv_aload_n hx hb d_MD_readsRow_38 rfl (lv_at hl 1 rfl) ?_
        refine va_get (D := (dC, dI)) (ci := 7) (v := .int (md_nv gg sn ta)) (C := xR_MD) (T := xT_MD) (N := 27) hx hb hts (fun w h => List.mem_cons_of_mem _ (iw_MD w h)) hown hK hP 0 rfl rfl 26 (by decide) (hts _ (List.mem_cons_of_mem _ wm_723)) (fun _ h9 => h9) rfl d_MD_readsRow_39 ?_
        refine lv_istore (lv' := [(4, .int (md_nv gg sn ta)), (3, .int 1), (0, .ref h0), (1, .int (nI bf)), (2, .int 0)]) hx hb d_MD_readsRow_42 hl (by decide) rfl (fun ls hl => ?_)
        refine lv_iload_n hx hb d_MD_readsRow_44 rfl (lv_at hl 1 rfl) ?_
        refine lv_if_eq (tgt := 77) hx hb d_MD_readsRow_45 (by decide) (fun c_26 => ?_) (fun c_26 => ?_)
        · exact absurd c_26 (by decide)
        · refine lv_aload_n hx hb d_MD_readsRow_48 rfl (lv_at hl 2 rfl) ?_
          refine lv_bipush (v := 32) hx hb d_MD_readsRow_49 (by decide) ?_
          have hPc := hP.sub (ws' := [(h0, .inr (7, [.int th, .int (nI nm), .ref ap, .int (nI no), .ref am, .ref aw, .ref az, .ref au, .int kn, .long vP, .long vQ, .long vS, .long vT, .long vB, .long vM, .long vH, .ref ao, .ref ax, .int (nI np), .ref ay, .int (nI nl), .ref ad, .ref al, .int (nI sn), .ref ag, .int (nI (md_np gg sn ta + 1)), .int (md_nv gg sn ta)])), (ag, .inl (kg, 200, .inl gg))]) [0, 1] rfl
          have hDc := hD.sub (ws' := [(h0, .inr (7, [.int th, .int (nI nm), .ref ap, .int (nI no), .ref am, .ref aw, .ref az, .ref au, .int kn, .long vP, .long vQ, .long vS, .long vT, .long vB, .long vM, .long vH, .ref ao, .ref ax, .int (nI np), .ref ay, .int (nI nl), .ref ad, .ref al, .int (nI sn), .ref ag, .int (nI (md_np gg sn ta + 1)), .int (md_nv gg sn ta)])), (ag, .inl (kg, 200, .inl gg))]) [0, 1] (by decide) rfl
          have hKc := hK.sub (tys' := [(kg, .int)]) [0] rfl
          have hFc := va_free (wc := [(h0, .inr (7, [.int th, .int (nI nm), .ref ap, .int (nI no), .ref am, .ref aw, .ref az, .ref au, .int kn, .long vP, .long vQ, .long vS, .long vT, .long vB, .long vM, .long vH, .ref ao, .ref ax, .int (nI np), .ref ay, .int (nI nl), .ref ad, .ref al, .int (nI sn), .ref ag, .int (nI (md_np gg sn ta + 1)), .int (md_nv gg sn ta)])), (ag, .inl (kg, 200, .inl gg))]) hD hS hA [0, 1] rfl
          refine va_calli (va_runV (As := [.int 32]) (rest := []) ⟨hx, hb, hml, hown, hts⟩ (c_MD_reads l dC dI H.size h0 th nm ap no am aw az au kn vP vQ vS vT vB vM vH ao ax np ay nl ad al sn ag (md_np gg sn ta + 1) (md_nv gg sn ta) kg gg 32 hle (md_t_le hle b_9)) (cwV 1 hts (xgV wm_912 wm_914 wm_24 wm_34 wm_915) rfl rfl rfl (by decide +kernel) ⟨Nat.le_of_ble_eq_true rfl, Nat.le_of_ble_eq_true rfl⟩) ⟨xw_blind, va_recv hKc hPc (ci := 7) (q0 := 0) rfl rfl, fun U hU hW => ⟨rfl, by rw [hU], hz.warm hW, by rw [hU]; exact hPc, va_K.moved hW.alike hKc, hDc.weaken (fun _ _ _ _ => trivial)⟩⟩ rfl rfl hl.1 rfl (lv_room (Nat.le_of_ble_eq_true rfl)) d_MD_readsRow_51 ⟨Nat.le_of_ble_eq_true rfl, Nat.le_of_ble_eq_true rfl⟩) hS (fun q _ h => hFc q h) hFc (fun r_27 _ t H1 locs ht hvm hw_28 hB hz1 hk1 hS => ?_)
          obtain ⟨hP1, hK1, hD1⟩ := hB
          rw [ht] at hP1
          have hK1 := va_K.moved hvm.symm hK1
          obtain ⟨hP, hD⟩ := va_join (wr := []) (w1 := [(h0, .inr (7, [.int th, .int (nI nm), .ref ap, .int (nI no), .ref am, .ref aw, .ref az, .ref au, .int kn, .long vP, .long vQ, .long vS, .long vT, .long vB, .long vM, .long vH, .ref ao, .ref ax, .int (nI np), .ref ay, .int (nI nl), .ref ad, .ref al, .int (nI sn), .ref ag, .int (nI (md_np gg sn (md_np gg sn ta + 1) + 1)), .int (md_nv gg sn (md_np gg sn ta + 1))])), (ag, .inl (kg, 200, .inl gg))]) hP hD [0, 1] [] rfl rfl (by decide) (by decide) hk1 hFc hP1 hD1
          generalize H1 = H at hP hS ⊢
          have hP : va_P (dC, dI) xCl [(h0, .inr (7, [.int th, .int (nI nm), .ref ap, .int (nI no), .ref am, .ref aw, .ref az, .ref au, .int kn, .long vP, .long vQ, .long vS, .long vT, .long vB, .long vM, .long vH, .ref ao, .ref ax, .int (nI np), .ref ay, .int (nI nl), .ref ad, .ref al, .int (nI sn), .ref ag, .int (nI (md_np gg sn (md_np gg sn ta + 1) + 1)), .int (md_nv gg sn (md_np gg sn ta + 1))])), (ag, .inl (kg, 200, .inl gg))] H := hP
          have hD : va_D A [(h0, .inr (7, [.int th, .int (nI nm), .ref ap, .int (nI no), .ref am, .ref aw, .ref az, .ref au, .int kn, .long vP, .long vQ, .long vS, .long vT, .long vB, .long vM, .long vH, .ref ao, .ref ax, .int (nI np), .ref ay, .int (nI nl), .ref ad, .ref al, .int (nI sn), .ref ag, .int (nI (md_np gg sn (md_np gg sn ta + 1) + 1)), .int (md_nv gg sn (md_np gg sn ta + 1))])), (ag, .inl (kg, 200, .inl gg))] := hD
          subst hw_28
          refine lv_if_eq (tgt := 77) hx hb d_MD_readsRow_54 (by decide) (fun c_29 => ?_) (fun c_29 => ?_)
          · have b_30 := bI_f (rfl : bI (md_rs gg sn (md_np gg sn ta + 1) 32) = _) c_29
            refine lv_iconst (v := 0) hx hb d_MD_readsRow_77 (by decide) ?_
            refine lv_istore_n (lv' := [(3, .int 0), (4, .int (md_nv gg sn ta)), (0, .ref h0), (1, .int (nI bf)), (2, .int 0)]) hx hb d_MD_readsRow_78 rfl hl (by decide) rfl (fun ls hl => ?_)
            refine lv_aload_n hx hb d_MD_readsRow_79 rfl (lv_at hl 2 rfl) ?_
            refine va_get (D := (dC, dI)) (ci := 7) (v := .int (md_nv gg sn (md_np gg sn ta + 1))) (C := xR_MD) (T := xT_MD) (N := 27) hx hb hts (fun w h => List.mem_cons_of_mem _ (iw_MD w h)) hown hK hP 0 rfl rfl 26 (by decide) (hts _ (List.mem_cons_of_mem _ wm_723)) (fun _ h9 => h9) rfl d_MD_readsRow_80 ?_
            refine lv_istore (lv' := [(5, .int (md_nv gg sn (md_np gg sn ta + 1))), (3, .int 0), (4, .int (md_nv gg sn ta)), (0, .ref h0), (1, .int (nI bf)), (2, .int 0)]) hx hb d_MD_readsRow_83 hl (by decide) rfl (fun ls hl => ?_)
            refine lv_iload_n hx hb d_MD_readsRow_85 rfl (lv_at hl 1 rfl) ?_
            refine lv_if_eq (tgt := 118) hx hb d_MD_readsRow_86 (by decide) (fun c_31 => ?_) (fun c_31 => ?_)
            · refine lv_iconst (v := 0) hx hb d_MD_readsRow_118 (by decide) ?_
              refine lv_istore_n (lv' := [(3, .int 0), (5, .int (md_nv gg sn (md_np gg sn ta + 1))), (4, .int (md_nv gg sn ta)), (0, .ref h0), (1, .int (nI bf)), (2, .int 0)]) hx hb d_MD_readsRow_119 rfl hl (by decide) rfl (fun ls hl => ?_)
              refine lv_aload_n hx hb d_MD_readsRow_120 rfl (lv_at hl 3 rfl) ?_
              refine va_get (D := (dC, dI)) (ci := 7) (v := .int (md_nv gg sn (md_np gg sn ta + 1))) (C := xR_MD) (T := xT_MD) (N := 27) hx hb hts (fun w h => List.mem_cons_of_mem _ (iw_MD w h)) hown hK hP 0 rfl rfl 26 (by decide) (hts _ (List.mem_cons_of_mem _ wm_723)) (fun _ h9 => h9) rfl d_MD_readsRow_121 ?_
              refine lv_istore (lv' := [(6, .int (md_nv gg sn (md_np gg sn ta + 1))), (3, .int 0), (5, .int (md_nv gg sn (md_np gg sn ta + 1))), (4, .int (md_nv gg sn ta)), (0, .ref h0), (1, .int (nI bf)), (2, .int 0)]) hx hb d_MD_readsRow_124 hl (by decide) rfl (fun ls hl => ?_)
              refine lv_iload_n hx hb d_MD_readsRow_126 rfl (lv_at hl 1 rfl) ?_
              refine lv_if_eq (tgt := 159) hx hb d_MD_readsRow_127 (by decide) (fun c_32 => ?_) (fun c_32 => ?_)
              · refine lv_iconst (v := 0) hx hb d_MD_readsRow_159 (by decide) ?_
                refine lv_istore_n (lv' := [(3, .int 0), (6, .int (md_nv gg sn (md_np gg sn ta + 1))), (5, .int (md_nv gg sn (md_np gg sn ta + 1))), (4, .int (md_nv gg sn ta)), (0, .ref h0), (1, .int (nI bf)), (2, .int 0)]) hx hb d_MD_readsRow_160 rfl hl (by decide) rfl (fun ls hl => ?_)
                refine lv_iload_n hx hb d_MD_readsRow_161 rfl (lv_at hl 0 rfl) ?_
                refine lv_if_eq (tgt := 183) hx hb d_MD_readsRow_162 (by decide) (fun c_33 => ?_) (fun c_33 => ?_)
                · refine lv_iload_n hx hb d_MD_readsRow_183 rfl (lv_at hl 0 rfl) ?_
                  have hP9 := hP.sub (ws' := [(h0, .inr (7, [.int th, .int (nI nm), .ref ap, .int (nI no), .ref am, .ref aw, .ref az, .ref au, .int kn, .long vP, .long vQ, .long vS, .long vT, .long vB, .long vM, .long vH, .ref ao, .ref ax, .int (nI np), .ref ay, .int (nI nl), .ref ad, .ref al, .int (nI sn), .ref ag, .int (nI (md_np gg sn (md_np gg sn ta + 1) + 1)), .int (md_nv gg sn (md_np gg sn ta + 1))])), (ag, .inl (kg, 200, .inl gg))]) [0, 1] rfl
                  have hD9 := hD.sub (ws' := [(h0, .inr (7, [.int th, .int (nI nm), .ref ap, .int (nI no), .ref am, .ref aw, .ref az, .ref au, .int kn, .long vP, .long vQ, .long vS, .long vT, .long vB, .long vM, .long vH, .ref ao, .ref ax, .int (nI np), .ref ay, .int (nI nl), .ref ad, .ref al, .int (nI sn), .ref ag, .int (nI (md_np gg sn (md_np gg sn ta + 1) + 1)), .int (md_nv gg sn (md_np gg sn ta + 1))])), (ag, .inl (kg, 200, .inl gg))]) [0, 1] (by decide) rfl
                  have hK9 := hK.sub (tys' := [(kg, .int)]) [0] rfl
                  exact W.zret (v := 0) (ty := .boolean) hx hb hr (by exact rfl) (fun t ht hW => ⟨⟨0, (), rfl, bI_n (fun (q : md_r4 gg sn ta nm bf) => absurd (show md_r2 gg sn ta nm bf from q.1.1) (fun q => b_30 q.2.1)), ⟨by rw [ht]; rw [md_ta2 (show md_r1 gg sn ta nm bf from ⟨b_9, b_18, n_25⟩) (show ¬ md_r2 gg sn ta nm bf from (fun q => b_30 q.2.1)), md_nb2 (show md_r1 gg sn ta nm bf from ⟨b_9, b_18, n_25⟩) (show ¬ md_r2 gg sn ta nm bf from (fun q => b_30 q.2.1))]; exact hP9, va_K.moved hW.alike hK9, by rw [md_ta2 (show md_r1 gg sn ta nm bf from ⟨b_9, b_18, n_25⟩) (show ¬ md_r2 gg sn ta nm bf from (fun q => b_30 q.2.1)), md_nb2 (show md_r1 gg sn ta nm bf from ⟨b_9, b_18, n_25⟩) (show ¬ md_r2 gg sn ta nm bf from (fun q => b_30 q.2.1))]; exact hD9⟩⟩, hS.F ht⟩) hS.2.2 d_MD_readsRow_184 hlocks
                · exact absurd c_33 (by decide)
              · exact absurd c_32 (by decide)
            · exact absurd c_31 (by decide)
          · have b_34 := bI_t (rfl : bI (md_rs gg sn (md_np gg sn ta + 1) 32) = _) c_29
            refine lv_aload_n hx hb d_MD_readsRow_57 rfl (lv_at hl 2 rfl) ?_
            refine va_get (D := (dC, dI)) (ci := 7) (v := .int (md_nv gg sn (md_np gg sn ta + 1))) (C := xR_MD) (T := xT_MD) (N := 27) hx hb hts (fun w h => List.mem_cons_of_mem _ (iw_MD w h)) hown hK hP 0 rfl rfl 26 (by decide) (hts _ (List.mem_cons_of_mem _ wm_723)) (fun _ h9 => h9) rfl d_MD_readsRow_58 ?_
            refine lv_sipush (v := (-10000)) hx hb d_MD_readsRow_61 (by decide) ?_
            refine lv_sipush (v := 10000) hx hb d_MD_readsRow_64 (by decide) ?_
            refine xr_calli (va_runS (As := [.int (md_nv gg sn (md_np gg sn ta + 1)), .int (-10000), .int 10000]) (rest := []) ⟨hx, hb, hml, hown, hts⟩ (c_MD_within l dC dI (md_nv gg sn (md_np gg sn ta + 1)) (-10000) 10000) (va_cwS 3 hts (xgS wm_790 wm_791 wm_34 wm_792) rfl rfl rfl (by decide +kernel) ⟨Nat.le_of_ble_eq_true rfl, Nat.le_of_ble_eq_true rfl⟩) ⟨xp_blind, fun U hU hW => ⟨rfl, hz.warm hW, by rw [hU]; exact hP.sub [] rfl, va_K.moved hW.alike (hK.sub [] rfl)⟩⟩ rfl rfl hl.1 rfl (lv_room (Nat.le_of_ble_eq_true rfl)) d_MD_readsRow_67 ⟨Nat.le_of_ble_eq_true rfl, Nat.le_of_ble_eq_true rfl⟩) (fun r_35 h_36 => ?_)
            subst h_36
            refine lv_if_eq (tgt := 77) hx hb d_MD_readsRow_70 (by decide) (fun c_37 => ?_) (fun c_37 => ?_)
            · have b_38 := bI_f (rfl : bI (md_win (md_nv gg sn (md_np gg sn ta + 1)) (-10000) 10000) = _) c_37
              refine lv_iconst (v := 0) hx hb d_MD_readsRow_77 (by decide) ?_
              refine lv_istore_n (lv' := [(3, .int 0), (4, .int (md_nv gg sn ta)), (0, .ref h0), (1, .int (nI bf)), (2, .int 0)]) hx hb d_MD_readsRow_78 rfl hl (by decide) rfl (fun ls hl => ?_)
              refine lv_aload_n hx hb d_MD_readsRow_79 rfl (lv_at hl 2 rfl) ?_
              refine va_get (D := (dC, dI)) (ci := 7) (v := .int (md_nv gg sn (md_np gg sn ta + 1))) (C := xR_MD) (T := xT_MD) (N := 27) hx hb hts (fun w h => List.mem_cons_of_mem _ (iw_MD w h)) hown hK hP 0 rfl rfl 26 (by decide) (hts _ (List.mem_cons_of_mem _ wm_723)) (fun _ h9 => h9) rfl d_MD_readsRow_80 ?_
              refine lv_istore (lv' := [(5, .int (md_nv gg sn (md_np gg sn ta + 1))), (3, .int 0), (4, .int (md_nv gg sn ta)), (0, .ref h0), (1, .int (nI bf)), (2, .int 0)]) hx hb d_MD_readsRow_83 hl (by decide) rfl (fun ls hl => ?_)
              refine lv_iload_n hx hb d_MD_readsRow_85 rfl (lv_at hl 1 rfl) ?_
              refine lv_if_eq (tgt := 118) hx hb d_MD_readsRow_86 (by decide) (fun c_39 => ?_) (fun c_39 => ?_)
              · refine lv_iconst (v := 0) hx hb d_MD_readsRow_118 (by decide) ?_
                refine lv_istore_n (lv' := [(3, .int 0), (5, .int (md_nv gg sn (md_np gg sn ta + 1))), (4, .int (md_nv gg sn ta)), (0, .ref h0), (1, .int (nI bf)), (2, .int 0)]) hx hb d_MD_readsRow_119 rfl hl (by decide) rfl (fun ls hl => ?_)
                refine lv_aload_n hx hb d_MD_readsRow_120 rfl (lv_at hl 3 rfl) ?_
                refine va_get (D := (dC, dI)) (ci := 7) (v := .int (md_nv gg sn (md_np gg sn ta + 1))) (C := xR_MD) (T := xT_MD) (N := 27) hx hb hts (fun w h => List.mem_cons_of_mem _ (iw_MD w h)) hown hK hP 0 rfl rfl 26 (by decide) (hts _ (List.mem_cons_of_mem _ wm_723)) (fun _ h9 => h9) rfl d_MD_readsRow_121 ?_
                refine lv_istore (lv' := [(6, .int (md_nv gg sn (md_np gg sn ta + 1))), (3, .int 0), (5, .int (md_nv gg sn (md_np gg sn ta + 1))), (4, .int (md_nv gg sn ta)), (0, .ref h0), (1, .int (nI bf)), (2, .int 0)]) hx hb d_MD_readsRow_124 hl (by decide) rfl (fun ls hl => ?_)
                refine lv_iload_n hx hb d_MD_readsRow_126 rfl (lv_at hl 1 rfl) ?_
                refine lv_if_eq (tgt := 159) hx hb d_MD_readsRow_127 (by decide) (fun c_40 => ?_) (fun c_40 => ?_)
                · refine lv_iconst (v := 0) hx hb d_MD_readsRow_159 (by decide) ?_
                  refine lv_istore_n (lv' := [(3, .int 0), (6, .int (md_nv gg sn (md_np gg sn ta + 1))), (5, .int (md_nv gg sn (md_np gg sn ta + 1))), (4, .int (md_nv gg sn ta)), (0, .ref h0), (1, .int (nI bf)), (2, .int 0)]) hx hb d_MD_readsRow_160 rfl hl (by decide) rfl (fun ls hl => ?_)
                  refine lv_iload_n hx hb d_MD_readsRow_161 rfl (lv_at hl 0 rfl) ?_
                  refine lv_if_eq (tgt := 183) hx hb d_MD_readsRow_162 (by decide) (fun c_41 => ?_) (fun c_41 => ?_)
                  · refine lv_iload_n hx hb d_MD_readsRow_183 rfl (lv_at hl 0 rfl) ?_
                    have hP9 := hP.sub (ws' := [(h0, .inr (7, [.int th, .int (nI nm), .ref ap, .int (nI no), .ref am, .ref aw, .ref az, .ref au, .int kn, .long vP, .long vQ, .long vS, .long vT, .long vB, .long vM, .long vH, .ref ao, .ref ax, .int (nI np), .ref ay, .int (nI nl), .ref ad, .ref al, .int (nI sn), .ref ag, .int (nI (md_np gg sn (md_np gg sn ta + 1) + 1)), .int (md_nv gg sn (md_np gg sn ta + 1))])), (ag, .inl (kg, 200, .inl gg))]) [0, 1] rfl
                    have hD9 := hD.sub (ws' := [(h0, .inr (7, [.int th, .int (nI nm), .ref ap, .int (nI no), .ref am, .ref aw, .ref az, .ref au, .int kn, .long vP, .long vQ, .long vS, .long vT, .long vB, .long vM, .long vH, .ref ao, .ref ax, .int (nI np), .ref ay, .int (nI nl), .ref ad, .ref al, .int (nI sn), .ref ag, .int (nI (md_np gg sn (md_np gg sn ta + 1) + 1)), .int (md_nv gg sn (md_np gg sn ta + 1))])), (ag, .inl (kg, 200, .inl gg))]) [0, 1] (by decide) rfl
                    have hK9 := hK.sub (tys' := [(kg, .int)]) [0] rfl
                    exact W.zret (v := 0) (ty := .boolean) hx hb hr (by exact rfl) (fun t ht hW => ⟨⟨0, (), rfl, bI_n (fun (q : md_r4 gg sn ta nm bf) => absurd (show md_r2 gg sn ta nm bf from q.1.1) (fun q => b_38 q.2.2)), ⟨by rw [ht]; rw [md_ta2 (show md_r1 gg sn ta nm bf from ⟨b_9, b_18, n_25⟩) (show ¬ md_r2 gg sn ta nm bf from (fun q => b_38 q.2.2)), md_nb2 (show md_r1 gg sn ta nm bf from ⟨b_9, b_18, n_25⟩) (show ¬ md_r2 gg sn ta nm bf from (fun q => b_38 q.2.2))]; exact hP9, va_K.moved hW.alike hK9, by rw [md_ta2 (show md_r1 gg sn ta nm bf from ⟨b_9, b_18, n_25⟩) (show ¬ md_r2 gg sn ta nm bf from (fun q => b_38 q.2.2)), md_nb2 (show md_r1 gg sn ta nm bf from ⟨b_9, b_18, n_25⟩) (show ¬ md_r2 gg sn ta nm bf from (fun q => b_38 q.2.2))]; exact hD9⟩⟩, hS.F ht⟩) hS.2.2 d_MD_readsRow_184 hlocks
                  · exact absurd c_41 (by decide)
                · exact absurd c_40 (by decide)
              · exact absurd c_39 (by decide)
            · have b_42 := bI_t (rfl : bI (md_win (md_nv gg sn (md_np gg sn ta + 1)) (-10000) 10000) = _) c_37
              refine lv_iconst (v := 1) hx hb d_MD_readsRow_73 (by decide) ?_
              refine lv_goto (tgt := 78) hx hb d_MD_readsRow_74 (by decide) ?_
              refine lv_istore_n (lv' := [(3, .int 1), (4, .int (md_nv gg sn ta)), (0, .ref h0), (1, .int (nI bf)), (2, .int 0)]) hx hb d_MD_readsRow_78 rfl hl (by decide) rfl (fun ls hl => ?_)
              refine lv_aload_n hx hb d_MD_readsRow_79 rfl (lv_at hl 2 rfl) ?_
              refine va_get (D := (dC, dI)) (ci := 7) (v := .int (md_nv gg sn (md_np gg sn ta + 1))) (C := xR_MD) (T := xT_MD) (N := 27) hx hb hts (fun w h => List.mem_cons_of_mem _ (iw_MD w h)) hown hK hP 0 rfl rfl 26 (by decide) (hts _ (List.mem_cons_of_mem _ wm_723)) (fun _ h9 => h9) rfl d_MD_readsRow_80 ?_
              refine lv_istore (lv' := [(5, .int (md_nv gg sn (md_np gg sn ta + 1))), (3, .int 1), (4, .int (md_nv gg sn ta)), (0, .ref h0), (1, .int (nI bf)), (2, .int 0)]) hx hb d_MD_readsRow_83 hl (by decide) rfl (fun ls hl => ?_)
              refine lv_iload_n hx hb d_MD_readsRow_85 rfl (lv_at hl 1 rfl) ?_
              refine lv_if_eq (tgt := 118) hx hb d_MD_readsRow_86 (by decide) (fun c_43 => ?_) (fun c_43 => ?_)
              · exact absurd c_43 (by decide)
              · refine lv_aload_n hx hb d_MD_readsRow_89 rfl (lv_at hl 3 rfl) ?_
                refine lv_bipush (v := 32) hx hb d_MD_readsRow_90 (by decide) ?_
                have hPc := hP.sub (ws' := [(h0, .inr (7, [.int th, .int (nI nm), .ref ap, .int (nI no), .ref am, .ref aw, .ref az, .ref au, .int kn, .long vP, .long vQ, .long vS, .long vT, .long vB, .long vM, .long vH, .ref ao, .ref ax, .int (nI np), .ref ay, .int (nI nl), .ref ad, .ref al, .int (nI sn), .ref ag, .int (nI (md_np gg sn (md_np gg sn ta + 1) + 1)), .int (md_nv gg sn (md_np gg sn ta + 1))])), (ag, .inl (kg, 200, .inl gg))]) [0, 1] rfl
                have hDc := hD.sub (ws' := [(h0, .inr (7, [.int th, .int (nI nm), .ref ap, .int (nI no), .ref am, .ref aw, .ref az, .ref au, .int kn, .long vP, .long vQ, .long vS, .long vT, .long vB, .long vM, .long vH, .ref ao, .ref ax, .int (nI np), .ref ay, .int (nI nl), .ref ad, .ref al, .int (nI sn), .ref ag, .int (nI (md_np gg sn (md_np gg sn ta + 1) + 1)), .int (md_nv gg sn (md_np gg sn ta + 1))])), (ag, .inl (kg, 200, .inl gg))]) [0, 1] (by decide) rfl
                have hKc := hK.sub (tys' := [(kg, .int)]) [0] rfl
                have hFc := va_free (wc := [(h0, .inr (7, [.int th, .int (nI nm), .ref ap, .int (nI no), .ref am, .ref aw, .ref az, .ref au, .int kn, .long vP, .long vQ, .long vS, .long vT, .long vB, .long vM, .long vH, .ref ao, .ref ax, .int (nI np), .ref ay, .int (nI nl), .ref ad, .ref al, .int (nI sn), .ref ag, .int (nI (md_np gg sn (md_np gg sn ta + 1) + 1)), .int (md_nv gg sn (md_np gg sn ta + 1))])), (ag, .inl (kg, 200, .inl gg))]) hD hS hA [0, 1] rfl
                refine va_calli (va_runV (As := [.int 32]) (rest := []) ⟨hx, hb, hml, hown, hts⟩ (c_MD_reads l dC dI H.size h0 th nm ap no am aw az au kn vP vQ vS vT vB vM vH ao ax np ay nl ad al sn ag (md_np gg sn (md_np gg sn ta + 1) + 1) (md_nv gg sn (md_np gg sn ta + 1)) kg gg 32 hle (md_t_le hle b_34)) (cwV 1 hts (xgV wm_912 wm_914 wm_24 wm_34 wm_915) rfl rfl rfl (by decide +kernel) ⟨Nat.le_of_ble_eq_true rfl, Nat.le_of_ble_eq_true rfl⟩) ⟨xw_blind, va_recv hKc hPc (ci := 7) (q0 := 0) rfl rfl, fun U hU hW => ⟨rfl, by rw [hU], hz.warm hW, by rw [hU]; exact hPc, va_K.moved hW.alike hKc, hDc.weaken (fun _ _ _ _ => trivial)⟩⟩ rfl rfl hl.1 rfl (lv_room (Nat.le_of_ble_eq_true rfl)) d_MD_readsRow_92 ⟨Nat.le_of_ble_eq_true rfl, Nat.le_of_ble_eq_true rfl⟩) hS (fun q _ h => hFc q h) hFc (fun r_44 _ t H1 locs ht hvm hw_45 hB hz1 hk1 hS => ?_)
                obtain ⟨hP1, hK1, hD1⟩ := hB
                rw [ht] at hP1
                have hK1 := va_K.moved hvm.symm hK1
                obtain ⟨hP, hD⟩ := va_join (wr := []) (w1 := [(h0, .inr (7, [.int th, .int (nI nm), .ref ap, .int (nI no), .ref am, .ref aw, .ref az, .ref au, .int kn, .long vP, .long vQ, .long vS, .long vT, .long vB, .long vM, .long vH, .ref ao, .ref ax, .int (nI np), .ref ay, .int (nI nl), .ref ad, .ref al, .int (nI sn), .ref ag, .int (nI (md_np gg sn (md_np gg sn (md_np gg sn ta + 1) + 1) + 1)), .int (md_nv gg sn (md_np gg sn (md_np gg sn ta + 1) + 1))])), (ag, .inl (kg, 200, .inl gg))]) hP hD [0, 1] [] rfl rfl (by decide) (by decide) hk1 hFc hP1 hD1
                generalize H1 = H at hP hS ⊢
                have hP : va_P (dC, dI) xCl [(h0, .inr (7, [.int th, .int (nI nm), .ref ap, .int (nI no), .ref am, .ref aw, .ref az, .ref au, .int kn, .long vP, .long vQ, .long vS, .long vT, .long vB, .long vM, .long vH, .ref ao, .ref ax, .int (nI np), .ref ay, .int (nI nl), .ref ad, .ref al, .int (nI sn), .ref ag, .int (nI (md_np gg sn (md_np gg sn (md_np gg sn ta + 1) + 1) + 1)), .int (md_nv gg sn (md_np gg sn (md_np gg sn ta + 1) + 1))])), (ag, .inl (kg, 200, .inl gg))] H := hP
                have hD : va_D A [(h0, .inr (7, [.int th, .int (nI nm), .ref ap, .int (nI no), .ref am, .ref aw, .ref az, .ref au, .int kn, .long vP, .long vQ, .long vS, .long vT, .long vB, .long vM, .long vH, .ref ao, .ref ax, .int (nI np), .ref ay, .int (nI nl), .ref ad, .ref al, .int (nI sn), .ref ag, .int (nI (md_np gg sn (md_np gg sn (md_np gg sn ta + 1) + 1) + 1)), .int (md_nv gg sn (md_np gg sn (md_np gg sn ta + 1) + 1))])), (ag, .inl (kg, 200, .inl gg))] := hD
                subst hw_45
                refine lv_if_eq (tgt := 118) hx hb d_MD_readsRow_95 (by decide) (fun c_46 => ?_) (fun c_46 => ?_)
                · have b_47 := bI_f (rfl : bI (md_rs gg sn (md_np gg sn (md_np gg sn ta + 1) + 1) 32) = _) c_46
                  refine lv_iconst (v := 0) hx hb d_MD_readsRow_118 (by decide) ?_
                  refine lv_istore_n (lv' := [(3, .int 0), (5, .int (md_nv gg sn (md_np gg sn ta + 1))), (4, .int (md_nv gg sn ta)), (0, .ref h0), (1, .int (nI bf)), (2, .int 0)]) hx hb d_MD_readsRow_119 rfl hl (by decide) rfl (fun ls hl => ?_)
                  refine lv_aload_n hx hb d_MD_readsRow_120 rfl (lv_at hl 3 rfl) ?_
                  refine va_get (D := (dC, dI)) (ci := 7) (v := .int (md_nv gg sn (md_np gg sn (md_np gg sn ta + 1) + 1))) (C := xR_MD) (T := xT_MD) (N := 27) hx hb hts (fun w h => List.mem_cons_of_mem _ (iw_MD w h)) hown hK hP 0 rfl rfl 26 (by decide) (hts _ (List.mem_cons_of_mem _ wm_723)) (fun _ h9 => h9) rfl d_MD_readsRow_121 ?_
                  refine lv_istore (lv' := [(6, .int (md_nv gg sn (md_np gg sn (md_np gg sn ta + 1) + 1))), (3, .int 0), (5, .int (md_nv gg sn (md_np gg sn ta + 1))), (4, .int (md_nv gg sn ta)), (0, .ref h0), (1, .int (nI bf)), (2, .int 0)]) hx hb d_MD_readsRow_124 hl (by decide) rfl (fun ls hl => ?_)
                  refine lv_iload_n hx hb d_MD_readsRow_126 rfl (lv_at hl 1 rfl) ?_
                  refine lv_if_eq (tgt := 159) hx hb d_MD_readsRow_127 (by decide) (fun c_48 => ?_) (fun c_48 => ?_)
                  · refine lv_iconst (v := 0) hx hb d_MD_readsRow_159 (by decide) ?_
                    refine lv_istore_n (lv' := [(3, .int 0), (6, .int (md_nv gg sn (md_np gg sn (md_np gg sn ta + 1) + 1))), (5, .int (md_nv gg sn (md_np gg sn ta + 1))), (4, .int (md_nv gg sn ta)), (0, .ref h0), (1, .int (nI bf)), (2, .int 0)]) hx hb d_MD_readsRow_160 rfl hl (by decide) rfl (fun ls hl => ?_)
                    refine lv_iload_n hx hb d_MD_readsRow_161 rfl (lv_at hl 0 rfl) ?_
                    refine lv_if_eq (tgt := 183) hx hb d_MD_readsRow_162 (by decide) (fun c_49 => ?_) (fun c_49 => ?_)
                    · refine lv_iload_n hx hb d_MD_readsRow_183 rfl (lv_at hl 0 rfl) ?_
                      have hP9 := hP.sub (ws' := [(h0, .inr (7, [.int th, .int (nI nm), .ref ap, .int (nI no), .ref am, .ref aw, .ref az, .ref au, .int kn, .long vP, .long vQ, .long vS, .long vT, .long vB, .long vM, .long vH, .ref ao, .ref ax, .int (nI np), .ref ay, .int (nI nl), .ref ad, .ref al, .int (nI sn), .ref ag, .int (nI (md_np gg sn (md_np gg sn (md_np gg sn ta + 1) + 1) + 1)), .int (md_nv gg sn (md_np gg sn (md_np gg sn ta + 1) + 1))])), (ag, .inl (kg, 200, .inl gg))]) [0, 1] rfl
                      have hD9 := hD.sub (ws' := [(h0, .inr (7, [.int th, .int (nI nm), .ref ap, .int (nI no), .ref am, .ref aw, .ref az, .ref au, .int kn, .long vP, .long vQ, .long vS, .long vT, .long vB, .long vM, .long vH, .ref ao, .ref ax, .int (nI np), .ref ay, .int (nI nl), .ref ad, .ref al, .int (nI sn), .ref ag, .int (nI (md_np gg sn (md_np gg sn (md_np gg sn ta + 1) + 1) + 1)), .int (md_nv gg sn (md_np gg sn (md_np gg sn ta + 1) + 1))])), (ag, .inl (kg, 200, .inl gg))]) [0, 1] (by decide) rfl
                      have hK9 := hK.sub (tys' := [(kg, .int)]) [0] rfl
                      exact W.zret (v := 0) (ty := .boolean) hx hb hr (by exact rfl) (fun t ht hW => ⟨⟨0, (), rfl, bI_n (fun (q : md_r4 gg sn ta nm bf) => absurd (show md_r3 gg sn ta nm bf from q.1) (fun q => b_47 q.2.1)), ⟨by rw [ht]; rw [md_ta3 (show md_r2 gg sn ta nm bf from ⟨⟨b_9, b_18, n_25⟩, b_34, b_42⟩) (show ¬ md_r3 gg sn ta nm bf from (fun q => b_47 q.2.1)), md_nb3 (show md_r2 gg sn ta nm bf from ⟨⟨b_9, b_18, n_25⟩, b_34, b_42⟩) (show ¬ md_r3 gg sn ta nm bf from (fun q => b_47 q.2.1))]; exact hP9, va_K.moved hW.alike hK9, by rw [md_ta3 (show md_r2 gg sn ta nm bf from ⟨⟨b_9, b_18, n_25⟩, b_34, b_42⟩) (show ¬ md_r3 gg sn ta nm bf from (fun q => b_47 q.2.1)), md_nb3 (show md_r2 gg sn ta nm bf from ⟨⟨b_9, b_18, n_25⟩, b_34, b_42⟩) (show ¬ md_r3 gg sn ta nm bf from (fun q => b_47 q.2.1))]; exact hD9⟩⟩, hS.F ht⟩) hS.2.2 d_MD_readsRow_184 hlocks
                    · exact absurd c_49 (by decide)
                  · exact absurd c_48 (by decide)
                · have b_50 := bI_t (rfl : bI (md_rs gg sn (md_np gg sn (md_np gg sn ta + 1) + 1) 32) = _) c_46
                  refine lv_aload_n hx hb d_MD_readsRow_98 rfl (lv_at hl 3 rfl) ?_
                  refine va_get (D := (dC, dI)) (ci := 7) (v := .int (md_nv gg sn (md_np gg sn (md_np gg sn ta + 1) + 1))) (C := xR_MD) (T := xT_MD) (N := 27) hx hb hts (fun w h => List.mem_cons_of_mem _ (iw_MD w h)) hown hK hP 0 rfl rfl 26 (by decide) (hts _ (List.mem_cons_of_mem _ wm_723)) (fun _ h9 => h9) rfl d_MD_readsRow_99 ?_
                  refine lv_sipush (v := (-10000)) hx hb d_MD_readsRow_102 (by decide) ?_
                  refine lv_sipush (v := 10000) hx hb d_MD_readsRow_105 (by decide) ?_
                  refine xr_calli (va_runS (As := [.int (md_nv gg sn (md_np gg sn (md_np gg sn ta + 1) + 1)), .int (-10000), .int 10000]) (rest := []) ⟨hx, hb, hml, hown, hts⟩ (c_MD_within l dC dI (md_nv gg sn (md_np gg sn (md_np gg sn ta + 1) + 1)) (-10000) 10000) (va_cwS 3 hts (xgS wm_790 wm_791 wm_34 wm_792) rfl rfl rfl (by decide +kernel) ⟨Nat.le_of_ble_eq_true rfl, Nat.le_of_ble_eq_true rfl⟩) ⟨xp_blind, fun U hU hW => ⟨rfl, hz.warm hW, by rw [hU]; exact hP.sub [] rfl, va_K.moved hW.alike (hK.sub [] rfl)⟩⟩ rfl rfl hl.1 rfl (lv_room (Nat.le_of_ble_eq_true rfl)) d_MD_readsRow_108 ⟨Nat.le_of_ble_eq_true rfl, Nat.le_of_ble_eq_true rfl⟩) (fun r_51 h_52 => ?_)
                  subst h_52
                  refine lv_if_eq (tgt := 118) hx hb d_MD_readsRow_111 (by decide) (fun c_53 => ?_) (fun c_53 => ?_)
                  · have b_54 := bI_f (rfl : bI (md_win (md_nv gg sn (md_np gg sn (md_np gg sn ta + 1) + 1)) (-10000) 10000) = _) c_53
                    refine lv_iconst (v := 0) hx hb d_MD_readsRow_118 (by decide) ?_
                    refine lv_istore_n (lv' := [(3, .int 0), (5, .int (md_nv gg sn (md_np gg sn ta + 1))), (4, .int (md_nv gg sn ta)), (0, .ref h0), (1, .int (nI bf)), (2, .int 0)]) hx hb d_MD_readsRow_119 rfl hl (by decide) rfl (fun ls hl => ?_)
                    refine lv_aload_n hx hb d_MD_readsRow_120 rfl (lv_at hl 3 rfl) ?_
                    refine va_get (D := (dC, dI)) (ci := 7) (v := .int (md_nv gg sn (md_np gg sn (md_np gg sn ta + 1) + 1))) (C := xR_MD) (T := xT_MD) (N := 27) hx hb hts (fun w h => List.mem_cons_of_mem _ (iw_MD w h)) hown hK hP 0 rfl rfl 26 (by decide) (hts _ (List.mem_cons_of_mem _ wm_723)) (fun _ h9 => h9) rfl d_MD_readsRow_121 ?_
                    refine lv_istore (lv' := [(6, .int (md_nv gg sn (md_np gg sn (md_np gg sn ta + 1) + 1))), (3, .int 0), (5, .int (md_nv gg sn (md_np gg sn ta + 1))), (4, .int (md_nv gg sn ta)), (0, .ref h0), (1, .int (nI bf)), (2, .int 0)]) hx hb d_MD_readsRow_124 hl (by decide) rfl (fun ls hl => ?_)
                    refine lv_iload_n hx hb d_MD_readsRow_126 rfl (lv_at hl 1 rfl) ?_
                    refine lv_if_eq (tgt := 159) hx hb d_MD_readsRow_127 (by decide) (fun c_55 => ?_) (fun c_55 => ?_)
                    · refine lv_iconst (v := 0) hx hb d_MD_readsRow_159 (by decide) ?_
                      refine lv_istore_n (lv' := [(3, .int 0), (6, .int (md_nv gg sn (md_np gg sn (md_np gg sn ta + 1) + 1))), (5, .int (md_nv gg sn (md_np gg sn ta + 1))), (4, .int (md_nv gg sn ta)), (0, .ref h0), (1, .int (nI bf)), (2, .int 0)]) hx hb d_MD_readsRow_160 rfl hl (by decide) rfl (fun ls hl => ?_)
                      refine lv_iload_n hx hb d_MD_readsRow_161 rfl (lv_at hl 0 rfl) ?_
                      refine lv_if_eq (tgt := 183) hx hb d_MD_readsRow_162 (by decide) (fun c_56 => ?_) (fun c_56 => ?_)
                      · refine lv_iload_n hx hb d_MD_readsRow_183 rfl (lv_at hl 0 rfl) ?_
                        have hP9 := hP.sub (ws' := [(h0, .inr (7, [.int th, .int (nI nm), .ref ap, .int (nI no), .ref am, .ref aw, .ref az, .ref au, .int kn, .long vP, .long vQ, .long vS, .long vT, .long vB, .long vM, .long vH, .ref ao, .ref ax, .int (nI np), .ref ay, .int (nI nl), .ref ad, .ref al, .int (nI sn), .ref ag, .int (nI (md_np gg sn (md_np gg sn (md_np gg sn ta + 1) + 1) + 1)), .int (md_nv gg sn (md_np gg sn (md_np gg sn ta + 1) + 1))])), (ag, .inl (kg, 200, .inl gg))]) [0, 1] rfl
                        have hD9 := hD.sub (ws' := [(h0, .inr (7, [.int th, .int (nI nm), .ref ap, .int (nI no), .ref am, .ref aw, .ref az, .ref au, .int kn, .long vP, .long vQ, .long vS, .long vT, .long vB, .long vM, .long vH, .ref ao, .ref ax, .int (nI np), .ref ay, .int (nI nl), .ref ad, .ref al, .int (nI sn), .ref ag, .int (nI (md_np gg sn (md_np gg sn (md_np gg sn ta + 1) + 1) + 1)), .int (md_nv gg sn (md_np gg sn (md_np gg sn ta + 1) + 1))])), (ag, .inl (kg, 200, .inl gg))]) [0, 1] (by decide) rfl
                        have hK9 := hK.sub (tys' := [(kg, .int)]) [0] rfl
                        exact W.zret (v := 0) (ty := .boolean) hx hb hr (by exact rfl) (fun t ht hW => ⟨⟨0, (), rfl, bI_n (fun (q : md_r4 gg sn ta nm bf) => absurd (show md_r3 gg sn ta nm bf from q.1) (fun q => b_54 q.2.2)), ⟨by rw [ht]; rw [md_ta3 (show md_r2 gg sn ta nm bf from ⟨⟨b_9, b_18, n_25⟩, b_34, b_42⟩) (show ¬ md_r3 gg sn ta nm bf from (fun q => b_54 q.2.2)), md_nb3 (show md_r2 gg sn ta nm bf from ⟨⟨b_9, b_18, n_25⟩, b_34, b_42⟩) (show ¬ md_r3 gg sn ta nm bf from (fun q => b_54 q.2.2))]; exact hP9, va_K.moved hW.alike hK9, by rw [md_ta3 (show md_r2 gg sn ta nm bf from ⟨⟨b_9, b_18, n_25⟩, b_34, b_42⟩) (show ¬ md_r3 gg sn ta nm bf from (fun q => b_54 q.2.2)), md_nb3 (show md_r2 gg sn ta nm bf from ⟨⟨b_9, b_18, n_25⟩, b_34, b_42⟩) (show ¬ md_r3 gg sn ta nm bf from (fun q => b_54 q.2.2))]; exact hD9⟩⟩, hS.F ht⟩) hS.2.2 d_MD_readsRow_184 hlocks
                      · exact absurd c_56 (by decide)
                    · exact absurd c_55 (by decide)
                  · have b_57 := bI_t (rfl : bI (md_win (md_nv gg sn (md_np gg sn (md_np gg sn ta + 1) + 1)) (-10000) 10000) = _) c_53
                    refine lv_iconst (v := 1) hx hb d_MD_readsRow_114 (by decide) ?_
                    refine lv_goto (tgt := 119) hx hb d_MD_readsRow_115 (by decide) ?_
                    refine lv_istore_n (lv' := [(3, .int 1), (5, .int (md_nv gg sn (md_np gg sn ta + 1))), (4, .int (md_nv gg sn ta)), (0, .ref h0), (1, .int (nI bf)), (2, .int 0)]) hx hb d_MD_readsRow_119 rfl hl (by decide) rfl (fun ls hl => ?_)
                    refine lv_aload_n hx hb d_MD_readsRow_120 rfl (lv_at hl 3 rfl) ?_
                    refine va_get (D := (dC, dI)) (ci := 7) (v := .int (md_nv gg sn (md_np gg sn (md_np gg sn ta + 1) + 1))) (C := xR_MD) (T := xT_MD) (N := 27) hx hb hts (fun w h => List.mem_cons_of_mem _ (iw_MD w h)) hown hK hP 0 rfl rfl 26 (by decide) (hts _ (List.mem_cons_of_mem _ wm_723)) (fun _ h9 => h9) rfl d_MD_readsRow_121 ?_
                    refine lv_istore (lv' := [(6, .int (md_nv gg sn (md_np gg sn (md_np gg sn ta + 1) + 1))), (3, .int 1), (5, .int (md_nv gg sn (md_np gg sn ta + 1))), (4, .int (md_nv gg sn ta)), (0, .ref h0), (1, .int (nI bf)), (2, .int 0)]) hx hb d_MD_readsRow_124 hl (by decide) rfl (fun ls hl => ?_)
                    refine lv_iload_n hx hb d_MD_readsRow_126 rfl (lv_at hl 1 rfl) ?_
                    refine lv_if_eq (tgt := 159) hx hb d_MD_readsRow_127 (by decide) (fun c_58 => ?_) (fun c_58 => ?_)
                    · exact absurd c_58 (by decide)
                    · refine lv_aload_n hx hb d_MD_readsRow_130 rfl (lv_at hl 4 rfl) ?_
                      refine lv_bipush (v := 59) hx hb d_MD_readsRow_131 (by decide) ?_
                      have hPc := hP.sub (ws' := [(h0, .inr (7, [.int th, .int (nI nm), .ref ap, .int (nI no), .ref am, .ref aw, .ref az, .ref au, .int kn, .long vP, .long vQ, .long vS, .long vT, .long vB, .long vM, .long vH, .ref ao, .ref ax, .int (nI np), .ref ay, .int (nI nl), .ref ad, .ref al, .int (nI sn), .ref ag, .int (nI (md_np gg sn (md_np gg sn (md_np gg sn ta + 1) + 1) + 1)), .int (md_nv gg sn (md_np gg sn (md_np gg sn ta + 1) + 1))])), (ag, .inl (kg, 200, .inl gg))]) [0, 1] rfl
                      have hDc := hD.sub (ws' := [(h0, .inr (7, [.int th, .int (nI nm), .ref ap, .int (nI no), .ref am, .ref aw, .ref az, .ref au, .int kn, .long vP, .long vQ, .long vS, .long vT, .long vB, .long vM, .long vH, .ref ao, .ref ax, .int (nI np), .ref ay, .int (nI nl), .ref ad, .ref al, .int (nI sn), .ref ag, .int (nI (md_np gg sn (md_np gg sn (md_np gg sn ta + 1) + 1) + 1)), .int (md_nv gg sn (md_np gg sn (md_np gg sn ta + 1) + 1))])), (ag, .inl (kg, 200, .inl gg))]) [0, 1] (by decide) rfl
                      have hKc := hK.sub (tys' := [(kg, .int)]) [0] rfl
                      have hFc := va_free (wc := [(h0, .inr (7, [.int th, .int (nI nm), .ref ap, .int (nI no), .ref am, .ref aw, .ref az, .ref au, .int kn, .long vP, .long vQ, .long vS, .long vT, .long vB, .long vM, .long vH, .ref ao, .ref ax, .int (nI np), .ref ay, .int (nI nl), .ref ad, .ref al, .int (nI sn), .ref ag, .int (nI (md_np gg sn (md_np gg sn (md_np gg sn ta + 1) + 1) + 1)), .int (md_nv gg sn (md_np gg sn (md_np gg sn ta + 1) + 1))])), (ag, .inl (kg, 200, .inl gg))]) hD hS hA [0, 1] rfl
                      refine va_calli (va_runV (As := [.int 59]) (rest := []) ⟨hx, hb, hml, hown, hts⟩ (c_MD_reads l dC dI H.size h0 th nm ap no am aw az au kn vP vQ vS vT vB vM vH ao ax np ay nl ad al sn ag (md_np gg sn (md_np gg sn (md_np gg sn ta + 1) + 1) + 1) (md_nv gg sn (md_np gg sn (md_np gg sn ta + 1) + 1)) kg gg 59 hle (md_t_le hle b_50)) (cwV 1 hts (xgV wm_912 wm_914 wm_24 wm_34 wm_915) rfl rfl rfl (by decide +kernel) ⟨Nat.le_of_ble_eq_true rfl, Nat.le_of_ble_eq_true rfl⟩) ⟨xw_blind, va_recv hKc hPc (ci := 7) (q0 := 0) rfl rfl, fun U hU hW => ⟨rfl, by rw [hU], hz.warm hW, by rw [hU]; exact hPc, va_K.moved hW.alike hKc, hDc.weaken (fun _ _ _ _ => trivial)⟩⟩ rfl rfl hl.1 rfl (lv_room (Nat.le_of_ble_eq_true rfl)) d_MD_readsRow_133 ⟨Nat.le_of_ble_eq_true rfl, Nat.le_of_ble_eq_true rfl⟩) hS (fun q _ h => hFc q h) hFc (fun r_59 _ t H1 locs ht hvm hw_60 hB hz1 hk1 hS => ?_)
                      obtain ⟨hP1, hK1, hD1⟩ := hB
                      rw [ht] at hP1
                      have hK1 := va_K.moved hvm.symm hK1
                      obtain ⟨hP, hD⟩ := va_join (wr := []) (w1 := [(h0, .inr (7, [.int th, .int (nI nm), .ref ap, .int (nI no), .ref am, .ref aw, .ref az, .ref au, .int kn, .long vP, .long vQ, .long vS, .long vT, .long vB, .long vM, .long vH, .ref ao, .ref ax, .int (nI np), .ref ay, .int (nI nl), .ref ad, .ref al, .int (nI sn), .ref ag, .int (nI (md_np gg sn (md_np gg sn (md_np gg sn (md_np gg sn ta + 1) + 1) + 1) + 1)), .int (md_nv gg sn (md_np gg sn (md_np gg sn (md_np gg sn ta + 1) + 1) + 1))])), (ag, .inl (kg, 200, .inl gg))]) hP hD [0, 1] [] rfl rfl (by decide) (by decide) hk1 hFc hP1 hD1
                      generalize H1 = H at hP hS ⊢
                      have hP : va_P (dC, dI) xCl [(h0, .inr (7, [.int th, .int (nI nm), .ref ap, .int (nI no), .ref am, .ref aw, .ref az, .ref au, .int kn, .long vP, .long vQ, .long vS, .long vT, .long vB, .long vM, .long vH, .ref ao, .ref ax, .int (nI np), .ref ay, .int (nI nl), .ref ad, .ref al, .int (nI sn), .ref ag, .int (nI (md_np gg sn (md_np gg sn (md_np gg sn (md_np gg sn ta + 1) + 1) + 1) + 1)), .int (md_nv gg sn (md_np gg sn (md_np gg sn (md_np gg sn ta + 1) + 1) + 1))])), (ag, .inl (kg, 200, .inl gg))] H := hP
                      have hD : va_D A [(h0, .inr (7, [.int th, .int (nI nm), .ref ap, .int (nI no), .ref am, .ref aw, .ref az, .ref au, .int kn, .long vP, .long vQ, .long vS, .long vT, .long vB, .long vM, .long vH, .ref ao, .ref ax, .int (nI np), .ref ay, .int (nI nl), .ref ad, .ref al, .int (nI sn), .ref ag, .int (nI (md_np gg sn (md_np gg sn (md_np gg sn (md_np gg sn ta + 1) + 1) + 1) + 1)), .int (md_nv gg sn (md_np gg sn (md_np gg sn (md_np gg sn ta + 1) + 1) + 1))])), (ag, .inl (kg, 200, .inl gg))] := hD
                      subst hw_60
                      refine lv_if_eq (tgt := 159) hx hb d_MD_readsRow_136 (by decide) (fun c_61 => ?_) (fun c_61 => ?_)
                      · have b_62 := bI_f (rfl : bI (md_rs gg sn (md_np gg sn (md_np gg sn (md_np gg sn ta + 1) + 1) + 1) 59) = _) c_61
                        refine lv_iconst (v := 0) hx hb d_MD_readsRow_159 (by decide) ?_
                        refine lv_istore_n (lv' := [(3, .int 0), (6, .int (md_nv gg sn (md_np gg sn (md_np gg sn ta + 1) + 1))), (5, .int (md_nv gg sn (md_np gg sn ta + 1))), (4, .int (md_nv gg sn ta)), (0, .ref h0), (1, .int (nI bf)), (2, .int 0)]) hx hb d_MD_readsRow_160 rfl hl (by decide) rfl (fun ls hl => ?_)
                        refine lv_iload_n hx hb d_MD_readsRow_161 rfl (lv_at hl 0 rfl) ?_
                        refine lv_if_eq (tgt := 183) hx hb d_MD_readsRow_162 (by decide) (fun c_63 => ?_) (fun c_63 => ?_)
                        · refine lv_iload_n hx hb d_MD_readsRow_183 rfl (lv_at hl 0 rfl) ?_
                          have hP9 := hP.sub (ws' := [(h0, .inr (7, [.int th, .int (nI nm), .ref ap, .int (nI no), .ref am, .ref aw, .ref az, .ref au, .int kn, .long vP, .long vQ, .long vS, .long vT, .long vB, .long vM, .long vH, .ref ao, .ref ax, .int (nI np), .ref ay, .int (nI nl), .ref ad, .ref al, .int (nI sn), .ref ag, .int (nI (md_np gg sn (md_np gg sn (md_np gg sn (md_np gg sn ta + 1) + 1) + 1) + 1)), .int (md_nv gg sn (md_np gg sn (md_np gg sn (md_np gg sn ta + 1) + 1) + 1))])), (ag, .inl (kg, 200, .inl gg))]) [0, 1] rfl
                          have hD9 := hD.sub (ws' := [(h0, .inr (7, [.int th, .int (nI nm), .ref ap, .int (nI no), .ref am, .ref aw, .ref az, .ref au, .int kn, .long vP, .long vQ, .long vS, .long vT, .long vB, .long vM, .long vH, .ref ao, .ref ax, .int (nI np), .ref ay, .int (nI nl), .ref ad, .ref al, .int (nI sn), .ref ag, .int (nI (md_np gg sn (md_np gg sn (md_np gg sn (md_np gg sn ta + 1) + 1) + 1) + 1)), .int (md_nv gg sn (md_np gg sn (md_np gg sn (md_np gg sn ta + 1) + 1) + 1))])), (ag, .inl (kg, 200, .inl gg))]) [0, 1] (by decide) rfl
                          have hK9 := hK.sub (tys' := [(kg, .int)]) [0] rfl
                          exact W.zret (v := 0) (ty := .boolean) hx hb hr (by exact rfl) (fun t ht hW => ⟨⟨0, (), rfl, bI_n (fun (q : md_r4 gg sn ta nm bf) => absurd (show md_r4 gg sn ta nm bf from q) (fun q => b_62 q.2.1)), ⟨by rw [ht]; rw [md_ta4 (show md_r3 gg sn ta nm bf from ⟨⟨⟨b_9, b_18, n_25⟩, b_34, b_42⟩, b_50, b_57⟩), md_nb4 (show md_r3 gg sn ta nm bf from ⟨⟨⟨b_9, b_18, n_25⟩, b_34, b_42⟩, b_50, b_57⟩)]; exact hP9, va_K.moved hW.alike hK9, by rw [md_ta4 (show md_r3 gg sn ta nm bf from ⟨⟨⟨b_9, b_18, n_25⟩, b_34, b_42⟩, b_50, b_57⟩), md_nb4 (show md_r3 gg sn ta nm bf from ⟨⟨⟨b_9, b_18, n_25⟩, b_34, b_42⟩, b_50, b_57⟩)]; exact hD9⟩⟩, hS.F ht⟩) hS.2.2 d_MD_readsRow_184 hlocks
                        · exact absurd c_63 (by decide)
                      · have b_64 := bI_t (rfl : bI (md_rs gg sn (md_np gg sn (md_np gg sn (md_np gg sn ta + 1) + 1) + 1) 59) = _) c_61
                        refine lv_aload_n hx hb d_MD_readsRow_139 rfl (lv_at hl 4 rfl) ?_
                        refine va_get (D := (dC, dI)) (ci := 7) (v := .int (md_nv gg sn (md_np gg sn (md_np gg sn (md_np gg sn ta + 1) + 1) + 1))) (C := xR_MD) (T := xT_MD) (N := 27) hx hb hts (fun w h => List.mem_cons_of_mem _ (iw_MD w h)) hown hK hP 0 rfl rfl 26 (by decide) (hts _ (List.mem_cons_of_mem _ wm_723)) (fun _ h9 => h9) rfl d_MD_readsRow_140 ?_
                        refine lv_sipush (v := (-10000)) hx hb d_MD_readsRow_143 (by decide) ?_
                        refine lv_sipush (v := 10000) hx hb d_MD_readsRow_146 (by decide) ?_
                        refine xr_calli (va_runS (As := [.int (md_nv gg sn (md_np gg sn (md_np gg sn (md_np gg sn ta + 1) + 1) + 1)), .int (-10000), .int 10000]) (rest := []) ⟨hx, hb, hml, hown, hts⟩ (c_MD_within l dC dI (md_nv gg sn (md_np gg sn (md_np gg sn (md_np gg sn ta + 1) + 1) + 1)) (-10000) 10000) (va_cwS 3 hts (xgS wm_790 wm_791 wm_34 wm_792) rfl rfl rfl (by decide +kernel) ⟨Nat.le_of_ble_eq_true rfl, Nat.le_of_ble_eq_true rfl⟩) ⟨xp_blind, fun U hU hW => ⟨rfl, hz.warm hW, by rw [hU]; exact hP.sub [] rfl, va_K.moved hW.alike (hK.sub [] rfl)⟩⟩ rfl rfl hl.1 rfl (lv_room (Nat.le_of_ble_eq_true rfl)) d_MD_readsRow_149 ⟨Nat.le_of_ble_eq_true rfl, Nat.le_of_ble_eq_true rfl⟩) (fun r_65 h_66 => ?_)
                        subst h_66
                        refine lv_if_eq (tgt := 159) hx hb d_MD_readsRow_152 (by decide) (fun c_67 => ?_) (fun c_67 => ?_)
                        · have b_68 := bI_f (rfl : bI (md_win (md_nv gg sn (md_np gg sn (md_np gg sn (md_np gg sn ta + 1) + 1) + 1)) (-10000) 10000) = _) c_67
                          refine lv_iconst (v := 0) hx hb d_MD_readsRow_159 (by decide) ?_
                          refine lv_istore_n (lv' := [(3, .int 0), (6, .int (md_nv gg sn (md_np gg sn (md_np gg sn ta + 1) + 1))), (5, .int (md_nv gg sn (md_np gg sn ta + 1))), (4, .int (md_nv gg sn ta)), (0, .ref h0), (1, .int (nI bf)), (2, .int 0)]) hx hb d_MD_readsRow_160 rfl hl (by decide) rfl (fun ls hl => ?_)
                          refine lv_iload_n hx hb d_MD_readsRow_161 rfl (lv_at hl 0 rfl) ?_
                          refine lv_if_eq (tgt := 183) hx hb d_MD_readsRow_162 (by decide) (fun c_69 => ?_) (fun c_69 => ?_)
                          · refine lv_iload_n hx hb d_MD_readsRow_183 rfl (lv_at hl 0 rfl) ?_
                            have hP9 := hP.sub (ws' := [(h0, .inr (7, [.int th, .int (nI nm), .ref ap, .int (nI no), .ref am, .ref aw, .ref az, .ref au, .int kn, .long vP, .long vQ, .long vS, .long vT, .long vB, .long vM, .long vH, .ref ao, .ref ax, .int (nI np), .ref ay, .int (nI nl), .ref ad, .ref al, .int (nI sn), .ref ag, .int (nI (md_np gg sn (md_np gg sn (md_np gg sn (md_np gg sn ta + 1) + 1) + 1) + 1)), .int (md_nv gg sn (md_np gg sn (md_np gg sn (md_np gg sn ta + 1) + 1) + 1))])), (ag, .inl (kg, 200, .inl gg))]) [0, 1] rfl
                            have hD9 := hD.sub (ws' := [(h0, .inr (7, [.int th, .int (nI nm), .ref ap, .int (nI no), .ref am, .ref aw, .ref az, .ref au, .int kn, .long vP, .long vQ, .long vS, .long vT, .long vB, .long vM, .long vH, .ref ao, .ref ax, .int (nI np), .ref ay, .int (nI nl), .ref ad, .ref al, .int (nI sn), .ref ag, .int (nI (md_np gg sn (md_np gg sn (md_np gg sn (md_np gg sn ta + 1) + 1) + 1) + 1)), .int (md_nv gg sn (md_np gg sn (md_np gg sn (md_np gg sn ta + 1) + 1) + 1))])), (ag, .inl (kg, 200, .inl gg))]) [0, 1] (by decide) rfl
                            have hK9 := hK.sub (tys' := [(kg, .int)]) [0] rfl
                            exact W.zret (v := 0) (ty := .boolean) hx hb hr (by exact rfl) (fun t ht hW => ⟨⟨0, (), rfl, bI_n (fun (q : md_r4 gg sn ta nm bf) => absurd (show md_r4 gg sn ta nm bf from q) (fun q => b_68 q.2.2)), ⟨by rw [ht]; rw [md_ta4 (show md_r3 gg sn ta nm bf from ⟨⟨⟨b_9, b_18, n_25⟩, b_34, b_42⟩, b_50, b_57⟩), md_nb4 (show md_r3 gg sn ta nm bf from ⟨⟨⟨b_9, b_18, n_25⟩, b_34, b_42⟩, b_50, b_57⟩)]; exact hP9, va_K.moved hW.alike hK9, by rw [md_ta4 (show md_r3 gg sn ta nm bf from ⟨⟨⟨b_9, b_18, n_25⟩, b_34, b_42⟩, b_50, b_57⟩), md_nb4 (show md_r3 gg sn ta nm bf from ⟨⟨⟨b_9, b_18, n_25⟩, b_34, b_42⟩, b_50, b_57⟩)]; exact hD9⟩⟩, hS.F ht⟩) hS.2.2 d_MD_readsRow_184 hlocks
                          · exact absurd c_69 (by decide)
                        · have b_70 := bI_t (rfl : bI (md_win (md_nv gg sn (md_np gg sn (md_np gg sn (md_np gg sn ta + 1) + 1) + 1)) (-10000) 10000) = _) c_67
                          refine lv_iconst (v := 1) hx hb d_MD_readsRow_155 (by decide) ?_
                          refine lv_goto (tgt := 160) hx hb d_MD_readsRow_156 (by decide) ?_
                          refine lv_istore_n (lv' := [(3, .int 1), (6, .int (md_nv gg sn (md_np gg sn (md_np gg sn ta + 1) + 1))), (5, .int (md_nv gg sn (md_np gg sn ta + 1))), (4, .int (md_nv gg sn ta)), (0, .ref h0), (1, .int (nI bf)), (2, .int 0)]) hx hb d_MD_readsRow_160 rfl hl (by decide) rfl (fun ls hl => ?_)
                          refine lv_iload_n hx hb d_MD_readsRow_161 rfl (lv_at hl 0 rfl) ?_
                          refine lv_if_eq (tgt := 183) hx hb d_MD_readsRow_162 (by decide) (fun c_71 => ?_) (fun c_71 => ?_)
                          · exact absurd c_71 (by decide)
                          · refine lv_iload_n hx hb d_MD_readsRow_165 rfl (lv_at hl 6 rfl) ?_
                            refine lv_if_eq (tgt := 183) hx hb d_MD_readsRow_166 (by decide) (fun c_72 => ?_) (fun c_72 => ?_)
                            · refine lv_iload_n hx hb d_MD_readsRow_183 rfl (lv_at hl 0 rfl) ?_
                              have hP9 := hP.sub (ws' := [(h0, .inr (7, [.int th, .int (nI nm), .ref ap, .int (nI no), .ref am, .ref aw, .ref az, .ref au, .int kn, .long vP, .long vQ, .long vS, .long vT, .long vB, .long vM, .long vH, .ref ao, .ref ax, .int (nI np), .ref ay, .int (nI nl), .ref ad, .ref al, .int (nI sn), .ref ag, .int (nI (md_np gg sn (md_np gg sn (md_np gg sn (md_np gg sn ta + 1) + 1) + 1) + 1)), .int (md_nv gg sn (md_np gg sn (md_np gg sn (md_np gg sn ta + 1) + 1) + 1))])), (ag, .inl (kg, 200, .inl gg))]) [0, 1] rfl
                              have hD9 := hD.sub (ws' := [(h0, .inr (7, [.int th, .int (nI nm), .ref ap, .int (nI no), .ref am, .ref aw, .ref az, .ref au, .int kn, .long vP, .long vQ, .long vS, .long vT, .long vB, .long vM, .long vH, .ref ao, .ref ax, .int (nI np), .ref ay, .int (nI nl), .ref ad, .ref al, .int (nI sn), .ref ag, .int (nI (md_np gg sn (md_np gg sn (md_np gg sn (md_np gg sn ta + 1) + 1) + 1) + 1)), .int (md_nv gg sn (md_np gg sn (md_np gg sn (md_np gg sn ta + 1) + 1) + 1))])), (ag, .inl (kg, 200, .inl gg))]) [0, 1] (by decide) rfl
                              have hK9 := hK.sub (tys' := [(kg, .int)]) [0] rfl
                              exact W.zret (v := 1) (ty := .boolean) hx hb hr (by exact rfl) (fun t ht hW => ⟨⟨1, (), rfl, bI_p (show md_r4 gg sn ta nm bf from ⟨⟨⟨⟨b_9, b_18, n_25⟩, b_34, b_42⟩, b_50, b_57⟩, b_64, b_70⟩), ⟨by rw [ht]; rw [md_ta4 (show md_r3 gg sn ta nm bf from ⟨⟨⟨b_9, b_18, n_25⟩, b_34, b_42⟩, b_50, b_57⟩), md_nb4 (show md_r3 gg sn ta nm bf from ⟨⟨⟨b_9, b_18, n_25⟩, b_34, b_42⟩, b_50, b_57⟩)]; exact hP9, va_K.moved hW.alike hK9, by rw [md_ta4 (show md_r3 gg sn ta nm bf from ⟨⟨⟨b_9, b_18, n_25⟩, b_34, b_42⟩, b_50, b_57⟩), md_nb4 (show md_r3 gg sn ta nm bf from ⟨⟨⟨b_9, b_18, n_25⟩, b_34, b_42⟩, b_50, b_57⟩)]; exact hD9⟩⟩, hS.F ht⟩) hS.2.2 d_MD_readsRow_184 hlocks
                            · exact absurd c_72 (by decide)
set_option maxHeartbeats 4000000 in
set_option maxRecDepth 100000 in
/-- readsRow, told -/
theorem c_MD_readsRow_t (l : Launch) (dC : Nat → ClassId) (dI : Nat → Nat → Nat) (sz : Nat) (h0 : Nat) (th : Int32) (nm : Nat) (ap : Nat) (no : Nat) (am : Nat) (aw : Nat) (az : Nat) (au : Nat) (kn : Int32) (vP : Int64) (vQ : Int64) (vS : Int64) (vT : Int64) (vB : Int64) (vM : Int64) (vH : Int64) (ao : Nat) (ax : Nat) (np : Nat) (ay : Nat) (nl : Nat) (ad : Nat) (al : Nat) (sn : Nat) (ag : Nat) (ta : Nat) (nb : Int32) (km : ClassId) (kw : ClassId) (ku : ClassId) (gm : Nat → Int32) (gw : Nat → Int32) (gu : Nat → Int32) (kg : ClassId) (gg : Nat → Int32) (hle : sn ≤ 200) (hta : ta ≤ 200) (hno : no < 20) (hg : md_r4 gg sn ta nm 0) : Met l xy_MD_readsRow xw_MD_readsRow ({ frames := 2, cells := 0, slots := 0, locals := 46 }) (xp_w [.ref h0, .int 0, .int 1] sz (dC, dI) xCl [(h0, .inr (7, [.int th, .int (nI nm), .ref ap, .int (nI no), .ref am, .ref aw, .ref az, .ref au, .int kn, .long vP, .long vQ, .long vS, .long vT, .long vB, .long vM, .long vH, .ref ao, .ref ax, .int (nI np), .ref ay, .int (nI nl), .ref ad, .ref al, .int (nI sn), .ref ag, .int (nI ta), .int nb])), (am, .inl (km, 20, .inl gm)), (aw, .inl (kw, 60, .inl gw)), (au, .inl (ku, 20, .inl gu)), (ag, .inl (kg, 200, .inl gg))] [(km, .int), (kw, .int), (ku, .boolean), (kg, .int)]) (va_Qi (fun (r : Int32) (_ : Unit) => r = 1) (fun _ t => xb_w (dC, dI) xCl [(h0, .inr (7, [.int th, .int (nI nm), .ref ap, .int (nI (no + 1)), .ref am, .ref aw, .ref az, .ref au, .int kn, .long vP, .long vQ, .long vS, .long vT, .long vB, .long vM, .long vH, .ref ao, .ref ax, .int (nI np), .ref ay, .int (nI nl), .ref ad, .ref al, .int (nI sn), .ref ag, .int (nI (md_t4 gg sn ta)), .int (md_nv gg sn (md_t3 gg sn ta))])), (am, .inl (km, 20, .inl (upd gm no (md_nv gg sn ta)))), (aw, .inl (kw, 60, .inl (upd (upd (upd gw (3 * no) (md_nv gg sn (md_t1 gg sn ta))) (3 * no + 1) (md_nv gg sn (md_t2 gg sn ta))) (3 * no + 2) (md_nv gg sn (md_t3 gg sn ta))))), (au, .inl (ku, 20, .inl (upd gu no 1))), (ag, .inl (kg, 200, .inl gg))] [(km, .int), (kw, .int), (ku, .boolean), (kg, .int)] (va_A [(h0, .inr (7, [.int th, .int (nI nm), .ref ap, .int (nI no), .ref am, .ref aw, .ref az, .ref au, .int kn, .long vP, .long vQ, .long vS, .long vT, .long vB, .long vM, .long vH, .ref ao, .ref ax, .int (nI np), .ref ay, .int (nI nl), .ref ad, .ref al, .int (nI sn), .ref ag, .int (nI ta), .int nb])), (am, .inl (km, 20, .inl gm)), (aw, .inl (kw, 60, .inl gw)), (au, .inl (ku, 20, .inl gu)), (ag, .inl (kg, 200, .inl gg))] sz) t) (va_A [(h0, .inr (7, [.int th, .int (nI nm), .ref ap, .int (nI no), .ref am, .ref aw, .ref az, .ref au, .int kn, .long vP, .long vQ, .long vS, .long vT, .long vB, .long vM, .long vH, .ref ao, .ref ax, .int (nI np), .ref ay, .int (nI nl), .ref ad, .ref al, .int (nI sn), .ref ag, .int (nI ta), .int nb])), (am, .inl (km, 20, .inl gm)), (aw, .inl (kw, 60, .inl gw)), (au, .inl (ku, 20, .inl gu)), (ag, .inl (kg, 200, .inl gg))] sz)) 0 0 (va_A [(h0, .inr (7, [.int th, .int (nI nm), .ref ap, .int (nI no), .ref am, .ref aw, .ref az, .ref au, .int kn, .long vP, .long vQ, .long vS, .long vT, .long vB, .long vM, .long vH, .ref ao, .ref ax, .int (nI np), .ref ay, .int (nI nl), .ref ad, .ref al, .int (nI sn), .ref ag, .int (nI ta), .int nb])), (am, .inl (km, 20, .inl gm)), (aw, .inl (kw, 60, .inl gw)), (au, .inl (ku, 20, .inl gu)), (ag, .inl (kg, 200, .inl gg))] sz) := by
  refine Met.ofW (cc := prog_9_method_35_code) (maxL := 7) (ret := (some .boolean)) (by decide) rfl ?_
  intro p e s m args below meth c s₁ B hml hv
  obtain ⟨rfl, hsz, hz, hP, hK, hD0⟩ := hv
  have hx := B.exec
  have hb := B.bytes
  have hr := B.returns
  have hts := atoms_spec (ws := xw_MD_readsRow) B.pre
  have hown : s.vm.findClass xR_MD = some m.cls := findClass_of_methodNamed B.named
  have hlocks := B.notSynchronized
  subst hsz
  have hD := hD0.self (sz := s.heap.size)
  generalize hAe : va_A [(h0, .inr (7, [.int th, .int (nI nm), .ref ap, .int (nI no), .ref am, .ref aw, .ref az, .ref au, .int kn, .long vP, .long vQ, .long vS, .long vT, .long vB, .long vM, .long vH, .ref ao, .ref ax, .int (nI np), .ref ay, .int (nI nl), .ref ad, .ref al, .int (nI sn), .ref ag, .int (nI ta), .int nb])), (am, .inl (km, 20, .inl gm)), (aw, .inl (kw, 60, .inl gw)), (au, .inl (ku, 20, .inl gu)), (ag, .inl (kg, 200, .inl gg))] s.heap.size = A at hD ⊢
  have hA : ∀ q : Nat, s.heap.size ≤ q → A q := fun q h => by rw [← hAe]; exact Or.inr h
  have hS : va_S A s.heap s.heap [] := va_S.rf
  have hP : va_P (dC, dI) xCl [(h0, .inr (7, [.int th, .int (nI nm), .ref ap, .int (nI no), .ref am, .ref aw, .ref az, .ref au, .int kn, .long vP, .long vQ, .long vS, .long vT, .long vB, .long vM, .long vH, .ref ao, .ref ax, .int (nI np), .ref ay, .int (nI nl), .ref ad, .ref al, .int (nI sn), .ref ag, .int (nI ta), .int nb])), (am, .inl (km, 20, .inl gm)), (aw, .inl (kw, 60, .inl gw)), (au, .inl (ku, 20, .inl gu)), (ag, .inl (kg, 200, .inl gg))] s.heap := hP
  have hl := lv_entry ([.ref h0, .int 0, .int 1]) (n := 7) (Nat.le_of_ble_eq_true rfl)
  rw [lg_entry_eq]
  generalize (lg_sl ([.ref h0, .int 0, .int 1]) ++ List.replicate (7 - (lg_sl ([.ref h0, .int 0, .int 1])).length) Slot.unset).toArray = ls at hl ⊢
  have hl : lv_has ls 7 [(0, .ref h0), (1, .int 0), (2, .int 1)] := hl
  refine lv_aload_n hx hb d_MD_readsRow_0 rfl (lv_at hl 0 rfl) ?_
  refine lv_bipush (v := 32) hx hb d_MD_readsRow_1 (by decide) ?_
  have hPc := hP.sub (ws' := [(h0, .inr (7, [.int th, .int (nI nm), .ref ap, .int (nI no), .ref am, .ref aw, .ref az, .ref au, .int kn, .long vP, .long vQ, .long vS, .long vT, .long vB, .long vM, .long vH, .ref ao, .ref ax, .int (nI np), .ref ay, .int (nI nl), .ref ad, .ref al, .int (nI sn), .ref ag, .int (nI ta), .int nb])), (ag, .inl (kg, 200, .inl gg))]) [0, 4] rfl
  have hDc := hD.sub (ws' := [(h0, .inr (7, [.int th, .int (nI nm), .ref ap, .int (nI no), .ref am, .ref aw, .ref az, .ref au, .int kn, .long vP, .long vQ, .long vS, .long vT, .long vB, .long vM, .long vH, .ref ao, .ref ax, .int (nI np), .ref ay, .int (nI nl), .ref ad, .ref al, .int (nI sn), .ref ag, .int (nI ta), .int nb])), (ag, .inl (kg, 200, .inl gg))]) [0, 4] (by decide) rfl
  have hKc := hK.sub (tys' := [(kg, .int)]) [3] rfl
  have hFc := va_free (wc := [(h0, .inr (7, [.int th, .int (nI nm), .ref ap, .int (nI no), .ref am, .ref aw, .ref az, .ref au, .int kn, .long vP, .long vQ, .long vS, .long vT, .long vB, .long vM, .long vH, .ref ao, .ref ax, .int (nI np), .ref ay, .int (nI nl), .ref ad, .ref al, .int (nI sn), .ref ag, .int (nI ta), .int nb])), (ag, .inl (kg, 200, .inl gg))]) hD hS hA [0, 4] rfl
  refine va_calli (va_runV (As := [.int 32]) (rest := []) ⟨hx, hb, hml, hown, hts⟩ (c_MD_reads l dC dI s.heap.size h0 th nm ap no am aw az au kn vP vQ vS vT vB vM vH ao ax np ay nl ad al sn ag ta nb kg gg 32 (by first | assumption | omega | decide) (by first | assumption | omega | decide)) (cwV 1 hts (xgV wm_912 wm_914 wm_24 wm_34 wm_915) rfl rfl rfl (by decide +kernel) ⟨Nat.le_of_ble_eq_true rfl, Nat.le_of_ble_eq_true rfl⟩) ⟨xw_blind, va_recv hKc hPc (ci := 7) (q0 := 0) rfl rfl, fun U hU hW => ⟨rfl, by rw [hU], hz.warm hW, by rw [hU]; exact hPc, va_K.moved hW.alike hKc, hDc.weaken (fun _ _ _ _ => trivial)⟩⟩ rfl rfl hl.1 rfl (lv_room (Nat.le_of_ble_eq_true rfl)) d_MD_readsRow_3 ⟨Nat.le_of_ble_eq_true rfl, Nat.le_of_ble_eq_true rfl⟩) hS (fun q _ h => hFc q h) hFc (fun r_1 _ t H1 locs ht hvm hw_2 hB hz1 hk1 hS => ?_)
  obtain ⟨hP1, hK1, hD1⟩ := hB
  rw [ht] at hP1
  have hK1 := va_K.moved hvm.symm hK1
  obtain ⟨hP, hD⟩ := va_join (wr := [(am, .inl (km, 20, .inl gm)), (aw, .inl (kw, 60, .inl gw)), (au, .inl (ku, 20, .inl gu))]) (w1 := [(h0, .inr (7, [.int th, .int (nI nm), .ref ap, .int (nI no), .ref am, .ref aw, .ref az, .ref au, .int kn, .long vP, .long vQ, .long vS, .long vT, .long vB, .long vM, .long vH, .ref ao, .ref ax, .int (nI np), .ref ay, .int (nI nl), .ref ad, .ref al, .int (nI sn), .ref ag, .int (nI (md_np gg sn ta + 1)), .int (md_nv gg sn ta)])), (ag, .inl (kg, 200, .inl gg))]) hP hD [0, 4] [1, 2, 3] rfl rfl (by decide) (by decide) hk1 hFc hP1 hD1
  generalize H1 = H at hP hS ⊢
  have hP : va_P (dC, dI) xCl [(am, .inl (km, 20, .inl gm)), (aw, .inl (kw, 60, .inl gw)), (au, .inl (ku, 20, .inl gu)), (h0, .inr (7, [.int th, .int (nI nm), .ref ap, .int (nI no), .ref am, .ref aw, .ref az, .ref au, .int kn, .long vP, .long vQ, .long vS, .long vT, .long vB, .long vM, .long vH, .ref ao, .ref ax, .int (nI np), .ref ay, .int (nI nl), .ref ad, .ref al, .int (nI sn), .ref ag, .int (nI (md_np gg sn ta + 1)), .int (md_nv gg sn ta)])), (ag, .inl (kg, 200, .inl gg))] H := hP
  have hD : va_D A [(am, .inl (km, 20, .inl gm)), (aw, .inl (kw, 60, .inl gw)), (au, .inl (ku, 20, .inl gu)), (h0, .inr (7, [.int th, .int (nI nm), .ref ap, .int (nI no), .ref am, .ref aw, .ref az, .ref au, .int kn, .long vP, .long vQ, .long vS, .long vT, .long vB, .long vM, .long vH, .ref ao, .ref ax, .int (nI np), .ref ay, .int (nI nl), .ref ad, .ref al, .int (nI sn), .ref ag, .int (nI (md_np gg sn ta + 1)), .int (md_nv gg sn ta)])), (ag, .inl (kg, 200, .inl gg))] := hD
  subst hw_2
  refine lv_if_eq (tgt := 36) hx hb d_MD_readsRow_6 (by decide) (fun c_3 => ?_) (fun c_3 => ?_)
  · exact absurd hg.1.1.1.1 (bI_f rfl c_3)
  · have b_4 := bI_t (rfl : bI (md_rs gg sn ta 32) = _) c_3
    refine lv_aload_n hx hb d_MD_readsRow_9 rfl (lv_at hl 0 rfl) ?_
    refine va_get (D := (dC, dI)) (ci := 7) (v := .int (md_nv gg sn ta)) (C := xR_MD) (T := xT_MD) (N := 27) hx hb hts (fun w h => List.mem_cons_of_mem _ (iw_MD w h)) hown hK hP 3 rfl rfl 26 (by decide) (hts _ (List.mem_cons_of_mem _ wm_723)) (fun _ h9 => h9) rfl d_MD_readsRow_10 ?_
    refine lv_iconst (v := 0) hx hb d_MD_readsRow_13 (by decide) ?_
    refine lv_aload_n hx hb d_MD_readsRow_14 rfl (lv_at hl 0 rfl) ?_
    refine va_get (D := (dC, dI)) (ci := 7) (v := .int (nI nm)) (C := xR_MD) (T := xT_MD) (N := 27) hx hb hts (fun w h => List.mem_cons_of_mem _ (iw_MD w h)) hown hK hP 3 rfl rfl 1 (by decide) (hts _ (List.mem_cons_of_mem _ wm_698)) (fun _ h9 => h9) rfl d_MD_readsRow_15 ?_
    refine lv_iconst (v := 1) hx hb d_MD_readsRow_18 (by decide) ?_
    refine lv_isub hx hb d_MD_readsRow_19 ?_
    refine xr_calli (va_runS (As := [.int (md_nv gg sn ta), .int 0, .int ((nI nm) - 1)]) (rest := []) ⟨hx, hb, hml, hown, hts⟩ (c_MD_within l dC dI (md_nv gg sn ta) 0 ((nI nm) - 1)) (va_cwS 3 hts (xgS wm_790 wm_791 wm_34 wm_792) rfl rfl rfl (by decide +kernel) ⟨Nat.le_of_ble_eq_true rfl, Nat.le_of_ble_eq_true rfl⟩) ⟨xp_blind, fun U hU hW => ⟨rfl, hz.warm hW, by rw [hU]; exact hP.sub [] rfl, va_K.moved hW.alike (hK.sub [] rfl)⟩⟩ rfl rfl hl.1 rfl (lv_room (Nat.le_of_ble_eq_true rfl)) d_MD_readsRow_20 ⟨Nat.le_of_ble_eq_true rfl, Nat.le_of_ble_eq_true rfl⟩) (fun r_5 h_6 => ?_)
    subst h_6
    refine lv_if_eq (tgt := 36) hx hb d_MD_readsRow_23 (by decide) (fun c_7 => ?_) (fun c_7 => ?_)
    · exact absurd hg.1.1.1.2.1 (bI_f rfl c_7)
    · have b_8 := bI_t (rfl : bI (md_win (md_nv gg sn ta) 0 ((nI nm) - 1)) = _) c_7
      refine lv_iload_n hx hb d_MD_readsRow_26 rfl (lv_at hl 1 rfl) ?_
      refine lv_bipush (v := 20) hx hb d_MD_readsRow_27 (by decide) ?_
      refine lv_icmp_ge (tgt := 36) hx hb d_MD_readsRow_29 (by decide) (fun c_9 => ?_) (fun c_9 => ?_)
      · exact absurd c_9 (by decide)
      · refine lv_iconst (v := 1) hx hb d_MD_readsRow_32 (by decide) ?_
        refine lv_goto (tgt := 37) hx hb d_MD_readsRow_33 (by decide) ?_
        refine lv_istore_n (lv' := [(3, .int 1), (0, .ref h0), (1, .int 0), (2, .int 1)]) hx hb d_MD_readsRow_37 rfl hl (by decide) rfl (fun ls hl => ?_)
        refine lv_aload_n hx hb d_MD_readsRow_38 rfl (lv_at hl 1 rfl) ?_
        refine va_get (D := (dC, dI)) (ci := 7) (v := .int (md_nv gg sn ta)) (C := xR_MD) (T := xT_MD) (N := 27) hx hb hts (fun w h => List.mem_cons_of_mem _ (iw_MD w h)) hown hK hP 3 rfl rfl 26 (by decide) (hts _ (List.mem_cons_of_mem _ wm_723)) (fun _ h9 => h9) rfl d_MD_readsRow_39 ?_
        refine lv_istore (lv' := [(4, .int (md_nv gg sn ta)), (3, .int 1), (0, .ref h0), (1, .int 0), (2, .int 1)]) hx hb d_MD_readsRow_42 hl (by decide) rfl (fun ls hl => ?_)
        refine lv_iload_n hx hb d_MD_readsRow_44 rfl (lv_at hl 1 rfl) ?_
        refine lv_if_eq (tgt := 77) hx hb d_MD_readsRow_45 (by decide) (fun c_10 => ?_) (fun c_10 => ?_)
        · exact absurd c_10 (by decide)
        · refine lv_aload_n hx hb d_MD_readsRow_48 rfl (lv_at hl 2 rfl) ?_
          refine lv_bipush (v := 32) hx hb d_MD_readsRow_49 (by decide) ?_
          have hPc := hP.sub (ws' := [(h0, .inr (7, [.int th, .int (nI nm), .ref ap, .int (nI no), .ref am, .ref aw, .ref az, .ref au, .int kn, .long vP, .long vQ, .long vS, .long vT, .long vB, .long vM, .long vH, .ref ao, .ref ax, .int (nI np), .ref ay, .int (nI nl), .ref ad, .ref al, .int (nI sn), .ref ag, .int (nI (md_np gg sn ta + 1)), .int (md_nv gg sn ta)])), (ag, .inl (kg, 200, .inl gg))]) [3, 4] rfl
          have hDc := hD.sub (ws' := [(h0, .inr (7, [.int th, .int (nI nm), .ref ap, .int (nI no), .ref am, .ref aw, .ref az, .ref au, .int kn, .long vP, .long vQ, .long vS, .long vT, .long vB, .long vM, .long vH, .ref ao, .ref ax, .int (nI np), .ref ay, .int (nI nl), .ref ad, .ref al, .int (nI sn), .ref ag, .int (nI (md_np gg sn ta + 1)), .int (md_nv gg sn ta)])), (ag, .inl (kg, 200, .inl gg))]) [3, 4] (by decide) rfl
          have hKc := hK.sub (tys' := [(kg, .int)]) [3] rfl
          have hFc := va_free (wc := [(h0, .inr (7, [.int th, .int (nI nm), .ref ap, .int (nI no), .ref am, .ref aw, .ref az, .ref au, .int kn, .long vP, .long vQ, .long vS, .long vT, .long vB, .long vM, .long vH, .ref ao, .ref ax, .int (nI np), .ref ay, .int (nI nl), .ref ad, .ref al, .int (nI sn), .ref ag, .int (nI (md_np gg sn ta + 1)), .int (md_nv gg sn ta)])), (ag, .inl (kg, 200, .inl gg))]) hD hS hA [3, 4] rfl
          refine va_calli (va_runV (As := [.int 32]) (rest := []) ⟨hx, hb, hml, hown, hts⟩ (c_MD_reads l dC dI H.size h0 th nm ap no am aw az au kn vP vQ vS vT vB vM vH ao ax np ay nl ad al sn ag (md_np gg sn ta + 1) (md_nv gg sn ta) kg gg 32 hle (md_t_le hle hg.1.1.1.1)) (cwV 1 hts (xgV wm_912 wm_914 wm_24 wm_34 wm_915) rfl rfl rfl (by decide +kernel) ⟨Nat.le_of_ble_eq_true rfl, Nat.le_of_ble_eq_true rfl⟩) ⟨xw_blind, va_recv hKc hPc (ci := 7) (q0 := 0) rfl rfl, fun U hU hW => ⟨rfl, by rw [hU], hz.warm hW, by rw [hU]; exact hPc, va_K.moved hW.alike hKc, hDc.weaken (fun _ _ _ _ => trivial)⟩⟩ rfl rfl hl.1 rfl (lv_room (Nat.le_of_ble_eq_true rfl)) d_MD_readsRow_51 ⟨Nat.le_of_ble_eq_true rfl, Nat.le_of_ble_eq_true rfl⟩) hS (fun q _ h => hFc q h) hFc (fun r_11 _ t H1 locs ht hvm hw_12 hB hz1 hk1 hS => ?_)
          obtain ⟨hP1, hK1, hD1⟩ := hB
          rw [ht] at hP1
          have hK1 := va_K.moved hvm.symm hK1
          obtain ⟨hP, hD⟩ := va_join (wr := [(am, .inl (km, 20, .inl gm)), (aw, .inl (kw, 60, .inl gw)), (au, .inl (ku, 20, .inl gu))]) (w1 := [(h0, .inr (7, [.int th, .int (nI nm), .ref ap, .int (nI no), .ref am, .ref aw, .ref az, .ref au, .int kn, .long vP, .long vQ, .long vS, .long vT, .long vB, .long vM, .long vH, .ref ao, .ref ax, .int (nI np), .ref ay, .int (nI nl), .ref ad, .ref al, .int (nI sn), .ref ag, .int (nI (md_np gg sn (md_np gg sn ta + 1) + 1)), .int (md_nv gg sn (md_np gg sn ta + 1))])), (ag, .inl (kg, 200, .inl gg))]) hP hD [3, 4] [0, 1, 2] rfl rfl (by decide) (by decide) hk1 hFc hP1 hD1
          generalize H1 = H at hP hS ⊢
          have hP : va_P (dC, dI) xCl [(am, .inl (km, 20, .inl gm)), (aw, .inl (kw, 60, .inl gw)), (au, .inl (ku, 20, .inl gu)), (h0, .inr (7, [.int th, .int (nI nm), .ref ap, .int (nI no), .ref am, .ref aw, .ref az, .ref au, .int kn, .long vP, .long vQ, .long vS, .long vT, .long vB, .long vM, .long vH, .ref ao, .ref ax, .int (nI np), .ref ay, .int (nI nl), .ref ad, .ref al, .int (nI sn), .ref ag, .int (nI (md_np gg sn (md_np gg sn ta + 1) + 1)), .int (md_nv gg sn (md_np gg sn ta + 1))])), (ag, .inl (kg, 200, .inl gg))] H := hP
          have hD : va_D A [(am, .inl (km, 20, .inl gm)), (aw, .inl (kw, 60, .inl gw)), (au, .inl (ku, 20, .inl gu)), (h0, .inr (7, [.int th, .int (nI nm), .ref ap, .int (nI no), .ref am, .ref aw, .ref az, .ref au, .int kn, .long vP, .long vQ, .long vS, .long vT, .long vB, .long vM, .long vH, .ref ao, .ref ax, .int (nI np), .ref ay, .int (nI nl), .ref ad, .ref al, .int (nI sn), .ref ag, .int (nI (md_np gg sn (md_np gg sn ta + 1) + 1)), .int (md_nv gg sn (md_np gg sn ta + 1))])), (ag, .inl (kg, 200, .inl gg))] := hD
          subst hw_12
          refine lv_if_eq (tgt := 77) hx hb d_MD_readsRow_54 (by decide) (fun c_13 => ?_) (fun c_13 => ?_)
          · exact absurd hg.1.1.2.1 (bI_f rfl c_13)
          · have b_14 := bI_t (rfl : bI (md_rs gg sn (md_np gg sn ta + 1) 32) = _) c_13
            refine lv_aload_n hx hb d_MD_readsRow_57 rfl (lv_at hl 2 rfl) ?_
            refine va_get (D := (dC, dI)) (ci := 7) (v := .int (md_nv gg sn (md_np gg sn ta + 1))) (C := xR_MD) (T := xT_MD) (N := 27) hx hb hts (fun w h => List.mem_cons_of_mem _ (iw_MD w h)) hown hK hP 3 rfl rfl 26 (by decide) (hts _ (List.mem_cons_of_mem _ wm_723)) (fun _ h9 => h9) rfl d_MD_readsRow_58 ?_
            refine lv_sipush (v := (-10000)) hx hb d_MD_readsRow_61 (by decide) ?_
            refine lv_sipush (v := 10000) hx hb d_MD_readsRow_64 (by decide) ?_
            refine xr_calli (va_runS (As := [.int (md_nv gg sn (md_np gg sn ta + 1)), .int (-10000), .int 10000]) (rest := []) ⟨hx, hb, hml, hown, hts⟩ (c_MD_within l dC dI (md_nv gg sn (md_np gg sn ta + 1)) (-10000) 10000) (va_cwS 3 hts (xgS wm_790 wm_791 wm_34 wm_792) rfl rfl rfl (by decide +kernel) ⟨Nat.le_of_ble_eq_true rfl, Nat.le_of_ble_eq_true rfl⟩) ⟨xp_blind, fun U hU hW => ⟨rfl, hz.warm hW, by rw [hU]; exact hP.sub [] rfl, va_K.moved hW.alike (hK.sub [] rfl)⟩⟩ rfl rfl hl.1 rfl (lv_room (Nat.le_of_ble_eq_true rfl)) d_MD_readsRow_67 ⟨Nat.le_of_ble_eq_true rfl, Nat.le_of_ble_eq_true rfl⟩) (fun r_15 h_16 => ?_)
            subst h_16
            refine lv_if_eq (tgt := 77) hx hb d_MD_readsRow_70 (by decide) (fun c_17 => ?_) (fun c_17 => ?_)
            · exact absurd hg.1.1.2.2 (bI_f rfl c_17)
            · have b_18 := bI_t (rfl : bI (md_win (md_nv gg sn (md_np gg sn ta + 1)) (-10000) 10000) = _) c_17
              refine lv_iconst (v := 1) hx hb d_MD_readsRow_73 (by decide) ?_
              refine lv_goto (tgt := 78) hx hb d_MD_readsRow_74 (by decide) ?_
              refine lv_istore_n (lv' := [(3, .int 1), (4, .int (md_nv gg sn ta)), (0, .ref h0), (1, .int 0), (2, .int 1)]) hx hb d_MD_readsRow_78 rfl hl (by decide) rfl (fun ls hl => ?_)
              refine lv_aload_n hx hb d_MD_readsRow_79 rfl (lv_at hl 2 rfl) ?_
              refine va_get (D := (dC, dI)) (ci := 7) (v := .int (md_nv gg sn (md_np gg sn ta + 1))) (C := xR_MD) (T := xT_MD) (N := 27) hx hb hts (fun w h => List.mem_cons_of_mem _ (iw_MD w h)) hown hK hP 3 rfl rfl 26 (by decide) (hts _ (List.mem_cons_of_mem _ wm_723)) (fun _ h9 => h9) rfl d_MD_readsRow_80 ?_
              refine lv_istore (lv' := [(5, .int (md_nv gg sn (md_np gg sn ta + 1))), (3, .int 1), (4, .int (md_nv gg sn ta)), (0, .ref h0), (1, .int 0), (2, .int 1)]) hx hb d_MD_readsRow_83 hl (by decide) rfl (fun ls hl => ?_)
              refine lv_iload_n hx hb d_MD_readsRow_85 rfl (lv_at hl 1 rfl) ?_
              refine lv_if_eq (tgt := 118) hx hb d_MD_readsRow_86 (by decide) (fun c_19 => ?_) (fun c_19 => ?_)
              · exact absurd c_19 (by decide)
              · refine lv_aload_n hx hb d_MD_readsRow_89 rfl (lv_at hl 3 rfl) ?_
                refine lv_bipush (v := 32) hx hb d_MD_readsRow_90 (by decide) ?_
                have hPc := hP.sub (ws' := [(h0, .inr (7, [.int th, .int (nI nm), .ref ap, .int (nI no), .ref am, .ref aw, .ref az, .ref au, .int kn, .long vP, .long vQ, .long vS, .long vT, .long vB, .long vM, .long vH, .ref ao, .ref ax, .int (nI np), .ref ay, .int (nI nl), .ref ad, .ref al, .int (nI sn), .ref ag, .int (nI (md_np gg sn (md_np gg sn ta + 1) + 1)), .int (md_nv gg sn (md_np gg sn ta + 1))])), (ag, .inl (kg, 200, .inl gg))]) [3, 4] rfl
                have hDc := hD.sub (ws' := [(h0, .inr (7, [.int th, .int (nI nm), .ref ap, .int (nI no), .ref am, .ref aw, .ref az, .ref au, .int kn, .long vP, .long vQ, .long vS, .long vT, .long vB, .long vM, .long vH, .ref ao, .ref ax, .int (nI np), .ref ay, .int (nI nl), .ref ad, .ref al, .int (nI sn), .ref ag, .int (nI (md_np gg sn (md_np gg sn ta + 1) + 1)), .int (md_nv gg sn (md_np gg sn ta + 1))])), (ag, .inl (kg, 200, .inl gg))]) [3, 4] (by decide) rfl
                have hKc := hK.sub (tys' := [(kg, .int)]) [3] rfl
                have hFc := va_free (wc := [(h0, .inr (7, [.int th, .int (nI nm), .ref ap, .int (nI no), .ref am, .ref aw, .ref az, .ref au, .int kn, .long vP, .long vQ, .long vS, .long vT, .long vB, .long vM, .long vH, .ref ao, .ref ax, .int (nI np), .ref ay, .int (nI nl), .ref ad, .ref al, .int (nI sn), .ref ag, .int (nI (md_np gg sn (md_np gg sn ta + 1) + 1)), .int (md_nv gg sn (md_np gg sn ta + 1))])), (ag, .inl (kg, 200, .inl gg))]) hD hS hA [3, 4] rfl
                refine va_calli (va_runV (As := [.int 32]) (rest := []) ⟨hx, hb, hml, hown, hts⟩ (c_MD_reads l dC dI H.size h0 th nm ap no am aw az au kn vP vQ vS vT vB vM vH ao ax np ay nl ad al sn ag (md_np gg sn (md_np gg sn ta + 1) + 1) (md_nv gg sn (md_np gg sn ta + 1)) kg gg 32 hle (md_t_le hle hg.1.1.2.1)) (cwV 1 hts (xgV wm_912 wm_914 wm_24 wm_34 wm_915) rfl rfl rfl (by decide +kernel) ⟨Nat.le_of_ble_eq_true rfl, Nat.le_of_ble_eq_true rfl⟩) ⟨xw_blind, va_recv hKc hPc (ci := 7) (q0 := 0) rfl rfl, fun U hU hW => ⟨rfl, by rw [hU], hz.warm hW, by rw [hU]; exact hPc, va_K.moved hW.alike hKc, hDc.weaken (fun _ _ _ _ => trivial)⟩⟩ rfl rfl hl.1 rfl (lv_room (Nat.le_of_ble_eq_true rfl)) d_MD_readsRow_92 ⟨Nat.le_of_ble_eq_true rfl, Nat.le_of_ble_eq_true rfl⟩) hS (fun q _ h => hFc q h) hFc (fun r_20 _ t H1 locs ht hvm hw_21 hB hz1 hk1 hS => ?_)
                obtain ⟨hP1, hK1, hD1⟩ := hB
                rw [ht] at hP1
                have hK1 := va_K.moved hvm.symm hK1
                obtain ⟨hP, hD⟩ := va_join (wr := [(am, .inl (km, 20, .inl gm)), (aw, .inl (kw, 60, .inl gw)), (au, .inl (ku, 20, .inl gu))]) (w1 := [(h0, .inr (7, [.int th, .int (nI nm), .ref ap, .int (nI no), .ref am, .ref aw, .ref az, .ref au, .int kn, .long vP, .long vQ, .long vS, .long vT, .long vB, .long vM, .long vH, .ref ao, .ref ax, .int (nI np), .ref ay, .int (nI nl), .ref ad, .ref al, .int (nI sn), .ref ag, .int (nI (md_np gg sn (md_np gg sn (md_np gg sn ta + 1) + 1) + 1)), .int (md_nv gg sn (md_np gg sn (md_np gg sn ta + 1) + 1))])), (ag, .inl (kg, 200, .inl gg))]) hP hD [3, 4] [0, 1, 2] rfl rfl (by decide) (by decide) hk1 hFc hP1 hD1
                generalize H1 = H at hP hS ⊢
                have hP : va_P (dC, dI) xCl [(am, .inl (km, 20, .inl gm)), (aw, .inl (kw, 60, .inl gw)), (au, .inl (ku, 20, .inl gu)), (h0, .inr (7, [.int th, .int (nI nm), .ref ap, .int (nI no), .ref am, .ref aw, .ref az, .ref au, .int kn, .long vP, .long vQ, .long vS, .long vT, .long vB, .long vM, .long vH, .ref ao, .ref ax, .int (nI np), .ref ay, .int (nI nl), .ref ad, .ref al, .int (nI sn), .ref ag, .int (nI (md_np gg sn (md_np gg sn (md_np gg sn ta + 1) + 1) + 1)), .int (md_nv gg sn (md_np gg sn (md_np gg sn ta + 1) + 1))])), (ag, .inl (kg, 200, .inl gg))] H := hP
                have hD : va_D A [(am, .inl (km, 20, .inl gm)), (aw, .inl (kw, 60, .inl gw)), (au, .inl (ku, 20, .inl gu)), (h0, .inr (7, [.int th, .int (nI nm), .ref ap, .int (nI no), .ref am, .ref aw, .ref az, .ref au, .int kn, .long vP, .long vQ, .long vS, .long vT, .long vB, .long vM, .long vH, .ref ao, .ref ax, .int (nI np), .ref ay, .int (nI nl), .ref ad, .ref al, .int (nI sn), .ref ag, .int (nI (md_np gg sn (md_np gg sn (md_np gg sn ta + 1) + 1) + 1)), .int (md_nv gg sn (md_np gg sn (md_np gg sn ta + 1) + 1))])), (ag, .inl (kg, 200, .inl gg))] := hD
                subst hw_21
                refine lv_if_eq (tgt := 118) hx hb d_MD_readsRow_95 (by decide) (fun c_22 => ?_) (fun c_22 => ?_)
                · exact absurd hg.1.2.1 (bI_f rfl c_22)
                · have b_23 := bI_t (rfl : bI (md_rs gg sn (md_np gg sn (md_np gg sn ta + 1) + 1) 32) = _) c_22
                  refine lv_aload_n hx hb d_MD_readsRow_98 rfl (lv_at hl 3 rfl) ?_
                  refine va_get (D := (dC, dI)) (ci := 7) (v := .int (md_nv gg sn (md_np gg sn (md_np gg sn ta + 1) + 1))) (C := xR_MD) (T := xT_MD) (N := 27) hx hb hts (fun w h => List.mem_cons_of_mem _ (iw_MD w h)) hown hK hP 3 rfl rfl 26 (by decide) (hts _ (List.mem_cons_of_mem _ wm_723)) (fun _ h9 => h9) rfl d_MD_readsRow_99 ?_
                  refine lv_sipush (v := (-10000)) hx hb d_MD_readsRow_102 (by decide) ?_
                  refine lv_sipush (v := 10000) hx hb d_MD_readsRow_105 (by decide) ?_
                  refine xr_calli (va_runS (As := [.int (md_nv gg sn (md_np gg sn (md_np gg sn ta + 1) + 1)), .int (-10000), .int 10000]) (rest := []) ⟨hx, hb, hml, hown, hts⟩ (c_MD_within l dC dI (md_nv gg sn (md_np gg sn (md_np gg sn ta + 1) + 1)) (-10000) 10000) (va_cwS 3 hts (xgS wm_790 wm_791 wm_34 wm_792) rfl rfl rfl (by decide +kernel) ⟨Nat.le_of_ble_eq_true rfl, Nat.le_of_ble_eq_true rfl⟩) ⟨xp_blind, fun U hU hW => ⟨rfl, hz.warm hW, by rw [hU]; exact hP.sub [] rfl, va_K.moved hW.alike (hK.sub [] rfl)⟩⟩ rfl rfl hl.1 rfl (lv_room (Nat.le_of_ble_eq_true rfl)) d_MD_readsRow_108 ⟨Nat.le_of_ble_eq_true rfl, Nat.le_of_ble_eq_true rfl⟩) (fun r_24 h_25 => ?_)
                  subst h_25
                  refine lv_if_eq (tgt := 118) hx hb d_MD_readsRow_111 (by decide) (fun c_26 => ?_) (fun c_26 => ?_)
                  · exact absurd hg.1.2.2 (bI_f rfl c_26)
                  · have b_27 := bI_t (rfl : bI (md_win (md_nv gg sn (md_np gg sn (md_np gg sn ta + 1) + 1)) (-10000) 10000) = _) c_26
                    refine lv_iconst (v := 1) hx hb d_MD_readsRow_114 (by decide) ?_
                    refine lv_goto (tgt := 119) hx hb d_MD_readsRow_115 (by decide) ?_
                    refine lv_istore_n (lv' := [(3, .int 1), (5, .int (md_nv gg sn (md_np gg sn ta + 1))), (4, .int (md_nv gg sn ta)), (0, .ref h0), (1, .int 0), (2, .int 1)]) hx hb d_MD_readsRow_119 rfl hl (by decide) rfl (fun ls hl => ?_)
                    refine lv_aload_n hx hb d_MD_readsRow_120 rfl (lv_at hl 3 rfl) ?_
                    refine va_get (D := (dC, dI)) (ci := 7) (v := .int (md_nv gg sn (md_np gg sn (md_np gg sn ta + 1) + 1))) (C := xR_MD) (T := xT_MD) (N := 27) hx hb hts (fun w h => List.mem_cons_of_mem _ (iw_MD w h)) hown hK hP 3 rfl rfl 26 (by decide) (hts _ (List.mem_cons_of_mem _ wm_723)) (fun _ h9 => h9) rfl d_MD_readsRow_121 ?_
                    refine lv_istore (lv' := [(6, .int (md_nv gg sn (md_np gg sn (md_np gg sn ta + 1) + 1))), (3, .int 1), (5, .int (md_nv gg sn (md_np gg sn ta + 1))), (4, .int (md_nv gg sn ta)), (0, .ref h0), (1, .int 0), (2, .int 1)]) hx hb d_MD_readsRow_124 hl (by decide) rfl (fun ls hl => ?_)
                    refine lv_iload_n hx hb d_MD_readsRow_126 rfl (lv_at hl 1 rfl) ?_
                    refine lv_if_eq (tgt := 159) hx hb d_MD_readsRow_127 (by decide) (fun c_28 => ?_) (fun c_28 => ?_)
                    · exact absurd c_28 (by decide)
                    · refine lv_aload_n hx hb d_MD_readsRow_130 rfl (lv_at hl 4 rfl) ?_
                      refine lv_bipush (v := 59) hx hb d_MD_readsRow_131 (by decide) ?_
                      have hPc := hP.sub (ws' := [(h0, .inr (7, [.int th, .int (nI nm), .ref ap, .int (nI no), .ref am, .ref aw, .ref az, .ref au, .int kn, .long vP, .long vQ, .long vS, .long vT, .long vB, .long vM, .long vH, .ref ao, .ref ax, .int (nI np), .ref ay, .int (nI nl), .ref ad, .ref al, .int (nI sn), .ref ag, .int (nI (md_np gg sn (md_np gg sn (md_np gg sn ta + 1) + 1) + 1)), .int (md_nv gg sn (md_np gg sn (md_np gg sn ta + 1) + 1))])), (ag, .inl (kg, 200, .inl gg))]) [3, 4] rfl
                      have hDc := hD.sub (ws' := [(h0, .inr (7, [.int th, .int (nI nm), .ref ap, .int (nI no), .ref am, .ref aw, .ref az, .ref au, .int kn, .long vP, .long vQ, .long vS, .long vT, .long vB, .long vM, .long vH, .ref ao, .ref ax, .int (nI np), .ref ay, .int (nI nl), .ref ad, .ref al, .int (nI sn), .ref ag, .int (nI (md_np gg sn (md_np gg sn (md_np gg sn ta + 1) + 1) + 1)), .int (md_nv gg sn (md_np gg sn (md_np gg sn ta + 1) + 1))])), (ag, .inl (kg, 200, .inl gg))]) [3, 4] (by decide) rfl
                      have hKc := hK.sub (tys' := [(kg, .int)]) [3] rfl
                      have hFc := va_free (wc := [(h0, .inr (7, [.int th, .int (nI nm), .ref ap, .int (nI no), .ref am, .ref aw, .ref az, .ref au, .int kn, .long vP, .long vQ, .long vS, .long vT, .long vB, .long vM, .long vH, .ref ao, .ref ax, .int (nI np), .ref ay, .int (nI nl), .ref ad, .ref al, .int (nI sn), .ref ag, .int (nI (md_np gg sn (md_np gg sn (md_np gg sn ta + 1) + 1) + 1)), .int (md_nv gg sn (md_np gg sn (md_np gg sn ta + 1) + 1))])), (ag, .inl (kg, 200, .inl gg))]) hD hS hA [3, 4] rfl
                      refine va_calli (va_runV (As := [.int 59]) (rest := []) ⟨hx, hb, hml, hown, hts⟩ (c_MD_reads l dC dI H.size h0 th nm ap no am aw az au kn vP vQ vS vT vB vM vH ao ax np ay nl ad al sn ag (md_np gg sn (md_np gg sn (md_np gg sn ta + 1) + 1) + 1) (md_nv gg sn (md_np gg sn (md_np gg sn ta + 1) + 1)) kg gg 59 hle (md_t_le hle hg.1.2.1)) (cwV 1 hts (xgV wm_912 wm_914 wm_24 wm_34 wm_915) rfl rfl rfl (by decide +kernel) ⟨Nat.le_of_ble_eq_true rfl, Nat.le_of_ble_eq_true rfl⟩) ⟨xw_blind, va_recv hKc hPc (ci := 7) (q0 := 0) rfl rfl, fun U hU hW => ⟨rfl, by rw [hU], hz.warm hW, by rw [hU]; exact hPc, va_K.moved hW.alike hKc, hDc.weaken (fun _ _ _ _ => trivial)⟩⟩ rfl rfl hl.1 rfl (lv_room (Nat.le_of_ble_eq_true rfl)) d_MD_readsRow_133 ⟨Nat.le_of_ble_eq_true rfl, Nat.le_of_ble_eq_true rfl⟩) hS (fun q _ h => hFc q h) hFc (fun r_29 _ t H1 locs ht hvm hw_30 hB hz1 hk1 hS => ?_)
                      obtain ⟨hP1, hK1, hD1⟩ := hB
                      rw [ht] at hP1
                      have hK1 := va_K.moved hvm.symm hK1
                      obtain ⟨hP, hD⟩ := va_join (wr := [(am, .inl (km, 20, .inl gm)), (aw, .inl (kw, 60, .inl gw)), (au, .inl (ku, 20, .inl gu))]) (w1 := [(h0, .inr (7, [.int th, .int (nI nm), .ref ap, .int (nI no), .ref am, .ref aw, .ref az, .ref au, .int kn, .long vP, .long vQ, .long vS, .long vT, .long vB, .long vM, .long vH, .ref ao, .ref ax, .int (nI np), .ref ay, .int (nI nl), .ref ad, .ref al, .int (nI sn), .ref ag, .int (nI (md_np gg sn (md_np gg sn (md_np gg sn (md_np gg sn ta + 1) + 1) + 1) + 1)), .int (md_nv gg sn (md_np gg sn (md_np gg sn (md_np gg sn ta + 1) + 1) + 1))])), (ag, .inl (kg, 200, .inl gg))]) hP hD [3, 4] [0, 1, 2] rfl rfl (by decide) (by decide) hk1 hFc hP1 hD1
                      generalize H1 = H at hP hS ⊢
                      have hP : va_P (dC, dI) xCl [(am, .inl (km, 20, .inl gm)), (aw, .inl (kw, 60, .inl gw)), (au, .inl (ku, 20, .inl gu)), (h0, .inr (7, [.int th, .int (nI nm), .ref ap, .int (nI no), .ref am, .ref aw, .ref az, .ref au, .int kn, .long vP, .long vQ, .long vS, .long vT, .long vB, .long vM, .long vH, .ref ao, .ref ax, .int (nI np), .ref ay, .int (nI nl), .ref ad, .ref al, .int (nI sn), .ref ag, .int (nI (md_np gg sn (md_np gg sn (md_np gg sn (md_np gg sn ta + 1) + 1) + 1) + 1)), .int (md_nv gg sn (md_np gg sn (md_np gg sn (md_np gg sn ta + 1) + 1) + 1))])), (ag, .inl (kg, 200, .inl gg))] H := hP
                      have hD : va_D A [(am, .inl (km, 20, .inl gm)), (aw, .inl (kw, 60, .inl gw)), (au, .inl (ku, 20, .inl gu)), (h0, .inr (7, [.int th, .int (nI nm), .ref ap, .int (nI no), .ref am, .ref aw, .ref az, .ref au, .int kn, .long vP, .long vQ, .long vS, .long vT, .long vB, .long vM, .long vH, .ref ao, .ref ax, .int (nI np), .ref ay, .int (nI nl), .ref ad, .ref al, .int (nI sn), .ref ag, .int (nI (md_np gg sn (md_np gg sn (md_np gg sn (md_np gg sn ta + 1) + 1) + 1) + 1)), .int (md_nv gg sn (md_np gg sn (md_np gg sn (md_np gg sn ta + 1) + 1) + 1))])), (ag, .inl (kg, 200, .inl gg))] := hD
                      subst hw_30
                      refine lv_if_eq (tgt := 159) hx hb d_MD_readsRow_136 (by decide) (fun c_31 => ?_) (fun c_31 => ?_)
                      · exact absurd hg.2.1 (bI_f rfl c_31)
                      · have b_32 := bI_t (rfl : bI (md_rs gg sn (md_np gg sn (md_np gg sn (md_np gg sn ta + 1) + 1) + 1) 59) = _) c_31
                        refine lv_aload_n hx hb d_MD_readsRow_139 rfl (lv_at hl 4 rfl) ?_
                        refine va_get (D := (dC, dI)) (ci := 7) (v := .int (md_nv gg sn (md_np gg sn (md_np gg sn (md_np gg sn ta + 1) + 1) + 1))) (C := xR_MD) (T := xT_MD) (N := 27) hx hb hts (fun w h => List.mem_cons_of_mem _ (iw_MD w h)) hown hK hP 3 rfl rfl 26 (by decide) (hts _ (List.mem_cons_of_mem _ wm_723)) (fun _ h9 => h9) rfl d_MD_readsRow_140 ?_
                        refine lv_sipush (v := (-10000)) hx hb d_MD_readsRow_143 (by decide) ?_
                        refine lv_sipush (v := 10000) hx hb d_MD_readsRow_146 (by decide) ?_
                        refine xr_calli (va_runS (As := [.int (md_nv gg sn (md_np gg sn (md_np gg sn (md_np gg sn ta + 1) + 1) + 1)), .int (-10000), .int 10000]) (rest := []) ⟨hx, hb, hml, hown, hts⟩ (c_MD_within l dC dI (md_nv gg sn (md_np gg sn (md_np gg sn (md_np gg sn ta + 1) + 1) + 1)) (-10000) 10000) (va_cwS 3 hts (xgS wm_790 wm_791 wm_34 wm_792) rfl rfl rfl (by decide +kernel) ⟨Nat.le_of_ble_eq_true rfl, Nat.le_of_ble_eq_true rfl⟩) ⟨xp_blind, fun U hU hW => ⟨rfl, hz.warm hW, by rw [hU]; exact hP.sub [] rfl, va_K.moved hW.alike (hK.sub [] rfl)⟩⟩ rfl rfl hl.1 rfl (lv_room (Nat.le_of_ble_eq_true rfl)) d_MD_readsRow_149 ⟨Nat.le_of_ble_eq_true rfl, Nat.le_of_ble_eq_true rfl⟩) (fun r_33 h_34 => ?_)
                        subst h_34
                        refine lv_if_eq (tgt := 159) hx hb d_MD_readsRow_152 (by decide) (fun c_35 => ?_) (fun c_35 => ?_)
                        · exact absurd hg.2.2 (bI_f rfl c_35)
                        · have b_36 := bI_t (rfl : bI (md_win (md_nv gg sn (md_np gg sn (md_np gg sn (md_np gg sn ta + 1) + 1) + 1)) (-10000) 10000) = _) c_35
                          refine lv_iconst (v := 1) hx hb d_MD_readsRow_155 (by decide) ?_
                          refine lv_goto (tgt := 160) hx hb d_MD_readsRow_156 (by decide) ?_
                          refine lv_istore_n (lv' := [(3, .int 1), (6, .int (md_nv gg sn (md_np gg sn (md_np gg sn ta + 1) + 1))), (5, .int (md_nv gg sn (md_np gg sn ta + 1))), (4, .int (md_nv gg sn ta)), (0, .ref h0), (1, .int 0), (2, .int 1)]) hx hb d_MD_readsRow_160 rfl hl (by decide) rfl (fun ls hl => ?_)
                          refine lv_iload_n hx hb d_MD_readsRow_161 rfl (lv_at hl 0 rfl) ?_
                          refine lv_if_eq (tgt := 183) hx hb d_MD_readsRow_162 (by decide) (fun c_37 => ?_) (fun c_37 => ?_)
                          · exact absurd c_37 (by decide)
                          · refine lv_iload_n hx hb d_MD_readsRow_165 rfl (lv_at hl 6 rfl) ?_
                            refine lv_if_eq (tgt := 183) hx hb d_MD_readsRow_166 (by decide) (fun c_38 => ?_) (fun c_38 => ?_)
                            · exact absurd c_38 (by decide)
                            · refine lv_aload_n hx hb d_MD_readsRow_169 rfl (lv_at hl 4 rfl) ?_
                              refine lv_iload hx hb d_MD_readsRow_170 (lv_at hl 3 rfl) ?_
                              refine lv_iload hx hb d_MD_readsRow_172 (lv_at hl 2 rfl) ?_
                              refine lv_iload hx hb d_MD_readsRow_174 (lv_at hl 1 rfl) ?_
                              refine lv_aload_n hx hb d_MD_readsRow_176 rfl (lv_at hl 4 rfl) ?_
                              refine va_get (D := (dC, dI)) (ci := 7) (v := .int (md_nv gg sn (md_np gg sn (md_np gg sn (md_np gg sn ta + 1) + 1) + 1))) (C := xR_MD) (T := xT_MD) (N := 27) hx hb hts (fun w h => List.mem_cons_of_mem _ (iw_MD w h)) hown hK hP 3 rfl rfl 26 (by decide) (hts _ (List.mem_cons_of_mem _ wm_723)) (fun _ h9 => h9) rfl d_MD_readsRow_177 ?_
                              have hPc := hP.sub (ws' := [(h0, .inr (7, [.int th, .int (nI nm), .ref ap, .int (nI no), .ref am, .ref aw, .ref az, .ref au, .int kn, .long vP, .long vQ, .long vS, .long vT, .long vB, .long vM, .long vH, .ref ao, .ref ax, .int (nI np), .ref ay, .int (nI nl), .ref ad, .ref al, .int (nI sn), .ref ag, .int (nI (md_np gg sn (md_np gg sn (md_np gg sn (md_np gg sn ta + 1) + 1) + 1) + 1)), .int (md_nv gg sn (md_np gg sn (md_np gg sn (md_np gg sn ta + 1) + 1) + 1))])), (am, .inl (km, 20, .inl gm)), (aw, .inl (kw, 60, .inl gw)), (au, .inl (ku, 20, .inl gu))]) [3, 0, 1, 2] rfl
                              have hDc := hD.sub (ws' := [(h0, .inr (7, [.int th, .int (nI nm), .ref ap, .int (nI no), .ref am, .ref aw, .ref az, .ref au, .int kn, .long vP, .long vQ, .long vS, .long vT, .long vB, .long vM, .long vH, .ref ao, .ref ax, .int (nI np), .ref ay, .int (nI nl), .ref ad, .ref al, .int (nI sn), .ref ag, .int (nI (md_np gg sn (md_np gg sn (md_np gg sn (md_np gg sn ta + 1) + 1) + 1) + 1)), .int (md_nv gg sn (md_np gg sn (md_np gg sn (md_np gg sn ta + 1) + 1) + 1))])), (am, .inl (km, 20, .inl gm)), (aw, .inl (kw, 60, .inl gw)), (au, .inl (ku, 20, .inl gu))]) [3, 0, 1, 2] (by decide) rfl
                              have hKc := hK.sub (tys' := [(km, .int), (kw, .int), (ku, .boolean)]) [0, 1, 2] rfl
                              have hFc := va_free (wc := [(h0, .inr (7, [.int th, .int (nI nm), .ref ap, .int (nI no), .ref am, .ref aw, .ref az, .ref au, .int kn, .long vP, .long vQ, .long vS, .long vT, .long vB, .long vM, .long vH, .ref ao, .ref ax, .int (nI np), .ref ay, .int (nI nl), .ref ad, .ref al, .int (nI sn), .ref ag, .int (nI (md_np gg sn (md_np gg sn (md_np gg sn (md_np gg sn ta + 1) + 1) + 1) + 1)), .int (md_nv gg sn (md_np gg sn (md_np gg sn (md_np gg sn ta + 1) + 1) + 1))])), (am, .inl (km, 20, .inl gm)), (aw, .inl (kw, 60, .inl gw)), (au, .inl (ku, 20, .inl gu))]) hD hS hA [3, 0, 1, 2] rfl
                              refine va_callv (va_runV (As := [.int (md_nv gg sn ta), .int (md_nv gg sn (md_np gg sn ta + 1)), .int (md_nv gg sn (md_np gg sn (md_np gg sn ta + 1) + 1)), .int (md_nv gg sn (md_np gg sn (md_np gg sn (md_np gg sn ta + 1) + 1) + 1))]) (rest := []) ⟨hx, hb, hml, hown, hts⟩ (c_MD_tell l dC dI H.size h0 th nm ap no am aw az au kn vP vQ vS vT vB vM vH ao ax np ay nl ad al sn ag (md_np gg sn (md_np gg sn (md_np gg sn (md_np gg sn ta + 1) + 1) + 1) + 1) (md_nv gg sn (md_np gg sn (md_np gg sn (md_np gg sn ta + 1) + 1) + 1)) km kw ku gm gw gu (md_nv gg sn ta) (md_nv gg sn (md_np gg sn ta + 1)) (md_nv gg sn (md_np gg sn (md_np gg sn ta + 1) + 1)) (md_nv gg sn (md_np gg sn (md_np gg sn (md_np gg sn ta + 1) + 1) + 1)) (by first | assumption | omega | decide)) (cwV 4 hts (xgV wm_801 wm_803 wm_14 wm_34 wm_804) rfl rfl rfl (by decide +kernel) ⟨Nat.le_of_ble_eq_true rfl, Nat.le_of_ble_eq_true rfl⟩) ⟨xw_blind, va_recv hKc hPc (ci := 7) (q0 := 0) rfl rfl, fun U hU hW => ⟨rfl, by rw [hU], hz.warm hW, by rw [hU]; exact hPc, va_K.moved hW.alike hKc, hDc.weaken (fun _ _ _ _ => trivial)⟩⟩ rfl rfl hl.1 rfl (lv_room (Nat.le_of_ble_eq_true rfl)) d_MD_readsRow_180 ⟨Nat.le_of_ble_eq_true rfl, Nat.le_of_ble_eq_true rfl⟩) hS (fun q _ h => hFc q h) hFc (fun _ t H1 locs ht hvm hw_40 hB hz1 hk1 hS => ?_)
                              obtain ⟨hP1, hK1, hD1⟩ := hB
                              rw [ht] at hP1
                              have hK1 := va_K.moved hvm.symm hK1
                              obtain ⟨hP, hD⟩ := va_join (wr := [(ag, .inl (kg, 200, .inl gg))]) (w1 := [(h0, .inr (7, [.int th, .int (nI nm), .ref ap, .int (nI (no + 1)), .ref am, .ref aw, .ref az, .ref au, .int kn, .long vP, .long vQ, .long vS, .long vT, .long vB, .long vM, .long vH, .ref ao, .ref ax, .int (nI np), .ref ay, .int (nI nl), .ref ad, .ref al, .int (nI sn), .ref ag, .int (nI (md_np gg sn (md_np gg sn (md_np gg sn (md_np gg sn ta + 1) + 1) + 1) + 1)), .int (md_nv gg sn (md_np gg sn (md_np gg sn (md_np gg sn ta + 1) + 1) + 1))])), (am, .inl (km, 20, .inl (upd gm no (md_nv gg sn ta)))), (aw, .inl (kw, 60, .inl (upd (upd (upd gw (3 * no) (md_nv gg sn (md_np gg sn ta + 1))) (3 * no + 1) (md_nv gg sn (md_np gg sn (md_np gg sn ta + 1) + 1))) (3 * no + 2) (md_nv gg sn (md_np gg sn (md_np gg sn (md_np gg sn ta + 1) + 1) + 1))))), (au, .inl (ku, 20, .inl (upd gu no 1)))]) hP hD [3, 0, 1, 2] [4] rfl rfl (by decide) (by decide) hk1 hFc hP1 hD1
                              generalize H1 = H at hP hS ⊢
                              have hP : va_P (dC, dI) xCl [(ag, .inl (kg, 200, .inl gg)), (h0, .inr (7, [.int th, .int (nI nm), .ref ap, .int (nI (no + 1)), .ref am, .ref aw, .ref az, .ref au, .int kn, .long vP, .long vQ, .long vS, .long vT, .long vB, .long vM, .long vH, .ref ao, .ref ax, .int (nI np), .ref ay, .int (nI nl), .ref ad, .ref al, .int (nI sn), .ref ag, .int (nI (md_np gg sn (md_np gg sn (md_np gg sn (md_np gg sn ta + 1) + 1) + 1) + 1)), .int (md_nv gg sn (md_np gg sn (md_np gg sn (md_np gg sn ta + 1) + 1) + 1))])), (am, .inl (km, 20, .inl (upd gm no (md_nv gg sn ta)))), (aw, .inl (kw, 60, .inl (upd (upd (upd gw (3 * no) (md_nv gg sn (md_np gg sn ta + 1))) (3 * no + 1) (md_nv gg sn (md_np gg sn (md_np gg sn ta + 1) + 1))) (3 * no + 2) (md_nv gg sn (md_np gg sn (md_np gg sn (md_np gg sn ta + 1) + 1) + 1))))), (au, .inl (ku, 20, .inl (upd gu no 1)))] H := hP
                              have hD : va_D A [(ag, .inl (kg, 200, .inl gg)), (h0, .inr (7, [.int th, .int (nI nm), .ref ap, .int (nI (no + 1)), .ref am, .ref aw, .ref az, .ref au, .int kn, .long vP, .long vQ, .long vS, .long vT, .long vB, .long vM, .long vH, .ref ao, .ref ax, .int (nI np), .ref ay, .int (nI nl), .ref ad, .ref al, .int (nI sn), .ref ag, .int (nI (md_np gg sn (md_np gg sn (md_np gg sn (md_np gg sn ta + 1) + 1) + 1) + 1)), .int (md_nv gg sn (md_np gg sn (md_np gg sn (md_np gg sn ta + 1) + 1) + 1))])), (am, .inl (km, 20, .inl (upd gm no (md_nv gg sn ta)))), (aw, .inl (kw, 60, .inl (upd (upd (upd gw (3 * no) (md_nv gg sn (md_np gg sn ta + 1))) (3 * no + 1) (md_nv gg sn (md_np gg sn (md_np gg sn ta + 1) + 1))) (3 * no + 2) (md_nv gg sn (md_np gg sn (md_np gg sn (md_np gg sn ta + 1) + 1) + 1))))), (au, .inl (ku, 20, .inl (upd gu no 1)))] := hD
                              refine lv_iload_n hx hb d_MD_readsRow_183 rfl (lv_at hl 0 rfl) ?_
                              have hP9 := hP.sub (ws' := [(h0, .inr (7, [.int th, .int (nI nm), .ref ap, .int (nI (no + 1)), .ref am, .ref aw, .ref az, .ref au, .int kn, .long vP, .long vQ, .long vS, .long vT, .long vB, .long vM, .long vH, .ref ao, .ref ax, .int (nI np), .ref ay, .int (nI nl), .ref ad, .ref al, .int (nI sn), .ref ag, .int (nI (md_np gg sn (md_np gg sn (md_np gg sn (md_np gg sn ta + 1) + 1) + 1) + 1)), .int (md_nv gg sn (md_np gg sn (md_np gg sn (md_np gg sn ta + 1) + 1) + 1))])), (am, .inl (km, 20, .inl (upd gm no (md_nv gg sn ta)))), (aw, .inl (kw, 60, .inl (upd (upd (upd gw (3 * no) (md_nv gg sn (md_np gg sn ta + 1))) (3 * no + 1) (md_nv gg sn (md_np gg sn (md_np gg sn ta + 1) + 1))) (3 * no + 2) (md_nv gg sn (md_np gg sn (md_np gg sn (md_np gg sn ta + 1) + 1) + 1))))), (au, .inl (ku, 20, .inl (upd gu no 1))), (ag, .inl (kg, 200, .inl gg))]) [1, 2, 3, 4, 0] rfl
                              have hD9 := hD.sub (ws' := [(h0, .inr (7, [.int th, .int (nI nm), .ref ap, .int (nI (no + 1)), .ref am, .ref aw, .ref az, .ref au, .int kn, .long vP, .long vQ, .long vS, .long vT, .long vB, .long vM, .long vH, .ref ao, .ref ax, .int (nI np), .ref ay, .int (nI nl), .ref ad, .ref al, .int (nI sn), .ref ag, .int (nI (md_np gg sn (md_np gg sn (md_np gg sn (md_np gg sn ta + 1) + 1) + 1) + 1)), .int (md_nv gg sn (md_np gg sn (md_np gg sn (md_np gg sn ta + 1) + 1) + 1))])), (am, .inl (km, 20, .inl (upd gm no (md_nv gg sn ta)))), (aw, .inl (kw, 60, .inl (upd (upd (upd gw (3 * no) (md_nv gg sn (md_np gg sn ta + 1))) (3 * no + 1) (md_nv gg sn (md_np gg sn (md_np gg sn ta + 1) + 1))) (3 * no + 2) (md_nv gg sn (md_np gg sn (md_np gg sn (md_np gg sn ta + 1) + 1) + 1))))), (au, .inl (ku, 20, .inl (upd gu no 1))), (ag, .inl (kg, 200, .inl gg))]) [1, 2, 3, 4, 0] (by decide) rfl
                              have hK9 := hK.sub (tys' := [(km, .int), (kw, .int), (ku, .boolean), (kg, .int)]) [0, 1, 2, 3] rfl
                              exact W.zret (v := 1) (ty := .boolean) hx hb hr (by exact rfl) (fun t ht hW => ⟨⟨1, (), rfl, rfl, ⟨by rw [ht]; exact hP9, va_K.moved hW.alike hK9, by exact hD9⟩⟩, hS.F ht⟩) hS.2.2 d_MD_readsRow_184 hlocks
