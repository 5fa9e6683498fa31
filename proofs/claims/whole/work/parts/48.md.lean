theorem d_MD_blunders_0 : decode prog_9_method_22_code 0 = .ok (.aload_n 0, 1) := by decide +kernel
theorem d_MD_blunders_1 : decode prog_9_method_22_code 1 = .ok (.iload_n 1, 1) := by decide +kernel
theorem d_MD_blunders_2 : decode prog_9_method_22_code 2 = .ok (.iconst 0, 1) := by decide +kernel
theorem d_MD_blunders_3 : decode prog_9_method_22_code 3 = .ok (.ldc 123, 2) := by decide +kernel
theorem d_MD_blunders_5 : decode prog_9_method_22_code 5 = .ok (.invokestatic 51, 3) := by decide +kernel
theorem d_MD_blunders_8 : decode prog_9_method_22_code 8 = .ok (.iconst 1, 1) := by decide +kernel
theorem d_MD_blunders_9 : decode prog_9_method_22_code 9 = .ok (.iconst 1, 1) := by decide +kernel
theorem d_MD_blunders_10 : decode prog_9_method_22_code 10 = .ok (.invokevirtual 64, 3) := by decide +kernel
theorem d_MD_blunders_13 : decode prog_9_method_22_code 13 = .ok (.ifCond .ne 5, 3) := by decide +kernel
theorem d_MD_blunders_16 : decode prog_9_method_22_code 16 = .ok (.iconst 0, 1) := by decide +kernel
theorem d_MD_blunders_17 : decode prog_9_method_22_code 17 = .ok (.ireturn, 1) := by decide +kernel
theorem d_MD_blunders_18 : decode prog_9_method_22_code 18 = .ok (.aload_n 0, 1) := by decide +kernel
theorem d_MD_blunders_19 : decode prog_9_method_22_code 19 = .ok (.invokevirtual 106, 3) := by decide +kernel
theorem d_MD_blunders_22 : decode prog_9_method_22_code 22 = .ok (.ifCond .eq 7, 3) := by decide +kernel
theorem d_MD_blunders_25 : decode prog_9_method_22_code 25 = .ok (.iconst 0, 1) := by decide +kernel
theorem d_MD_blunders_26 : decode prog_9_method_22_code 26 = .ok (.goto 4, 3) := by decide +kernel
theorem d_MD_blunders_29 : decode prog_9_method_22_code 29 = .ok (.iconst (-1), 1) := by decide +kernel
theorem d_MD_blunders_30 : decode prog_9_method_22_code 30 = .ok (.istore_n 2, 1) := by decide +kernel
theorem d_MD_blunders_31 : decode prog_9_method_22_code 31 = .ok (.iload_n 2, 1) := by decide +kernel
theorem d_MD_blunders_32 : decode prog_9_method_22_code 32 = .ok (.ifCond .ne 7, 3) := by decide +kernel
theorem d_MD_blunders_35 : decode prog_9_method_22_code 35 = .ok (.iconst 1, 1) := by decide +kernel
theorem d_MD_blunders_36 : decode prog_9_method_22_code 36 = .ok (.goto 4, 3) := by decide +kernel
theorem d_MD_blunders_39 : decode prog_9_method_22_code 39 = .ok (.iconst 0, 1) := by decide +kernel
theorem d_MD_blunders_40 : decode prog_9_method_22_code 40 = .ok (.istore_n 3, 1) := by decide +kernel
theorem d_MD_blunders_41 : decode prog_9_method_22_code 41 = .ok (.iload_n 3, 1) := by decide +kernel
theorem d_MD_blunders_42 : decode prog_9_method_22_code 42 = .ok (.ifCond .eq 142, 3) := by decide +kernel
theorem d_MD_blunders_45 : decode prog_9_method_22_code 45 = .ok (.iconst (-1), 1) := by decide +kernel
theorem d_MD_blunders_46 : decode prog_9_method_22_code 46 = .ok (.istore 4, 2) := by decide +kernel
theorem d_MD_blunders_48 : decode prog_9_method_22_code 48 = .ok (.iconst 0, 1) := by decide +kernel
theorem d_MD_blunders_49 : decode prog_9_method_22_code 49 = .ok (.istore 5, 2) := by decide +kernel
theorem d_MD_blunders_51 : decode prog_9_method_22_code 51 = .ok (.iload 5, 2) := by decide +kernel
theorem d_MD_blunders_53 : decode prog_9_method_22_code 53 = .ok (.aload_n 0, 1) := by decide +kernel
theorem d_MD_blunders_54 : decode prog_9_method_22_code 54 = .ok (.getfield 55, 3) := by decide +kernel
theorem d_MD_blunders_57 : decode prog_9_method_22_code 57 = .ok (.if_icmp .ge 50, 3) := by decide +kernel
theorem d_MD_blunders_60 : decode prog_9_method_22_code 60 = .ok (.aload_n 0, 1) := by decide +kernel
theorem d_MD_blunders_61 : decode prog_9_method_22_code 61 = .ok (.getfield 22, 3) := by decide +kernel
theorem d_MD_blunders_64 : decode prog_9_method_22_code 64 = .ok (.iload 5, 2) := by decide +kernel
theorem d_MD_blunders_66 : decode prog_9_method_22_code 66 = .ok (.baload, 1) := by decide +kernel
theorem d_MD_blunders_67 : decode prog_9_method_22_code 67 = .ok (.ifCond .eq 30, 3) := by decide +kernel
theorem d_MD_blunders_70 : decode prog_9_method_22_code 70 = .ok (.iload 4, 2) := by decide +kernel
theorem d_MD_blunders_72 : decode prog_9_method_22_code 72 = .ok (.iconst (-1), 1) := by decide +kernel
theorem d_MD_blunders_73 : decode prog_9_method_22_code 73 = .ok (.if_icmp .eq 19, 3) := by decide +kernel
theorem d_MD_blunders_76 : decode prog_9_method_22_code 76 = .ok (.aload_n 0, 1) := by decide +kernel
theorem d_MD_blunders_77 : decode prog_9_method_22_code 77 = .ok (.iload 5, 2) := by decide +kernel
theorem d_MD_blunders_79 : decode prog_9_method_22_code 79 = .ok (.invokevirtual 124, 3) := by decide +kernel
theorem d_MD_blunders_82 : decode prog_9_method_22_code 82 = .ok (.aload_n 0, 1) := by decide +kernel
theorem d_MD_blunders_83 : decode prog_9_method_22_code 83 = .ok (.iload 4, 2) := by decide +kernel
theorem d_MD_blunders_85 : decode prog_9_method_22_code 85 = .ok (.invokevirtual 124, 3) := by decide +kernel
theorem d_MD_blunders_88 : decode prog_9_method_22_code 88 = .ok (.lcmp, 1) := by decide +kernel
theorem d_MD_blunders_89 : decode prog_9_method_22_code 89 = .ok (.ifCond .le 8, 3) := by decide +kernel
theorem d_MD_blunders_92 : decode prog_9_method_22_code 92 = .ok (.iload 5, 2) := by decide +kernel
theorem d_MD_blunders_94 : decode prog_9_method_22_code 94 = .ok (.goto 5, 3) := by decide +kernel
theorem d_MD_blunders_97 : decode prog_9_method_22_code 97 = .ok (.iload 4, 2) := by decide +kernel
theorem d_MD_blunders_99 : decode prog_9_method_22_code 99 = .ok (.istore 4, 2) := by decide +kernel
theorem d_MD_blunders_101 : decode prog_9_method_22_code 101 = .ok (.iinc 5 1, 3) := by decide +kernel
theorem d_MD_blunders_104 : decode prog_9_method_22_code 104 = .ok (.goto (-53), 3) := by decide +kernel
theorem d_MD_blunders_107 : decode prog_9_method_22_code 107 = .ok (.aload_n 0, 1) := by decide +kernel
theorem d_MD_blunders_108 : decode prog_9_method_22_code 108 = .ok (.invokevirtual 76, 3) := by decide +kernel
theorem d_MD_blunders_111 : decode prog_9_method_22_code 111 = .ok (.iconst 3, 1) := by decide +kernel
theorem d_MD_blunders_112 : decode prog_9_method_22_code 112 = .ok (.if_icmp .le 22, 3) := by decide +kernel
theorem d_MD_blunders_115 : decode prog_9_method_22_code 115 = .ok (.aload_n 0, 1) := by decide +kernel
theorem d_MD_blunders_116 : decode prog_9_method_22_code 116 = .ok (.iload 4, 2) := by decide +kernel
theorem d_MD_blunders_118 : decode prog_9_method_22_code 118 = .ok (.invokevirtual 124, 3) := by decide +kernel
theorem d_MD_blunders_121 : decode prog_9_method_22_code 121 = .ok (.iload_n 1, 1) := by decide +kernel
theorem d_MD_blunders_122 : decode prog_9_method_22_code 122 = .ok (.i2l, 1) := by decide +kernel
theorem d_MD_blunders_123 : decode prog_9_method_22_code 123 = .ok (.iload_n 1, 1) := by decide +kernel
theorem d_MD_blunders_124 : decode prog_9_method_22_code 124 = .ok (.i2l, 1) := by decide +kernel
theorem d_MD_blunders_125 : decode prog_9_method_22_code 125 = .ok (.lmul, 1) := by decide +kernel
theorem d_MD_blunders_126 : decode prog_9_method_22_code 126 = .ok (.lcmp, 1) := by decide +kernel
theorem d_MD_blunders_127 : decode prog_9_method_22_code 127 = .ok (.ifCond .le 7, 3) := by decide +kernel
theorem d_MD_blunders_130 : decode prog_9_method_22_code 130 = .ok (.iconst 1, 1) := by decide +kernel
theorem d_MD_blunders_131 : decode prog_9_method_22_code 131 = .ok (.goto 4, 3) := by decide +kernel
theorem d_MD_blunders_134 : decode prog_9_method_22_code 134 = .ok (.iconst 0, 1) := by decide +kernel
theorem d_MD_blunders_135 : decode prog_9_method_22_code 135 = .ok (.istore_n 3, 1) := by decide +kernel
theorem d_MD_blunders_136 : decode prog_9_method_22_code 136 = .ok (.iload_n 3, 1) := by decide +kernel
theorem d_MD_blunders_137 : decode prog_9_method_22_code 137 = .ok (.ifCond .eq 44, 3) := by decide +kernel
theorem d_MD_blunders_140 : decode prog_9_method_22_code 140 = .ok (.aload_n 0, 1) := by decide +kernel
theorem d_MD_blunders_141 : decode prog_9_method_22_code 141 = .ok (.getfield 22, 3) := by decide +kernel
theorem d_MD_blunders_144 : decode prog_9_method_22_code 144 = .ok (.iload 4, 2) := by decide +kernel
theorem d_MD_blunders_146 : decode prog_9_method_22_code 146 = .ok (.iconst 0, 1) := by decide +kernel
theorem d_MD_blunders_147 : decode prog_9_method_22_code 147 = .ok (.bastore, 1) := by decide +kernel
theorem d_MD_blunders_148 : decode prog_9_method_22_code 148 = .ok (.aload_n 0, 1) := by decide +kernel
theorem d_MD_blunders_149 : decode prog_9_method_22_code 149 = .ok (.invokevirtual 106, 3) := by decide +kernel
theorem d_MD_blunders_152 : decode prog_9_method_22_code 152 = .ok (.istore_n 3, 1) := by decide +kernel
theorem d_MD_blunders_153 : decode prog_9_method_22_code 153 = .ok (.aload_n 0, 1) := by decide +kernel
theorem d_MD_blunders_154 : decode prog_9_method_22_code 154 = .ok (.getfield 22, 3) := by decide +kernel
theorem d_MD_blunders_157 : decode prog_9_method_22_code 157 = .ok (.iload 4, 2) := by decide +kernel
theorem d_MD_blunders_159 : decode prog_9_method_22_code 159 = .ok (.iload_n 3, 1) := by decide +kernel
theorem d_MD_blunders_160 : decode prog_9_method_22_code 160 = .ok (.ifCond .ne 7, 3) := by decide +kernel
theorem d_MD_blunders_163 : decode prog_9_method_22_code 163 = .ok (.iconst 1, 1) := by decide +kernel
theorem d_MD_blunders_164 : decode prog_9_method_22_code 164 = .ok (.goto 4, 3) := by decide +kernel
theorem d_MD_blunders_167 : decode prog_9_method_22_code 167 = .ok (.iconst 0, 1) := by decide +kernel
theorem d_MD_blunders_168 : decode prog_9_method_22_code 168 = .ok (.bastore, 1) := by decide +kernel
theorem d_MD_blunders_169 : decode prog_9_method_22_code 169 = .ok (.iload_n 3, 1) := by decide +kernel
theorem d_MD_blunders_170 : decode prog_9_method_22_code 170 = .ok (.ifCond .eq 9, 3) := by decide +kernel
theorem d_MD_blunders_173 : decode prog_9_method_22_code 173 = .ok (.iload_n 2, 1) := by decide +kernel
theorem d_MD_blunders_174 : decode prog_9_method_22_code 174 = .ok (.iconst 1, 1) := by decide +kernel
theorem d_MD_blunders_175 : decode prog_9_method_22_code 175 = .ok (.iadd, 1) := by decide +kernel
theorem d_MD_blunders_176 : decode prog_9_method_22_code 176 = .ok (.goto 4, 3) := by decide +kernel
theorem d_MD_blunders_179 : decode prog_9_method_22_code 179 = .ok (.iload_n 2, 1) := by decide +kernel
theorem d_MD_blunders_180 : decode prog_9_method_22_code 180 = .ok (.istore_n 2, 1) := by decide +kernel
theorem d_MD_blunders_181 : decode prog_9_method_22_code 181 = .ok (.goto (-140), 3) := by decide +kernel
theorem d_MD_blunders_184 : decode prog_9_method_22_code 184 = .ok (.iload_n 2, 1) := by decide +kernel
theorem d_MD_blunders_185 : decode prog_9_method_22_code 185 = .ok (.ireturn, 1) := by decide +kernel
set_option maxHeartbeats 4000000 in
set_option maxRecDepth 100000 in
/-- blunders, refused -/
theorem c_MD_blunders_n (l : Launch) (dC : Nat → ClassId) (dI : Nat → Nat → Nat) (sz : Nat) (h0 : Nat) (th : Int32) (nm : Nat) (ap : Nat) (no : Nat) (am : Nat) (aw : Nat) (az : Nat) (au : Nat) (kn : Int32) (vP : Int64) (vQ : Int64) (vS : Int64) (vT : Int64) (vB : Int64) (vM : Int64) (vH : Int64) (ao : Nat) (ax : Nat) (np : Nat) (ay : Nat) (nl : Nat) (ad : Nat) (al : Nat) (sn : Nat) (ag : Nat) (ta : Nat) (nb : Int32) (a : Int32) (hn : ¬ (md_win a 0 100000)) : Met l xy_MD_blunders xw_MD_blunders ({ frames := 1, cells := 0, slots := 0, locals := 23 }) (xp_w [.ref h0, .int a] sz (dC, dI) xCl [(h0, .inr (7, [.int th, .int (nI nm), .ref ap, .int (nI no), .ref am, .ref aw, .ref az, .ref au, .int kn, .long vP, .long vQ, .long vS, .long vT, .long vB, .long vM, .long vH, .ref ao, .ref ax, .int (nI np), .ref ay, .int (nI nl), .ref ad, .ref al, .int (nI sn), .ref ag, .int (nI ta), .int nb]))] []) (va_Qi (fun (r : Int32) (_ : Unit) => r = 0) (fun _ t => xb_w (dC, dI) xCl [(h0, .inr (7, [.int (md_th (bI (md_win a 0 100000)) 1 1), .int (nI nm), .ref ap, .int (nI no), .ref am, .ref aw, .ref az, .ref au, .int kn, .long vP, .long vQ, .long vS, .long vT, .long vB, .long vM, .long vH, .ref ao, .ref ax, .int (nI np), .ref ay, .int (nI nl), .ref ad, .ref al, .int (nI sn), .ref ag, .int (nI ta), .int nb]))] [] (va_A [(h0, .inr (7, [.int th, .int (nI nm), .ref ap, .int (nI no), .ref am, .ref aw, .ref az, .ref au, .int kn, .long vP, .long vQ, .long vS, .long vT, .long vB, .long vM, .long vH, .ref ao, .ref ax, .int (nI np), .ref ay, .int (nI nl), .ref ad, .ref al, .int (nI sn), .ref ag, .int (nI ta), .int nb]))] sz) t) (va_A [(h0, .inr (7, [.int th, .int (nI nm), .ref ap, .int (nI no), .ref am, .ref aw, .ref az, .ref au, .int kn, .long vP, .long vQ, .long vS, .long vT, .long vB, .long vM, .long vH, .ref ao, .ref ax, .int (nI np), .ref ay, .int (nI nl), .ref ad, .ref al, .int (nI sn), .ref ag, .int (nI ta), .int nb]))] sz)) 0 0 (va_A [(h0, .inr (7, [.int th, .int (nI nm), .ref ap, .int (nI no), .ref am, .ref aw, .ref az, .ref au, .int kn, .long vP, .long vQ, .long vS, .long vT, .long vB, .long vM, .long vH, .ref ao, .ref ax, .int (nI np), .ref ay, .int (nI nl), .ref ad, .ref al, .int (nI sn), .ref ag, .int (nI ta), .int nb]))] sz) := by
  refine Met.ofW (cc := prog_9_method_22_code) (maxL := 6) (ret := (some .int)) (by decide) rfl ?_
  intro p e s m args below meth c s₁ B hml hv
  obtain ⟨rfl, hsz, hz, hP, hK, hD0⟩ := hv
  have hx := B.exec
  have hb := B.bytes
  have hr := B.returns
  have hts := atoms_spec (ws := xw_MD_blunders) B.pre
  have hown : s.vm.findClass xR_MD = some m.cls := findClass_of_methodNamed B.named
  have hlocks := B.notSynchronized
  subst hsz
  have hD := hD0.self (sz := s.heap.size)
  generalize hAe : va_A [(h0, .inr (7, [.int th, .int (nI nm), .ref ap, .int (nI no), .ref am, .ref aw, .ref az, .ref au, .int kn, .long vP, .long vQ, .long vS, .long vT, .long vB, .long vM, .long vH, .ref ao, .ref ax, .int (nI np), .ref ay, .int (nI nl), .ref ad, .ref al, .int (nI sn), .ref ag, .int (nI ta), .int nb]))] s.heap.size = A at hD ⊢
  have hA : ∀ q : Nat, s.heap.size ≤ q → A q := fun q h => by rw [← hAe]; exact Or.inr h
  have hS : va_S A s.heap s.heap [] := va_S.rf
  have hP : va_P (dC, dI) xCl [(h0, .inr (7, [.int th, .int (nI nm), .ref ap, .int (nI no), .ref am, .ref aw, .ref az, .ref au, .int kn, .long vP, .long vQ, .long vS, .long vT, .long vB, .long vM, .long vH, .ref ao, .ref ax, .int (nI np), .ref ay, .int (nI nl), .ref ad, .ref al, .int (nI sn), .ref ag, .int (nI ta), .int nb]))] s.heap := hP
  have hl := lv_entry ([.ref h0, .int a]) (n := 6) (Nat.le_of_ble_eq_true rfl)
  rw [lg_entry_eq]
  generalize (lg_sl ([.ref h0, .int a]) ++ List.replicate (6 - (lg_sl ([.ref h0, .int a])).length) Slot.unset).toArray = ls at hl ⊢
  have hl : lv_has ls 6 [(0, .ref h0), (1, .int a)] := hl
  refine lv_aload_n hx hb d_MD_blunders_0 rfl (lv_at hl 0 rfl) ?_
  refine lv_iload_n hx hb d_MD_blunders_1 rfl (lv_at hl 1 rfl) ?_
  refine lv_iconst (v := 0) hx hb d_MD_blunders_2 (by decide) ?_
  refine lv_ldc (v := 100000) hx hb hown (hts _ (List.mem_cons_of_mem _ wm_856)) d_MD_blunders_3 ?_
  refine xr_calli (va_runS (As := [.int a, .int 0, .int 100000]) (rest := [.ref h0]) ⟨hx, hb, hml, hown, hts⟩ (c_MD_within l dC dI a 0 100000) (va_cwS 3 hts (xgS wm_790 wm_791 wm_34 wm_792) rfl rfl rfl (by decide +kernel) ⟨Nat.le_of_ble_eq_true rfl, Nat.le_of_ble_eq_true rfl⟩) ⟨xp_blind, fun U hU hW => ⟨rfl, hz.warm hW, by rw [hU]; exact hP.sub [] rfl, va_K.moved hW.alike (hK.sub [] rfl)⟩⟩ rfl rfl hl.1 rfl (lv_room (Nat.le_of_ble_eq_true rfl)) d_MD_blunders_5 ⟨Nat.le_of_ble_eq_true rfl, Nat.le_of_ble_eq_true rfl⟩) (fun r_1 h_2 => ?_)
  subst h_2
  refine lv_iconst (v := 1) hx hb d_MD_blunders_8 (by decide) ?_
  refine lv_iconst (v := 1) hx hb d_MD_blunders_9 (by decide) ?_
  have hPc := hP.sub (ws' := [(h0, .inr (7, [.int th, .int (nI nm), .ref ap, .int (nI no), .ref am, .ref aw, .ref az, .ref au, .int kn, .long vP, .long vQ, .long vS, .long vT, .long vB, .long vM, .long vH, .ref ao, .ref ax, .int (nI np), .ref ay, .int (nI nl), .ref ad, .ref al, .int (nI sn), .ref ag, .int (nI ta), .int nb]))]) [0] rfl
  have hDc := hD.sub (ws' := [(h0, .inr (7, [.int th, .int (nI nm), .ref ap, .int (nI no), .ref am, .ref aw, .ref az, .ref au, .int kn, .long vP, .long vQ, .long vS, .long vT, .long vB, .long vM, .long vH, .ref ao, .ref ax, .int (nI np), .ref ay, .int (nI nl), .ref ad, .ref al, .int (nI sn), .ref ag, .int (nI ta), .int nb]))]) [0] (by decide) rfl
  have hKc := hK.sub (tys' := []) [] rfl
  have hFc := va_free (wc := [(h0, .inr (7, [.int th, .int (nI nm), .ref ap, .int (nI no), .ref am, .ref aw, .ref az, .ref au, .int kn, .long vP, .long vQ, .long vS, .long vT, .long vB, .long vM, .long vH, .ref ao, .ref ax, .int (nI np), .ref ay, .int (nI nl), .ref ad, .ref al, .int (nI sn), .ref ag, .int (nI ta), .int nb]))]) hD hS hA [0] rfl
  refine va_calli (va_runV (As := [.int (bI (md_win a 0 100000)), .int 1, .int 1]) (rest := []) ⟨hx, hb, hml, hown, hts⟩ (c_MD_goes l dC dI s.heap.size h0 th nm ap no am aw az au kn vP vQ vS vT vB vM vH ao ax np ay nl ad al sn ag ta nb (bI (md_win a 0 100000)) 1 1) (cwV 3 hts (xgV wm_793 wm_795 wm_13 wm_34 wm_796) rfl rfl rfl (by decide +kernel) ⟨Nat.le_of_ble_eq_true rfl, Nat.le_of_ble_eq_true rfl⟩) ⟨xw_blind, va_recv hKc hPc (ci := 7) (q0 := 0) rfl rfl, fun U hU hW => ⟨rfl, by rw [hU], hz.warm hW, by rw [hU]; exact hPc, va_K.moved hW.alike hKc, hDc.weaken (fun _ _ _ _ => trivial)⟩⟩ rfl rfl hl.1 rfl (lv_room (Nat.le_of_ble_eq_true rfl)) d_MD_blunders_10 ⟨Nat.le_of_ble_eq_true rfl, Nat.le_of_ble_eq_true rfl⟩) hS (fun q _ h => hFc q h) hFc (fun r_3 _ t H1 locs ht hvm hw_4 hB hz1 hk1 hS => ?_)
  obtain ⟨hP1, hK1, hD1⟩ := hB
  rw [ht] at hP1
  have hK1 := va_K.moved hvm.symm hK1
  obtain ⟨hP, hD⟩ := va_join (wr := []) (w1 := [(h0, .inr (7, [.int (md_th (bI (md_win a 0 100000)) 1 1), .int (nI nm), .ref ap, .int (nI no), .ref am, .ref aw, .ref az, .ref au, .int kn, .long vP, .long vQ, .long vS, .long vT, .long vB, .long vM, .long vH, .ref ao, .ref ax, .int (nI np), .ref ay, .int (nI nl), .ref ad, .ref al, .int (nI sn), .ref ag, .int (nI ta), .int nb]))]) hP hD [0] [] rfl rfl (by decide) (by decide) hk1 hFc hP1 hD1
  generalize H1 = H at hP hS ⊢
  have hP : va_P (dC, dI) xCl [(h0, .inr (7, [.int (md_th (bI (md_win a 0 100000)) 1 1), .int (nI nm), .ref ap, .int (nI no), .ref am, .ref aw, .ref az, .ref au, .int kn, .long vP, .long vQ, .long vS, .long vT, .long vB, .long vM, .long vH, .ref ao, .ref ax, .int (nI np), .ref ay, .int (nI nl), .ref ad, .ref al, .int (nI sn), .ref ag, .int (nI ta), .int nb]))] H := hP
  have hD : va_D A [(h0, .inr (7, [.int (md_th (bI (md_win a 0 100000)) 1 1), .int (nI nm), .ref ap, .int (nI no), .ref am, .ref aw, .ref az, .ref au, .int kn, .long vP, .long vQ, .long vS, .long vT, .long vB, .long vM, .long vH, .ref ao, .ref ax, .int (nI np), .ref ay, .int (nI nl), .ref ad, .ref al, .int (nI sn), .ref ag, .int (nI ta), .int nb]))] := hD
  subst hw_4
  refine lv_if_ne (tgt := 18) hx hb d_MD_blunders_13 (by decide) (fun c_5 => ?_) (fun c_5 => ?_)
  · exact absurd (md_th_all (bI_t rfl c_5)) (fun q => hn (bI_of q.1))
  · have b_6 := bI_f (rfl : bI (md_th (bI (md_win a 0 100000)) 1 1 = 0) = _) c_5
    refine lv_iconst (v := 0) hx hb d_MD_blunders_16 (by decide) ?_
    have hP9 := hP.sub (ws' := [(h0, .inr (7, [.int (md_th (bI (md_win a 0 100000)) 1 1), .int (nI nm), .ref ap, .int (nI no), .ref am, .ref aw, .ref az, .ref au, .int kn, .long vP, .long vQ, .long vS, .long vT, .long vB, .long vM, .long vH, .ref ao, .ref ax, .int (nI np), .ref ay, .int (nI nl), .ref ad, .ref al, .int (nI sn), .ref ag, .int (nI ta), .int nb]))]) [0] rfl
    have hD9 := hD.sub (ws' := [(h0, .inr (7, [.int (md_th (bI (md_win a 0 100000)) 1 1), .int (nI nm), .ref ap, .int (nI no), .ref am, .ref aw, .ref az, .ref au, .int kn, .long vP, .long vQ, .long vS, .long vT, .long vB, .long vM, .long vH, .ref ao, .ref ax, .int (nI np), .ref ay, .int (nI nl), .ref ad, .ref al, .int (nI sn), .ref ag, .int (nI ta), .int nb]))]) [0] (by decide) rfl
    have hK9 := hK.sub (tys' := []) [] rfl
    exact W.iret (v := 0) hx hb hr (fun t ht hW => ⟨⟨0, (), rfl, rfl, ⟨by rw [ht]; exact hP9, va_K.moved hW.alike hK9, by exact hD9⟩⟩, hS.F ht⟩) hS.2.2 d_MD_blunders_17 hlocks
set_option maxHeartbeats 4000000 in
set_option maxRecDepth 100000 in
/-- blunders, none can be set -/
theorem c_MD_blunders_f (l : Launch) (dC : Nat → ClassId) (dI : Nat → Nat → Nat) (sz : Nat) (h0 : Nat) (th : Int32) (nm : Nat) (ap : Nat) (no : Nat) (am : Nat) (aw : Nat) (az : Nat) (au : Nat) (kn : Int32) (vP : Int64) (vQ : Int64) (vS : Int64) (vT : Int64) (vB : Int64) (vM : Int64) (vH : Int64) (ao : Nat) (ax : Nat) (np : Nat) (ay : Nat) (nl : Nat) (ad : Nat) (al : Nat) (sn : Nat) (ag : Nat) (ta : Nat) (nb : Int32) (kp : ClassId) (km : ClassId) (kw : ClassId) (kz : ClassId) (ku : ClassId) (ko : ClassId) (kx : ClassId) (mk : Nat → Nat) (gp : Nat → Int32) (gw : Nat → Int32) (gz : Nat → Int32) (gu : Nat → Int32) (ho : Nat → Int32) (hx_ : Nat → Int32) (a : Int32) (hwn : md_win a 0 100000) (hno : no ≤ 20) (hmk : ∀ o, o < no → mk o < 12) (hb01 : ∀ k, gu k = 0 ∨ gu k = 1) (hw0 : sr_spread ((nI (sr_cu gu no)).toInt64) (sr_sm gu (md_g4 gw) no) (sr_sm gu (md_g5 gw) no) (sr_sm gu (md_g6 gw) no) = 0) : Met l xy_MD_blunders xw_MD_blunders ({ frames := 2, cells := 0, slots := 0, locals := 69 }) (xp_w [.ref h0, .int a] sz (dC, dI) xCl [(h0, .inr (7, [.int th, .int (nI nm), .ref ap, .int (nI no), .ref am, .ref aw, .ref az, .ref au, .int kn, .long vP, .long vQ, .long vS, .long vT, .long vB, .long vM, .long vH, .ref ao, .ref ax, .int (nI np), .ref ay, .int (nI nl), .ref ad, .ref al, .int (nI sn), .ref ag, .int (nI ta), .int nb])), (ap, .inl (kp, 36, .inl gp)), (am, .inl (km, 20, .inl (md_mk mk))), (aw, .inl (kw, 60, .inl gw)), (az, .inl (kz, 20, .inl gz)), (au, .inl (ku, 20, .inl gu)), (ao, .inl (ko, 20, .inl ho)), (ax, .inl (kx, 20, .inl hx_))] [(kp, .int), (km, .int), (kw, .int), (kz, .int), (ku, .boolean), (ko, .int), (kx, .boolean)]) (va_Qi (fun (r : Int32) (_ : Unit) => r = (-1)) (fun _ t => xb_w (dC, dI) xCl [(h0, .inr (7, [.int 0, .int (nI nm), .ref ap, .int (nI no), .ref am, .ref aw, .ref az, .ref au, .int kn, .long vP, .long vQ, .long vS, .long vT, .long vB, .long vM, .long vH, .ref ao, .ref ax, .int (nI np), .ref ay, .int (nI nl), .ref ad, .ref al, .int (nI sn), .ref ag, .int (nI ta), .int nb])), (ap, .inl (kp, 36, .inl gp)), (am, .inl (km, 20, .inl (md_mk mk))), (aw, .inl (kw, 60, .inl gw)), (az, .inl (kz, 20, .inl gz)), (au, .inl (ku, 20, .inl gu)), (ao, .inl (ko, 20, .inl ho)), (ax, .inl (kx, 20, .inl hx_))] [(kp, .int), (km, .int), (kw, .int), (kz, .int), (ku, .boolean), (ko, .int), (kx, .boolean)] (va_A [(h0, .inr (7, [.int th, .int (nI nm), .ref ap, .int (nI no), .ref am, .ref aw, .ref az, .ref au, .int kn, .long vP, .long vQ, .long vS, .long vT, .long vB, .long vM, .long vH, .ref ao, .ref ax, .int (nI np), .ref ay, .int (nI nl), .ref ad, .ref al, .int (nI sn), .ref ag, .int (nI ta), .int nb])), (ap, .inl (kp, 36, .inl gp)), (am, .inl (km, 20, .inl (md_mk mk))), (aw, .inl (kw, 60, .inl gw)), (az, .inl (kz, 20, .inl gz)), (au, .inl (ku, 20, .inl gu)), (ao, .inl (ko, 20, .inl ho)), (ax, .inl (kx, 20, .inl hx_))] sz) t) (va_A [(h0, .inr (7, [.int th, .int (nI nm), .ref ap, .int (nI no), .ref am, .ref aw, .ref az, .ref au, .int kn, .long vP, .long vQ, .long vS, .long vT, .long vB, .long vM, .long vH, .ref ao, .ref ax, .int (nI np), .ref ay, .int (nI nl), .ref ad, .ref al, .int (nI sn), .ref ag, .int (nI ta), .int nb])), (ap, .inl (kp, 36, .inl gp)), (am, .inl (km, 20, .inl (md_mk mk))), (aw, .inl (kw, 60, .inl gw)), (az, .inl (kz, 20, .inl gz)), (au, .inl (ku, 20, .inl gu)), (ao, .inl (ko, 20, .inl ho)), (ax, .inl (kx, 20, .inl hx_))] sz)) 0 0 (va_A [(h0, .inr (7, [.int th, .int (nI nm), .ref ap, .int (nI no), .ref am, .ref aw, .ref az, .ref au, .int kn, .long vP, .long vQ, .long vS, .long vT, .long vB, .long vM, .long vH, .ref ao, .ref ax, .int (nI np), .ref ay, .int (nI nl), .ref ad, .ref al, .int (nI sn), .ref ag, .int (nI ta), .int nb])), (ap, .inl (kp, 36, .inl gp)), (am, .inl (km, 20, .inl (md_mk mk))), (aw, .inl (kw, 60, .inl gw)), (az, .inl (kz, 20, .inl gz)), (au, .inl (ku, 20, .inl gu)), (ao, .inl (ko, 20, .inl ho)), (ax, .inl (kx, 20, .inl hx_))] sz) := by
  refine Met.ofW (cc := prog_9_method_22_code) (maxL := 6) (ret := (some .int)) (by decide) rfl ?_
  intro p e s m args below meth c s₁ B hml hv
  obtain ⟨rfl, hsz, hz, hP, hK, hD0⟩ := hv
  have hx := B.exec
  have hb := B.bytes
  have hr := B.returns
  have hts := atoms_spec (ws := xw_MD_blunders) B.pre
  have hown : s.vm.findClass xR_MD = some m.cls := findClass_of_methodNamed B.named
  have hlocks := B.notSynchronized
  subst hsz
  have hD := hD0.self (sz := s.heap.size)
  generalize hAe : va_A [(h0, .inr (7, [.int th, .int (nI nm), .ref ap, .int (nI no), .ref am, .ref aw, .ref az, .ref au, .int kn, .long vP, .long vQ, .long vS, .long vT, .long vB, .long vM, .long vH, .ref ao, .ref ax, .int (nI np), .ref ay, .int (nI nl), .ref ad, .ref al, .int (nI sn), .ref ag, .int (nI ta), .int nb])), (ap, .inl (kp, 36, .inl gp)), (am, .inl (km, 20, .inl (md_mk mk))), (aw, .inl (kw, 60, .inl gw)), (az, .inl (kz, 20, .inl gz)), (au, .inl (ku, 20, .inl gu)), (ao, .inl (ko, 20, .inl ho)), (ax, .inl (kx, 20, .inl hx_))] s.heap.size = A at hD ⊢
  have hA : ∀ q : Nat, s.heap.size ≤ q → A q := fun q h => by rw [← hAe]; exact Or.inr h
  have hS : va_S A s.heap s.heap [] := va_S.rf
  have hP : va_P (dC, dI) xCl [(h0, .inr (7, [.int th, .int (nI nm), .ref ap, .int (nI no), .ref am, .ref aw, .ref az, .ref au, .int kn, .long vP, .long vQ, .long vS, .long vT, .long vB, .long vM, .long vH, .ref ao, .ref ax, .int (nI np), .ref ay, .int (nI nl), .ref ad, .ref al, .int (nI sn), .ref ag, .int (nI ta), .int nb])), (ap, .inl (kp, 36, .inl gp)), (am, .inl (km, 20, .inl (md_mk mk))), (aw, .inl (kw, 60, .inl gw)), (az, .inl (kz, 20, .inl gz)), (au, .inl (ku, 20, .inl gu)), (ao, .inl (ko, 20, .inl ho)), (ax, .inl (kx, 20, .inl hx_))] s.heap := hP
  have hl := lv_entry ([.ref h0, .int a]) (n := 6) (Nat.le_of_ble_eq_true rfl)
  rw [lg_entry_eq]
  generalize (lg_sl ([.ref h0, .int a]) ++ List.replicate (6 - (lg_sl ([.ref h0, .int a])).length) Slot.unset).toArray = ls at hl ⊢
  have hl : lv_has ls 6 [(0, .ref h0), (1, .int a)] := hl
  refine lv_aload_n hx hb d_MD_blunders_0 rfl (lv_at hl 0 rfl) ?_
  refine lv_iload_n hx hb d_MD_blunders_1 rfl (lv_at hl 1 rfl) ?_
  refine lv_iconst (v := 0) hx hb d_MD_blunders_2 (by decide) ?_
  refine lv_ldc (v := 100000) hx hb hown (hts _ (List.mem_cons_of_mem _ wm_856)) d_MD_blunders_3 ?_
  refine xr_calli (va_runS (As := [.int a, .int 0, .int 100000]) (rest := [.ref h0]) ⟨hx, hb, hml, hown, hts⟩ (c_MD_within l dC dI a 0 100000) (va_cwS 3 hts (xgS wm_790 wm_791 wm_34 wm_792) rfl rfl rfl (by decide +kernel) ⟨Nat.le_of_ble_eq_true rfl, Nat.le_of_ble_eq_true rfl⟩) ⟨xp_blind, fun U hU hW => ⟨rfl, hz.warm hW, by rw [hU]; exact hP.sub [] rfl, va_K.moved hW.alike (hK.sub [] rfl)⟩⟩ rfl rfl hl.1 rfl (lv_room (Nat.le_of_ble_eq_true rfl)) d_MD_blunders_5 ⟨Nat.le_of_ble_eq_true rfl, Nat.le_of_ble_eq_true rfl⟩) (fun r_1 h_2 => ?_)
  subst h_2
  refine lv_iconst (v := 1) hx hb d_MD_blunders_8 (by decide) ?_
  refine lv_iconst (v := 1) hx hb d_MD_blunders_9 (by decide) ?_
  have hPc := hP.sub (ws' := [(h0, .inr (7, [.int th, .int (nI nm), .ref ap, .int (nI no), .ref am, .ref aw, .ref az, .ref au, .int kn, .long vP, .long vQ, .long vS, .long vT, .long vB, .long vM, .long vH, .ref ao, .ref ax, .int (nI np), .ref ay, .int (nI nl), .ref ad, .ref al, .int (nI sn), .ref ag, .int (nI ta), .int nb]))]) [0] rfl
  have hDc := hD.sub (ws' := [(h0, .inr (7, [.int th, .int (nI nm), .ref ap, .int (nI no), .ref am, .ref aw, .ref az, .ref au, .int kn, .long vP, .long vQ, .long vS, .long vT, .long vB, .long vM, .long vH, .ref ao, .ref ax, .int (nI np), .ref ay, .int (nI nl), .ref ad, .ref al, .int (nI sn), .ref ag, .int (nI ta), .int nb]))]) [0] (by decide) rfl
  have hKc := hK.sub (tys' := []) [] rfl
  have hFc := va_free (wc := [(h0, .inr (7, [.int th, .int (nI nm), .ref ap, .int (nI no), .ref am, .ref aw, .ref az, .ref au, .int kn, .long vP, .long vQ, .long vS, .long vT, .long vB, .long vM, .long vH, .ref ao, .ref ax, .int (nI np), .ref ay, .int (nI nl), .ref ad, .ref al, .int (nI sn), .ref ag, .int (nI ta), .int nb]))]) hD hS hA [0] rfl
  refine va_calli (va_runV (As := [.int (bI (md_win a 0 100000)), .int 1, .int 1]) (rest := []) ⟨hx, hb, hml, hown, hts⟩ (c_MD_goes l dC dI s.heap.size h0 th nm ap no am aw az au kn vP vQ vS vT vB vM vH ao ax np ay nl ad al sn ag ta nb (bI (md_win a 0 100000)) 1 1) (cwV 3 hts (xgV wm_793 wm_795 wm_13 wm_34 wm_796) rfl rfl rfl (by decide +kernel) ⟨Nat.le_of_ble_eq_true rfl, Nat.le_of_ble_eq_true rfl⟩) ⟨xw_blind, va_recv hKc hPc (ci := 7) (q0 := 0) rfl rfl, fun U hU hW => ⟨rfl, by rw [hU], hz.warm hW, by rw [hU]; exact hPc, va_K.moved hW.alike hKc, hDc.weaken (fun _ _ _ _ => trivial)⟩⟩ rfl rfl hl.1 rfl (lv_room (Nat.le_of_ble_eq_true rfl)) d_MD_blunders_10 ⟨Nat.le_of_ble_eq_true rfl, Nat.le_of_ble_eq_true rfl⟩) hS (fun q _ h => hFc q h) hFc (fun r_3 _ t H1 locs ht hvm hw_4 hB hz1 hk1 hS => ?_)
  obtain ⟨hP1, hK1, hD1⟩ := hB
  rw [ht] at hP1
  have hK1 := va_K.moved hvm.symm hK1
  obtain ⟨hP, hD⟩ := va_join (wr := [(ap, .inl (kp, 36, .inl gp)), (am, .inl (km, 20, .inl (md_mk mk))), (aw, .inl (kw, 60, .inl gw)), (az, .inl (kz, 20, .inl gz)), (au, .inl (ku, 20, .inl gu)), (ao, .inl (ko, 20, .inl ho)), (ax, .inl (kx, 20, .inl hx_))]) (w1 := [(h0, .inr (7, [.int (md_th (bI (md_win a 0 100000)) 1 1), .int (nI nm), .ref ap, .int (nI no), .ref am, .ref aw, .ref az, .ref au, .int kn, .long vP, .long vQ, .long vS, .long vT, .long vB, .long vM, .long vH, .ref ao, .ref ax, .int (nI np), .ref ay, .int (nI nl), .ref ad, .ref al, .int (nI sn), .ref ag, .int (nI ta), .int nb]))]) hP hD [0] [1, 2, 3, 4, 5, 6, 7] rfl rfl (by decide) (by decide) hk1 hFc hP1 hD1
  generalize H1 = H at hP hS ⊢
  have hP : va_P (dC, dI) xCl [(ap, .inl (kp, 36, .inl gp)), (am, .inl (km, 20, .inl (md_mk mk))), (aw, .inl (kw, 60, .inl gw)), (az, .inl (kz, 20, .inl gz)), (au, .inl (ku, 20, .inl gu)), (ao, .inl (ko, 20, .inl ho)), (ax, .inl (kx, 20, .inl hx_)), (h0, .inr (7, [.int (md_th (bI (md_win a 0 100000)) 1 1), .int (nI nm), .ref ap, .int (nI no), .ref am, .ref aw, .ref az, .ref au, .int kn, .long vP, .long vQ, .long vS, .long vT, .long vB, .long vM, .long vH, .ref ao, .ref ax, .int (nI np), .ref ay, .int (nI nl), .ref ad, .ref al, .int (nI sn), .ref ag, .int (nI ta), .int nb]))] H := hP
  have hD : va_D A [(ap, .inl (kp, 36, .inl gp)), (am, .inl (km, 20, .inl (md_mk mk))), (aw, .inl (kw, 60, .inl gw)), (az, .inl (kz, 20, .inl gz)), (au, .inl (ku, 20, .inl gu)), (ao, .inl (ko, 20, .inl ho)), (ax, .inl (kx, 20, .inl hx_)), (h0, .inr (7, [.int (md_th (bI (md_win a 0 100000)) 1 1), .int (nI nm), .ref ap, .int (nI no), .ref am, .ref aw, .ref az, .ref au, .int kn, .long vP, .long vQ, .long vS, .long vT, .long vB, .long vM, .long vH, .ref ao, .ref ax, .int (nI np), .ref ay, .int (nI nl), .ref ad, .ref al, .int (nI sn), .ref ag, .int (nI ta), .int nb]))] := hD
  subst hw_4
  refine lv_if_ne (tgt := 18) hx hb d_MD_blunders_13 (by decide) (fun c_5 => ?_) (fun c_5 => ?_)
  · have b_6 := bI_t (rfl : bI (md_th (bI (md_win a 0 100000)) 1 1 = 0) = _) c_5
    refine lv_aload_n hx hb d_MD_blunders_18 rfl (lv_at hl 0 rfl) ?_
    have hPc := hP.sub (ws' := [(h0, .inr (7, [.int (md_th (bI (md_win a 0 100000)) 1 1), .int (nI nm), .ref ap, .int (nI no), .ref am, .ref aw, .ref az, .ref au, .int kn, .long vP, .long vQ, .long vS, .long vT, .long vB, .long vM, .long vH, .ref ao, .ref ax, .int (nI np), .ref ay, .int (nI nl), .ref ad, .ref al, .int (nI sn), .ref ag, .int (nI ta), .int nb])), (ap, .inl (kp, 36, .inl gp)), (am, .inl (km, 20, .inl (md_mk mk))), (aw, .inl (kw, 60, .inl gw)), (az, .inl (kz, 20, .inl gz)), (au, .inl (ku, 20, .inl gu)), (ao, .inl (ko, 20, .inl ho)), (ax, .inl (kx, 20, .inl hx_))]) [7, 0, 1, 2, 3, 4, 5, 6] rfl
    have hDc := hD.sub (ws' := [(h0, .inr (7, [.int (md_th (bI (md_win a 0 100000)) 1 1), .int (nI nm), .ref ap, .int (nI no), .ref am, .ref aw, .ref az, .ref au, .int kn, .long vP, .long vQ, .long vS, .long vT, .long vB, .long vM, .long vH, .ref ao, .ref ax, .int (nI np), .ref ay, .int (nI nl), .ref ad, .ref al, .int (nI sn), .ref ag, .int (nI ta), .int nb])), (ap, .inl (kp, 36, .inl gp)), (am, .inl (km, 20, .inl (md_mk mk))), (aw, .inl (kw, 60, .inl gw)), (az, .inl (kz, 20, .inl gz)), (au, .inl (ku, 20, .inl gu)), (ao, .inl (ko, 20, .inl ho)), (ax, .inl (kx, 20, .inl hx_))]) [7, 0, 1, 2, 3, 4, 5, 6] (by decide) rfl
    have hKc := hK.sub (tys' := [(kp, .int), (km, .int), (kw, .int), (kz, .int), (ku, .boolean), (ko, .int), (kx, .boolean)]) [0, 1, 2, 3, 4, 5, 6] rfl
    have hFc := va_free (wc := [(h0, .inr (7, [.int (md_th (bI (md_win a 0 100000)) 1 1), .int (nI nm), .ref ap, .int (nI no), .ref am, .ref aw, .ref az, .ref au, .int kn, .long vP, .long vQ, .long vS, .long vT, .long vB, .long vM, .long vH, .ref ao, .ref ax, .int (nI np), .ref ay, .int (nI nl), .ref ad, .ref al, .int (nI sn), .ref ag, .int (nI ta), .int nb])), (ap, .inl (kp, 36, .inl gp)), (am, .inl (km, 20, .inl (md_mk mk))), (aw, .inl (kw, 60, .inl gw)), (az, .inl (kz, 20, .inl gz)), (au, .inl (ku, 20, .inl gu)), (ao, .inl (ko, 20, .inl ho)), (ax, .inl (kx, 20, .inl hx_))]) hD hS hA [7, 0, 1, 2, 3, 4, 5, 6] rfl
    refine va_calli (va_runV (As := []) (rest := []) ⟨hx, hb, hml, hown, hts⟩ (c_MD_sets_f l dC dI H.size h0 (md_th (bI (md_win a 0 100000)) 1 1) nm ap no am aw az au kn vP vQ vS vT vB vM vH ao ax np ay nl ad al sn ag ta nb kp km kw kz ku ko kx mk gp gw gz gu ho hx_ (by first | assumption | omega | decide) (by first | assumption | omega | decide) (by first | assumption | omega | decide) (by first | assumption | omega | decide)) (cwV 0 hts (xgV wm_821 wm_823 wm_16 wm_34 wm_824) rfl rfl rfl (by decide +kernel) ⟨Nat.le_of_ble_eq_true rfl, Nat.le_of_ble_eq_true rfl⟩) ⟨xw_blind, va_recv hKc hPc (ci := 7) (q0 := 0) rfl rfl, fun U hU hW => ⟨rfl, by rw [hU], hz.warm hW, by rw [hU]; exact hPc, va_K.moved hW.alike hKc, hDc.weaken (fun _ _ _ _ => trivial)⟩⟩ rfl rfl hl.1 rfl (lv_room (Nat.le_of_ble_eq_true rfl)) d_MD_blunders_19 ⟨Nat.le_of_ble_eq_true rfl, Nat.le_of_ble_eq_true rfl⟩) hS (fun q _ h => hFc q h) hFc (fun r_7 _ t H1 locs ht hvm hw_8 hB hz1 hk1 hS => ?_)
    obtain ⟨hP1, hK1, hD1⟩ := hB
    rw [ht] at hP1
    have hK1 := va_K.moved hvm.symm hK1
    obtain ⟨hP, hD⟩ := va_join (wr := []) (w1 := [(h0, .inr (7, [.int (md_th (bI (md_win a 0 100000)) 1 1), .int (nI nm), .ref ap, .int (nI no), .ref am, .ref aw, .ref az, .ref au, .int kn, .long vP, .long vQ, .long vS, .long vT, .long vB, .long vM, .long vH, .ref ao, .ref ax, .int (nI np), .ref ay, .int (nI nl), .ref ad, .ref al, .int (nI sn), .ref ag, .int (nI ta), .int nb])), (ap, .inl (kp, 36, .inl gp)), (am, .inl (km, 20, .inl (md_mk mk))), (aw, .inl (kw, 60, .inl gw)), (az, .inl (kz, 20, .inl gz)), (au, .inl (ku, 20, .inl gu)), (ao, .inl (ko, 20, .inl ho)), (ax, .inl (kx, 20, .inl hx_))]) hP hD [7, 0, 1, 2, 3, 4, 5, 6] [] rfl rfl (by decide) (by decide) hk1 hFc hP1 hD1
    generalize H1 = H at hP hS ⊢
    have hP : va_P (dC, dI) xCl [(h0, .inr (7, [.int (md_th (bI (md_win a 0 100000)) 1 1), .int (nI nm), .ref ap, .int (nI no), .ref am, .ref aw, .ref az, .ref au, .int kn, .long vP, .long vQ, .long vS, .long vT, .long vB, .long vM, .long vH, .ref ao, .ref ax, .int (nI np), .ref ay, .int (nI nl), .ref ad, .ref al, .int (nI sn), .ref ag, .int (nI ta), .int nb])), (ap, .inl (kp, 36, .inl gp)), (am, .inl (km, 20, .inl (md_mk mk))), (aw, .inl (kw, 60, .inl gw)), (az, .inl (kz, 20, .inl gz)), (au, .inl (ku, 20, .inl gu)), (ao, .inl (ko, 20, .inl ho)), (ax, .inl (kx, 20, .inl hx_))] H := hP
    have hD : va_D A [(h0, .inr (7, [.int (md_th (bI (md_win a 0 100000)) 1 1), .int (nI nm), .ref ap, .int (nI no), .ref am, .ref aw, .ref az, .ref au, .int kn, .long vP, .long vQ, .long vS, .long vT, .long vB, .long vM, .long vH, .ref ao, .ref ax, .int (nI np), .ref ay, .int (nI nl), .ref ad, .ref al, .int (nI sn), .ref ag, .int (nI ta), .int nb])), (ap, .inl (kp, 36, .inl gp)), (am, .inl (km, 20, .inl (md_mk mk))), (aw, .inl (kw, 60, .inl gw)), (az, .inl (kz, 20, .inl gz)), (au, .inl (ku, 20, .inl gu)), (ao, .inl (ko, 20, .inl ho)), (ax, .inl (kx, 20, .inl hx_))] := hD
    subst hw_8
    refine lv_if_eq (tgt := 29) hx hb d_MD_blunders_22 (by decide) (fun c_9 => ?_) (fun c_9 => ?_)
    · refine lv_iconst (v := (-1)) hx hb d_MD_blunders_29 (by decide) ?_
      refine lv_istore_n (lv' := [(2, .int (-1)), (0, .ref h0), (1, .int a)]) hx hb d_MD_blunders_30 rfl hl (by decide) rfl (fun ls hl => ?_)
      refine lv_iload_n hx hb d_MD_blunders_31 rfl (lv_at hl 0 rfl) ?_
      refine lv_if_ne (tgt := 39) hx hb d_MD_blunders_32 (by decide) (fun c_10 => ?_) (fun c_10 => ?_)
      · refine lv_iconst (v := 0) hx hb d_MD_blunders_39 (by decide) ?_
        refine lv_istore_n (lv' := [(3, .int 0), (2, .int (-1)), (0, .ref h0), (1, .int a)]) hx hb d_MD_blunders_40 rfl hl (by decide) rfl (fun ls hl => ?_)
        refine lv_iload_n hx hb d_MD_blunders_41 rfl (lv_at hl 0 rfl) ?_
        refine lv_if_eq (tgt := 184) hx hb d_MD_blunders_42 (by decide) (fun c_11 => ?_) (fun c_11 => ?_)
        · refine lv_iload_n hx hb d_MD_blunders_184 rfl (lv_at hl 1 rfl) ?_
          rw [md_th_0 (bI_ne hwn) (by decide) (by decide)] at hP hD
          have hP9 := hP.sub (ws' := [(h0, .inr (7, [.int 0, .int (nI nm), .ref ap, .int (nI no), .ref am, .ref aw, .ref az, .ref au, .int kn, .long vP, .long vQ, .long vS, .long vT, .long vB, .long vM, .long vH, .ref ao, .ref ax, .int (nI np), .ref ay, .int (nI nl), .ref ad, .ref al, .int (nI sn), .ref ag, .int (nI ta), .int nb])), (ap, .inl (kp, 36, .inl gp)), (am, .inl (km, 20, .inl (md_mk mk))), (aw, .inl (kw, 60, .inl gw)), (az, .inl (kz, 20, .inl gz)), (au, .inl (ku, 20, .inl gu)), (ao, .inl (ko, 20, .inl ho)), (ax, .inl (kx, 20, .inl hx_))]) [0, 1, 2, 3, 4, 5, 6, 7] rfl
          have hD9 := hD.sub (ws' := [(h0, .inr (7, [.int 0, .int (nI nm), .ref ap, .int (nI no), .ref am, .ref aw, .ref az, .ref au, .int kn, .long vP, .long vQ, .long vS, .long vT, .long vB, .long vM, .long vH, .ref ao, .ref ax, .int (nI np), .ref ay, .int (nI nl), .ref ad, .ref al, .int (nI sn), .ref ag, .int (nI ta), .int nb])), (ap, .inl (kp, 36, .inl gp)), (am, .inl (km, 20, .inl (md_mk mk))), (aw, .inl (kw, 60, .inl gw)), (az, .inl (kz, 20, .inl gz)), (au, .inl (ku, 20, .inl gu)), (ao, .inl (ko, 20, .inl ho)), (ax, .inl (kx, 20, .inl hx_))]) [0, 1, 2, 3, 4, 5, 6, 7] (by decide) rfl
          have hK9 := hK.sub (tys' := [(kp, .int), (km, .int), (kw, .int), (kz, .int), (ku, .boolean), (ko, .int), (kx, .boolean)]) [0, 1, 2, 3, 4, 5, 6] rfl
          exact W.iret (v := (-1)) hx hb hr (fun t ht hW => ⟨⟨(-1), (), rfl, rfl, ⟨by rw [ht]; exact hP9, va_K.moved hW.alike hK9, by exact hD9⟩⟩, hS.F ht⟩) hS.2.2 d_MD_blunders_185 hlocks
        · exact absurd c_11 (by decide)
      · exact absurd c_10 (by decide)
    · exact absurd c_9 (by decide)
  · exact absurd (md_th_0 (bI_ne hwn) (by decide) (by decide)) (bI_f rfl c_5)
