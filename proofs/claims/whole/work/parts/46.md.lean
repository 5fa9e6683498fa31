theorem d_MD_read_0 : decode prog_9_method_36_code 0 = .ok (.aload_n 0, 1) := by decide +kernel
theorem d_MD_read_1 : decode prog_9_method_36_code 1 = .ok (.iconst 0, 1) := by decide +kernel
theorem d_MD_read_2 : decode prog_9_method_36_code 2 = .ok (.putfield 48, 3) := by decide +kernel
theorem d_MD_read_5 : decode prog_9_method_36_code 5 = .ok (.aload_n 0, 1) := by decide +kernel
theorem d_MD_read_6 : decode prog_9_method_36_code 6 = .ok (.iconst 0, 1) := by decide +kernel
theorem d_MD_read_7 : decode prog_9_method_36_code 7 = .ok (.putfield 152, 3) := by decide +kernel
theorem d_MD_read_10 : decode prog_9_method_36_code 10 = .ok (.iconst 0, 1) := by decide +kernel
theorem d_MD_read_11 : decode prog_9_method_36_code 11 = .ok (.istore_n 1, 1) := by decide +kernel
theorem d_MD_read_12 : decode prog_9_method_36_code 12 = .ok (.iconst (-1), 1) := by decide +kernel
theorem d_MD_read_13 : decode prog_9_method_36_code 13 = .ok (.istore_n 2, 1) := by decide +kernel
theorem d_MD_read_14 : decode prog_9_method_36_code 14 = .ok (.aload_n 0, 1) := by decide +kernel
theorem d_MD_read_15 : decode prog_9_method_36_code 15 = .ok (.getfield 152, 3) := by decide +kernel
theorem d_MD_read_18 : decode prog_9_method_36_code 18 = .ok (.aload_n 0, 1) := by decide +kernel
theorem d_MD_read_19 : decode prog_9_method_36_code 19 = .ok (.getfield 139, 3) := by decide +kernel
theorem d_MD_read_22 : decode prog_9_method_36_code 22 = .ok (.if_icmp .ge 34, 3) := by decide +kernel
theorem d_MD_read_25 : decode prog_9_method_36_code 25 = .ok (.iload_n 2, 1) := by decide +kernel
theorem d_MD_read_26 : decode prog_9_method_36_code 26 = .ok (.iconst (-1), 1) := by decide +kernel
theorem d_MD_read_27 : decode prog_9_method_36_code 27 = .ok (.if_icmp .ne 29, 3) := by decide +kernel
theorem d_MD_read_30 : decode prog_9_method_36_code 30 = .ok (.aload_n 0, 1) := by decide +kernel
theorem d_MD_read_31 : decode prog_9_method_36_code 31 = .ok (.aload_n 0, 1) := by decide +kernel
theorem d_MD_read_32 : decode prog_9_method_36_code 32 = .ok (.getfield 55, 3) := by decide +kernel
theorem d_MD_read_35 : decode prog_9_method_36_code 35 = .ok (.iload_n 1, 1) := by decide +kernel
theorem d_MD_read_36 : decode prog_9_method_36_code 36 = .ok (.iadd, 1) := by decide +kernel
theorem d_MD_read_37 : decode prog_9_method_36_code 37 = .ok (.iconst 0, 1) := by decide +kernel
theorem d_MD_read_38 : decode prog_9_method_36_code 38 = .ok (.invokevirtual 161, 3) := by decide +kernel
theorem d_MD_read_41 : decode prog_9_method_36_code 41 = .ok (.ifCond .eq 7, 3) := by decide +kernel
theorem d_MD_read_44 : decode prog_9_method_36_code 44 = .ok (.iconst (-1), 1) := by decide +kernel
theorem d_MD_read_45 : decode prog_9_method_36_code 45 = .ok (.goto 4, 3) := by decide +kernel
theorem d_MD_read_48 : decode prog_9_method_36_code 48 = .ok (.iload_n 1, 1) := by decide +kernel
theorem d_MD_read_49 : decode prog_9_method_36_code 49 = .ok (.istore_n 2, 1) := by decide +kernel
theorem d_MD_read_50 : decode prog_9_method_36_code 50 = .ok (.iinc 1 1, 3) := by decide +kernel
theorem d_MD_read_53 : decode prog_9_method_36_code 53 = .ok (.goto (-39), 3) := by decide +kernel
theorem d_MD_read_56 : decode prog_9_method_36_code 56 = .ok (.aload_n 0, 1) := by decide +kernel
theorem d_MD_read_57 : decode prog_9_method_36_code 57 = .ok (.iconst 0, 1) := by decide +kernel
theorem d_MD_read_58 : decode prog_9_method_36_code 58 = .ok (.putfield 152, 3) := by decide +kernel
theorem d_MD_read_61 : decode prog_9_method_36_code 61 = .ok (.iconst 0, 1) := by decide +kernel
theorem d_MD_read_62 : decode prog_9_method_36_code 62 = .ok (.istore_n 3, 1) := by decide +kernel
theorem d_MD_read_63 : decode prog_9_method_36_code 63 = .ok (.iload_n 3, 1) := by decide +kernel
theorem d_MD_read_64 : decode prog_9_method_36_code 64 = .ok (.iload_n 1, 1) := by decide +kernel
theorem d_MD_read_65 : decode prog_9_method_36_code 65 = .ok (.if_icmp .ge 21, 3) := by decide +kernel
theorem d_MD_read_68 : decode prog_9_method_36_code 68 = .ok (.iload_n 2, 1) := by decide +kernel
theorem d_MD_read_69 : decode prog_9_method_36_code 69 = .ok (.iconst (-1), 1) := by decide +kernel
theorem d_MD_read_70 : decode prog_9_method_36_code 70 = .ok (.if_icmp .ne 16, 3) := by decide +kernel
theorem d_MD_read_73 : decode prog_9_method_36_code 73 = .ok (.aload_n 0, 1) := by decide +kernel
theorem d_MD_read_74 : decode prog_9_method_36_code 74 = .ok (.iconst 0, 1) := by decide +kernel
theorem d_MD_read_75 : decode prog_9_method_36_code 75 = .ok (.iconst 1, 1) := by decide +kernel
theorem d_MD_read_76 : decode prog_9_method_36_code 76 = .ok (.invokevirtual 161, 3) := by decide +kernel
theorem d_MD_read_79 : decode prog_9_method_36_code 79 = .ok (.pop, 1) := by decide +kernel
theorem d_MD_read_80 : decode prog_9_method_36_code 80 = .ok (.iinc 3 1, 3) := by decide +kernel
theorem d_MD_read_83 : decode prog_9_method_36_code 83 = .ok (.goto (-20), 3) := by decide +kernel
theorem d_MD_read_86 : decode prog_9_method_36_code 86 = .ok (.aload_n 0, 1) := by decide +kernel
theorem d_MD_read_87 : decode prog_9_method_36_code 87 = .ok (.iconst 0, 1) := by decide +kernel
theorem d_MD_read_88 : decode prog_9_method_36_code 88 = .ok (.putfield 139, 3) := by decide +kernel
theorem d_MD_read_91 : decode prog_9_method_36_code 91 = .ok (.iload_n 2, 1) := by decide +kernel
theorem d_MD_read_92 : decode prog_9_method_36_code 92 = .ok (.iconst (-1), 1) := by decide +kernel
theorem d_MD_read_93 : decode prog_9_method_36_code 93 = .ok (.if_icmp .ne 7, 3) := by decide +kernel
theorem d_MD_read_96 : decode prog_9_method_36_code 96 = .ok (.iload_n 1, 1) := by decide +kernel
theorem d_MD_read_97 : decode prog_9_method_36_code 97 = .ok (.goto 6, 3) := by decide +kernel
theorem d_MD_read_100 : decode prog_9_method_36_code 100 = .ok (.iconst (-1), 1) := by decide +kernel
theorem d_MD_read_101 : decode prog_9_method_36_code 101 = .ok (.iload_n 2, 1) := by decide +kernel
theorem d_MD_read_102 : decode prog_9_method_36_code 102 = .ok (.isub, 1) := by decide +kernel
theorem d_MD_read_103 : decode prog_9_method_36_code 103 = .ok (.ireturn, 1) := by decide +kernel
set_option maxHeartbeats 4000000 in
set_option maxRecDepth 100000 in
/-- read -/
theorem c_MD_read_y (l : Launch) (dC : Nat → ClassId) (dI : Nat → Nat → Nat) (sz : Nat) (h0 : Nat) (th : Int32) (nm : Nat) (ap : Nat) (no : Nat) (am : Nat) (aw : Nat) (az : Nat) (au : Nat) (kn : Int32) (vP : Int64) (vQ : Int64) (vS : Int64) (vT : Int64) (vB : Int64) (vM : Int64) (vH : Int64) (ao : Nat) (ax : Nat) (np : Nat) (ay : Nat) (nl : Nat) (ad : Nat) (al : Nat) (sn : Nat) (ag : Nat) (ta : Nat) (nb : Int32) (km : ClassId) (kw : ClassId) (ku : ClassId) (gm : Nat → Int32) (gw : Nat → Int32) (gu : Nat → Int32) (kg : ClassId) (gg : Nat → Int32) (nr : Nat) (hle : sn ≤ 200) (hnn : no + nr ≤ 20) (hg : ∀ k, k < nr → md_ps gg sn nm no k < sn ∧ md_r4 gg sn (md_ps gg sn nm no k) nm (no + k)) (hend : sn ≤ md_ps gg sn nm no nr) : Met l xy_MD_read xw_MD_read ({ frames := 3, cells := 0, slots := 0, locals := 72 }) (xp_w [.ref h0] sz (dC, dI) xCl [(h0, .inr (7, [.int th, .int (nI nm), .ref ap, .int (nI no), .ref am, .ref aw, .ref az, .ref au, .int kn, .long vP, .long vQ, .long vS, .long vT, .long vB, .long vM, .long vH, .ref ao, .ref ax, .int (nI np), .ref ay, .int (nI nl), .ref ad, .ref al, .int (nI sn), .ref ag, .int (nI ta), .int nb])), (am, .inl (km, 20, .inl gm)), (aw, .inl (kw, 60, .inl gw)), (au, .inl (ku, 20, .inl gu)), (ag, .inl (kg, 200, .inl gg))] [(km, .int), (kw, .int), (ku, .boolean), (kg, .int)]) (va_Qi (fun (r : Int32) (_ : Unit) => r = nI nr) (fun _ t => xb_w (dC, dI) xCl [(h0, .inr (7, [.int 0, .int (nI nm), .ref ap, .int (nI (no + nr)), .ref am, .ref aw, .ref az, .ref au, .int kn, .long vP, .long vQ, .long vS, .long vT, .long vB, .long vM, .long vH, .ref ao, .ref ax, .int (nI np), .ref ay, .int (nI nl), .ref ad, .ref al, .int (nI 0), .ref ag, .int (nI (md_ps gg sn nm no nr)), .int (md_pm gg sn nm no (md_pm gg sn nm no nb nr) nr)])), (am, .inl (km, 20, .inl (md_rm gg sn nm no gm nr))), (aw, .inl (kw, 60, .inl (md_rv gg sn nm no gw nr))), (au, .inl (ku, 20, .inl (md_ru no gu nr))), (ag, .inl (kg, 200, .inl gg))] [(km, .int), (kw, .int), (ku, .boolean), (kg, .int)] (va_A [(h0, .inr (7, [.int th, .int (nI nm), .ref ap, .int (nI no), .ref am, .ref aw, .ref az, .ref au, .int kn, .long vP, .long vQ, .long vS, .long vT, .long vB, .long vM, .long vH, .ref ao, .ref ax, .int (nI np), .ref ay, .int (nI nl), .ref ad, .ref al, .int (nI sn), .ref ag, .int (nI ta), .int nb])), (am, .inl (km, 20, .inl gm)), (aw, .inl (kw, 60, .inl gw)), (au, .inl (ku, 20, .inl gu)), (ag, .inl (kg, 200, .inl gg))] sz) t) (va_A [(h0, .inr (7, [.int th, .int (nI nm), .ref ap, .int (nI no), .ref am, .ref aw, .ref az, .ref au, .int kn, .long vP, .long vQ, .long vS, .long vT, .long vB, .long vM, .long vH, .ref ao, .ref ax, .int (nI np), .ref ay, .int (nI nl), .ref ad, .ref al, .int (nI sn), .ref ag, .int (nI ta), .int nb])), (am, .inl (km, 20, .inl gm)), (aw, .inl (kw, 60, .inl gw)), (au, .inl (ku, 20, .inl gu)), (ag, .inl (kg, 200, .inl gg))] sz)) 0 0 (va_A [(h0, .inr (7, [.int th, .int (nI nm), .ref ap, .int (nI no), .ref am, .ref aw, .ref az, .ref au, .int kn, .long vP, .long vQ, .long vS, .long vT, .long vB, .long vM, .long vH, .ref ao, .ref ax, .int (nI np), .ref ay, .int (nI nl), .ref ad, .ref al, .int (nI sn), .ref ag, .int (nI ta), .int nb])), (am, .inl (km, 20, .inl gm)), (aw, .inl (kw, 60, .inl gw)), (au, .inl (ku, 20, .inl gu)), (ag, .inl (kg, 200, .inl gg))] sz) := by
  refine Met.ofW (cc := prog_9_method_36_code) (maxL := 4) (ret := (some .int)) (by decide) rfl ?_
  intro p e s m args below meth c s₁ B hml hv
  obtain ⟨rfl, hsz, hz, hP, hK, hD0⟩ := hv
  have hx := B.exec
  have hb := B.bytes
  have hr := B.returns
  have hts := atoms_spec (ws := xw_MD_read) B.pre
  have hown : s.vm.findClass xR_MD = some m.cls := findClass_of_methodNamed B.named
  have hlocks := B.notSynchronized
  subst hsz
  have hD := hD0.self (sz := s.heap.size)
  generalize hAe : va_A [(h0, .inr (7, [.int th, .int (nI nm), .ref ap, .int (nI no), .ref am, .ref aw, .ref az, .ref au, .int kn, .long vP, .long vQ, .long vS, .long vT, .long vB, .long vM, .long vH, .ref ao, .ref ax, .int (nI np), .ref ay, .int (nI nl), .ref ad, .ref al, .int (nI sn), .ref ag, .int (nI ta), .int nb])), (am, .inl (km, 20, .inl gm)), (aw, .inl (kw, 60, .inl gw)), (au, .inl (ku, 20, .inl gu)), (ag, .inl (kg, 200, .inl gg))] s.heap.size = A at hD ⊢
  have hA : ∀ q : Nat, s.heap.size ≤ q → A q := fun q h => by rw [← hAe]; exact Or.inr h
  have hS : va_S A s.heap s.heap [] := va_S.rf
  have hP : va_P (dC, dI) xCl [(h0, .inr (7, [.int th, .int (nI nm), .ref ap, .int (nI no), .ref am, .ref aw, .ref az, .ref au, .int kn, .long vP, .long vQ, .long vS, .long vT, .long vB, .long vM, .long vH, .ref ao, .ref ax, .int (nI np), .ref ay, .int (nI nl), .ref ad, .ref al, .int (nI sn), .ref ag, .int (nI ta), .int nb])), (am, .inl (km, 20, .inl gm)), (aw, .inl (kw, 60, .inl gw)), (au, .inl (ku, 20, .inl gu)), (ag, .inl (kg, 200, .inl gg))] s.heap := hP
  have hl := lv_entry ([.ref h0]) (n := 4) (Nat.le_of_ble_eq_true rfl)
  rw [lg_entry_eq]
  generalize (lg_sl ([.ref h0]) ++ List.replicate (4 - (lg_sl ([.ref h0])).length) Slot.unset).toArray = ls at hl ⊢
  have hl : lv_has ls 4 [(0, .ref h0)] := hl
  refine lv_aload_n hx hb d_MD_read_0 rfl (lv_at hl 0 rfl) ?_
  refine lv_iconst (v := 0) hx hb d_MD_read_1 (by decide) ?_
  refine va_put (D := (dC, dI)) (ci := 7) (v := .int 0) (ty := .int) (C := xR_MD) (T := xT_MD) (N := 27) hx hb hts (fun w h => List.mem_cons_of_mem _ (iw_MD w h)) xt_MD xt_MD_ok xn_MD_nm hown hK hP hD hS 0 rfl rfl 0 (by decide) (hts _ (List.mem_cons_of_mem _ wm_697)) (fun _ h9 => h9) rfl (by decide +kernel) rfl rfl (Nat.le_of_ble_eq_true rfl) d_MD_read_2 (fun H locs hP hD hS => ?_)
  have hP : va_P (dC, dI) xCl [(h0, .inr (7, [.int 0, .int (nI nm), .ref ap, .int (nI no), .ref am, .ref aw, .ref az, .ref au, .int kn, .long vP, .long vQ, .long vS, .long vT, .long vB, .long vM, .long vH, .ref ao, .ref ax, .int (nI np), .ref ay, .int (nI nl), .ref ad, .ref al, .int (nI sn), .ref ag, .int (nI ta), .int nb])), (am, .inl (km, 20, .inl gm)), (aw, .inl (kw, 60, .inl gw)), (au, .inl (ku, 20, .inl gu)), (ag, .inl (kg, 200, .inl gg))] H := hP
  have hD : va_D A [(h0, .inr (7, [.int 0, .int (nI nm), .ref ap, .int (nI no), .ref am, .ref aw, .ref az, .ref au, .int kn, .long vP, .long vQ, .long vS, .long vT, .long vB, .long vM, .long vH, .ref ao, .ref ax, .int (nI np), .ref ay, .int (nI nl), .ref ad, .ref al, .int (nI sn), .ref ag, .int (nI ta), .int nb])), (am, .inl (km, 20, .inl gm)), (aw, .inl (kw, 60, .inl gw)), (au, .inl (ku, 20, .inl gu)), (ag, .inl (kg, 200, .inl gg))] := hD
  refine lv_aload_n hx hb d_MD_read_5 rfl (lv_at hl 0 rfl) ?_
  refine lv_iconst (v := 0) hx hb d_MD_read_6 (by decide) ?_
  refine va_put (D := (dC, dI)) (ci := 7) (v := .int 0) (ty := .int) (C := xR_MD) (T := xT_MD) (N := 27) hx hb hts (fun w h => List.mem_cons_of_mem _ (iw_MD w h)) xt_MD xt_MD_ok xn_MD_nm hown hK hP hD hS 0 rfl rfl 25 (by decide) (hts _ (List.mem_cons_of_mem _ wm_722)) (fun _ h9 => h9) rfl (by decide +kernel) rfl rfl (Nat.le_of_ble_eq_true rfl) d_MD_read_7 (fun H locs hP hD hS => ?_)
  have hP : va_P (dC, dI) xCl [(h0, .inr (7, [.int 0, .int (nI nm), .ref ap, .int (nI no), .ref am, .ref aw, .ref az, .ref au, .int kn, .long vP, .long vQ, .long vS, .long vT, .long vB, .long vM, .long vH, .ref ao, .ref ax, .int (nI np), .ref ay, .int (nI nl), .ref ad, .ref al, .int (nI sn), .ref ag, .int 0, .int nb])), (am, .inl (km, 20, .inl gm)), (aw, .inl (kw, 60, .inl gw)), (au, .inl (ku, 20, .inl gu)), (ag, .inl (kg, 200, .inl gg))] H := hP
  have hD : va_D A [(h0, .inr (7, [.int 0, .int (nI nm), .ref ap, .int (nI no), .ref am, .ref aw, .ref az, .ref au, .int kn, .long vP, .long vQ, .long vS, .long vT, .long vB, .long vM, .long vH, .ref ao, .ref ax, .int (nI np), .ref ay, .int (nI nl), .ref ad, .ref al, .int (nI sn), .ref ag, .int 0, .int nb])), (am, .inl (km, 20, .inl gm)), (aw, .inl (kw, 60, .inl gw)), (au, .inl (ku, 20, .inl gu)), (ag, .inl (kg, 200, .inl gg))] := hD
  refine lv_iconst (v := 0) hx hb d_MD_read_10 (by decide) ?_
  refine lv_istore_n (lv' := [(1, .int 0), (0, .ref h0)]) hx hb d_MD_read_11 rfl hl (by decide) rfl (fun ls hl => ?_)
  refine lv_iconst (v := (-1)) hx hb d_MD_read_12 (by decide) ?_
  refine lv_istore_n (lv' := [(2, .int (-1)), (1, .int 0), (0, .ref h0)]) hx hb d_MD_read_13 rfl hl (by decide) rfl (fun ls hl => ?_)
  have lp14 : ∀ (fuel : Nat) (i : Nat) (z : Nat) (xn : Int32), nr - i < fuel → i ≤ nr → z ≤ 201 → z = md_ps gg sn nm no i → xn = md_pm gg sn nm no nb i → ∀ (H : Heap) (locs : List Loc), va_P (dC, dI) xCl [(h0, .inr (7, [.int 0, .int (nI nm), .ref ap, .int (nI no), .ref am, .ref aw, .ref az, .ref au, .int kn, .long vP, .long vQ, .long vS, .long vT, .long vB, .long vM, .long vH, .ref ao, .ref ax, .int (nI np), .ref ay, .int (nI nl), .ref ad, .ref al, .int (nI sn), .ref ag, .int (nI z), .int xn])), (am, .inl (km, 20, .inl gm)), (aw, .inl (kw, 60, .inl gw)), (au, .inl (ku, 20, .inl gu)), (ag, .inl (kg, 200, .inl gg))] H → va_D A [(h0, .inr (7, [.int 0, .int (nI nm), .ref ap, .int (nI no), .ref am, .ref aw, .ref az, .ref au, .int kn, .long vP, .long vQ, .long vS, .long vT, .long vB, .long vM, .long vH, .ref ao, .ref ax, .int (nI np), .ref ay, .int (nI nl), .ref ad, .ref al, .int (nI sn), .ref ag, .int (nI z), .int xn])), (am, .inl (km, 20, .inl gm)), (aw, .inl (kw, 60, .inl gw)), (au, .inl (ku, 20, .inl gu)), (ag, .inl (kg, 200, .inl gg))] → va_S A s.heap H locs → ∀ (ls : Array Slot), lv_has ls 4 [(0, .ref h0), (1, .int (nI i)), (2, .int (-1))] → W p l e (headSpec xw_MD_read ({ frames := 3, cells := 0, slots := 0, locals := 72 })).room s m ([.ref h0] : List Value).toArray below meth c H locs 0 0 (MQ below (va_Qi (fun (r : Int32) (_ : Unit) => r = nI nr) (fun _ t => xb_w (dC, dI) xCl [(h0, .inr (7, [.int 0, .int (nI nm), .ref ap, .int (nI (no + nr)), .ref am, .ref aw, .ref az, .ref au, .int kn, .long vP, .long vQ, .long vS, .long vT, .long vB, .long vM, .long vH, .ref ao, .ref ax, .int (nI np), .ref ay, .int (nI nl), .ref ad, .ref al, .int (nI 0), .ref ag, .int (nI (md_ps gg sn nm no nr)), .int (md_pm gg sn nm no (md_pm gg sn nm no nb nr) nr)])), (am, .inl (km, 20, .inl (md_rm gg sn nm no gm nr))), (aw, .inl (kw, 60, .inl (md_rv gg sn nm no gw nr))), (au, .inl (ku, 20, .inl (md_ru no gu nr))), (ag, .inl (kg, 200, .inl gg))] [(km, .int), (kw, .int), (ku, .boolean), (kg, .int)] A t) A) ([.ref h0] : List Value).toArray s 0 0 A) (F0 m 14 ls []) := by
    intro fuel
    induction fuel with
    | zero => intro i z xn hfu; exact absurd hfu (Nat.not_lt_zero _)
    | succ fuel ih =>
      intro i z xn hfu hi hz2 hz hxn H locs hP hD hS ls hl
      subst hz
      subst hxn
      refine lv_aload_n hx hb d_MD_read_14 rfl (lv_at hl 0 rfl) ?_
      refine va_get (D := (dC, dI)) (ci := 7) (v := .int (nI (md_ps gg sn nm no i))) (C := xR_MD) (T := xT_MD) (N := 27) hx hb hts (fun w h => List.mem_cons_of_mem _ (iw_MD w h)) hown hK hP 0 rfl rfl 25 (by decide) (hts _ (List.mem_cons_of_mem _ wm_722)) (fun _ h9 => h9) rfl d_MD_read_15 ?_
      refine lv_aload_n hx hb d_MD_read_18 rfl (lv_at hl 0 rfl) ?_
      refine va_get (D := (dC, dI)) (ci := 7) (v := .int (nI sn)) (C := xR_MD) (T := xT_MD) (N := 27) hx hb hts (fun w h => List.mem_cons_of_mem _ (iw_MD w h)) hown hK hP 0 rfl rfl 23 (by decide) (hts _ (List.mem_cons_of_mem _ wm_720)) (fun _ h9 => h9) rfl d_MD_read_19 ?_
      refine lv_icmp_ge (tgt := 56) hx hb d_MD_read_22 (by decide) (fun c_1 => ?_) (fun c_1 => ?_)
      · have n_2 := xn_le (a := sn) (b := (md_ps gg sn nm no i)) c_1 rfl rfl (by omega) (by omega)
        have e9 : i = nr := Nat.le_antisymm hi (Nat.le_of_not_lt (fun q => by have := (hg i q).1; omega))
        rw [e9] at hl hP hD
        have hl : lv_has ls 4 [(0, .ref h0), (1, .int (nI nr)), (2, .int (-1))] := hl
        have hP : va_P (dC, dI) xCl [(h0, .inr (7, [.int 0, .int (nI nm), .ref ap, .int (nI no), .ref am, .ref aw, .ref az, .ref au, .int kn, .long vP, .long vQ, .long vS, .long vT, .long vB, .long vM, .long vH, .ref ao, .ref ax, .int (nI np), .ref ay, .int (nI nl), .ref ad, .ref al, .int (nI sn), .ref ag, .int (nI (md_ps gg sn nm no nr)), .int (md_pm gg sn nm no nb nr)])), (am, .inl (km, 20, .inl gm)), (aw, .inl (kw, 60, .inl gw)), (au, .inl (ku, 20, .inl gu)), (ag, .inl (kg, 200, .inl gg))] H := hP
        have hD : va_D A [(h0, .inr (7, [.int 0, .int (nI nm), .ref ap, .int (nI no), .ref am, .ref aw, .ref az, .ref au, .int kn, .long vP, .long vQ, .long vS, .long vT, .long vB, .long vM, .long vH, .ref ao, .ref ax, .int (nI np), .ref ay, .int (nI nl), .ref ad, .ref al, .int (nI sn), .ref ag, .int (nI (md_ps gg sn nm no nr)), .int (md_pm gg sn nm no nb nr)])), (am, .inl (km, 20, .inl gm)), (aw, .inl (kw, 60, .inl gw)), (au, .inl (ku, 20, .inl gu)), (ag, .inl (kg, 200, .inl gg))] := hD
        refine lv_aload_n hx hb d_MD_read_56 rfl (lv_at hl 0 rfl) ?_
        refine lv_iconst (v := 0) hx hb d_MD_read_57 (by decide) ?_
        refine va_put (D := (dC, dI)) (ci := 7) (v := .int 0) (ty := .int) (C := xR_MD) (T := xT_MD) (N := 27) hx hb hts (fun w h => List.mem_cons_of_mem _ (iw_MD w h)) xt_MD xt_MD_ok xn_MD_nm hown hK hP hD hS 0 rfl rfl 25 (by decide) (hts _ (List.mem_cons_of_mem _ wm_722)) (fun _ h9 => h9) rfl (by decide +kernel) rfl rfl (Nat.le_of_ble_eq_true rfl) d_MD_read_58 (fun H locs hP hD hS => ?_)
        have hP : va_P (dC, dI) xCl [(h0, .inr (7, [.int 0, .int (nI nm), .ref ap, .int (nI no), .ref am, .ref aw, .ref az, .ref au, .int kn, .long vP, .long vQ, .long vS, .long vT, .long vB, .long vM, .long vH, .ref ao, .ref ax, .int (nI np), .ref ay, .int (nI nl), .ref ad, .ref al, .int (nI sn), .ref ag, .int 0, .int (md_pm gg sn nm no nb nr)])), (am, .inl (km, 20, .inl gm)), (aw, .inl (kw, 60, .inl gw)), (au, .inl (ku, 20, .inl gu)), (ag, .inl (kg, 200, .inl gg))] H := hP
        have hD : va_D A [(h0, .inr (7, [.int 0, .int (nI nm), .ref ap, .int (nI no), .ref am, .ref aw, .ref az, .ref au, .int kn, .long vP, .long vQ, .long vS, .long vT, .long vB, .long vM, .long vH, .ref ao, .ref ax, .int (nI np), .ref ay, .int (nI nl), .ref ad, .ref al, .int (nI sn), .ref ag, .int 0, .int (md_pm gg sn nm no nb nr)])), (am, .inl (km, 20, .inl gm)), (aw, .inl (kw, 60, .inl gw)), (au, .inl (ku, 20, .inl gu)), (ag, .inl (kg, 200, .inl gg))] := hD
        refine lv_iconst (v := 0) hx hb d_MD_read_61 (by decide) ?_
        refine lv_istore_n (lv' := [(3, .int 0), (0, .ref h0), (1, .int (nI nr)), (2, .int (-1))]) hx hb d_MD_read_62 rfl hl (by decide) rfl (fun ls hl => ?_)
        have lp63 : ∀ (fuel : Nat) (j : Nat) (z : Nat) (xn : Int32) (zm : Nat → Int32) (zw : Nat → Int32) (zu : Nat → Int32), nr - j < fuel → j ≤ nr → z ≤ 201 → z = md_ps gg sn nm no j → xn = md_pm gg sn nm no (md_pm gg sn nm no nb nr) j → zm = md_rm gg sn nm no gm j → zw = md_rv gg sn nm no gw j → zu = md_ru no gu j → ∀ (H : Heap) (locs : List Loc), va_P (dC, dI) xCl [(h0, .inr (7, [.int 0, .int (nI nm), .ref ap, .int (nI (no + j)), .ref am, .ref aw, .ref az, .ref au, .int kn, .long vP, .long vQ, .long vS, .long vT, .long vB, .long vM, .long vH, .ref ao, .ref ax, .int (nI np), .ref ay, .int (nI nl), .ref ad, .ref al, .int (nI sn), .ref ag, .int (nI z), .int xn])), (am, .inl (km, 20, .inl zm)), (aw, .inl (kw, 60, .inl zw)), (au, .inl (ku, 20, .inl zu)), (ag, .inl (kg, 200, .inl gg))] H → va_D A [(h0, .inr (7, [.int 0, .int (nI nm), .ref ap, .int (nI (no + j)), .ref am, .ref aw, .ref az, .ref au, .int kn, .long vP, .long vQ, .long vS, .long vT, .long vB, .long vM, .long vH, .ref ao, .ref ax, .int (nI np), .ref ay, .int (nI nl), .ref ad, .ref al, .int (nI sn), .ref ag, .int (nI z), .int xn])), (am, .inl (km, 20, .inl zm)), (aw, .inl (kw, 60, .inl zw)), (au, .inl (ku, 20, .inl zu)), (ag, .inl (kg, 200, .inl gg))] → va_S A s.heap H locs → ∀ (ls : Array Slot), lv_has ls 4 [(0, .ref h0), (1, .int (nI nr)), (2, .int (-1)), (3, .int (nI j))] → W p l e (headSpec xw_MD_read ({ frames := 3, cells := 0, slots := 0, locals := 72 })).room s m ([.ref h0] : List Value).toArray below meth c H locs 0 0 (MQ below (va_Qi (fun (r : Int32) (_ : Unit) => r = nI nr) (fun _ t => xb_w (dC, dI) xCl [(h0, .inr (7, [.int 0, .int (nI nm), .ref ap, .int (nI (no + nr)), .ref am, .ref aw, .ref az, .ref au, .int kn, .long vP, .long vQ, .long vS, .long vT, .long vB, .long vM, .long vH, .ref ao, .ref ax, .int (nI np), .ref ay, .int (nI nl), .ref ad, .ref al, .int (nI 0), .ref ag, .int (nI (md_ps gg sn nm no nr)), .int (md_pm gg sn nm no (md_pm gg sn nm no nb nr) nr)])), (am, .inl (km, 20, .inl (md_rm gg sn nm no gm nr))), (aw, .inl (kw, 60, .inl (md_rv gg sn nm no gw nr))), (au, .inl (ku, 20, .inl (md_ru no gu nr))), (ag, .inl (kg, 200, .inl gg))] [(km, .int), (kw, .int), (ku, .boolean), (kg, .int)] A t) A) ([.ref h0] : List Value).toArray s 0 0 A) (F0 m 63 ls []) := by
          intro fuel
          induction fuel with
          | zero => intro j z xn zm zw zu hfu; exact absurd hfu (Nat.not_lt_zero _)
          | succ fuel ih63 =>
            intro j z xn zm zw zu hfu hj hz2 hz hxn hzm hzw hzu H locs hP hD hS ls hl
            subst hz
            subst hxn
            subst hzm
            subst hzw
            subst hzu
            refine lv_iload_n hx hb d_MD_read_63 rfl (lv_at hl 3 rfl) ?_
            refine lv_iload_n hx hb d_MD_read_64 rfl (lv_at hl 1 rfl) ?_
            refine lv_icmp_ge (tgt := 86) hx hb d_MD_read_65 (by decide) (fun c_3 => ?_) (fun c_3 => ?_)
            · have n_4 := xn_le (a := nr) (b := j) c_3 rfl rfl (by omega) (by omega)
              have e8 : j = nr := by omega
              rw [e8] at hl hP hD
              have hl : lv_has ls 4 [(0, .ref h0), (1, .int (nI nr)), (2, .int (-1)), (3, .int (nI nr))] := hl
              have hP : va_P (dC, dI) xCl [(h0, .inr (7, [.int 0, .int (nI nm), .ref ap, .int (nI (no + nr)), .ref am, .ref aw, .ref az, .ref au, .int kn, .long vP, .long vQ, .long vS, .long vT, .long vB, .long vM, .long vH, .ref ao, .ref ax, .int (nI np), .ref ay, .int (nI nl), .ref ad, .ref al, .int (nI sn), .ref ag, .int (nI (md_ps gg sn nm no nr)), .int (md_pm gg sn nm no (md_pm gg sn nm no nb nr) nr)])), (am, .inl (km, 20, .inl (md_rm gg sn nm no gm nr))), (aw, .inl (kw, 60, .inl (md_rv gg sn nm no gw nr))), (au, .inl (ku, 20, .inl (md_ru no gu nr))), (ag, .inl (kg, 200, .inl gg))] H := hP
              have hD : va_D A [(h0, .inr (7, [.int 0, .int (nI nm), .ref ap, .int (nI (no + nr)), .ref am, .ref aw, .ref az, .ref au, .int kn, .long vP, .long vQ, .long vS, .long vT, .long vB, .long vM, .long vH, .ref ao, .ref ax, .int (nI np), .ref ay, .int (nI nl), .ref ad, .ref al, .int (nI sn), .ref ag, .int (nI (md_ps gg sn nm no nr)), .int (md_pm gg sn nm no (md_pm gg sn nm no nb nr) nr)])), (am, .inl (km, 20, .inl (md_rm gg sn nm no gm nr))), (aw, .inl (kw, 60, .inl (md_rv gg sn nm no gw nr))), (au, .inl (ku, 20, .inl (md_ru no gu nr))), (ag, .inl (kg, 200, .inl gg))] := hD
              refine lv_aload_n hx hb d_MD_read_86 rfl (lv_at hl 0 rfl) ?_
              refine lv_iconst (v := 0) hx hb d_MD_read_87 (by decide) ?_
              refine va_put (D := (dC, dI)) (ci := 7) (v := .int 0) (ty := .int) (C := xR_MD) (T := xT_MD) (N := 27) hx hb hts (fun w h => List.mem_cons_of_mem _ (iw_MD w h)) xt_MD xt_MD_ok xn_MD_nm hown hK hP hD hS 0 rfl rfl 23 (by decide) (hts _ (List.mem_cons_of_mem _ wm_720)) (fun _ h9 => h9) rfl (by decide +kernel) rfl rfl (Nat.le_of_ble_eq_true rfl) d_MD_read_88 (fun H locs hP hD hS => ?_)
              have hP : va_P (dC, dI) xCl [(h0, .inr (7, [.int 0, .int (nI nm), .ref ap, .int (nI (no + nr)), .ref am, .ref aw, .ref az, .ref au, .int kn, .long vP, .long vQ, .long vS, .long vT, .long vB, .long vM, .long vH, .ref ao, .ref ax, .int (nI np), .ref ay, .int (nI nl), .ref ad, .ref al, .int 0, .ref ag, .int (nI (md_ps gg sn nm no nr)), .int (md_pm gg sn nm no (md_pm gg sn nm no nb nr) nr)])), (am, .inl (km, 20, .inl (md_rm gg sn nm no gm nr))), (aw, .inl (kw, 60, .inl (md_rv gg sn nm no gw nr))), (au, .inl (ku, 20, .inl (md_ru no gu nr))), (ag, .inl (kg, 200, .inl gg))] H := hP
              have hD : va_D A [(h0, .inr (7, [.int 0, .int (nI nm), .ref ap, .int (nI (no + nr)), .ref am, .ref aw, .ref az, .ref au, .int kn, .long vP, .long vQ, .long vS, .long vT, .long vB, .long vM, .long vH, .ref ao, .ref ax, .int (nI np), .ref ay, .int (nI nl), .ref ad, .ref al, .int 0, .ref ag, .int (nI (md_ps gg sn nm no nr)), .int (md_pm gg sn nm no (md_pm gg sn nm no nb nr) nr)])), (am, .inl (km, 20, .inl (md_rm gg sn nm no gm nr))), (aw, .inl (kw, 60, .inl (md_rv gg sn nm no gw nr))), (au, .inl (ku, 20, .inl (md_ru no gu nr))), (ag, .inl (kg, 200, .inl gg))] := hD
              refine lv_iload_n hx hb d_MD_read_91 rfl (lv_at hl 2 rfl) ?_
              refine lv_iconst (v := (-1)) hx hb d_MD_read_92 (by decide) ?_
              refine lv_icmp_ne (tgt := 100) hx hb d_MD_read_93 (by decide) (fun c_5 => ?_) (fun c_5 => ?_)
              · exact absurd c_5 (by decide)
              · refine lv_iload_n hx hb d_MD_read_96 rfl (lv_at hl 1 rfl) ?_
                refine lv_goto (tgt := 103) hx hb d_MD_read_97 (by decide) ?_
                have hP9 := hP.sub (ws' := [(h0, .inr (7, [.int 0, .int (nI nm), .ref ap, .int (nI (no + nr)), .ref am, .ref aw, .ref az, .ref au, .int kn, .long vP, .long vQ, .long vS, .long vT, .long vB, .long vM, .long vH, .ref ao, .ref ax, .int (nI np), .ref ay, .int (nI nl), .ref ad, .ref al, .int 0, .ref ag, .int (nI (md_ps gg sn nm no nr)), .int (md_pm gg sn nm no (md_pm gg sn nm no nb nr) nr)])), (am, .inl (km, 20, .inl (md_rm gg sn nm no gm nr))), (aw, .inl (kw, 60, .inl (md_rv gg sn nm no gw nr))), (au, .inl (ku, 20, .inl (md_ru no gu nr))), (ag, .inl (kg, 200, .inl gg))]) [0, 1, 2, 3, 4] rfl
                have hD9 := hD.sub (ws' := [(h0, .inr (7, [.int 0, .int (nI nm), .ref ap, .int (nI (no + nr)), .ref am, .ref aw, .ref az, .ref au, .int kn, .long vP, .long vQ, .long vS, .long vT, .long vB, .long vM, .long vH, .ref ao, .ref ax, .int (nI np), .ref ay, .int (nI nl), .ref ad, .ref al, .int 0, .ref ag, .int (nI (md_ps gg sn nm no nr)), .int (md_pm gg sn nm no (md_pm gg sn nm no nb nr) nr)])), (am, .inl (km, 20, .inl (md_rm gg sn nm no gm nr))), (aw, .inl (kw, 60, .inl (md_rv gg sn nm no gw nr))), (au, .inl (ku, 20, .inl (md_ru no gu nr))), (ag, .inl (kg, 200, .inl gg))]) [0, 1, 2, 3, 4] (by decide) rfl
                have hK9 := hK.sub (tys' := [(km, .int), (kw, .int), (ku, .boolean), (kg, .int)]) [0, 1, 2, 3] rfl
                exact W.iret (v := nI nr) hx hb hr (fun t ht hW => ⟨⟨nI nr, (), rfl, rfl, ⟨by rw [ht]; exact hP9, va_K.moved hW.alike hK9, by exact hD9⟩⟩, hS.F ht⟩) hS.2.2 d_MD_read_103 hlocks
            · have n_6 := xn_nle (a := nr) (b := j) c_3 rfl rfl (by omega) (by omega)
              refine lv_iload_n hx hb d_MD_read_68 rfl (lv_at hl 2 rfl) ?_
              refine lv_iconst (v := (-1)) hx hb d_MD_read_69 (by decide) ?_
              refine lv_icmp_ne (tgt := 86) hx hb d_MD_read_70 (by decide) (fun c_7 => ?_) (fun c_7 => ?_)
              · exact absurd c_7 (by decide)
              · refine lv_aload_n hx hb d_MD_read_73 rfl (lv_at hl 0 rfl) ?_
                refine lv_iconst (v := 0) hx hb d_MD_read_74 (by decide) ?_
                refine lv_iconst (v := 1) hx hb d_MD_read_75 (by decide) ?_
                have hPc := hP.sub (ws' := [(h0, .inr (7, [.int 0, .int (nI nm), .ref ap, .int (nI (no + j)), .ref am, .ref aw, .ref az, .ref au, .int kn, .long vP, .long vQ, .long vS, .long vT, .long vB, .long vM, .long vH, .ref ao, .ref ax, .int (nI np), .ref ay, .int (nI nl), .ref ad, .ref al, .int (nI sn), .ref ag, .int (nI (md_ps gg sn nm no j)), .int (md_pm gg sn nm no (md_pm gg sn nm no nb nr) j)])), (am, .inl (km, 20, .inl (md_rm gg sn nm no gm j))), (aw, .inl (kw, 60, .inl (md_rv gg sn nm no gw j))), (au, .inl (ku, 20, .inl (md_ru no gu j))), (ag, .inl (kg, 200, .inl gg))]) [0, 1, 2, 3, 4] rfl
                have hDc := hD.sub (ws' := [(h0, .inr (7, [.int 0, .int (nI nm), .ref ap, .int (nI (no + j)), .ref am, .ref aw, .ref az, .ref au, .int kn, .long vP, .long vQ, .long vS, .long vT, .long vB, .long vM, .long vH, .ref ao, .ref ax, .int (nI np), .ref ay, .int (nI nl), .ref ad, .ref al, .int (nI sn), .ref ag, .int (nI (md_ps gg sn nm no j)), .int (md_pm gg sn nm no (md_pm gg sn nm no nb nr) j)])), (am, .inl (km, 20, .inl (md_rm gg sn nm no gm j))), (aw, .inl (kw, 60, .inl (md_rv gg sn nm no gw j))), (au, .inl (ku, 20, .inl (md_ru no gu j))), (ag, .inl (kg, 200, .inl gg))]) [0, 1, 2, 3, 4] (by decide) rfl
                have hKc := hK.sub (tys' := [(km, .int), (kw, .int), (ku, .boolean), (kg, .int)]) [0, 1, 2, 3] rfl
                have hFc := va_free (wc := [(h0, .inr (7, [.int 0, .int (nI nm), .ref ap, .int (nI (no + j)), .ref am, .ref aw, .ref az, .ref au, .int kn, .long vP, .long vQ, .long vS, .long vT, .long vB, .long vM, .long vH, .ref ao, .ref ax, .int (nI np), .ref ay, .int (nI nl), .ref ad, .ref al, .int (nI sn), .ref ag, .int (nI (md_ps gg sn nm no j)), .int (md_pm gg sn nm no (md_pm gg sn nm no nb nr) j)])), (am, .inl (km, 20, .inl (md_rm gg sn nm no gm j))), (aw, .inl (kw, 60, .inl (md_rv gg sn nm no gw j))), (au, .inl (ku, 20, .inl (md_ru no gu j))), (ag, .inl (kg, 200, .inl gg))]) hD hS hA [0, 1, 2, 3, 4] rfl
                refine va_calli (va_runV (As := [.int 0, .int 1]) (rest := []) ⟨hx, hb, hml, hown, hts⟩ (c_MD_readsRow_t l dC dI H.size h0 0 nm ap (no + j) am aw az au kn vP vQ vS vT vB vM vH ao ax np ay nl ad al sn ag (md_ps gg sn nm no j) (md_pm gg sn nm no (md_pm gg sn nm no nb nr) j) km kw ku (md_rm gg sn nm no gm j) (md_rv gg sn nm no gw j) (md_ru no gu j) kg gg hle (Nat.le_trans (Nat.le_of_lt (hg j (by omega)).1) hle) (by omega) (md_r4_0 (hg j (by omega)).2)) (cwV 2 hts (xgV wm_908 wm_910 wm_23 wm_34 wm_911) rfl rfl rfl (by decide +kernel) ⟨Nat.le_of_ble_eq_true rfl, Nat.le_of_ble_eq_true rfl⟩) ⟨xw_blind, va_recv hKc hPc (ci := 7) (q0 := 0) rfl rfl, fun U hU hW => ⟨rfl, by rw [hU], hz.warm hW, by rw [hU]; exact hPc, va_K.moved hW.alike hKc, hDc.weaken (fun _ _ _ _ => trivial)⟩⟩ rfl rfl hl.1 rfl (lv_room (Nat.le_of_ble_eq_true rfl)) d_MD_read_76 ⟨Nat.le_of_ble_eq_true rfl, Nat.le_of_ble_eq_true rfl⟩) hS (fun q _ h => hFc q h) hFc (fun r_8 _ t H1 locs ht hvm hw_9 hB hz1 hk1 hS => ?_)
                obtain ⟨hP1, hK1, hD1⟩ := hB
                rw [ht] at hP1
                have hK1 := va_K.moved hvm.symm hK1
                obtain ⟨hP, hD⟩ := va_join (wr := []) (w1 := [(h0, .inr (7, [.int 0, .int (nI nm), .ref ap, .int (nI ((no + j) + 1)), .ref am, .ref aw, .ref az, .ref au, .int kn, .long vP, .long vQ, .long vS, .long vT, .long vB, .long vM, .long vH, .ref ao, .ref ax, .int (nI np), .ref ay, .int (nI nl), .ref ad, .ref al, .int (nI sn), .ref ag, .int (nI (md_t4 gg sn (md_ps gg sn nm no j))), .int (md_nv gg sn (md_t3 gg sn (md_ps gg sn nm no j)))])), (am, .inl (km, 20, .inl (upd (md_rm gg sn nm no gm j) (no + j) (md_nv gg sn (md_ps gg sn nm no j))))), (aw, .inl (kw, 60, .inl (upd (upd (upd (md_rv gg sn nm no gw j) (3 * (no + j)) (md_nv gg sn (md_t1 gg sn (md_ps gg sn nm no j)))) (3 * (no + j) + 1) (md_nv gg sn (md_t2 gg sn (md_ps gg sn nm no j)))) (3 * (no + j) + 2) (md_nv gg sn (md_t3 gg sn (md_ps gg sn nm no j)))))), (au, .inl (ku, 20, .inl (upd (md_ru no gu j) (no + j) 1))), (ag, .inl (kg, 200, .inl gg))]) hP hD [0, 1, 2, 3, 4] [] rfl rfl (by decide) (by decide) hk1 hFc hP1 hD1
                generalize H1 = H at hP hS ⊢
                have hP : va_P (dC, dI) xCl [(h0, .inr (7, [.int 0, .int (nI nm), .ref ap, .int (nI ((no + j) + 1)), .ref am, .ref aw, .ref az, .ref au, .int kn, .long vP, .long vQ, .long vS, .long vT, .long vB, .long vM, .long vH, .ref ao, .ref ax, .int (nI np), .ref ay, .int (nI nl), .ref ad, .ref al, .int (nI sn), .ref ag, .int (nI (md_t4 gg sn (md_ps gg sn nm no j))), .int (md_nv gg sn (md_t3 gg sn (md_ps gg sn nm no j)))])), (am, .inl (km, 20, .inl (upd (md_rm gg sn nm no gm j) (no + j) (md_nv gg sn (md_ps gg sn nm no j))))), (aw, .inl (kw, 60, .inl (upd (upd (upd (md_rv gg sn nm no gw j) (3 * (no + j)) (md_nv gg sn (md_t1 gg sn (md_ps gg sn nm no j)))) (3 * (no + j) + 1) (md_nv gg sn (md_t2 gg sn (md_ps gg sn nm no j)))) (3 * (no + j) + 2) (md_nv gg sn (md_t3 gg sn (md_ps gg sn nm no j)))))), (au, .inl (ku, 20, .inl (upd (md_ru no gu j) (no + j) 1))), (ag, .inl (kg, 200, .inl gg))] H := hP
                have hD : va_D A [(h0, .inr (7, [.int 0, .int (nI nm), .ref ap, .int (nI ((no + j) + 1)), .ref am, .ref aw, .ref az, .ref au, .int kn, .long vP, .long vQ, .long vS, .long vT, .long vB, .long vM, .long vH, .ref ao, .ref ax, .int (nI np), .ref ay, .int (nI nl), .ref ad, .ref al, .int (nI sn), .ref ag, .int (nI (md_t4 gg sn (md_ps gg sn nm no j))), .int (md_nv gg sn (md_t3 gg sn (md_ps gg sn nm no j)))])), (am, .inl (km, 20, .inl (upd (md_rm gg sn nm no gm j) (no + j) (md_nv gg sn (md_ps gg sn nm no j))))), (aw, .inl (kw, 60, .inl (upd (upd (upd (md_rv gg sn nm no gw j) (3 * (no + j)) (md_nv gg sn (md_t1 gg sn (md_ps gg sn nm no j)))) (3 * (no + j) + 1) (md_nv gg sn (md_t2 gg sn (md_ps gg sn nm no j)))) (3 * (no + j) + 2) (md_nv gg sn (md_t3 gg sn (md_ps gg sn nm no j)))))), (au, .inl (ku, 20, .inl (upd (md_ru no gu j) (no + j) 1))), (ag, .inl (kg, 200, .inl gg))] := hD
                subst hw_9
                refine lv_pop hx hb d_MD_read_79 rfl ?_
                refine lv_iinc (v := nI (j + 1)) (lv' := [(3, .int (nI (j + 1))), (0, .ref h0), (1, .int (nI nr)), (2, .int (-1))]) hx hb d_MD_read_80 hl (k := 3) rfl (nI_1 _) (by decide) rfl (fun ls hl => ?_)
                refine lv_goto (tgt := 63) hx hb d_MD_read_83 (by decide) ?_
                exact ih63  (j + 1) (md_t4 gg sn (md_ps gg sn nm no j)) (md_nv gg sn (md_t3 gg sn (md_ps gg sn nm no j))) (upd (md_rm gg sn nm no gm j) (no + j) (md_nv gg sn (md_ps gg sn nm no j))) (upd (upd (upd (md_rv gg sn nm no gw j) (3 * (no + j)) (md_nv gg sn (md_t1 gg sn (md_ps gg sn nm no j)))) (3 * (no + j) + 1) (md_nv gg sn (md_t2 gg sn (md_ps gg sn nm no j)))) (3 * (no + j) + 2) (md_nv gg sn (md_t3 gg sn (md_ps gg sn nm no j)))) (upd (md_ru no gu j) (no + j) 1) (by omega) (by omega) (Nat.le_trans (Nat.le_of_eq (md_ta4 (hg j (by omega)).2.1).symm) (md_ta_le hle (Nat.le_trans (Nat.le_of_lt (hg j (by omega)).1) hle))) (md_ta4 (hg j (by omega)).2.1).symm (md_nb4 (hg j (by omega)).2.1).symm rfl rfl rfl _ _ (hP.sub [0, 1, 2, 3, 4] rfl) (hD.sub [0, 1, 2, 3, 4] (by decide) rfl) hS ls (lv_sub hl [1, 2, 3, 0] rfl)
        exact lp63 (nr - 0 + 1) 0 0 (md_pm gg sn nm no nb nr) gm gw gu (by omega) (by omega) (by omega) rfl rfl rfl rfl rfl _ _ (hP.sub [0, 1, 2, 3, 4] rfl) (hD.sub [0, 1, 2, 3, 4] (by decide) rfl) hS ls (lv_sub hl [1, 2, 3, 0] rfl)
      · have n_10 := xn_nle (a := sn) (b := (md_ps gg sn nm no i)) c_1 rfl rfl (by omega) (by omega)
        have hin : i < nr := Nat.lt_of_not_le (fun q => by have e9 : i = nr := (by omega); rw [e9] at n_10; omega)
        refine lv_iload_n hx hb d_MD_read_25 rfl (lv_at hl 2 rfl) ?_
        refine lv_iconst (v := (-1)) hx hb d_MD_read_26 (by decide) ?_
        refine lv_icmp_ne (tgt := 56) hx hb d_MD_read_27 (by decide) (fun c_11 => ?_) (fun c_11 => ?_)
        · exact absurd c_11 (by decide)
        · refine lv_aload_n hx hb d_MD_read_30 rfl (lv_at hl 0 rfl) ?_
          refine lv_aload_n hx hb d_MD_read_31 rfl (lv_at hl 0 rfl) ?_
          refine va_get (D := (dC, dI)) (ci := 7) (v := .int (nI no)) (C := xR_MD) (T := xT_MD) (N := 27) hx hb hts (fun w h => List.mem_cons_of_mem _ (iw_MD w h)) hown hK hP 0 rfl rfl 3 (by decide) (hts _ (List.mem_cons_of_mem _ wm_700)) (fun _ h9 => h9) rfl d_MD_read_32 ?_
          refine lv_iload_n hx hb d_MD_read_35 rfl (lv_at hl 1 rfl) ?_
          refine lv_iadd hx hb d_MD_read_36 ?_
          refine xv_i (y := nI (no + i)) (nI_add _ _) ?_
          refine lv_iconst (v := 0) hx hb d_MD_read_37 (by decide) ?_
          have hPc := hP.sub (ws' := [(h0, .inr (7, [.int 0, .int (nI nm), .ref ap, .int (nI no), .ref am, .ref aw, .ref az, .ref au, .int kn, .long vP, .long vQ, .long vS, .long vT, .long vB, .long vM, .long vH, .ref ao, .ref ax, .int (nI np), .ref ay, .int (nI nl), .ref ad, .ref al, .int (nI sn), .ref ag, .int (nI (md_ps gg sn nm no i)), .int (md_pm gg sn nm no nb i)])), (ag, .inl (kg, 200, .inl gg))]) [0, 4] rfl
          have hDc := hD.sub (ws' := [(h0, .inr (7, [.int 0, .int (nI nm), .ref ap, .int (nI no), .ref am, .ref aw, .ref az, .ref au, .int kn, .long vP, .long vQ, .long vS, .long vT, .long vB, .long vM, .long vH, .ref ao, .ref ax, .int (nI np), .ref ay, .int (nI nl), .ref ad, .ref al, .int (nI sn), .ref ag, .int (nI (md_ps gg sn nm no i)), .int (md_pm gg sn nm no nb i)])), (ag, .inl (kg, 200, .inl gg))]) [0, 4] (by decide) rfl
          have hKc := hK.sub (tys' := [(kg, .int)]) [3] rfl
          have hFc := va_free (wc := [(h0, .inr (7, [.int 0, .int (nI nm), .ref ap, .int (nI no), .ref am, .ref aw, .ref az, .ref au, .int kn, .long vP, .long vQ, .long vS, .long vT, .long vB, .long vM, .long vH, .ref ao, .ref ax, .int (nI np), .ref ay, .int (nI nl), .ref ad, .ref al, .int (nI sn), .ref ag, .int (nI (md_ps gg sn nm no i)), .int (md_pm gg sn nm no nb i)])), (ag, .inl (kg, 200, .inl gg))]) hD hS hA [0, 4] rfl
          refine va_calli (va_runV (As := [.int (nI (no + i)), .int 0]) (rest := []) ⟨hx, hb, hml, hown, hts⟩ (c_MD_readsRow_f l dC dI H.size h0 0 nm ap no am aw az au kn vP vQ vS vT vB vM vH ao ax np ay nl ad al sn ag (md_ps gg sn nm no i) (md_pm gg sn nm no nb i) kg gg (no + i) hle (by omega) (by omega)) (cwV 2 hts (xgV wm_908 wm_910 wm_23 wm_34 wm_911) rfl rfl rfl (by decide +kernel) ⟨Nat.le_of_ble_eq_true rfl, Nat.le_of_ble_eq_true rfl⟩) ⟨xw_blind, va_recv hKc hPc (ci := 7) (q0 := 0) rfl rfl, fun U hU hW => ⟨rfl, by rw [hU], hz.warm hW, by rw [hU]; exact hPc, va_K.moved hW.alike hKc, hDc.weaken (fun _ _ _ _ => trivial)⟩⟩ rfl rfl hl.1 rfl (lv_room (Nat.le_of_ble_eq_true rfl)) d_MD_read_38 ⟨Nat.le_of_ble_eq_true rfl, Nat.le_of_ble_eq_true rfl⟩) hS (fun q _ h => hFc q h) hFc (fun r_12 _ t H1 locs ht hvm hw_13 hB hz1 hk1 hS => ?_)
          obtain ⟨hP1, hK1, hD1⟩ := hB
          rw [ht] at hP1
          have hK1 := va_K.moved hvm.symm hK1
          obtain ⟨hP, hD⟩ := va_join (wr := [(am, .inl (km, 20, .inl gm)), (aw, .inl (kw, 60, .inl gw)), (au, .inl (ku, 20, .inl gu))]) (w1 := [(h0, .inr (7, [.int 0, .int (nI nm), .ref ap, .int (nI no), .ref am, .ref aw, .ref az, .ref au, .int kn, .long vP, .long vQ, .long vS, .long vT, .long vB, .long vM, .long vH, .ref ao, .ref ax, .int (nI np), .ref ay, .int (nI nl), .ref ad, .ref al, .int (nI sn), .ref ag, .int (nI (md_ta gg sn (md_ps gg sn nm no i) nm (no + i))), .int (md_nb gg sn (md_ps gg sn nm no i) nm (no + i))])), (ag, .inl (kg, 200, .inl gg))]) hP hD [0, 4] [1, 2, 3] rfl rfl (by decide) (by decide) hk1 hFc hP1 hD1
          generalize H1 = H at hP hS ⊢
          have hP : va_P (dC, dI) xCl [(am, .inl (km, 20, .inl gm)), (aw, .inl (kw, 60, .inl gw)), (au, .inl (ku, 20, .inl gu)), (h0, .inr (7, [.int 0, .int (nI nm), .ref ap, .int (nI no), .ref am, .ref aw, .ref az, .ref au, .int kn, .long vP, .long vQ, .long vS, .long vT, .long vB, .long vM, .long vH, .ref ao, .ref ax, .int (nI np), .ref ay, .int (nI nl), .ref ad, .ref al, .int (nI sn), .ref ag, .int (nI (md_ta gg sn (md_ps gg sn nm no i) nm (no + i))), .int (md_nb gg sn (md_ps gg sn nm no i) nm (no + i))])), (ag, .inl (kg, 200, .inl gg))] H := hP
          have hD : va_D A [(am, .inl (km, 20, .inl gm)), (aw, .inl (kw, 60, .inl gw)), (au, .inl (ku, 20, .inl gu)), (h0, .inr (7, [.int 0, .int (nI nm), .ref ap, .int (nI no), .ref am, .ref aw, .ref az, .ref au, .int kn, .long vP, .long vQ, .long vS, .long vT, .long vB, .long vM, .long vH, .ref ao, .ref ax, .int (nI np), .ref ay, .int (nI nl), .ref ad, .ref al, .int (nI sn), .ref ag, .int (nI (md_ta gg sn (md_ps gg sn nm no i) nm (no + i))), .int (md_nb gg sn (md_ps gg sn nm no i) nm (no + i))])), (ag, .inl (kg, 200, .inl gg))] := hD
          subst hw_13
          refine lv_if_eq (tgt := 48) hx hb d_MD_read_41 (by decide) (fun c_14 => ?_) (fun c_14 => ?_)
          · exact absurd (hg i hin).2 (bI_f rfl c_14)
          · have b_15 := bI_t (rfl : bI (md_r4 gg sn (md_ps gg sn nm no i) nm (no + i)) = _) c_14
            refine lv_iconst (v := (-1)) hx hb d_MD_read_44 (by decide) ?_
            refine lv_goto (tgt := 49) hx hb d_MD_read_45 (by decide) ?_
            refine lv_istore_n (lv' := [(2, .int (-1)), (0, .ref h0), (1, .int (nI i))]) hx hb d_MD_read_49 rfl hl (by decide) rfl (fun ls hl => ?_)
            refine lv_iinc (v := nI (i + 1)) (lv' := [(1, .int (nI (i + 1))), (2, .int (-1)), (0, .ref h0)]) hx hb d_MD_read_50 hl (k := 2) rfl (nI_1 _) (by decide) rfl (fun ls hl => ?_)
            refine lv_goto (tgt := 14) hx hb d_MD_read_53 (by decide) ?_
            exact ih  (i + 1) (md_ta gg sn (md_ps gg sn nm no i) nm (no + i)) (md_nb gg sn (md_ps gg sn nm no i) nm (no + i)) (by omega) (by omega) (md_ta_le hle (by omega)) rfl rfl _ _ (hP.sub [3, 0, 1, 2, 4] rfl) (hD.sub [3, 0, 1, 2, 4] (by decide) rfl) hS ls (lv_sub hl [2, 0, 1] rfl)
  exact lp14 (nr - 0 + 1) 0 0 nb (by omega) (by omega) (by omega) rfl rfl _ _ (hP.sub [0, 1, 2, 3, 4] rfl) (hD.sub [0, 1, 2, 3, 4] (by decide) rfl) hS ls (lv_sub hl [2, 1, 0] rfl)
set_option maxHeartbeats 4000000 in
set_option maxRecDepth 100000 in
/-- read, a wrong row -/
theorem c_MD_read_n (l : Launch) (dC : Nat → ClassId) (dI : Nat → Nat → Nat) (sz : Nat) (h0 : Nat) (th : Int32) (nm : Nat) (ap : Nat) (no : Nat) (am : Nat) (aw : Nat) (az : Nat) (au : Nat) (kn : Int32) (vP : Int64) (vQ : Int64) (vS : Int64) (vT : Int64) (vB : Int64) (vM : Int64) (vH : Int64) (ao : Nat) (ax : Nat) (np : Nat) (ay : Nat) (nl : Nat) (ad : Nat) (al : Nat) (sn : Nat) (ag : Nat) (ta : Nat) (nb : Int32) (kg : ClassId) (gg : Nat → Int32) (nr : Nat) (hle : sn ≤ 200) (hnn : no + nr ≤ 20) (hg : ∀ k, k < nr → md_ps gg sn nm no k < sn ∧ md_r4 gg sn (md_ps gg sn nm no k) nm (no + k)) (hbad : md_ps gg sn nm no nr < sn ∧ ¬ md_r4 gg sn (md_ps gg sn nm no nr) nm (no + nr)) : Met l xy_MD_read xw_MD_read ({ frames := 3, cells := 0, slots := 0, locals := 72 }) (xp_w [.ref h0] sz (dC, dI) xCl [(h0, .inr (7, [.int th, .int (nI nm), .ref ap, .int (nI no), .ref am, .ref aw, .ref az, .ref au, .int kn, .long vP, .long vQ, .long vS, .long vT, .long vB, .long vM, .long vH, .ref ao, .ref ax, .int (nI np), .ref ay, .int (nI nl), .ref ad, .ref al, .int (nI sn), .ref ag, .int (nI ta), .int nb])), (ag, .inl (kg, 200, .inl gg))] [(kg, .int)]) (va_Qi (fun (r : Int32) (_ : Unit) => r = (-1) - nI nr) (fun _ t => xb_w (dC, dI) xCl [(h0, .inr (7, [.int 0, .int (nI nm), .ref ap, .int (nI no), .ref am, .ref aw, .ref az, .ref au, .int kn, .long vP, .long vQ, .long vS, .long vT, .long vB, .long vM, .long vH, .ref ao, .ref ax, .int (nI np), .ref ay, .int (nI nl), .ref ad, .ref al, .int (nI 0), .ref ag, .int (nI 0), .int (md_pm gg sn nm no nb (nr + 1))])), (ag, .inl (kg, 200, .inl gg))] [(kg, .int)] (va_A [(h0, .inr (7, [.int th, .int (nI nm), .ref ap, .int (nI no), .ref am, .ref aw, .ref az, .ref au, .int kn, .long vP, .long vQ, .long vS, .long vT, .long vB, .long vM, .long vH, .ref ao, .ref ax, .int (nI np), .ref ay, .int (nI nl), .ref ad, .ref al, .int (nI sn), .ref ag, .int (nI ta), .int nb])), (ag, .inl (kg, 200, .inl gg))] sz) t) (va_A [(h0, .inr (7, [.int th, .int (nI nm), .ref ap, .int (nI no), .ref am, .ref aw, .ref az, .ref au, .int kn, .long vP, .long vQ, .long vS, .long vT, .long vB, .long vM, .long vH, .ref ao, .ref ax, .int (nI np), .ref ay, .int (nI nl), .ref ad, .ref al, .int (nI sn), .ref ag, .int (nI ta), .int nb])), (ag, .inl (kg, 200, .inl gg))] sz)) 0 0 (va_A [(h0, .inr (7, [.int th, .int (nI nm), .ref ap, .int (nI no), .ref am, .ref aw, .ref az, .ref au, .int kn, .long vP, .long vQ, .long vS, .long vT, .long vB, .long vM, .long vH, .ref ao, .ref ax, .int (nI np), .ref ay, .int (nI nl), .ref ad, .ref al, .int (nI sn), .ref ag, .int (nI ta), .int nb])), (ag, .inl (kg, 200, .inl gg))] sz) := by
  refine Met.ofW (cc := prog_9_method_36_code) (maxL := 4) (ret := (some .int)) (by decide) rfl ?_
  intro p e s m args below meth c s₁ B hml hv
  obtain ⟨rfl, hsz, hz, hP, hK, hD0⟩ := hv
  have hx := B.exec
  have hb := B.bytes
  have hr := B.returns
  have hts := atoms_spec (ws := xw_MD_read) B.pre
  have hown : s.vm.findClass xR_MD = some m.cls := findClass_of_methodNamed B.named
  have hlocks := B.notSynchronized
  subst hsz
  have hD := hD0.self (sz := s.heap.size)
  generalize hAe : va_A [(h0, .inr (7, [.int th, .int (nI nm), .ref ap, .int (nI no), .ref am, .ref aw, .ref az, .ref au, .int kn, .long vP, .long vQ, .long vS, .long vT, .long vB, .long vM, .long vH, .ref ao, .ref ax, .int (nI np), .ref ay, .int (nI nl), .ref ad, .ref al, .int (nI sn), .ref ag, .int (nI ta), .int nb])), (ag, .inl (kg, 200, .inl gg))] s.heap.size = A at hD ⊢
  have hA : ∀ q : Nat, s.heap.size ≤ q → A q := fun q h => by rw [← hAe]; exact Or.inr h
  have hS : va_S A s.heap s.heap [] := va_S.rf
  have hP : va_P (dC, dI) xCl [(h0, .inr (7, [.int th, .int (nI nm), .ref ap, .int (nI no), .ref am, .ref aw, .ref az, .ref au, .int kn, .long vP, .long vQ, .long vS, .long vT, .long vB, .long vM, .long vH, .ref ao, .ref ax, .int (nI np), .ref ay, .int (nI nl), .ref ad, .ref al, .int (nI sn), .ref ag, .int (nI ta), .int nb])), (ag, .inl (kg, 200, .inl gg))] s.heap := hP
  have hl := lv_entry ([.ref h0]) (n := 4) (Nat.le_of_ble_eq_true rfl)
  rw [lg_entry_eq]
  generalize (lg_sl ([.ref h0]) ++ List.replicate (4 - (lg_sl ([.ref h0])).length) Slot.unset).toArray = ls at hl ⊢
  have hl : lv_has ls 4 [(0, .ref h0)] := hl
  have hall : ∀ i, i ≤ nr → md_ps gg sn nm no i < sn := fun i q => (Nat.lt_or_eq_of_le q).elim (fun w => (hg i w).1) (fun w => by rw [w]; exact hbad.1)
  refine lv_aload_n hx hb d_MD_read_0 rfl (lv_at hl 0 rfl) ?_
  refine lv_iconst (v := 0) hx hb d_MD_read_1 (by decide) ?_
  refine va_put (D := (dC, dI)) (ci := 7) (v := .int 0) (ty := .int) (C := xR_MD) (T := xT_MD) (N := 27) hx hb hts (fun w h => List.mem_cons_of_mem _ (iw_MD w h)) xt_MD xt_MD_ok xn_MD_nm hown hK hP hD hS 0 rfl rfl 0 (by decide) (hts _ (List.mem_cons_of_mem _ wm_697)) (fun _ h9 => h9) rfl (by decide +kernel) rfl rfl (Nat.le_of_ble_eq_true rfl) d_MD_read_2 (fun H locs hP hD hS => ?_)
  have hP : va_P (dC, dI) xCl [(h0, .inr (7, [.int 0, .int (nI nm), .ref ap, .int (nI no), .ref am, .ref aw, .ref az, .ref au, .int kn, .long vP, .long vQ, .long vS, .long vT, .long vB, .long vM, .long vH, .ref ao, .ref ax, .int (nI np), .ref ay, .int (nI nl), .ref ad, .ref al, .int (nI sn), .ref ag, .int (nI ta), .int nb])), (ag, .inl (kg, 200, .inl gg))] H := hP
  have hD : va_D A [(h0, .inr (7, [.int 0, .int (nI nm), .ref ap, .int (nI no), .ref am, .ref aw, .ref az, .ref au, .int kn, .long vP, .long vQ, .long vS, .long vT, .long vB, .long vM, .long vH, .ref ao, .ref ax, .int (nI np), .ref ay, .int (nI nl), .ref ad, .ref al, .int (nI sn), .ref ag, .int (nI ta), .int nb])), (ag, .inl (kg, 200, .inl gg))] := hD
  refine lv_aload_n hx hb d_MD_read_5 rfl (lv_at hl 0 rfl) ?_
  refine lv_iconst (v := 0) hx hb d_MD_read_6 (by decide) ?_
  refine va_put (D := (dC, dI)) (ci := 7) (v := .int 0) (ty := .int) (C := xR_MD) (T := xT_MD) (N := 27) hx hb hts (fun w h => List.mem_cons_of_mem _ (iw_MD w h)) xt_MD xt_MD_ok xn_MD_nm hown hK hP hD hS 0 rfl rfl 25 (by decide) (hts _ (List.mem_cons_of_mem _ wm_722)) (fun _ h9 => h9) rfl (by decide +kernel) rfl rfl (Nat.le_of_ble_eq_true rfl) d_MD_read_7 (fun H locs hP hD hS => ?_)
  have hP : va_P (dC, dI) xCl [(h0, .inr (7, [.int 0, .int (nI nm), .ref ap, .int (nI no), .ref am, .ref aw, .ref az, .ref au, .int kn, .long vP, .long vQ, .long vS, .long vT, .long vB, .long vM, .long vH, .ref ao, .ref ax, .int (nI np), .ref ay, .int (nI nl), .ref ad, .ref al, .int (nI sn), .ref ag, .int 0, .int nb])), (ag, .inl (kg, 200, .inl gg))] H := hP
  have hD : va_D A [(h0, .inr (7, [.int 0, .int (nI nm), .ref ap, .int (nI no), .ref am, .ref aw, .ref az, .ref au, .int kn, .long vP, .long vQ, .long vS, .long vT, .long vB, .long vM, .long vH, .ref ao, .ref ax, .int (nI np), .ref ay, .int (nI nl), .ref ad, .ref al, .int (nI sn), .ref ag, .int 0, .int nb])), (ag, .inl (kg, 200, .inl gg))] := hD
  refine lv_iconst (v := 0) hx hb d_MD_read_10 (by decide) ?_
  refine lv_istore_n (lv' := [(1, .int 0), (0, .ref h0)]) hx hb d_MD_read_11 rfl hl (by decide) rfl (fun ls hl => ?_)
  refine lv_iconst (v := (-1)) hx hb d_MD_read_12 (by decide) ?_
  refine lv_istore_n (lv' := [(2, .int (-1)), (1, .int 0), (0, .ref h0)]) hx hb d_MD_read_13 rfl hl (by decide) rfl (fun ls hl => ?_)
  have lp14 : ∀ (fuel : Nat) (i : Nat) (z : Nat) (xn : Int32) (w : Int32), nr + 1 - i < fuel → i ≤ nr + 1 → z ≤ 201 → z = md_ps gg sn nm no i → xn = md_pm gg sn nm no nb i → w = md_w nr i → ∀ (H : Heap) (locs : List Loc), va_P (dC, dI) xCl [(h0, .inr (7, [.int 0, .int (nI nm), .ref ap, .int (nI no), .ref am, .ref aw, .ref az, .ref au, .int kn, .long vP, .long vQ, .long vS, .long vT, .long vB, .long vM, .long vH, .ref ao, .ref ax, .int (nI np), .ref ay, .int (nI nl), .ref ad, .ref al, .int (nI sn), .ref ag, .int (nI z), .int xn])), (ag, .inl (kg, 200, .inl gg))] H → va_D A [(h0, .inr (7, [.int 0, .int (nI nm), .ref ap, .int (nI no), .ref am, .ref aw, .ref az, .ref au, .int kn, .long vP, .long vQ, .long vS, .long vT, .long vB, .long vM, .long vH, .ref ao, .ref ax, .int (nI np), .ref ay, .int (nI nl), .ref ad, .ref al, .int (nI sn), .ref ag, .int (nI z), .int xn])), (ag, .inl (kg, 200, .inl gg))] → va_S A s.heap H locs → ∀ (ls : Array Slot), lv_has ls 4 [(0, .ref h0), (1, .int (nI i)), (2, .int w)] → W p l e (headSpec xw_MD_read ({ frames := 3, cells := 0, slots := 0, locals := 72 })).room s m ([.ref h0] : List Value).toArray below meth c H locs 0 0 (MQ below (va_Qi (fun (r : Int32) (_ : Unit) => r = (-1) - nI nr) (fun _ t => xb_w (dC, dI) xCl [(h0, .inr (7, [.int 0, .int (nI nm), .ref ap, .int (nI no), .ref am, .ref aw, .ref az, .ref au, .int kn, .long vP, .long vQ, .long vS, .long vT, .long vB, .long vM, .long vH, .ref ao, .ref ax, .int (nI np), .ref ay, .int (nI nl), .ref ad, .ref al, .int (nI 0), .ref ag, .int (nI 0), .int (md_pm gg sn nm no nb (nr + 1))])), (ag, .inl (kg, 200, .inl gg))] [(kg, .int)] A t) A) ([.ref h0] : List Value).toArray s 0 0 A) (F0 m 14 ls []) := by
    intro fuel
    induction fuel with
    | zero => intro i z xn w hfu; exact absurd hfu (Nat.not_lt_zero _)
    | succ fuel ih =>
      intro i z xn w hfu hi hz2 hz hxn hw H locs hP hD hS ls hl
      subst hz
      subst hxn
      subst hw
      refine lv_aload_n hx hb d_MD_read_14 rfl (lv_at hl 0 rfl) ?_
      refine va_get (D := (dC, dI)) (ci := 7) (v := .int (nI (md_ps gg sn nm no i))) (C := xR_MD) (T := xT_MD) (N := 27) hx hb hts (fun w h => List.mem_cons_of_mem _ (iw_MD w h)) hown hK hP 0 rfl rfl 25 (by decide) (hts _ (List.mem_cons_of_mem _ wm_722)) (fun _ h9 => h9) rfl d_MD_read_15 ?_
      refine lv_aload_n hx hb d_MD_read_18 rfl (lv_at hl 0 rfl) ?_
      refine va_get (D := (dC, dI)) (ci := 7) (v := .int (nI sn)) (C := xR_MD) (T := xT_MD) (N := 27) hx hb hts (fun w h => List.mem_cons_of_mem _ (iw_MD w h)) hown hK hP 0 rfl rfl 23 (by decide) (hts _ (List.mem_cons_of_mem _ wm_720)) (fun _ h9 => h9) rfl d_MD_read_19 ?_
      refine lv_icmp_ge (tgt := 56) hx hb d_MD_read_22 (by decide) (fun c_1 => ?_) (fun c_1 => ?_)
      · have n_2 := xn_le (a := sn) (b := (md_ps gg sn nm no i)) c_1 rfl rfl (by omega) (by omega)
        have e9 : i = nr + 1 := Nat.le_antisymm hi (Nat.lt_of_not_le (fun q => by have := hall i q; omega))
        rw [e9] at hl hP hD
        have hl : lv_has ls 4 [(0, .ref h0), (1, .int (nI (nr + 1))), (2, .int (md_w nr (nr + 1)))] := hl
        have hP : va_P (dC, dI) xCl [(h0, .inr (7, [.int 0, .int (nI nm), .ref ap, .int (nI no), .ref am, .ref aw, .ref az, .ref au, .int kn, .long vP, .long vQ, .long vS, .long vT, .long vB, .long vM, .long vH, .ref ao, .ref ax, .int (nI np), .ref ay, .int (nI nl), .ref ad, .ref al, .int (nI sn), .ref ag, .int (nI (md_ps gg sn nm no (nr + 1))), .int (md_pm gg sn nm no nb (nr + 1))])), (ag, .inl (kg, 200, .inl gg))] H := hP
        have hD : va_D A [(h0, .inr (7, [.int 0, .int (nI nm), .ref ap, .int (nI no), .ref am, .ref aw, .ref az, .ref au, .int kn, .long vP, .long vQ, .long vS, .long vT, .long vB, .long vM, .long vH, .ref ao, .ref ax, .int (nI np), .ref ay, .int (nI nl), .ref ad, .ref al, .int (nI sn), .ref ag, .int (nI (md_ps gg sn nm no (nr + 1))), .int (md_pm gg sn nm no nb (nr + 1))])), (ag, .inl (kg, 200, .inl gg))] := hD
        rw [md_w_n] at hl
        have hl : lv_has ls 4 [(0, .ref h0), (1, .int (nI (nr + 1))), (2, .int (nI nr))] := hl
        refine lv_aload_n hx hb d_MD_read_56 rfl (lv_at hl 0 rfl) ?_
        refine lv_iconst (v := 0) hx hb d_MD_read_57 (by decide) ?_
        refine va_put (D := (dC, dI)) (ci := 7) (v := .int 0) (ty := .int) (C := xR_MD) (T := xT_MD) (N := 27) hx hb hts (fun w h => List.mem_cons_of_mem _ (iw_MD w h)) xt_MD xt_MD_ok xn_MD_nm hown hK hP hD hS 0 rfl rfl 25 (by decide) (hts _ (List.mem_cons_of_mem _ wm_722)) (fun _ h9 => h9) rfl (by decide +kernel) rfl rfl (Nat.le_of_ble_eq_true rfl) d_MD_read_58 (fun H locs hP hD hS => ?_)
        have hP : va_P (dC, dI) xCl [(h0, .inr (7, [.int 0, .int (nI nm), .ref ap, .int (nI no), .ref am, .ref aw, .ref az, .ref au, .int kn, .long vP, .long vQ, .long vS, .long vT, .long vB, .long vM, .long vH, .ref ao, .ref ax, .int (nI np), .ref ay, .int (nI nl), .ref ad, .ref al, .int (nI sn), .ref ag, .int 0, .int (md_pm gg sn nm no nb (nr + 1))])), (ag, .inl (kg, 200, .inl gg))] H := hP
        have hD : va_D A [(h0, .inr (7, [.int 0, .int (nI nm), .ref ap, .int (nI no), .ref am, .ref aw, .ref az, .ref au, .int kn, .long vP, .long vQ, .long vS, .long vT, .long vB, .long vM, .long vH, .ref ao, .ref ax, .int (nI np), .ref ay, .int (nI nl), .ref ad, .ref al, .int (nI sn), .ref ag, .int 0, .int (md_pm gg sn nm no nb (nr + 1))])), (ag, .inl (kg, 200, .inl gg))] := hD
        refine lv_iconst (v := 0) hx hb d_MD_read_61 (by decide) ?_
        refine lv_istore_n (lv' := [(3, .int 0), (0, .ref h0), (1, .int (nI (nr + 1))), (2, .int (nI nr))]) hx hb d_MD_read_62 rfl hl (by decide) rfl (fun ls hl => ?_)
        refine lv_iload_n hx hb d_MD_read_63 rfl (lv_at hl 0 rfl) ?_
        refine lv_iload_n hx hb d_MD_read_64 rfl (lv_at hl 2 rfl) ?_
        refine lv_icmp_ge (tgt := 86) hx hb d_MD_read_65 (by decide) (fun c_3 => ?_) (fun c_3 => ?_)
        · exact absurd (xn_le (a := nr + 1) (b := 0) c_3 rfl (by decide) (by omega) (by omega)) (by omega)
        · have n_4 := xn_nle (a := (nr + 1)) (b := 0) c_3 rfl (by decide) (by omega) (by omega)
          refine lv_iload_n hx hb d_MD_read_68 rfl (lv_at hl 3 rfl) ?_
          refine lv_iconst (v := (-1)) hx hb d_MD_read_69 (by decide) ?_
          refine lv_icmp_ne (tgt := 86) hx hb d_MD_read_70 (by decide) (fun c_5 => ?_) (fun c_5 => ?_)
          · refine lv_aload_n hx hb d_MD_read_86 rfl (lv_at hl 1 rfl) ?_
            refine lv_iconst (v := 0) hx hb d_MD_read_87 (by decide) ?_
            refine va_put (D := (dC, dI)) (ci := 7) (v := .int 0) (ty := .int) (C := xR_MD) (T := xT_MD) (N := 27) hx hb hts (fun w h => List.mem_cons_of_mem _ (iw_MD w h)) xt_MD xt_MD_ok xn_MD_nm hown hK hP hD hS 0 rfl rfl 23 (by decide) (hts _ (List.mem_cons_of_mem _ wm_720)) (fun _ h9 => h9) rfl (by decide +kernel) rfl rfl (Nat.le_of_ble_eq_true rfl) d_MD_read_88 (fun H locs hP hD hS => ?_)
            have hP : va_P (dC, dI) xCl [(h0, .inr (7, [.int 0, .int (nI nm), .ref ap, .int (nI no), .ref am, .ref aw, .ref az, .ref au, .int kn, .long vP, .long vQ, .long vS, .long vT, .long vB, .long vM, .long vH, .ref ao, .ref ax, .int (nI np), .ref ay, .int (nI nl), .ref ad, .ref al, .int 0, .ref ag, .int 0, .int (md_pm gg sn nm no nb (nr + 1))])), (ag, .inl (kg, 200, .inl gg))] H := hP
            have hD : va_D A [(h0, .inr (7, [.int 0, .int (nI nm), .ref ap, .int (nI no), .ref am, .ref aw, .ref az, .ref au, .int kn, .long vP, .long vQ, .long vS, .long vT, .long vB, .long vM, .long vH, .ref ao, .ref ax, .int (nI np), .ref ay, .int (nI nl), .ref ad, .ref al, .int 0, .ref ag, .int 0, .int (md_pm gg sn nm no nb (nr + 1))])), (ag, .inl (kg, 200, .inl gg))] := hD
            refine lv_iload_n hx hb d_MD_read_91 rfl (lv_at hl 3 rfl) ?_
            refine lv_iconst (v := (-1)) hx hb d_MD_read_92 (by decide) ?_
            refine lv_icmp_ne (tgt := 100) hx hb d_MD_read_93 (by decide) (fun c_6 => ?_) (fun c_6 => ?_)
            · refine lv_iconst (v := (-1)) hx hb d_MD_read_100 (by decide) ?_
              refine lv_iload_n hx hb d_MD_read_101 rfl (lv_at hl 3 rfl) ?_
              refine lv_isub hx hb d_MD_read_102 ?_
              have hP9 := hP.sub (ws' := [(h0, .inr (7, [.int 0, .int (nI nm), .ref ap, .int (nI no), .ref am, .ref aw, .ref az, .ref au, .int kn, .long vP, .long vQ, .long vS, .long vT, .long vB, .long vM, .long vH, .ref ao, .ref ax, .int (nI np), .ref ay, .int (nI nl), .ref ad, .ref al, .int 0, .ref ag, .int 0, .int (md_pm gg sn nm no nb (nr + 1))])), (ag, .inl (kg, 200, .inl gg))]) [0, 1] rfl
              have hD9 := hD.sub (ws' := [(h0, .inr (7, [.int 0, .int (nI nm), .ref ap, .int (nI no), .ref am, .ref aw, .ref az, .ref au, .int kn, .long vP, .long vQ, .long vS, .long vT, .long vB, .long vM, .long vH, .ref ao, .ref ax, .int (nI np), .ref ay, .int (nI nl), .ref ad, .ref al, .int 0, .ref ag, .int 0, .int (md_pm gg sn nm no nb (nr + 1))])), (ag, .inl (kg, 200, .inl gg))]) [0, 1] (by decide) rfl
              have hK9 := hK.sub (tys' := [(kg, .int)]) [0] rfl
              exact W.iret (v := (-1) - (nI nr)) hx hb hr (fun t ht hW => ⟨⟨(-1) - (nI nr), (), rfl, rfl, ⟨by rw [ht]; exact hP9, va_K.moved hW.alike hK9, by exact hD9⟩⟩, hS.F ht⟩) hS.2.2 d_MD_read_103 hlocks
            · exact absurd c_6 (nI_ne_m1 (by omega))
          · exact absurd c_5 (nI_ne_m1 (by omega))
      · have n_7 := xn_nle (a := sn) (b := (md_ps gg sn nm no i)) c_1 rfl rfl (by omega) (by omega)
        refine lv_iload_n hx hb d_MD_read_25 rfl (lv_at hl 2 rfl) ?_
        refine lv_iconst (v := (-1)) hx hb d_MD_read_26 (by decide) ?_
        refine lv_icmp_ne (tgt := 56) hx hb d_MD_read_27 (by decide) (fun c_8 => ?_) (fun c_8 => ?_)
        · have e9 : i = nr + 1 := Nat.le_antisymm hi (Nat.lt_of_not_le (fun q => c_8 (md_w_p q)))
          rw [e9] at hl hP hD
          have hl : lv_has ls 4 [(0, .ref h0), (1, .int (nI (nr + 1))), (2, .int (md_w nr (nr + 1)))] := hl
          have hP : va_P (dC, dI) xCl [(h0, .inr (7, [.int 0, .int (nI nm), .ref ap, .int (nI no), .ref am, .ref aw, .ref az, .ref au, .int kn, .long vP, .long vQ, .long vS, .long vT, .long vB, .long vM, .long vH, .ref ao, .ref ax, .int (nI np), .ref ay, .int (nI nl), .ref ad, .ref al, .int (nI sn), .ref ag, .int (nI (md_ps gg sn nm no (nr + 1))), .int (md_pm gg sn nm no nb (nr + 1))])), (ag, .inl (kg, 200, .inl gg))] H := hP
          have hD : va_D A [(h0, .inr (7, [.int 0, .int (nI nm), .ref ap, .int (nI no), .ref am, .ref aw, .ref az, .ref au, .int kn, .long vP, .long vQ, .long vS, .long vT, .long vB, .long vM, .long vH, .ref ao, .ref ax, .int (nI np), .ref ay, .int (nI nl), .ref ad, .ref al, .int (nI sn), .ref ag, .int (nI (md_ps gg sn nm no (nr + 1))), .int (md_pm gg sn nm no nb (nr + 1))])), (ag, .inl (kg, 200, .inl gg))] := hD
          rw [md_w_n] at hl
          have hl : lv_has ls 4 [(0, .ref h0), (1, .int (nI (nr + 1))), (2, .int (nI nr))] := hl
          refine lv_aload_n hx hb d_MD_read_56 rfl (lv_at hl 0 rfl) ?_
          refine lv_iconst (v := 0) hx hb d_MD_read_57 (by decide) ?_
          refine va_put (D := (dC, dI)) (ci := 7) (v := .int 0) (ty := .int) (C := xR_MD) (T := xT_MD) (N := 27) hx hb hts (fun w h => List.mem_cons_of_mem _ (iw_MD w h)) xt_MD xt_MD_ok xn_MD_nm hown hK hP hD hS 0 rfl rfl 25 (by decide) (hts _ (List.mem_cons_of_mem _ wm_722)) (fun _ h9 => h9) rfl (by decide +kernel) rfl rfl (Nat.le_of_ble_eq_true rfl) d_MD_read_58 (fun H locs hP hD hS => ?_)
          have hP : va_P (dC, dI) xCl [(h0, .inr (7, [.int 0, .int (nI nm), .ref ap, .int (nI no), .ref am, .ref aw, .ref az, .ref au, .int kn, .long vP, .long vQ, .long vS, .long vT, .long vB, .long vM, .long vH, .ref ao, .ref ax, .int (nI np), .ref ay, .int (nI nl), .ref ad, .ref al, .int (nI sn), .ref ag, .int 0, .int (md_pm gg sn nm no nb (nr + 1))])), (ag, .inl (kg, 200, .inl gg))] H := hP
          have hD : va_D A [(h0, .inr (7, [.int 0, .int (nI nm), .ref ap, .int (nI no), .ref am, .ref aw, .ref az, .ref au, .int kn, .long vP, .long vQ, .long vS, .long vT, .long vB, .long vM, .long vH, .ref ao, .ref ax, .int (nI np), .ref ay, .int (nI nl), .ref ad, .ref al, .int (nI sn), .ref ag, .int 0, .int (md_pm gg sn nm no nb (nr + 1))])), (ag, .inl (kg, 200, .inl gg))] := hD
          refine lv_iconst (v := 0) hx hb d_MD_read_61 (by decide) ?_
          refine lv_istore_n (lv' := [(3, .int 0), (0, .ref h0), (1, .int (nI (nr + 1))), (2, .int (nI nr))]) hx hb d_MD_read_62 rfl hl (by decide) rfl (fun ls hl => ?_)
          refine lv_iload_n hx hb d_MD_read_63 rfl (lv_at hl 0 rfl) ?_
          refine lv_iload_n hx hb d_MD_read_64 rfl (lv_at hl 2 rfl) ?_
          refine lv_icmp_ge (tgt := 86) hx hb d_MD_read_65 (by decide) (fun c_9 => ?_) (fun c_9 => ?_)
          · exact absurd (xn_le (a := nr + 1) (b := 0) c_9 rfl (by decide) (by omega) (by omega)) (by omega)
          · have n_10 := xn_nle (a := (nr + 1)) (b := 0) c_9 rfl (by decide) (by omega) (by omega)
            refine lv_iload_n hx hb d_MD_read_68 rfl (lv_at hl 3 rfl) ?_
            refine lv_iconst (v := (-1)) hx hb d_MD_read_69 (by decide) ?_
            refine lv_icmp_ne (tgt := 86) hx hb d_MD_read_70 (by decide) (fun c_11 => ?_) (fun c_11 => ?_)
            · refine lv_aload_n hx hb d_MD_read_86 rfl (lv_at hl 1 rfl) ?_
              refine lv_iconst (v := 0) hx hb d_MD_read_87 (by decide) ?_
              refine va_put (D := (dC, dI)) (ci := 7) (v := .int 0) (ty := .int) (C := xR_MD) (T := xT_MD) (N := 27) hx hb hts (fun w h => List.mem_cons_of_mem _ (iw_MD w h)) xt_MD xt_MD_ok xn_MD_nm hown hK hP hD hS 0 rfl rfl 23 (by decide) (hts _ (List.mem_cons_of_mem _ wm_720)) (fun _ h9 => h9) rfl (by decide +kernel) rfl rfl (Nat.le_of_ble_eq_true rfl) d_MD_read_88 (fun H locs hP hD hS => ?_)
              have hP : va_P (dC, dI) xCl [(h0, .inr (7, [.int 0, .int (nI nm), .ref ap, .int (nI no), .ref am, .ref aw, .ref az, .ref au, .int kn, .long vP, .long vQ, .long vS, .long vT, .long vB, .long vM, .long vH, .ref ao, .ref ax, .int (nI np), .ref ay, .int (nI nl), .ref ad, .ref al, .int 0, .ref ag, .int 0, .int (md_pm gg sn nm no nb (nr + 1))])), (ag, .inl (kg, 200, .inl gg))] H := hP
              have hD : va_D A [(h0, .inr (7, [.int 0, .int (nI nm), .ref ap, .int (nI no), .ref am, .ref aw, .ref az, .ref au, .int kn, .long vP, .long vQ, .long vS, .long vT, .long vB, .long vM, .long vH, .ref ao, .ref ax, .int (nI np), .ref ay, .int (nI nl), .ref ad, .ref al, .int 0, .ref ag, .int 0, .int (md_pm gg sn nm no nb (nr + 1))])), (ag, .inl (kg, 200, .inl gg))] := hD
              refine lv_iload_n hx hb d_MD_read_91 rfl (lv_at hl 3 rfl) ?_
              refine lv_iconst (v := (-1)) hx hb d_MD_read_92 (by decide) ?_
              refine lv_icmp_ne (tgt := 100) hx hb d_MD_read_93 (by decide) (fun c_12 => ?_) (fun c_12 => ?_)
              · refine lv_iconst (v := (-1)) hx hb d_MD_read_100 (by decide) ?_
                refine lv_iload_n hx hb d_MD_read_101 rfl (lv_at hl 3 rfl) ?_
                refine lv_isub hx hb d_MD_read_102 ?_
                have hP9 := hP.sub (ws' := [(h0, .inr (7, [.int 0, .int (nI nm), .ref ap, .int (nI no), .ref am, .ref aw, .ref az, .ref au, .int kn, .long vP, .long vQ, .long vS, .long vT, .long vB, .long vM, .long vH, .ref ao, .ref ax, .int (nI np), .ref ay, .int (nI nl), .ref ad, .ref al, .int 0, .ref ag, .int 0, .int (md_pm gg sn nm no nb (nr + 1))])), (ag, .inl (kg, 200, .inl gg))]) [0, 1] rfl
                have hD9 := hD.sub (ws' := [(h0, .inr (7, [.int 0, .int (nI nm), .ref ap, .int (nI no), .ref am, .ref aw, .ref az, .ref au, .int kn, .long vP, .long vQ, .long vS, .long vT, .long vB, .long vM, .long vH, .ref ao, .ref ax, .int (nI np), .ref ay, .int (nI nl), .ref ad, .ref al, .int 0, .ref ag, .int 0, .int (md_pm gg sn nm no nb (nr + 1))])), (ag, .inl (kg, 200, .inl gg))]) [0, 1] (by decide) rfl
                have hK9 := hK.sub (tys' := [(kg, .int)]) [0] rfl
                exact W.iret (v := (-1) - (nI nr)) hx hb hr (fun t ht hW => ⟨⟨(-1) - (nI nr), (), rfl, rfl, ⟨by rw [ht]; exact hP9, va_K.moved hW.alike hK9, by exact hD9⟩⟩, hS.F ht⟩) hS.2.2 d_MD_read_103 hlocks
              · exact absurd c_12 (nI_ne_m1 (by omega))
            · exact absurd c_11 (nI_ne_m1 (by omega))
        · have hin : i ≤ nr := md_w_le (by omega) c_8
          refine lv_aload_n hx hb d_MD_read_30 rfl (lv_at hl 0 rfl) ?_
          refine lv_aload_n hx hb d_MD_read_31 rfl (lv_at hl 0 rfl) ?_
          refine va_get (D := (dC, dI)) (ci := 7) (v := .int (nI no)) (C := xR_MD) (T := xT_MD) (N := 27) hx hb hts (fun w h => List.mem_cons_of_mem _ (iw_MD w h)) hown hK hP 0 rfl rfl 3 (by decide) (hts _ (List.mem_cons_of_mem _ wm_700)) (fun _ h9 => h9) rfl d_MD_read_32 ?_
          refine lv_iload_n hx hb d_MD_read_35 rfl (lv_at hl 1 rfl) ?_
          refine lv_iadd hx hb d_MD_read_36 ?_
          refine xv_i (y := nI (no + i)) (nI_add _ _) ?_
          refine lv_iconst (v := 0) hx hb d_MD_read_37 (by decide) ?_
          have hPc := hP.sub (ws' := [(h0, .inr (7, [.int 0, .int (nI nm), .ref ap, .int (nI no), .ref am, .ref aw, .ref az, .ref au, .int kn, .long vP, .long vQ, .long vS, .long vT, .long vB, .long vM, .long vH, .ref ao, .ref ax, .int (nI np), .ref ay, .int (nI nl), .ref ad, .ref al, .int (nI sn), .ref ag, .int (nI (md_ps gg sn nm no i)), .int (md_pm gg sn nm no nb i)])), (ag, .inl (kg, 200, .inl gg))]) [0, 1] rfl
          have hDc := hD.sub (ws' := [(h0, .inr (7, [.int 0, .int (nI nm), .ref ap, .int (nI no), .ref am, .ref aw, .ref az, .ref au, .int kn, .long vP, .long vQ, .long vS, .long vT, .long vB, .long vM, .long vH, .ref ao, .ref ax, .int (nI np), .ref ay, .int (nI nl), .ref ad, .ref al, .int (nI sn), .ref ag, .int (nI (md_ps gg sn nm no i)), .int (md_pm gg sn nm no nb i)])), (ag, .inl (kg, 200, .inl gg))]) [0, 1] (by decide) rfl
          have hKc := hK.sub (tys' := [(kg, .int)]) [0] rfl
          have hFc := va_free (wc := [(h0, .inr (7, [.int 0, .int (nI nm), .ref ap, .int (nI no), .ref am, .ref aw, .ref az, .ref au, .int kn, .long vP, .long vQ, .long vS, .long vT, .long vB, .long vM, .long vH, .ref ao, .ref ax, .int (nI np), .ref ay, .int (nI nl), .ref ad, .ref al, .int (nI sn), .ref ag, .int (nI (md_ps gg sn nm no i)), .int (md_pm gg sn nm no nb i)])), (ag, .inl (kg, 200, .inl gg))]) hD hS hA [0, 1] rfl
          refine va_calli (va_runV (As := [.int (nI (no + i)), .int 0]) (rest := []) ⟨hx, hb, hml, hown, hts⟩ (c_MD_readsRow_f l dC dI H.size h0 0 nm ap no am aw az au kn vP vQ vS vT vB vM vH ao ax np ay nl ad al sn ag (md_ps gg sn nm no i) (md_pm gg sn nm no nb i) kg gg (no + i) hle (by omega) (by omega)) (cwV 2 hts (xgV wm_908 wm_910 wm_23 wm_34 wm_911) rfl rfl rfl (by decide +kernel) ⟨Nat.le_of_ble_eq_true rfl, Nat.le_of_ble_eq_true rfl⟩) ⟨xw_blind, va_recv hKc hPc (ci := 7) (q0 := 0) rfl rfl, fun U hU hW => ⟨rfl, by rw [hU], hz.warm hW, by rw [hU]; exact hPc, va_K.moved hW.alike hKc, hDc.weaken (fun _ _ _ _ => trivial)⟩⟩ rfl rfl hl.1 rfl (lv_room (Nat.le_of_ble_eq_true rfl)) d_MD_read_38 ⟨Nat.le_of_ble_eq_true rfl, Nat.le_of_ble_eq_true rfl⟩) hS (fun q _ h => hFc q h) hFc (fun r_13 _ t H1 locs ht hvm hw_14 hB hz1 hk1 hS => ?_)
          obtain ⟨hP1, hK1, hD1⟩ := hB
          rw [ht] at hP1
          have hK1 := va_K.moved hvm.symm hK1
          obtain ⟨hP, hD⟩ := va_join (wr := []) (w1 := [(h0, .inr (7, [.int 0, .int (nI nm), .ref ap, .int (nI no), .ref am, .ref aw, .ref az, .ref au, .int kn, .long vP, .long vQ, .long vS, .long vT, .long vB, .long vM, .long vH, .ref ao, .ref ax, .int (nI np), .ref ay, .int (nI nl), .ref ad, .ref al, .int (nI sn), .ref ag, .int (nI (md_ta gg sn (md_ps gg sn nm no i) nm (no + i))), .int (md_nb gg sn (md_ps gg sn nm no i) nm (no + i))])), (ag, .inl (kg, 200, .inl gg))]) hP hD [0, 1] [] rfl rfl (by decide) (by decide) hk1 hFc hP1 hD1
          generalize H1 = H at hP hS ⊢
          have hP : va_P (dC, dI) xCl [(h0, .inr (7, [.int 0, .int (nI nm), .ref ap, .int (nI no), .ref am, .ref aw, .ref az, .ref au, .int kn, .long vP, .long vQ, .long vS, .long vT, .long vB, .long vM, .long vH, .ref ao, .ref ax, .int (nI np), .ref ay, .int (nI nl), .ref ad, .ref al, .int (nI sn), .ref ag, .int (nI (md_ta gg sn (md_ps gg sn nm no i) nm (no + i))), .int (md_nb gg sn (md_ps gg sn nm no i) nm (no + i))])), (ag, .inl (kg, 200, .inl gg))] H := hP
          have hD : va_D A [(h0, .inr (7, [.int 0, .int (nI nm), .ref ap, .int (nI no), .ref am, .ref aw, .ref az, .ref au, .int kn, .long vP, .long vQ, .long vS, .long vT, .long vB, .long vM, .long vH, .ref ao, .ref ax, .int (nI np), .ref ay, .int (nI nl), .ref ad, .ref al, .int (nI sn), .ref ag, .int (nI (md_ta gg sn (md_ps gg sn nm no i) nm (no + i))), .int (md_nb gg sn (md_ps gg sn nm no i) nm (no + i))])), (ag, .inl (kg, 200, .inl gg))] := hD
          subst hw_14
          refine lv_if_eq (tgt := 48) hx hb d_MD_read_41 (by decide) (fun c_15 => ?_) (fun c_15 => ?_)
          · have b_16 := bI_f (rfl : bI (md_r4 gg sn (md_ps gg sn nm no i) nm (no + i)) = _) c_15
            refine lv_iload_n hx hb d_MD_read_48 rfl (lv_at hl 1 rfl) ?_
            refine lv_istore_n (lv' := [(2, .int (nI i)), (0, .ref h0), (1, .int (nI i))]) hx hb d_MD_read_49 rfl hl (by decide) rfl (fun ls hl => ?_)
            refine lv_iinc (v := nI (i + 1)) (lv' := [(1, .int (nI (i + 1))), (2, .int (nI i)), (0, .ref h0)]) hx hb d_MD_read_50 hl (k := 2) rfl (nI_1 _) (by decide) rfl (fun ls hl => ?_)
            refine lv_goto (tgt := 14) hx hb d_MD_read_53 (by decide) ?_
            exact ih  (i + 1) (md_ta gg sn (md_ps gg sn nm no i) nm (no + i)) (md_nb gg sn (md_ps gg sn nm no i) nm (no + i)) (nI i) (by omega) (by omega) (md_ta_le hle (by omega)) rfl rfl (md_w_b (Nat.le_antisymm hin (Nat.le_of_not_lt (fun q => b_16 (hg i q).2)))) _ _ (hP.sub [0, 1] rfl) (hD.sub [0, 1] (by decide) rfl) hS ls (lv_sub hl [2, 0, 1] rfl)
          · have b_17 := bI_t (rfl : bI (md_r4 gg sn (md_ps gg sn nm no i) nm (no + i)) = _) c_15
            refine lv_iconst (v := (-1)) hx hb d_MD_read_44 (by decide) ?_
            refine lv_goto (tgt := 49) hx hb d_MD_read_45 (by decide) ?_
            refine lv_istore_n (lv' := [(2, .int (-1)), (0, .ref h0), (1, .int (nI i))]) hx hb d_MD_read_49 rfl hl (by decide) rfl (fun ls hl => ?_)
            refine lv_iinc (v := nI (i + 1)) (lv' := [(1, .int (nI (i + 1))), (2, .int (-1)), (0, .ref h0)]) hx hb d_MD_read_50 hl (k := 2) rfl (nI_1 _) (by decide) rfl (fun ls hl => ?_)
            refine lv_goto (tgt := 14) hx hb d_MD_read_53 (by decide) ?_
            exact ih  (i + 1) (md_ta gg sn (md_ps gg sn nm no i) nm (no + i)) (md_nb gg sn (md_ps gg sn nm no i) nm (no + i)) (-1) (by omega) (by omega) (md_ta_le hle (by omega)) rfl rfl (md_w_g (Nat.lt_of_le_of_ne hin (fun q => hbad.2 (by rw [← q]; exact b_17)))) _ _ (hP.sub [0, 1] rfl) (hD.sub [0, 1] (by decide) rfl) hS ls (lv_sub hl [2, 0, 1] rfl)
  exact lp14 (nr + 1 - 0 + 1) 0 0 nb (-1) (by omega) (by omega) (by omega) rfl rfl (md_w_p (Nat.zero_le _)).symm _ _ (hP.sub [0, 1] rfl) (hD.sub [0, 1] (by decide) rfl) hS ls (lv_sub hl [2, 1, 0] rfl)
