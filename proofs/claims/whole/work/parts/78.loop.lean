section LAWL
variable {p : Program} {l : Launch} {e : Env} {s : State} {m : MethodId} {below : List Frame} {meth : Method} {c : Code} {b L : Nat} {xs : Nat → Int32} {A : Nat → Prop} {dC : Nat → ClassId} {dI : Nat → Nat → Nat}
variable {h0 jm ma mb mc jp pa pb pd jo qx qy qz qu qv qw qp qe js sp sm m0 m1 m2 se su jl qd ql jd qg qn hm ap am aw az au ao ax ay ad al ag ow : Nat} {ka kb kd la lb ld cx cy cz cu cv cw cp ce ca cm cm0 cm1 cm2 cq cd cl cg cn kp km kw kz ku ko kx ky kdd kl kg co : ClassId}
variable {th : Int32} {nm : Nat} {np : Nat} {nl : Nat} {pn : Nat} {pt : Nat} {ta : Nat} {nb : Int32} {kn : Int32} {mx : Nat → Int32} {my : Nat → Int32} {mz : Nat → Int32} {px : Nat → Int32} {py : Nat → Int32} {pz : Nat → Int32} {fd : Nat → Int32} {fl : Nat → Int32} {sg : Nat → Int32} {nu : Nat → Int32} {gp : Nat → Int32} {gw : Nat → Int32} {gz : Nat → Int32} {gu : Nat → Int32} {ho : Nat → Int32} {hq : Nat → Int32} {gy : Nat → Int32} {mk : Nat → Nat} {O : sr_Ob} {S : sr_St} {sf : Nat → Int64} {fo : Nat → Int64} {vP : Int64} {vQ : Int64} {vS : Int64} {vT : Int64} {vB : Int64} {vM : Int64} {vH : Int64}
variable {zz9 : Nat}
theorem lw_out {v : Int32} (h0 : ¬ v = 0) (h1 : ¬ v = 1) (h2 : ¬ v = 2) (h3 : ¬ v = 3) (h4 : ¬ v = 4) (h5 : ¬ v = 5) (h6 : ¬ v = 6) (h7 : ¬ v = 7) (h8 : ¬ v = 8) (h9 : ¬ v = 9) (h10 : ¬ v = 10) (h11 : ¬ v = 11) (h12 : ¬ v = 12) (h13 : ¬ v = 13) (h14 : ¬ v = 14) (h15 : ¬ v = 15) (h16 : ¬ v = 16) : v.toInt < 0 ∨ 16 < v.toInt := by
  by_cases hq : v.toInt < 0 ∨ 16 < v.toInt
  · exact hq
  · exfalso
    obtain ⟨k, hk, hk2⟩ : ∃ k : Nat, v.toInt = (k : Int) ∧ k ≤ 16 := ⟨v.toInt.toNat, by omega, by omega⟩
    have e : v = nI k := Int32.toInt_inj.mp (by rw [nI_toInt (by omega)]; exact hk)
    rcases (show k = 0 ∨ k = 1 ∨ k = 2 ∨ k = 3 ∨ k = 4 ∨ k = 5 ∨ k = 6 ∨ k = 7 ∨ k = 8 ∨ k = 9 ∨ k = 10 ∨ k = 11 ∨ k = 12 ∨ k = 13 ∨ k = 14 ∨ k = 15 ∨ k = 16 by omega) with rfl | rfl | rfl | rfl | rfl | rfl | rfl | rfl | rfl | rfl | rfl | rfl | rfl | rfl | rfl | rfl | rfl
    · exact h0 e
    · exact h1 e
    · exact h2 e
    · exact h3 e
    · exact h4 e
    · exact h5 e
    · exact h6 e
    · exact h7 e
    · exact h8 e
    · exact h9 e
    · exact h10 e
    · exact h11 e
    · exact h12 e
    · exact h13 e
    · exact h14 e
    · exact h15 e
    · exact h16 e
set_option maxHeartbeats 16000000 in
set_option maxRecDepth 100000 in
theorem lw_loop (C0 : LC p l s m c b L xs A) (hA2 : ∀ q, A q → s.heap.size ≤ q) (hret : meth.sig.returnType = ret) (hlocks : meth.locks = false) (hK : va_K (dC, dI) xCl ((ka, .int) :: (kb, .int) :: (kd, .int) :: (la, .int) :: (lb, .int) :: (ld, .int) :: (cx, .int) :: (cy, .int) :: (cz, .int) :: (cu, .int) :: (cv, .int) :: (cw, .int) :: (cp, .int) :: (ce, .boolean) :: (ca, .long) :: (cm, .array .int) :: (cm0, .int) :: (cm1, .int) :: (cm2, .int) :: (cq, .boolean) :: (cd, .int) :: (cl, .int) :: (cg, .char) :: (cn, .int) :: (kp, .int) :: (km, .int) :: (kw, .int) :: (kz, .int) :: (ku, .boolean) :: (ko, .int) :: (kx, .boolean) :: (ky, .int) :: (kdd, .int) :: (kl, .int) :: (kg, .int) :: (co, .long) :: []) s) : ∀ (fuel i K N : Nat) (th : Int32) (nm : Nat) (np : Nat) (nl : Nat) (pn : Nat) (pt : Nat) (ta : Nat) (nb : Int32) (kn : Int32) (mx : Nat → Int32) (my : Nat → Int32) (mz : Nat → Int32) (px : Nat → Int32) (py : Nat → Int32) (pz : Nat → Int32) (fd : Nat → Int32) (fl : Nat → Int32) (sg : Nat → Int32) (nu : Nat → Int32) (gp : Nat → Int32) (gw : Nat → Int32) (gz : Nat → Int32) (gu : Nat → Int32) (ho : Nat → Int32) (hq : Nat → Int32) (gy : Nat → Int32) (mk : Nat → Nat) (O : sr_Ob) (S : sr_St) (sf : Nat → Int64) (fo : Nat → Int64) (vP : Int64) (vQ : Int64) (vS : Int64) (vT : Int64) (vB : Int64) (vM : Int64) (vH : Int64) (H : Heap) (locs : List Loc), L + 5 ≤ i + 5 * fuel → i ≤ L → K + fuel ≤ 601024 → N + 6 * fuel ≤ 7293034 → va_P (dC, dI) xCl (lwW h0 jm ma mb mc jp pa pb pd jo qx qy qz qu qv qw qp qe js sp sm m0 m1 m2 se su jl qd ql jd qg qn hm ap am aw az au ao ax ay ad al ag ow ka kb kd la lb ld cx cy cz cu cv cw cp ce ca cm cm0 cm1 cm2 cq cd cl cg cn kp km kw kz ku ko kx ky kdd kl kg co th nm np nl pn pt ta nb kn mx my mz px py pz fd fl sg nu gp gw gz gu ho hq gy mk O S sf fo vP vQ vS vT vB vM vH) H → va_D A (lwW h0 jm ma mb mc jp pa pb pd jo qx qy qz qu qv qw qp qe js sp sm m0 m1 m2 se su jl qd ql jd qg qn hm ap am aw az au ao ax ay ad al ag ow ka kb kd la lb ld cx cy cz cu cv cw cp ce ca cm cm0 cm1 cm2 cq cd cl cg cn kp km kw kz ku ko kx ky kdd kl kg co th nm np nl pn pt ta nb kn mx my mz px py pz fd fl sg nu gp gw gz gu ho hq gy mk O S sf fo vP vQ vS vT vB vM vH) → va_S A s.heap H locs → Inv nm np nl pn pt mx my mz px py pz fd fl O S kn gp gw gz gu ho hq gy mk vP vQ vS vT vB vM vH → ∀ ls : Array Slot, lv_has ls 8 [(0, .ref b), (1, .ref h0), (2, .ref hm), (3, .ref ow), (4, .int (nI i))] → W p l e room_1 s m #[Value.ref b] below meth c H locs K N (lw_Z below #[Value.ref b] s) (F0 m 23 ls []) := by
  obtain ⟨hx, hb, hml, hown, hts, hz, hl9, hX, hbl, hbA, hA, hH0, hL9⟩ := id C0
  intro fuel
  induction fuel with
  | zero => intro i K N th nm np nl pn pt ta nb kn mx my mz px py pz fd fl sg nu gp gw gz gu ho hq gy mk O S sf fo vP vQ vS vT vB vM vH H locs hf hiL; exact absurd hf (by omega)
  | succ fuel ih =>
    intro i K N th nm np nl pn pt ta nb kn mx my mz px py pz fd fl sg nu gp gw gz gu ho hq gy mk O S sf fo vP vQ vS vT vB vM vH H locs hf hiL hk1 hk2 hP hD hS hI ls hl
    refine lv_iload hx hb d_LA_law_23 (lv_at hl 4 rfl) ?_
    refine lv_aload_n hx hb d_LA_law_25 rfl (lv_at hl 0 rfl) ?_
    refine va_slen hx hb hX hbl hbA hS d_LA_law_26 ?_
    refine lv_iconst (v := 5) hx hb d_LA_law_27 (by decide) ?_
    refine lv_isub hx hb d_LA_law_28 ?_
    refine lv_icmp_gt (tgt := 1114) hx hb d_LA_law_29 (by decide) (fun hc => ?_) (fun hc => ?_)
    · refine lv_iconst (v := 1) hx hb d_LA_law_1114 (by decide) ?_
      refine va_forget (fun q hq => hA2 _ (hS.2.2 q hq)) ?_
      refine W.widen (k := 601024) (n := 7293034) (by omega) (by omega) ?_
      exact lw_ret hx hb hret hlocks d_LA_law_1115
    · have hi5 : i + 5 ≤ L := Nat.not_lt.mp (fun q => hc ((lw_gt hL9 (by omega)).mpr q))
      have step : ∀ (th : Int32) (nm : Nat) (np : Nat) (nl : Nat) (pn : Nat) (pt : Nat) (ta : Nat) (nb : Int32) (kn : Int32) (mx : Nat → Int32) (my : Nat → Int32) (mz : Nat → Int32) (px : Nat → Int32) (py : Nat → Int32) (pz : Nat → Int32) (fd : Nat → Int32) (fl : Nat → Int32) (sg : Nat → Int32) (nu : Nat → Int32) (gp : Nat → Int32) (gw : Nat → Int32) (gz : Nat → Int32) (gu : Nat → Int32) (ho : Nat → Int32) (hq : Nat → Int32) (gy : Nat → Int32) (mk : Nat → Nat) (O : sr_Ob) (S : sr_St) (sf : Nat → Int64) (fo : Nat → Int64) (vP : Int64) (vQ : Int64) (vS : Int64) (vT : Int64) (vB : Int64) (vM : Int64) (vH : Int64) (H : Heap) (locs : List Loc), va_P (dC, dI) xCl (lwW h0 jm ma mb mc jp pa pb pd jo qx qy qz qu qv qw qp qe js sp sm m0 m1 m2 se su jl qd ql jd qg qn hm ap am aw az au ao ax ay ad al ag ow ka kb kd la lb ld cx cy cz cu cv cw cp ce ca cm cm0 cm1 cm2 cq cd cl cg cn kp km kw kz ku ko kx ky kdd kl kg co th nm np nl pn pt ta nb kn mx my mz px py pz fd fl sg nu gp gw gz gu ho hq gy mk O S sf fo vP vQ vS vT vB vM vH) H → va_D A (lwW h0 jm ma mb mc jp pa pb pd jo qx qy qz qu qv qw qp qe js sp sm m0 m1 m2 se su jl qd ql jd qg qn hm ap am aw az au ao ax ay ad al ag ow ka kb kd la lb ld cx cy cz cu cv cw cp ce ca cm cm0 cm1 cm2 cq cd cl cg cn kp km kw kz ku ko kx ky kdd kl kg co th nm np nl pn pt ta nb kn mx my mz px py pz fd fl sg nu gp gw gz gu ho hq gy mk O S sf fo vP vQ vS vT vB vM vH) → va_S A s.heap H locs → Inv nm np nl pn pt mx my mz px py pz fd fl O S kn gp gw gz gu ho hq gy mk vP vQ vS vT vB vM vH → ∀ ls : Array Slot, lv_has ls 8 [(0, .ref b), (1, .ref h0), (2, .ref hm), (3, .ref ow), (4, .int (nI i))] → W p l e room_1 s m #[Value.ref b] below meth c H locs (K + 1) (N + 6) (lw_Z below #[Value.ref b] s) (F0 m 1108 ls []) := by
        intro th nm np nl pn pt ta nb kn mx my mz px py pz fd fl sg nu gp gw gz gu ho hq gy mk O S sf fo vP vQ vS vT vB vM vH H locs hP hD hS hI ls hl
        refine lv_iinc (v := nI (i + 5)) (lv' := [(4, .int (nI (i + 5))), (0, .ref b), (1, .ref h0), (2, .ref hm), (3, .ref ow)]) hx hb d_LA_law_1108 hl (k := 4) rfl (nI_add i 5) (by decide) rfl (fun ls hl => ?_)
        refine lv_goto (tgt := 23) hx hb d_LA_law_1111 (by decide) ?_
        exact ih (i + 5) (K + 1) (N + 6) th nm np nl pn pt ta nb kn mx my mz px py pz fd fl sg nu gp gw gz gu ho hq gy mk O S sf fo vP vQ vS vT vB vM vH H locs (by omega) hi5 (by omega) (by omega) hP hD hS hI ls (lv_sub hl [1, 2, 3, 4, 0] rfl)
      refine lv_aload_n hx hb d_LA_law_32 rfl (lv_at hl 0 rfl) ?_
      refine lv_iload hx hb d_LA_law_33 (lv_at hl 4 rfl) ?_
      refine xa_sld (v := xs i) hx hb hX hbl hbA hS i rfl (by omega) (by omega) rfl d_LA_law_35 ?_
      refine lv_bipush (v := 31) hx hb d_LA_law_36 (by decide) ?_
      refine lv_iand hx hb d_LA_law_38 ?_
      by_cases e0 : xs i &&& 31 = 0
      · refine xv_i (y := 0) e0 ?_
        refine lv_tableIn (off := 81) (tgt := 120) hx hb d_LA_law_39 (by decide) (by decide) rfl (by decide) ?_
        exact lw_c0 C0 hK hP hD hS hI hi5 (by omega) (by omega) step hl
      by_cases e1 : xs i &&& 31 = 1
      · refine xv_i (y := 1) e1 ?_
        refine lv_tableIn (off := 161) (tgt := 200) hx hb d_LA_law_39 (by decide) (by decide) rfl (by decide) ?_
        exact lw_c1 C0 hK hP hD hS hI hi5 (by omega) (by omega) step hl
      by_cases e2 : xs i &&& 31 = 2
      · refine xv_i (y := 2) e2 ?_
        refine lv_tableIn (off := 253) (tgt := 292) hx hb d_LA_law_39 (by decide) (by decide) rfl (by decide) ?_
        exact lw_c2 C0 hK hP hD hS hI hi5 (by omega) (by omega) step hl
      by_cases e3 : xs i &&& 31 = 3
      · refine xv_i (y := 3) e3 ?_
        refine lv_tableIn (off := 321) (tgt := 360) hx hb d_LA_law_39 (by decide) (by decide) rfl (by decide) ?_
        exact lw_c3 C0 hK hP hD hS hI hi5 (by omega) (by omega) step hl
      by_cases e4 : xs i &&& 31 = 4
      · refine xv_i (y := 4) e4 ?_
        refine lv_tableIn (off := 412) (tgt := 451) hx hb d_LA_law_39 (by decide) (by decide) rfl (by decide) ?_
        exact lw_c4 C0 hK hP hD hS hI hi5 (by omega) (by omega) step hl
      by_cases e5 : xs i &&& 31 = 5
      · refine xv_i (y := 5) e5 ?_
        refine lv_tableIn (off := 425) (tgt := 464) hx hb d_LA_law_39 (by decide) (by decide) rfl (by decide) ?_
        exact lw_c5 C0 hK hP hD hS hI hi5 (by omega) (by omega) step hl
      by_cases e6 : xs i &&& 31 = 6
      · refine xv_i (y := 6) e6 ?_
        refine lv_tableIn (off := 480) (tgt := 519) hx hb d_LA_law_39 (by decide) (by decide) rfl (by decide) ?_
        exact lw_c6 C0 hK hP hD hS hI hi5 (by omega) (by omega) step hl
      by_cases e7 : xs i &&& 31 = 7
      · refine xv_i (y := 7) e7 ?_
        refine lv_tableIn (off := 548) (tgt := 587) hx hb d_LA_law_39 (by decide) (by decide) rfl (by decide) ?_
        exact lw_c7 C0 hK hP hD hS hI hi5 (by omega) (by omega) step hl
      by_cases e8 : xs i &&& 31 = 8
      · refine xv_i (y := 8) e8 ?_
        refine lv_tableIn (off := 604) (tgt := 643) hx hb d_LA_law_39 (by decide) (by decide) rfl (by decide) ?_
        exact lw_c8 C0 hK hP hD hS hI hi5 (by omega) (by omega) step hl
      by_cases e9 : xs i &&& 31 = 9
      · refine xv_i (y := 9) e9 ?_
        refine lv_tableIn (off := 647) (tgt := 686) hx hb d_LA_law_39 (by decide) (by decide) rfl (by decide) ?_
        exact lw_c9 C0 hK hP hD hS hI hi5 (by omega) (by omega) step hl
      by_cases e10 : xs i &&& 31 = 10
      · refine xv_i (y := 10) e10 ?_
        refine lv_tableIn (off := 727) (tgt := 766) hx hb d_LA_law_39 (by decide) (by decide) rfl (by decide) ?_
        exact lw_c10 C0 hK hP hD hS hI hi5 (by omega) (by omega) step hl
      by_cases e11 : xs i &&& 31 = 11
      · refine xv_i (y := 11) e11 ?_
        refine lv_tableIn (off := 795) (tgt := 834) hx hb d_LA_law_39 (by decide) (by decide) rfl (by decide) ?_
        exact lw_c11 C0 hK hP hD hS hI hi5 (by omega) (by omega) step hl
      by_cases e12 : xs i &&& 31 = 12
      · refine xv_i (y := 12) e12 ?_
        refine lv_tableIn (off := 863) (tgt := 902) hx hb d_LA_law_39 (by decide) (by decide) rfl (by decide) ?_
        exact lw_c12 C0 hK hP hD hS hI hi5 (by omega) (by omega) step hl
      by_cases e13 : xs i &&& 31 = 13
      · refine xv_i (y := 13) e13 ?_
        refine lv_tableIn (off := 919) (tgt := 958) hx hb d_LA_law_39 (by decide) (by decide) rfl (by decide) ?_
        exact lw_c13 C0 hK hP hD hS hI hi5 (by omega) (by omega) step hl
      by_cases e14 : xs i &&& 31 = 14
      · refine xv_i (y := 14) e14 ?_
        refine lv_tableIn (off := 932) (tgt := 971) hx hb d_LA_law_39 (by decide) (by decide) rfl (by decide) ?_
        exact lw_c14 C0 hK hP hD hS hI hi5 (by omega) (by omega) step hl
      by_cases e15 : xs i &&& 31 = 15
      · refine xv_i (y := 15) e15 ?_
        refine lv_tableIn (off := 1000) (tgt := 1039) hx hb d_LA_law_39 (by decide) (by decide) rfl (by decide) ?_
        exact lw_c15 C0 hK hP hD hS hI hi5 (by omega) (by omega) step hl
      by_cases e16 : xs i &&& 31 = 16
      · refine xv_i (y := 16) e16 ?_
        refine lv_tableIn (off := 1013) (tgt := 1052) hx hb d_LA_law_39 (by decide) (by decide) rfl (by decide) ?_
        exact lw_c16 C0 hK hP hD hS hI hi5 (by omega) (by omega) step hl
      refine lv_tableOut (tgt := 1108) hx hb d_LA_law_39 (lw_out e0 e1 e2 e3 e4 e5 e6 e7 e8 e9 e10 e11 e12 e13 e14 e15 e16) (by decide) ?_
      refine W.widen (k := K + 1) (n := N + 6) (by omega) (by omega) ?_
      exact step th nm np nl pn pt ta nb kn mx my mz px py pz fd fl sg nu gp gw gz gu ho hq gy mk O S sf fo vP vQ vS vT vB vM vH H locs hP hD hS hI ls hl
end LAWL

