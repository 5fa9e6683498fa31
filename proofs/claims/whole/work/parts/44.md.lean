theorem d_MD_residual_0 : decode prog_9_method_20_code 0 = .ok (.aload_n 0, 1) := by decide +kernel
theorem d_MD_residual_1 : decode prog_9_method_20_code 1 = .ok (.getfield 26, 3) := by decide +kernel
theorem d_MD_residual_4 : decode prog_9_method_20_code 4 = .ok (.iconst (-1), 1) := by decide +kernel
theorem d_MD_residual_5 : decode prog_9_method_20_code 5 = .ok (.if_icmp .eq 7, 3) := by decide +kernel
theorem d_MD_residual_8 : decode prog_9_method_20_code 8 = .ok (.iconst 1, 1) := by decide +kernel
theorem d_MD_residual_9 : decode prog_9_method_20_code 9 = .ok (.goto 4, 3) := by decide +kernel
theorem d_MD_residual_12 : decode prog_9_method_20_code 12 = .ok (.iconst 0, 1) := by decide +kernel
theorem d_MD_residual_13 : decode prog_9_method_20_code 13 = .ok (.istore_n 3, 1) := by decide +kernel
theorem d_MD_residual_14 : decode prog_9_method_20_code 14 = .ok (.aload_n 0, 1) := by decide +kernel
theorem d_MD_residual_15 : decode prog_9_method_20_code 15 = .ok (.iload_n 1, 1) := by decide +kernel
theorem d_MD_residual_16 : decode prog_9_method_20_code 16 = .ok (.invokevirtual 72, 3) := by decide +kernel
theorem d_MD_residual_19 : decode prog_9_method_20_code 19 = .ok (.ifCond .eq 16, 3) := by decide +kernel
theorem d_MD_residual_22 : decode prog_9_method_20_code 22 = .ok (.iload_n 2, 1) := by decide +kernel
theorem d_MD_residual_23 : decode prog_9_method_20_code 23 = .ok (.iconst 0, 1) := by decide +kernel
theorem d_MD_residual_24 : decode prog_9_method_20_code 24 = .ok (.iconst 2, 1) := by decide +kernel
theorem d_MD_residual_25 : decode prog_9_method_20_code 25 = .ok (.invokestatic 51, 3) := by decide +kernel
theorem d_MD_residual_28 : decode prog_9_method_20_code 28 = .ok (.ifCond .eq 7, 3) := by decide +kernel
theorem d_MD_residual_31 : decode prog_9_method_20_code 31 = .ok (.iconst 1, 1) := by decide +kernel
theorem d_MD_residual_32 : decode prog_9_method_20_code 32 = .ok (.goto 4, 3) := by decide +kernel
theorem d_MD_residual_35 : decode prog_9_method_20_code 35 = .ok (.iconst 0, 1) := by decide +kernel
theorem d_MD_residual_36 : decode prog_9_method_20_code 36 = .ok (.istore 4, 2) := by decide +kernel
theorem d_MD_residual_38 : decode prog_9_method_20_code 38 = .ok (.aload_n 0, 1) := by decide +kernel
theorem d_MD_residual_39 : decode prog_9_method_20_code 39 = .ok (.iload 4, 2) := by decide +kernel
theorem d_MD_residual_41 : decode prog_9_method_20_code 41 = .ok (.ifCond .eq 19, 3) := by decide +kernel
theorem d_MD_residual_44 : decode prog_9_method_20_code 44 = .ok (.iload_n 3, 1) := by decide +kernel
theorem d_MD_residual_45 : decode prog_9_method_20_code 45 = .ok (.ifCond .eq 11, 3) := by decide +kernel
theorem d_MD_residual_48 : decode prog_9_method_20_code 48 = .ok (.iload_n 1, 1) := by decide +kernel
theorem d_MD_residual_49 : decode prog_9_method_20_code 49 = .ok (.aload_n 0, 1) := by decide +kernel
theorem d_MD_residual_50 : decode prog_9_method_20_code 50 = .ok (.getfield 26, 3) := by decide +kernel
theorem d_MD_residual_53 : decode prog_9_method_20_code 53 = .ok (.if_icmp .ge 7, 3) := by decide +kernel
theorem d_MD_residual_56 : decode prog_9_method_20_code 56 = .ok (.iconst 1, 1) := by decide +kernel
theorem d_MD_residual_57 : decode prog_9_method_20_code 57 = .ok (.goto 4, 3) := by decide +kernel
theorem d_MD_residual_60 : decode prog_9_method_20_code 60 = .ok (.iconst 0, 1) := by decide +kernel
theorem d_MD_residual_61 : decode prog_9_method_20_code 61 = .ok (.iload_n 3, 1) := by decide +kernel
theorem d_MD_residual_62 : decode prog_9_method_20_code 62 = .ok (.iconst 1, 1) := by decide +kernel
theorem d_MD_residual_63 : decode prog_9_method_20_code 63 = .ok (.invokevirtual 64, 3) := by decide +kernel
theorem d_MD_residual_66 : decode prog_9_method_20_code 66 = .ok (.ifCond .ne 5, 3) := by decide +kernel
theorem d_MD_residual_69 : decode prog_9_method_20_code 69 = .ok (.iconst 0, 1) := by decide +kernel
theorem d_MD_residual_70 : decode prog_9_method_20_code 70 = .ok (.ireturn, 1) := by decide +kernel
theorem d_MD_residual_71 : decode prog_9_method_20_code 71 = .ok (.aload_n 0, 1) := by decide +kernel
theorem d_MD_residual_72 : decode prog_9_method_20_code 72 = .ok (.iload_n 1, 1) := by decide +kernel
theorem d_MD_residual_73 : decode prog_9_method_20_code 73 = .ok (.iload_n 2, 1) := by decide +kernel
theorem d_MD_residual_74 : decode prog_9_method_20_code 74 = .ok (.invokevirtual 119, 3) := by decide +kernel
theorem d_MD_residual_77 : decode prog_9_method_20_code 77 = .ok (.ireturn, 1) := by decide +kernel
theorem d_MD_reads_0 : decode prog_9_method_34_code 0 = .ok (.aload_n 0, 1) := by decide +kernel
theorem d_MD_reads_1 : decode prog_9_method_34_code 1 = .ok (.getfield 152, 3) := by decide +kernel
theorem d_MD_reads_4 : decode prog_9_method_34_code 4 = .ok (.aload_n 0, 1) := by decide +kernel
theorem d_MD_reads_5 : decode prog_9_method_34_code 5 = .ok (.getfield 139, 3) := by decide +kernel
theorem d_MD_reads_8 : decode prog_9_method_34_code 8 = .ok (.if_icmp .ge 21, 3) := by decide +kernel
theorem d_MD_reads_11 : decode prog_9_method_34_code 11 = .ok (.aload_n 0, 1) := by decide +kernel
theorem d_MD_reads_12 : decode prog_9_method_34_code 12 = .ok (.getfield 45, 3) := by decide +kernel
theorem d_MD_reads_15 : decode prog_9_method_34_code 15 = .ok (.aload_n 0, 1) := by decide +kernel
theorem d_MD_reads_16 : decode prog_9_method_34_code 16 = .ok (.getfield 152, 3) := by decide +kernel
theorem d_MD_reads_19 : decode prog_9_method_34_code 19 = .ok (.iaload, 1) := by decide +kernel
theorem d_MD_reads_20 : decode prog_9_method_34_code 20 = .ok (.bipush 45, 2) := by decide +kernel
theorem d_MD_reads_22 : decode prog_9_method_34_code 22 = .ok (.if_icmp .ne 7, 3) := by decide +kernel
theorem d_MD_reads_25 : decode prog_9_method_34_code 25 = .ok (.iconst 1, 1) := by decide +kernel
theorem d_MD_reads_26 : decode prog_9_method_34_code 26 = .ok (.goto 4, 3) := by decide +kernel
theorem d_MD_reads_29 : decode prog_9_method_34_code 29 = .ok (.iconst 0, 1) := by decide +kernel
theorem d_MD_reads_30 : decode prog_9_method_34_code 30 = .ok (.istore_n 2, 1) := by decide +kernel
theorem d_MD_reads_31 : decode prog_9_method_34_code 31 = .ok (.aload_n 0, 1) := by decide +kernel
theorem d_MD_reads_32 : decode prog_9_method_34_code 32 = .ok (.iload_n 2, 1) := by decide +kernel
theorem d_MD_reads_33 : decode prog_9_method_34_code 33 = .ok (.ifCond .eq 12, 3) := by decide +kernel
theorem d_MD_reads_36 : decode prog_9_method_34_code 36 = .ok (.aload_n 0, 1) := by decide +kernel
theorem d_MD_reads_37 : decode prog_9_method_34_code 37 = .ok (.getfield 152, 3) := by decide +kernel
theorem d_MD_reads_40 : decode prog_9_method_34_code 40 = .ok (.iconst 1, 1) := by decide +kernel
theorem d_MD_reads_41 : decode prog_9_method_34_code 41 = .ok (.iadd, 1) := by decide +kernel
theorem d_MD_reads_42 : decode prog_9_method_34_code 42 = .ok (.goto 7, 3) := by decide +kernel
theorem d_MD_reads_45 : decode prog_9_method_34_code 45 = .ok (.aload_n 0, 1) := by decide +kernel
theorem d_MD_reads_46 : decode prog_9_method_34_code 46 = .ok (.getfield 152, 3) := by decide +kernel
theorem d_MD_reads_49 : decode prog_9_method_34_code 49 = .ok (.putfield 152, 3) := by decide +kernel
theorem d_MD_reads_52 : decode prog_9_method_34_code 52 = .ok (.iconst 0, 1) := by decide +kernel
theorem d_MD_reads_53 : decode prog_9_method_34_code 53 = .ok (.istore_n 3, 1) := by decide +kernel
theorem d_MD_reads_54 : decode prog_9_method_34_code 54 = .ok (.aload_n 0, 1) := by decide +kernel
theorem d_MD_reads_55 : decode prog_9_method_34_code 55 = .ok (.iconst 0, 1) := by decide +kernel
theorem d_MD_reads_56 : decode prog_9_method_34_code 56 = .ok (.putfield 155, 3) := by decide +kernel
theorem d_MD_reads_59 : decode prog_9_method_34_code 59 = .ok (.aload_n 0, 1) := by decide +kernel
theorem d_MD_reads_60 : decode prog_9_method_34_code 60 = .ok (.getfield 152, 3) := by decide +kernel
theorem d_MD_reads_63 : decode prog_9_method_34_code 63 = .ok (.aload_n 0, 1) := by decide +kernel
theorem d_MD_reads_64 : decode prog_9_method_34_code 64 = .ok (.getfield 139, 3) := by decide +kernel
theorem d_MD_reads_67 : decode prog_9_method_34_code 67 = .ok (.if_icmp .ge 75, 3) := by decide +kernel
theorem d_MD_reads_70 : decode prog_9_method_34_code 70 = .ok (.aload_n 0, 1) := by decide +kernel
theorem d_MD_reads_71 : decode prog_9_method_34_code 71 = .ok (.getfield 45, 3) := by decide +kernel
theorem d_MD_reads_74 : decode prog_9_method_34_code 74 = .ok (.aload_n 0, 1) := by decide +kernel
theorem d_MD_reads_75 : decode prog_9_method_34_code 75 = .ok (.getfield 152, 3) := by decide +kernel
theorem d_MD_reads_78 : decode prog_9_method_34_code 78 = .ok (.iaload, 1) := by decide +kernel
theorem d_MD_reads_79 : decode prog_9_method_34_code 79 = .ok (.bipush 48, 2) := by decide +kernel
theorem d_MD_reads_81 : decode prog_9_method_34_code 81 = .ok (.bipush 57, 2) := by decide +kernel
theorem d_MD_reads_83 : decode prog_9_method_34_code 83 = .ok (.invokestatic 51, 3) := by decide +kernel
theorem d_MD_reads_86 : decode prog_9_method_34_code 86 = .ok (.ifCond .eq 56, 3) := by decide +kernel
theorem d_MD_reads_89 : decode prog_9_method_34_code 89 = .ok (.aload_n 0, 1) := by decide +kernel
theorem d_MD_reads_90 : decode prog_9_method_34_code 90 = .ok (.iload_n 3, 1) := by decide +kernel
theorem d_MD_reads_91 : decode prog_9_method_34_code 91 = .ok (.bipush 6, 2) := by decide +kernel
theorem d_MD_reads_93 : decode prog_9_method_34_code 93 = .ok (.if_icmp .ge 26, 3) := by decide +kernel
theorem d_MD_reads_96 : decode prog_9_method_34_code 96 = .ok (.bipush 10, 2) := by decide +kernel
theorem d_MD_reads_98 : decode prog_9_method_34_code 98 = .ok (.aload_n 0, 1) := by decide +kernel
theorem d_MD_reads_99 : decode prog_9_method_34_code 99 = .ok (.getfield 155, 3) := by decide +kernel
theorem d_MD_reads_102 : decode prog_9_method_34_code 102 = .ok (.imul, 1) := by decide +kernel
theorem d_MD_reads_103 : decode prog_9_method_34_code 103 = .ok (.aload_n 0, 1) := by decide +kernel
theorem d_MD_reads_104 : decode prog_9_method_34_code 104 = .ok (.getfield 45, 3) := by decide +kernel
theorem d_MD_reads_107 : decode prog_9_method_34_code 107 = .ok (.aload_n 0, 1) := by decide +kernel
theorem d_MD_reads_108 : decode prog_9_method_34_code 108 = .ok (.getfield 152, 3) := by decide +kernel
theorem d_MD_reads_111 : decode prog_9_method_34_code 111 = .ok (.iaload, 1) := by decide +kernel
theorem d_MD_reads_112 : decode prog_9_method_34_code 112 = .ok (.iadd, 1) := by decide +kernel
theorem d_MD_reads_113 : decode prog_9_method_34_code 113 = .ok (.bipush 48, 2) := by decide +kernel
theorem d_MD_reads_115 : decode prog_9_method_34_code 115 = .ok (.isub, 1) := by decide +kernel
theorem d_MD_reads_116 : decode prog_9_method_34_code 116 = .ok (.goto 7, 3) := by decide +kernel
theorem d_MD_reads_119 : decode prog_9_method_34_code 119 = .ok (.aload_n 0, 1) := by decide +kernel
theorem d_MD_reads_120 : decode prog_9_method_34_code 120 = .ok (.getfield 155, 3) := by decide +kernel
theorem d_MD_reads_123 : decode prog_9_method_34_code 123 = .ok (.putfield 155, 3) := by decide +kernel
theorem d_MD_reads_126 : decode prog_9_method_34_code 126 = .ok (.iinc 3 1, 3) := by decide +kernel
theorem d_MD_reads_129 : decode prog_9_method_34_code 129 = .ok (.aload_n 0, 1) := by decide +kernel
theorem d_MD_reads_130 : decode prog_9_method_34_code 130 = .ok (.dup, 1) := by decide +kernel
theorem d_MD_reads_131 : decode prog_9_method_34_code 131 = .ok (.getfield 152, 3) := by decide +kernel
theorem d_MD_reads_134 : decode prog_9_method_34_code 134 = .ok (.iconst 1, 1) := by decide +kernel
theorem d_MD_reads_135 : decode prog_9_method_34_code 135 = .ok (.iadd, 1) := by decide +kernel
theorem d_MD_reads_136 : decode prog_9_method_34_code 136 = .ok (.putfield 152, 3) := by decide +kernel
theorem d_MD_reads_139 : decode prog_9_method_34_code 139 = .ok (.goto (-80), 3) := by decide +kernel
theorem d_MD_reads_142 : decode prog_9_method_34_code 142 = .ok (.aload_n 0, 1) := by decide +kernel
theorem d_MD_reads_143 : decode prog_9_method_34_code 143 = .ok (.iload_n 2, 1) := by decide +kernel
theorem d_MD_reads_144 : decode prog_9_method_34_code 144 = .ok (.ifCond .eq 12, 3) := by decide +kernel
theorem d_MD_reads_147 : decode prog_9_method_34_code 147 = .ok (.iconst 0, 1) := by decide +kernel
theorem d_MD_reads_148 : decode prog_9_method_34_code 148 = .ok (.aload_n 0, 1) := by decide +kernel
theorem d_MD_reads_149 : decode prog_9_method_34_code 149 = .ok (.getfield 155, 3) := by decide +kernel
theorem d_MD_reads_152 : decode prog_9_method_34_code 152 = .ok (.isub, 1) := by decide +kernel
theorem d_MD_reads_153 : decode prog_9_method_34_code 153 = .ok (.goto 7, 3) := by decide +kernel
theorem d_MD_reads_156 : decode prog_9_method_34_code 156 = .ok (.aload_n 0, 1) := by decide +kernel
theorem d_MD_reads_157 : decode prog_9_method_34_code 157 = .ok (.getfield 155, 3) := by decide +kernel
theorem d_MD_reads_160 : decode prog_9_method_34_code 160 = .ok (.putfield 155, 3) := by decide +kernel
theorem d_MD_reads_163 : decode prog_9_method_34_code 163 = .ok (.aload_n 0, 1) := by decide +kernel
theorem d_MD_reads_164 : decode prog_9_method_34_code 164 = .ok (.getfield 152, 3) := by decide +kernel
theorem d_MD_reads_167 : decode prog_9_method_34_code 167 = .ok (.aload_n 0, 1) := by decide +kernel
theorem d_MD_reads_168 : decode prog_9_method_34_code 168 = .ok (.getfield 139, 3) := by decide +kernel
theorem d_MD_reads_171 : decode prog_9_method_34_code 171 = .ok (.if_icmp .ge 20, 3) := by decide +kernel
theorem d_MD_reads_174 : decode prog_9_method_34_code 174 = .ok (.aload_n 0, 1) := by decide +kernel
theorem d_MD_reads_175 : decode prog_9_method_34_code 175 = .ok (.getfield 45, 3) := by decide +kernel
theorem d_MD_reads_178 : decode prog_9_method_34_code 178 = .ok (.aload_n 0, 1) := by decide +kernel
theorem d_MD_reads_179 : decode prog_9_method_34_code 179 = .ok (.getfield 152, 3) := by decide +kernel
theorem d_MD_reads_182 : decode prog_9_method_34_code 182 = .ok (.iaload, 1) := by decide +kernel
theorem d_MD_reads_183 : decode prog_9_method_34_code 183 = .ok (.iload_n 1, 1) := by decide +kernel
theorem d_MD_reads_184 : decode prog_9_method_34_code 184 = .ok (.if_icmp .ne 7, 3) := by decide +kernel
theorem d_MD_reads_187 : decode prog_9_method_34_code 187 = .ok (.iconst 1, 1) := by decide +kernel
theorem d_MD_reads_188 : decode prog_9_method_34_code 188 = .ok (.goto 4, 3) := by decide +kernel
theorem d_MD_reads_191 : decode prog_9_method_34_code 191 = .ok (.iconst 0, 1) := by decide +kernel
theorem d_MD_reads_192 : decode prog_9_method_34_code 192 = .ok (.istore 4, 2) := by decide +kernel
theorem d_MD_reads_194 : decode prog_9_method_34_code 194 = .ok (.aload_n 0, 1) := by decide +kernel
theorem d_MD_reads_195 : decode prog_9_method_34_code 195 = .ok (.dup, 1) := by decide +kernel
theorem d_MD_reads_196 : decode prog_9_method_34_code 196 = .ok (.getfield 152, 3) := by decide +kernel
theorem d_MD_reads_199 : decode prog_9_method_34_code 199 = .ok (.iconst 1, 1) := by decide +kernel
theorem d_MD_reads_200 : decode prog_9_method_34_code 200 = .ok (.iadd, 1) := by decide +kernel
theorem d_MD_reads_201 : decode prog_9_method_34_code 201 = .ok (.putfield 152, 3) := by decide +kernel
theorem d_MD_reads_204 : decode prog_9_method_34_code 204 = .ok (.iload_n 3, 1) := by decide +kernel
theorem d_MD_reads_205 : decode prog_9_method_34_code 205 = .ok (.ifCond .le 18, 3) := by decide +kernel
theorem d_MD_reads_208 : decode prog_9_method_34_code 208 = .ok (.iload_n 3, 1) := by decide +kernel
theorem d_MD_reads_209 : decode prog_9_method_34_code 209 = .ok (.bipush 7, 2) := by decide +kernel
theorem d_MD_reads_211 : decode prog_9_method_34_code 211 = .ok (.if_icmp .ge 12, 3) := by decide +kernel
theorem d_MD_reads_214 : decode prog_9_method_34_code 214 = .ok (.iload 4, 2) := by decide +kernel
theorem d_MD_reads_216 : decode prog_9_method_34_code 216 = .ok (.ifCond .eq 7, 3) := by decide +kernel
theorem d_MD_reads_219 : decode prog_9_method_34_code 219 = .ok (.iconst 1, 1) := by decide +kernel
theorem d_MD_reads_220 : decode prog_9_method_34_code 220 = .ok (.goto 4, 3) := by decide +kernel
theorem d_MD_reads_223 : decode prog_9_method_34_code 223 = .ok (.iconst 0, 1) := by decide +kernel
theorem d_MD_reads_224 : decode prog_9_method_34_code 224 = .ok (.ireturn, 1) := by decide +kernel
set_option maxHeartbeats 4000000 in
set_option maxRecDepth 100000 in
/-- residual(0) -/
theorem c_MD_residual_y0 (l : Launch) (dC : Nat → ClassId) (dI : Nat → Nat → Nat) (sz : Nat) (h0 : Nat) (th : Int32) (nm : Nat) (ap : Nat) (no : Nat) (am : Nat) (aw : Nat) (az : Nat) (au : Nat) (k1 : Nat) (vP : Int64) (vQ : Int64) (vS : Int64) (vT : Int64) (vB : Int64) (vM : Int64) (vH : Int64) (ao : Nat) (ax : Nat) (np : Nat) (ay : Nat) (nl : Nat) (ad : Nat) (al : Nat) (sn : Nat) (ag : Nat) (ta : Nat) (nb : Int32) (kp : ClassId) (km : ClassId) (kw : ClassId) (ko : ClassId) (mk : Nat → Nat) (gp : Nat → Int32) (gw : Nat → Int32) (ho : Nat → Int32) (k : Nat) (hv : xin (nI k) no) (hno : no ≤ 20) (hk1 : k1 ≤ 20) (hk : k < k1) (hMB : 0 < vM * vB) (hmk : mk k < 12) : Met l xy_MD_residual xw_MD_residual ({ frames := 3, cells := 0, slots := 0, locals := 73 }) (xp_w [.ref h0, .int (nI k), .int 0] sz (dC, dI) xCl [(h0, .inr (7, [.int th, .int (nI nm), .ref ap, .int (nI no), .ref am, .ref aw, .ref az, .ref au, .int (nI k1), .long vP, .long vQ, .long vS, .long vT, .long vB, .long vM, .long vH, .ref ao, .ref ax, .int (nI np), .ref ay, .int (nI nl), .ref ad, .ref al, .int (nI sn), .ref ag, .int (nI ta), .int nb])), (ap, .inl (kp, 36, .inl gp)), (am, .inl (km, 20, .inl (md_mk mk))), (aw, .inl (kw, 60, .inl gw)), (ao, .inl (ko, 20, .inl ho))] [(kp, .int), (km, .int), (kw, .int), (ko, .int)]) (va_Qi (fun (r : Int32) (_ : Unit) => r = md_x0 gp gw mk vP vQ vS vM vB k) (fun _ t => xb_w (dC, dI) xCl [(h0, .inr (7, [.int 0, .int (nI nm), .ref ap, .int (nI no), .ref am, .ref aw, .ref az, .ref au, .int (nI k1), .long vP, .long vQ, .long vS, .long vT, .long vB, .long vM, .long vH, .ref ao, .ref ax, .int (nI np), .ref ay, .int (nI nl), .ref ad, .ref al, .int (nI sn), .ref ag, .int (nI ta), .int nb])), (ap, .inl (kp, 36, .inl gp)), (am, .inl (km, 20, .inl (md_mk mk))), (aw, .inl (kw, 60, .inl gw)), (ao, .inl (ko, 20, .inl ho))] [(kp, .int), (km, .int), (kw, .int), (ko, .int)] (va_A [(h0, .inr (7, [.int th, .int (nI nm), .ref ap, .int (nI no), .ref am, .ref aw, .ref az, .ref au, .int (nI k1), .long vP, .long vQ, .long vS, .long vT, .long vB, .long vM, .long vH, .ref ao, .ref ax, .int (nI np), .ref ay, .int (nI nl), .ref ad, .ref al, .int (nI sn), .ref ag, .int (nI ta), .int nb])), (ap, .inl (kp, 36, .inl gp)), (am, .inl (km, 20, .inl (md_mk mk))), (aw, .inl (kw, 60, .inl gw)), (ao, .inl (ko, 20, .inl ho))] sz) t) (va_A [(h0, .inr (7, [.int th, .int (nI nm), .ref ap, .int (nI no), .ref am, .ref aw, .ref az, .ref au, .int (nI k1), .long vP, .long vQ, .long vS, .long vT, .long vB, .long vM, .long vH, .ref ao, .ref ax, .int (nI np), .ref ay, .int (nI nl), .ref ad, .ref al, .int (nI sn), .ref ag, .int (nI ta), .int nb])), (ap, .inl (kp, 36, .inl gp)), (am, .inl (km, 20, .inl (md_mk mk))), (aw, .inl (kw, 60, .inl gw)), (ao, .inl (ko, 20, .inl ho))] sz)) 0 0 (va_A [(h0, .inr (7, [.int th, .int (nI nm), .ref ap, .int (nI no), .ref am, .ref aw, .ref az, .ref au, .int (nI k1), .long vP, .long vQ, .long vS, .long vT, .long vB, .long vM, .long vH, .ref ao, .ref ax, .int (nI np), .ref ay, .int (nI nl), .ref ad, .ref al, .int (nI sn), .ref ag, .int (nI ta), .int nb])), (ap, .inl (kp, 36, .inl gp)), (am, .inl (km, 20, .inl (md_mk mk))), (aw, .inl (kw, 60, .inl gw)), (ao, .inl (ko, 20, .inl ho))] sz) := by
  refine Met.ofW (cc := prog_9_method_20_code) (maxL := 5) (ret := (some .int)) (by decide) rfl ?_
  intro p e s m args below meth c s₁ B hml hv
  obtain ⟨rfl, hsz, hz, hP, hK, hD0⟩ := hv
  have hx := B.exec
  have hb := B.bytes
  have hr := B.returns
  have hts := atoms_spec (ws := xw_MD_residual) B.pre
  have hown : s.vm.findClass xR_MD = some m.cls := findClass_of_methodNamed B.named
  have hlocks := B.notSynchronized
  subst hsz
  have hD := hD0.self (sz := s.heap.size)
  generalize hAe : va_A [(h0, .inr (7, [.int th, .int (nI nm), .ref ap, .int (nI no), .ref am, .ref aw, .ref az, .ref au, .int (nI k1), .long vP, .long vQ, .long vS, .long vT, .long vB, .long vM, .long vH, .ref ao, .ref ax, .int (nI np), .ref ay, .int (nI nl), .ref ad, .ref al, .int (nI sn), .ref ag, .int (nI ta), .int nb])), (ap, .inl (kp, 36, .inl gp)), (am, .inl (km, 20, .inl (md_mk mk))), (aw, .inl (kw, 60, .inl gw)), (ao, .inl (ko, 20, .inl ho))] s.heap.size = A at hD ⊢
  have hA : ∀ q : Nat, s.heap.size ≤ q → A q := fun q h => by rw [← hAe]; exact Or.inr h
  have hS : va_S A s.heap s.heap [] := va_S.rf
  have hP : va_P (dC, dI) xCl [(h0, .inr (7, [.int th, .int (nI nm), .ref ap, .int (nI no), .ref am, .ref aw, .ref az, .ref au, .int (nI k1), .long vP, .long vQ, .long vS, .long vT, .long vB, .long vM, .long vH, .ref ao, .ref ax, .int (nI np), .ref ay, .int (nI nl), .ref ad, .ref al, .int (nI sn), .ref ag, .int (nI ta), .int nb])), (ap, .inl (kp, 36, .inl gp)), (am, .inl (km, 20, .inl (md_mk mk))), (aw, .inl (kw, 60, .inl gw)), (ao, .inl (ko, 20, .inl ho))] s.heap := hP
  have hl := lv_entry ([.ref h0, .int (nI k), .int 0]) (n := 5) (Nat.le_of_ble_eq_true rfl)
  rw [lg_entry_eq]
  generalize (lg_sl ([.ref h0, .int (nI k), .int 0]) ++ List.replicate (5 - (lg_sl ([.ref h0, .int (nI k), .int 0])).length) Slot.unset).toArray = ls at hl ⊢
  have hl : lv_has ls 5 [(0, .ref h0), (1, .int (nI k)), (2, .int 0)] := hl
  refine lv_aload_n hx hb d_MD_residual_0 rfl (lv_at hl 0 rfl) ?_
  refine va_get (D := (dC, dI)) (ci := 7) (v := .int (nI k1)) (C := xR_MD) (T := xT_MD) (N := 27) hx hb hts (fun w h => List.mem_cons_of_mem _ (iw_MD w h)) hown hK hP 0 rfl rfl 8 (by decide) (hts _ (List.mem_cons_of_mem _ wm_705)) (fun _ h9 => h9) rfl d_MD_residual_1 ?_
  refine lv_iconst (v := (-1)) hx hb d_MD_residual_4 (by decide) ?_
  refine lv_icmp_eq (tgt := 12) hx hb d_MD_residual_5 (by decide) (fun c_1 => ?_) (fun c_1 => ?_)
  · exact absurd c_1 (nI_ne_m1 (by omega))
  · refine lv_iconst (v := 1) hx hb d_MD_residual_8 (by decide) ?_
    refine lv_goto (tgt := 13) hx hb d_MD_residual_9 (by decide) ?_
    refine lv_istore_n (lv' := [(3, .int 1), (0, .ref h0), (1, .int (nI k)), (2, .int 0)]) hx hb d_MD_residual_13 rfl hl (by decide) rfl (fun ls hl => ?_)
    refine lv_aload_n hx hb d_MD_residual_14 rfl (lv_at hl 1 rfl) ?_
    refine lv_iload_n hx hb d_MD_residual_15 rfl (lv_at hl 2 rfl) ?_
    refine xr_calli (va_runV (As := [.int (nI k)]) (rest := []) ⟨hx, hb, hml, hown, hts⟩ (c_MD_isObservation l dC dI h0 th nm ap no am aw az au (nI k1) vP vQ vS vT vB vM vH ao ax np ay nl ad al sn ag ta nb (nI k) (by first | assumption | omega | decide)) (cwV 1 hts (xgV wm_809 wm_811 wm_15 wm_34 wm_812) rfl rfl rfl (by decide +kernel) ⟨Nat.le_of_ble_eq_true rfl, Nat.le_of_ble_eq_true rfl⟩) ⟨xp_blind, va_recv hK hP (ci := 7) (q0 := 0) rfl rfl, fun U hU hW => ⟨rfl, hz.warm hW, by rw [hU]; exact hP.sub [0] rfl, va_K.moved hW.alike (hK.sub [] rfl)⟩⟩ rfl rfl hl.1 rfl (lv_room (Nat.le_of_ble_eq_true rfl)) d_MD_residual_16 ⟨Nat.le_of_ble_eq_true rfl, Nat.le_of_ble_eq_true rfl⟩) (fun r_2 h_3 => ?_)
    subst h_3
    refine lv_if_eq (tgt := 35) hx hb d_MD_residual_19 (by decide) (fun c_4 => ?_) (fun c_4 => ?_)
    · exact absurd hv (bI_f rfl c_4)
    · have b_5 := bI_t (rfl : bI (xin (nI k) no) = _) c_4
      refine lv_iload_n hx hb d_MD_residual_22 rfl (lv_at hl 3 rfl) ?_
      refine lv_iconst (v := 0) hx hb d_MD_residual_23 (by decide) ?_
      refine lv_iconst (v := 2) hx hb d_MD_residual_24 (by decide) ?_
      refine xr_calli (va_runS (As := [.int 0, .int 0, .int 2]) (rest := []) ⟨hx, hb, hml, hown, hts⟩ (c_MD_within l dC dI 0 0 2) (va_cwS 3 hts (xgS wm_790 wm_791 wm_34 wm_792) rfl rfl rfl (by decide +kernel) ⟨Nat.le_of_ble_eq_true rfl, Nat.le_of_ble_eq_true rfl⟩) ⟨xp_blind, fun U hU hW => ⟨rfl, hz.warm hW, by rw [hU]; exact hP.sub [] rfl, va_K.moved hW.alike (hK.sub [] rfl)⟩⟩ rfl rfl hl.1 rfl (lv_room (Nat.le_of_ble_eq_true rfl)) d_MD_residual_25 ⟨Nat.le_of_ble_eq_true rfl, Nat.le_of_ble_eq_true rfl⟩) (fun r_6 h_7 => ?_)
      subst h_7
      refine lv_if_eq (tgt := 35) hx hb d_MD_residual_28 (by decide) (fun c_8 => ?_) (fun c_8 => ?_)
      · exact absurd (⟨by decide, by decide⟩ : md_win 0 0 2) (bI_f rfl c_8)
      · have b_9 := bI_t (rfl : bI (md_win 0 0 2) = _) c_8
        refine lv_iconst (v := 1) hx hb d_MD_residual_31 (by decide) ?_
        refine lv_goto (tgt := 36) hx hb d_MD_residual_32 (by decide) ?_
        refine lv_istore (lv' := [(4, .int 1), (3, .int 1), (0, .ref h0), (1, .int (nI k)), (2, .int 0)]) hx hb d_MD_residual_36 hl (by decide) rfl (fun ls hl => ?_)
        refine lv_aload_n hx hb d_MD_residual_38 rfl (lv_at hl 2 rfl) ?_
        refine lv_iload hx hb d_MD_residual_39 (lv_at hl 0 rfl) ?_
        refine lv_if_eq (tgt := 60) hx hb d_MD_residual_41 (by decide) (fun c_10 => ?_) (fun c_10 => ?_)
        · exact absurd c_10 (by decide)
        · refine lv_iload_n hx hb d_MD_residual_44 rfl (lv_at hl 1 rfl) ?_
          refine lv_if_eq (tgt := 56) hx hb d_MD_residual_45 (by decide) (fun c_11 => ?_) (fun c_11 => ?_)
          · exact absurd c_11 (by decide)
          · refine lv_iload_n hx hb d_MD_residual_48 rfl (lv_at hl 3 rfl) ?_
            refine lv_aload_n hx hb d_MD_residual_49 rfl (lv_at hl 2 rfl) ?_
            refine va_get (D := (dC, dI)) (ci := 7) (v := .int (nI k1)) (C := xR_MD) (T := xT_MD) (N := 27) hx hb hts (fun w h => List.mem_cons_of_mem _ (iw_MD w h)) hown hK hP 0 rfl rfl 8 (by decide) (hts _ (List.mem_cons_of_mem _ wm_705)) (fun _ h9 => h9) rfl d_MD_residual_50 ?_
            refine lv_icmp_ge (tgt := 60) hx hb d_MD_residual_53 (by decide) (fun c_12 => ?_) (fun c_12 => ?_)
            · exact absurd (xn_le (a := k1) (b := k) c_12 rfl rfl (by omega) (by omega)) (by omega)
            · have n_13 := xn_nle (a := k1) (b := k) c_12 rfl rfl (by omega) (by omega)
              refine lv_iconst (v := 1) hx hb d_MD_residual_56 (by decide) ?_
              refine lv_goto (tgt := 61) hx hb d_MD_residual_57 (by decide) ?_
              refine lv_iload_n hx hb d_MD_residual_61 rfl (lv_at hl 1 rfl) ?_
              refine lv_iconst (v := 1) hx hb d_MD_residual_62 (by decide) ?_
              have hPc := hP.sub (ws' := [(h0, .inr (7, [.int th, .int (nI nm), .ref ap, .int (nI no), .ref am, .ref aw, .ref az, .ref au, .int (nI k1), .long vP, .long vQ, .long vS, .long vT, .long vB, .long vM, .long vH, .ref ao, .ref ax, .int (nI np), .ref ay, .int (nI nl), .ref ad, .ref al, .int (nI sn), .ref ag, .int (nI ta), .int nb]))]) [0] rfl
              have hDc := hD.sub (ws' := [(h0, .inr (7, [.int th, .int (nI nm), .ref ap, .int (nI no), .ref am, .ref aw, .ref az, .ref au, .int (nI k1), .long vP, .long vQ, .long vS, .long vT, .long vB, .long vM, .long vH, .ref ao, .ref ax, .int (nI np), .ref ay, .int (nI nl), .ref ad, .ref al, .int (nI sn), .ref ag, .int (nI ta), .int nb]))]) [0] (by decide) rfl
              have hKc := hK.sub (tys' := []) [] rfl
              have hFc := va_free (wc := [(h0, .inr (7, [.int th, .int (nI nm), .ref ap, .int (nI no), .ref am, .ref aw, .ref az, .ref au, .int (nI k1), .long vP, .long vQ, .long vS, .long vT, .long vB, .long vM, .long vH, .ref ao, .ref ax, .int (nI np), .ref ay, .int (nI nl), .ref ad, .ref al, .int (nI sn), .ref ag, .int (nI ta), .int nb]))]) hD hS hA [0] rfl
              refine va_calli (va_runV (As := [.int 1, .int 1, .int 1]) (rest := []) ⟨hx, hb, hml, hown, hts⟩ (c_MD_goes l dC dI s.heap.size h0 th nm ap no am aw az au (nI k1) vP vQ vS vT vB vM vH ao ax np ay nl ad al sn ag ta nb 1 1 1) (cwV 3 hts (xgV wm_793 wm_795 wm_13 wm_34 wm_796) rfl rfl rfl (by decide +kernel) ⟨Nat.le_of_ble_eq_true rfl, Nat.le_of_ble_eq_true rfl⟩) ⟨xw_blind, va_recv hKc hPc (ci := 7) (q0 := 0) rfl rfl, fun U hU hW => ⟨rfl, by rw [hU], hz.warm hW, by rw [hU]; exact hPc, va_K.moved hW.alike hKc, hDc.weaken (fun _ _ _ _ => trivial)⟩⟩ rfl rfl hl.1 rfl (lv_room (Nat.le_of_ble_eq_true rfl)) d_MD_residual_63 ⟨Nat.le_of_ble_eq_true rfl, Nat.le_of_ble_eq_true rfl⟩) hS (fun q _ h => hFc q h) hFc (fun r_14 _ t H1 locs ht hvm hw_15 hB hz1 hk1 hS => ?_)
              obtain ⟨hP1, hK1, hD1⟩ := hB
              rw [ht] at hP1
              have hK1 := va_K.moved hvm.symm hK1
              obtain ⟨hP, hD⟩ := va_join (wr := [(ap, .inl (kp, 36, .inl gp)), (am, .inl (km, 20, .inl (md_mk mk))), (aw, .inl (kw, 60, .inl gw)), (ao, .inl (ko, 20, .inl ho))]) (w1 := [(h0, .inr (7, [.int (md_th 1 1 1), .int (nI nm), .ref ap, .int (nI no), .ref am, .ref aw, .ref az, .ref au, .int (nI k1), .long vP, .long vQ, .long vS, .long vT, .long vB, .long vM, .long vH, .ref ao, .ref ax, .int (nI np), .ref ay, .int (nI nl), .ref ad, .ref al, .int (nI sn), .ref ag, .int (nI ta), .int nb]))]) hP hD [0] [1, 2, 3, 4] rfl rfl (by decide) (by decide) hk1 hFc hP1 hD1
              generalize H1 = H at hP hS ⊢
              have hP : va_P (dC, dI) xCl [(ap, .inl (kp, 36, .inl gp)), (am, .inl (km, 20, .inl (md_mk mk))), (aw, .inl (kw, 60, .inl gw)), (ao, .inl (ko, 20, .inl ho)), (h0, .inr (7, [.int (md_th 1 1 1), .int (nI nm), .ref ap, .int (nI no), .ref am, .ref aw, .ref az, .ref au, .int (nI k1), .long vP, .long vQ, .long vS, .long vT, .long vB, .long vM, .long vH, .ref ao, .ref ax, .int (nI np), .ref ay, .int (nI nl), .ref ad, .ref al, .int (nI sn), .ref ag, .int (nI ta), .int nb]))] H := hP
              have hD : va_D A [(ap, .inl (kp, 36, .inl gp)), (am, .inl (km, 20, .inl (md_mk mk))), (aw, .inl (kw, 60, .inl gw)), (ao, .inl (ko, 20, .inl ho)), (h0, .inr (7, [.int (md_th 1 1 1), .int (nI nm), .ref ap, .int (nI no), .ref am, .ref aw, .ref az, .ref au, .int (nI k1), .long vP, .long vQ, .long vS, .long vT, .long vB, .long vM, .long vH, .ref ao, .ref ax, .int (nI np), .ref ay, .int (nI nl), .ref ad, .ref al, .int (nI sn), .ref ag, .int (nI ta), .int nb]))] := hD
              subst hw_15
              refine lv_if_ne (tgt := 71) hx hb d_MD_residual_66 (by decide) (fun c_16 => ?_) (fun c_16 => ?_)
              · have b_17 := bI_t (rfl : bI (md_th 1 1 1 = 0) = _) c_16
                refine lv_aload_n hx hb d_MD_residual_71 rfl (lv_at hl 2 rfl) ?_
                refine lv_iload_n hx hb d_MD_residual_72 rfl (lv_at hl 3 rfl) ?_
                refine lv_iload_n hx hb d_MD_residual_73 rfl (lv_at hl 4 rfl) ?_
                refine xr_calli (va_runV (As := [.int (nI k), .int 0]) (rest := []) ⟨hx, hb, hml, hown, hts⟩ (c_MD_missed0 l dC dI h0 (md_th 1 1 1) nm ap no am aw az au (nI k1) vP vQ vS vT vB vM vH ao ax np ay nl ad al sn ag ta nb kp km kw ko mk gp gw ho k (by first | assumption | omega | decide) (by first | assumption | omega | decide) (by first | assumption | omega | decide)) (cwV 2 hts (xgV wm_844 wm_846 wm_18 wm_34 wm_847) rfl rfl rfl (by decide +kernel) ⟨Nat.le_of_ble_eq_true rfl, Nat.le_of_ble_eq_true rfl⟩) ⟨xp_blind, va_recv hK hP (ci := 7) (q0 := 4) rfl rfl, fun U hU hW => ⟨rfl, hz.warm hW, by rw [hU]; exact hP.sub [4, 0, 1, 2, 3] rfl, va_K.moved hW.alike (hK.sub [0, 1, 2, 3] rfl)⟩⟩ rfl rfl hl.1 rfl (lv_room (Nat.le_of_ble_eq_true rfl)) d_MD_residual_74 ⟨Nat.le_of_ble_eq_true rfl, Nat.le_of_ble_eq_true rfl⟩) (fun r_18 h_19 => ?_)
                subst h_19
                rw [md_th_0 (by decide) (by decide) (by decide)] at hP hD
                have hP9 := hP.sub (ws' := [(h0, .inr (7, [.int 0, .int (nI nm), .ref ap, .int (nI no), .ref am, .ref aw, .ref az, .ref au, .int (nI k1), .long vP, .long vQ, .long vS, .long vT, .long vB, .long vM, .long vH, .ref ao, .ref ax, .int (nI np), .ref ay, .int (nI nl), .ref ad, .ref al, .int (nI sn), .ref ag, .int (nI ta), .int nb])), (ap, .inl (kp, 36, .inl gp)), (am, .inl (km, 20, .inl (md_mk mk))), (aw, .inl (kw, 60, .inl gw)), (ao, .inl (ko, 20, .inl ho))]) [4, 0, 1, 2, 3] rfl
                have hD9 := hD.sub (ws' := [(h0, .inr (7, [.int 0, .int (nI nm), .ref ap, .int (nI no), .ref am, .ref aw, .ref az, .ref au, .int (nI k1), .long vP, .long vQ, .long vS, .long vT, .long vB, .long vM, .long vH, .ref ao, .ref ax, .int (nI np), .ref ay, .int (nI nl), .ref ad, .ref al, .int (nI sn), .ref ag, .int (nI ta), .int nb])), (ap, .inl (kp, 36, .inl gp)), (am, .inl (km, 20, .inl (md_mk mk))), (aw, .inl (kw, 60, .inl gw)), (ao, .inl (ko, 20, .inl ho))]) [4, 0, 1, 2, 3] (by decide) rfl
                have hK9 := hK.sub (tys' := [(kp, .int), (km, .int), (kw, .int), (ko, .int)]) [0, 1, 2, 3] rfl
                exact W.iret (v := md_x0 gp gw mk vP vQ vS vM vB k) hx hb hr (fun t ht hW => ⟨⟨md_x0 gp gw mk vP vQ vS vM vB k, (), rfl, rfl, ⟨by rw [ht]; exact hP9, va_K.moved hW.alike hK9, by exact hD9⟩⟩, hS.F ht⟩) hS.2.2 d_MD_residual_77 hlocks
              · exact absurd (md_th_0 (by decide) (by decide) (by decide)) (bI_f rfl c_16)
set_option maxHeartbeats 4000000 in
set_option maxRecDepth 100000 in
/-- residual(1) -/
theorem c_MD_residual_y1 (l : Launch) (dC : Nat → ClassId) (dI : Nat → Nat → Nat) (sz : Nat) (h0 : Nat) (th : Int32) (nm : Nat) (ap : Nat) (no : Nat) (am : Nat) (aw : Nat) (az : Nat) (au : Nat) (k1 : Nat) (vP : Int64) (vQ : Int64) (vS : Int64) (vT : Int64) (vB : Int64) (vM : Int64) (vH : Int64) (ao : Nat) (ax : Nat) (np : Nat) (ay : Nat) (nl : Nat) (ad : Nat) (al : Nat) (sn : Nat) (ag : Nat) (ta : Nat) (nb : Int32) (kp : ClassId) (km : ClassId) (kw : ClassId) (ko : ClassId) (mk : Nat → Nat) (gp : Nat → Int32) (gw : Nat → Int32) (ho : Nat → Int32) (k : Nat) (hv : xin (nI k) no) (hno : no ≤ 20) (hk1 : k1 ≤ 20) (hk : k < k1) (hMB : 0 < vM * vB) (hmk : mk k < 12) : Met l xy_MD_residual xw_MD_residual ({ frames := 3, cells := 0, slots := 0, locals := 73 }) (xp_w [.ref h0, .int (nI k), .int 1] sz (dC, dI) xCl [(h0, .inr (7, [.int th, .int (nI nm), .ref ap, .int (nI no), .ref am, .ref aw, .ref az, .ref au, .int (nI k1), .long vP, .long vQ, .long vS, .long vT, .long vB, .long vM, .long vH, .ref ao, .ref ax, .int (nI np), .ref ay, .int (nI nl), .ref ad, .ref al, .int (nI sn), .ref ag, .int (nI ta), .int nb])), (ap, .inl (kp, 36, .inl gp)), (am, .inl (km, 20, .inl (md_mk mk))), (aw, .inl (kw, 60, .inl gw)), (ao, .inl (ko, 20, .inl ho))] [(kp, .int), (km, .int), (kw, .int), (ko, .int)]) (va_Qi (fun (r : Int32) (_ : Unit) => r = md_x1 gp gw mk vP vQ vT vM vB k) (fun _ t => xb_w (dC, dI) xCl [(h0, .inr (7, [.int 0, .int (nI nm), .ref ap, .int (nI no), .ref am, .ref aw, .ref az, .ref au, .int (nI k1), .long vP, .long vQ, .long vS, .long vT, .long vB, .long vM, .long vH, .ref ao, .ref ax, .int (nI np), .ref ay, .int (nI nl), .ref ad, .ref al, .int (nI sn), .ref ag, .int (nI ta), .int nb])), (ap, .inl (kp, 36, .inl gp)), (am, .inl (km, 20, .inl (md_mk mk))), (aw, .inl (kw, 60, .inl gw)), (ao, .inl (ko, 20, .inl ho))] [(kp, .int), (km, .int), (kw, .int), (ko, .int)] (va_A [(h0, .inr (7, [.int th, .int (nI nm), .ref ap, .int (nI no), .ref am, .ref aw, .ref az, .ref au, .int (nI k1), .long vP, .long vQ, .long vS, .long vT, .long vB, .long vM, .long vH, .ref ao, .ref ax, .int (nI np), .ref ay, .int (nI nl), .ref ad, .ref al, .int (nI sn), .ref ag, .int (nI ta), .int nb])), (ap, .inl (kp, 36, .inl gp)), (am, .inl (km, 20, .inl (md_mk mk))), (aw, .inl (kw, 60, .inl gw)), (ao, .inl (ko, 20, .inl ho))] sz) t) (va_A [(h0, .inr (7, [.int th, .int (nI nm), .ref ap, .int (nI no), .ref am, .ref aw, .ref az, .ref au, .int (nI k1), .long vP, .long vQ, .long vS, .long vT, .long vB, .long vM, .long vH, .ref ao, .ref ax, .int (nI np), .ref ay, .int (nI nl), .ref ad, .ref al, .int (nI sn), .ref ag, .int (nI ta), .int nb])), (ap, .inl (kp, 36, .inl gp)), (am, .inl (km, 20, .inl (md_mk mk))), (aw, .inl (kw, 60, .inl gw)), (ao, .inl (ko, 20, .inl ho))] sz)) 0 0 (va_A [(h0, .inr (7, [.int th, .int (nI nm), .ref ap, .int (nI no), .ref am, .ref aw, .ref az, .ref au, .int (nI k1), .long vP, .long vQ, .long vS, .long vT, .long vB, .long vM, .long vH, .ref ao, .ref ax, .int (nI np), .ref ay, .int (nI nl), .ref ad, .ref al, .int (nI sn), .ref ag, .int (nI ta), .int nb])), (ap, .inl (kp, 36, .inl gp)), (am, .inl (km, 20, .inl (md_mk mk))), (aw, .inl (kw, 60, .inl gw)), (ao, .inl (ko, 20, .inl ho))] sz) := by
  refine Met.ofW (cc := prog_9_method_20_code) (maxL := 5) (ret := (some .int)) (by decide) rfl ?_
  intro p e s m args below meth c s₁ B hml hv
  obtain ⟨rfl, hsz, hz, hP, hK, hD0⟩ := hv
  have hx := B.exec
  have hb := B.bytes
  have hr := B.returns
  have hts := atoms_spec (ws := xw_MD_residual) B.pre
  have hown : s.vm.findClass xR_MD = some m.cls := findClass_of_methodNamed B.named
  have hlocks := B.notSynchronized
  subst hsz
  have hD := hD0.self (sz := s.heap.size)
  generalize hAe : va_A [(h0, .inr (7, [.int th, .int (nI nm), .ref ap, .int (nI no), .ref am, .ref aw, .ref az, .ref au, .int (nI k1), .long vP, .long vQ, .long vS, .long vT, .long vB, .long vM, .long vH, .ref ao, .ref ax, .int (nI np), .ref ay, .int (nI nl), .ref ad, .ref al, .int (nI sn), .ref ag, .int (nI ta), .int nb])), (ap, .inl (kp, 36, .inl gp)), (am, .inl (km, 20, .inl (md_mk mk))), (aw, .inl (kw, 60, .inl gw)), (ao, .inl (ko, 20, .inl ho))] s.heap.size = A at hD ⊢
  have hA : ∀ q : Nat, s.heap.size ≤ q → A q := fun q h => by rw [← hAe]; exact Or.inr h
  have hS : va_S A s.heap s.heap [] := va_S.rf
  have hP : va_P (dC, dI) xCl [(h0, .inr (7, [.int th, .int (nI nm), .ref ap, .int (nI no), .ref am, .ref aw, .ref az, .ref au, .int (nI k1), .long vP, .long vQ, .long vS, .long vT, .long vB, .long vM, .long vH, .ref ao, .ref ax, .int (nI np), .ref ay, .int (nI nl), .ref ad, .ref al, .int (nI sn), .ref ag, .int (nI ta), .int nb])), (ap, .inl (kp, 36, .inl gp)), (am, .inl (km, 20, .inl (md_mk mk))), (aw, .inl (kw, 60, .inl gw)), (ao, .inl (ko, 20, .inl ho))] s.heap := hP
  have hl := lv_entry ([.ref h0, .int (nI k), .int 1]) (n := 5) (Nat.le_of_ble_eq_true rfl)
  rw [lg_entry_eq]
  generalize (lg_sl ([.ref h0, .int (nI k), .int 1]) ++ List.replicate (5 - (lg_sl ([.ref h0, .int (nI k), .int 1])).length) Slot.unset).toArray = ls at hl ⊢
  have hl : lv_has ls 5 [(0, .ref h0), (1, .int (nI k)), (2, .int 1)] := hl
  refine lv_aload_n hx hb d_MD_residual_0 rfl (lv_at hl 0 rfl) ?_
  refine va_get (D := (dC, dI)) (ci := 7) (v := .int (nI k1)) (C := xR_MD) (T := xT_MD) (N := 27) hx hb hts (fun w h => List.mem_cons_of_mem _ (iw_MD w h)) hown hK hP 0 rfl rfl 8 (by decide) (hts _ (List.mem_cons_of_mem _ wm_705)) (fun _ h9 => h9) rfl d_MD_residual_1 ?_
  refine lv_iconst (v := (-1)) hx hb d_MD_residual_4 (by decide) ?_
  refine lv_icmp_eq (tgt := 12) hx hb d_MD_residual_5 (by decide) (fun c_1 => ?_) (fun c_1 => ?_)
  · exact absurd c_1 (nI_ne_m1 (by omega))
  · refine lv_iconst (v := 1) hx hb d_MD_residual_8 (by decide) ?_
    refine lv_goto (tgt := 13) hx hb d_MD_residual_9 (by decide) ?_
    refine lv_istore_n (lv' := [(3, .int 1), (0, .ref h0), (1, .int (nI k)), (2, .int 1)]) hx hb d_MD_residual_13 rfl hl (by decide) rfl (fun ls hl => ?_)
    refine lv_aload_n hx hb d_MD_residual_14 rfl (lv_at hl 1 rfl) ?_
    refine lv_iload_n hx hb d_MD_residual_15 rfl (lv_at hl 2 rfl) ?_
    refine xr_calli (va_runV (As := [.int (nI k)]) (rest := []) ⟨hx, hb, hml, hown, hts⟩ (c_MD_isObservation l dC dI h0 th nm ap no am aw az au (nI k1) vP vQ vS vT vB vM vH ao ax np ay nl ad al sn ag ta nb (nI k) (by first | assumption | omega | decide)) (cwV 1 hts (xgV wm_809 wm_811 wm_15 wm_34 wm_812) rfl rfl rfl (by decide +kernel) ⟨Nat.le_of_ble_eq_true rfl, Nat.le_of_ble_eq_true rfl⟩) ⟨xp_blind, va_recv hK hP (ci := 7) (q0 := 0) rfl rfl, fun U hU hW => ⟨rfl, hz.warm hW, by rw [hU]; exact hP.sub [0] rfl, va_K.moved hW.alike (hK.sub [] rfl)⟩⟩ rfl rfl hl.1 rfl (lv_room (Nat.le_of_ble_eq_true rfl)) d_MD_residual_16 ⟨Nat.le_of_ble_eq_true rfl, Nat.le_of_ble_eq_true rfl⟩) (fun r_2 h_3 => ?_)
    subst h_3
    refine lv_if_eq (tgt := 35) hx hb d_MD_residual_19 (by decide) (fun c_4 => ?_) (fun c_4 => ?_)
    · exact absurd hv (bI_f rfl c_4)
    · have b_5 := bI_t (rfl : bI (xin (nI k) no) = _) c_4
      refine lv_iload_n hx hb d_MD_residual_22 rfl (lv_at hl 3 rfl) ?_
      refine lv_iconst (v := 0) hx hb d_MD_residual_23 (by decide) ?_
      refine lv_iconst (v := 2) hx hb d_MD_residual_24 (by decide) ?_
      refine xr_calli (va_runS (As := [.int 1, .int 0, .int 2]) (rest := []) ⟨hx, hb, hml, hown, hts⟩ (c_MD_within l dC dI 1 0 2) (va_cwS 3 hts (xgS wm_790 wm_791 wm_34 wm_792) rfl rfl rfl (by decide +kernel) ⟨Nat.le_of_ble_eq_true rfl, Nat.le_of_ble_eq_true rfl⟩) ⟨xp_blind, fun U hU hW => ⟨rfl, hz.warm hW, by rw [hU]; exact hP.sub [] rfl, va_K.moved hW.alike (hK.sub [] rfl)⟩⟩ rfl rfl hl.1 rfl (lv_room (Nat.le_of_ble_eq_true rfl)) d_MD_residual_25 ⟨Nat.le_of_ble_eq_true rfl, Nat.le_of_ble_eq_true rfl⟩) (fun r_6 h_7 => ?_)
      subst h_7
      refine lv_if_eq (tgt := 35) hx hb d_MD_residual_28 (by decide) (fun c_8 => ?_) (fun c_8 => ?_)
      · exact absurd (⟨by decide, by decide⟩ : md_win 1 0 2) (bI_f rfl c_8)
      · have b_9 := bI_t (rfl : bI (md_win 1 0 2) = _) c_8
        refine lv_iconst (v := 1) hx hb d_MD_residual_31 (by decide) ?_
        refine lv_goto (tgt := 36) hx hb d_MD_residual_32 (by decide) ?_
        refine lv_istore (lv' := [(4, .int 1), (3, .int 1), (0, .ref h0), (1, .int (nI k)), (2, .int 1)]) hx hb d_MD_residual_36 hl (by decide) rfl (fun ls hl => ?_)
        refine lv_aload_n hx hb d_MD_residual_38 rfl (lv_at hl 2 rfl) ?_
        refine lv_iload hx hb d_MD_residual_39 (lv_at hl 0 rfl) ?_
        refine lv_if_eq (tgt := 60) hx hb d_MD_residual_41 (by decide) (fun c_10 => ?_) (fun c_10 => ?_)
        · exact absurd c_10 (by decide)
        · refine lv_iload_n hx hb d_MD_residual_44 rfl (lv_at hl 1 rfl) ?_
          refine lv_if_eq (tgt := 56) hx hb d_MD_residual_45 (by decide) (fun c_11 => ?_) (fun c_11 => ?_)
          · exact absurd c_11 (by decide)
          · refine lv_iload_n hx hb d_MD_residual_48 rfl (lv_at hl 3 rfl) ?_
            refine lv_aload_n hx hb d_MD_residual_49 rfl (lv_at hl 2 rfl) ?_
            refine va_get (D := (dC, dI)) (ci := 7) (v := .int (nI k1)) (C := xR_MD) (T := xT_MD) (N := 27) hx hb hts (fun w h => List.mem_cons_of_mem _ (iw_MD w h)) hown hK hP 0 rfl rfl 8 (by decide) (hts _ (List.mem_cons_of_mem _ wm_705)) (fun _ h9 => h9) rfl d_MD_residual_50 ?_
            refine lv_icmp_ge (tgt := 60) hx hb d_MD_residual_53 (by decide) (fun c_12 => ?_) (fun c_12 => ?_)
            · exact absurd (xn_le (a := k1) (b := k) c_12 rfl rfl (by omega) (by omega)) (by omega)
            · have n_13 := xn_nle (a := k1) (b := k) c_12 rfl rfl (by omega) (by omega)
              refine lv_iconst (v := 1) hx hb d_MD_residual_56 (by decide) ?_
              refine lv_goto (tgt := 61) hx hb d_MD_residual_57 (by decide) ?_
              refine lv_iload_n hx hb d_MD_residual_61 rfl (lv_at hl 1 rfl) ?_
              refine lv_iconst (v := 1) hx hb d_MD_residual_62 (by decide) ?_
              have hPc := hP.sub (ws' := [(h0, .inr (7, [.int th, .int (nI nm), .ref ap, .int (nI no), .ref am, .ref aw, .ref az, .ref au, .int (nI k1), .long vP, .long vQ, .long vS, .long vT, .long vB, .long vM, .long vH, .ref ao, .ref ax, .int (nI np), .ref ay, .int (nI nl), .ref ad, .ref al, .int (nI sn), .ref ag, .int (nI ta), .int nb]))]) [0] rfl
              have hDc := hD.sub (ws' := [(h0, .inr (7, [.int th, .int (nI nm), .ref ap, .int (nI no), .ref am, .ref aw, .ref az, .ref au, .int (nI k1), .long vP, .long vQ, .long vS, .long vT, .long vB, .long vM, .long vH, .ref ao, .ref ax, .int (nI np), .ref ay, .int (nI nl), .ref ad, .ref al, .int (nI sn), .ref ag, .int (nI ta), .int nb]))]) [0] (by decide) rfl
              have hKc := hK.sub (tys' := []) [] rfl
              have hFc := va_free (wc := [(h0, .inr (7, [.int th, .int (nI nm), .ref ap, .int (nI no), .ref am, .ref aw, .ref az, .ref au, .int (nI k1), .long vP, .long vQ, .long vS, .long vT, .long vB, .long vM, .long vH, .ref ao, .ref ax, .int (nI np), .ref ay, .int (nI nl), .ref ad, .ref al, .int (nI sn), .ref ag, .int (nI ta), .int nb]))]) hD hS hA [0] rfl
              refine va_calli (va_runV (As := [.int 1, .int 1, .int 1]) (rest := []) ⟨hx, hb, hml, hown, hts⟩ (c_MD_goes l dC dI s.heap.size h0 th nm ap no am aw az au (nI k1) vP vQ vS vT vB vM vH ao ax np ay nl ad al sn ag ta nb 1 1 1) (cwV 3 hts (xgV wm_793 wm_795 wm_13 wm_34 wm_796) rfl rfl rfl (by decide +kernel) ⟨Nat.le_of_ble_eq_true rfl, Nat.le_of_ble_eq_true rfl⟩) ⟨xw_blind, va_recv hKc hPc (ci := 7) (q0 := 0) rfl rfl, fun U hU hW => ⟨rfl, by rw [hU], hz.warm hW, by rw [hU]; exact hPc, va_K.moved hW.alike hKc, hDc.weaken (fun _ _ _ _ => trivial)⟩⟩ rfl rfl hl.1 rfl (lv_room (Nat.le_of_ble_eq_true rfl)) d_MD_residual_63 ⟨Nat.le_of_ble_eq_true rfl, Nat.le_of_ble_eq_true rfl⟩) hS (fun q _ h => hFc q h) hFc (fun r_14 _ t H1 locs ht hvm hw_15 hB hz1 hk1 hS => ?_)
              obtain ⟨hP1, hK1, hD1⟩ := hB
              rw [ht] at hP1
              have hK1 := va_K.moved hvm.symm hK1
              obtain ⟨hP, hD⟩ := va_join (wr := [(ap, .inl (kp, 36, .inl gp)), (am, .inl (km, 20, .inl (md_mk mk))), (aw, .inl (kw, 60, .inl gw)), (ao, .inl (ko, 20, .inl ho))]) (w1 := [(h0, .inr (7, [.int (md_th 1 1 1), .int (nI nm), .ref ap, .int (nI no), .ref am, .ref aw, .ref az, .ref au, .int (nI k1), .long vP, .long vQ, .long vS, .long vT, .long vB, .long vM, .long vH, .ref ao, .ref ax, .int (nI np), .ref ay, .int (nI nl), .ref ad, .ref al, .int (nI sn), .ref ag, .int (nI ta), .int nb]))]) hP hD [0] [1, 2, 3, 4] rfl rfl (by decide) (by decide) hk1 hFc hP1 hD1
              generalize H1 = H at hP hS ⊢
              have hP : va_P (dC, dI) xCl [(ap, .inl (kp, 36, .inl gp)), (am, .inl (km, 20, .inl (md_mk mk))), (aw, .inl (kw, 60, .inl gw)), (ao, .inl (ko, 20, .inl ho)), (h0, .inr (7, [.int (md_th 1 1 1), .int (nI nm), .ref ap, .int (nI no), .ref am, .ref aw, .ref az, .ref au, .int (nI k1), .long vP, .long vQ, .long vS, .long vT, .long vB, .long vM, .long vH, .ref ao, .ref ax, .int (nI np), .ref ay, .int (nI nl), .ref ad, .ref al, .int (nI sn), .ref ag, .int (nI ta), .int nb]))] H := hP
              have hD : va_D A [(ap, .inl (kp, 36, .inl gp)), (am, .inl (km, 20, .inl (md_mk mk))), (aw, .inl (kw, 60, .inl gw)), (ao, .inl (ko, 20, .inl ho)), (h0, .inr (7, [.int (md_th 1 1 1), .int (nI nm), .ref ap, .int (nI no), .ref am, .ref aw, .ref az, .ref au, .int (nI k1), .long vP, .long vQ, .long vS, .long vT, .long vB, .long vM, .long vH, .ref ao, .ref ax, .int (nI np), .ref ay, .int (nI nl), .ref ad, .ref al, .int (nI sn), .ref ag, .int (nI ta), .int nb]))] := hD
              subst hw_15
              refine lv_if_ne (tgt := 71) hx hb d_MD_residual_66 (by decide) (fun c_16 => ?_) (fun c_16 => ?_)
              · have b_17 := bI_t (rfl : bI (md_th 1 1 1 = 0) = _) c_16
                refine lv_aload_n hx hb d_MD_residual_71 rfl (lv_at hl 2 rfl) ?_
                refine lv_iload_n hx hb d_MD_residual_72 rfl (lv_at hl 3 rfl) ?_
                refine lv_iload_n hx hb d_MD_residual_73 rfl (lv_at hl 4 rfl) ?_
                refine xr_calli (va_runV (As := [.int (nI k), .int 1]) (rest := []) ⟨hx, hb, hml, hown, hts⟩ (c_MD_missed1 l dC dI h0 (md_th 1 1 1) nm ap no am aw az au (nI k1) vP vQ vS vT vB vM vH ao ax np ay nl ad al sn ag ta nb kp km kw ko mk gp gw ho k (by first | assumption | omega | decide) (by first | assumption | omega | decide) (by first | assumption | omega | decide)) (cwV 2 hts (xgV wm_844 wm_846 wm_18 wm_34 wm_847) rfl rfl rfl (by decide +kernel) ⟨Nat.le_of_ble_eq_true rfl, Nat.le_of_ble_eq_true rfl⟩) ⟨xp_blind, va_recv hK hP (ci := 7) (q0 := 4) rfl rfl, fun U hU hW => ⟨rfl, hz.warm hW, by rw [hU]; exact hP.sub [4, 0, 1, 2, 3] rfl, va_K.moved hW.alike (hK.sub [0, 1, 2, 3] rfl)⟩⟩ rfl rfl hl.1 rfl (lv_room (Nat.le_of_ble_eq_true rfl)) d_MD_residual_74 ⟨Nat.le_of_ble_eq_true rfl, Nat.le_of_ble_eq_true rfl⟩) (fun r_18 h_19 => ?_)
                subst h_19
                rw [md_th_0 (by decide) (by decide) (by decide)] at hP hD
                have hP9 := hP.sub (ws' := [(h0, .inr (7, [.int 0, .int (nI nm), .ref ap, .int (nI no), .ref am, .ref aw, .ref az, .ref au, .int (nI k1), .long vP, .long vQ, .long vS, .long vT, .long vB, .long vM, .long vH, .ref ao, .ref ax, .int (nI np), .ref ay, .int (nI nl), .ref ad, .ref al, .int (nI sn), .ref ag, .int (nI ta), .int nb])), (ap, .inl (kp, 36, .inl gp)), (am, .inl (km, 20, .inl (md_mk mk))), (aw, .inl (kw, 60, .inl gw)), (ao, .inl (ko, 20, .inl ho))]) [4, 0, 1, 2, 3] rfl
                have hD9 := hD.sub (ws' := [(h0, .inr (7, [.int 0, .int (nI nm), .ref ap, .int (nI no), .ref am, .ref aw, .ref az, .ref au, .int (nI k1), .long vP, .long vQ, .long vS, .long vT, .long vB, .long vM, .long vH, .ref ao, .ref ax, .int (nI np), .ref ay, .int (nI nl), .ref ad, .ref al, .int (nI sn), .ref ag, .int (nI ta), .int nb])), (ap, .inl (kp, 36, .inl gp)), (am, .inl (km, 20, .inl (md_mk mk))), (aw, .inl (kw, 60, .inl gw)), (ao, .inl (ko, 20, .inl ho))]) [4, 0, 1, 2, 3] (by decide) rfl
                have hK9 := hK.sub (tys' := [(kp, .int), (km, .int), (kw, .int), (ko, .int)]) [0, 1, 2, 3] rfl
                exact W.iret (v := md_x1 gp gw mk vP vQ vT vM vB k) hx hb hr (fun t ht hW => ⟨⟨md_x1 gp gw mk vP vQ vT vM vB k, (), rfl, rfl, ⟨by rw [ht]; exact hP9, va_K.moved hW.alike hK9, by exact hD9⟩⟩, hS.F ht⟩) hS.2.2 d_MD_residual_77 hlocks
              · exact absurd (md_th_0 (by decide) (by decide) (by decide)) (bI_f rfl c_16)
set_option maxHeartbeats 4000000 in
set_option maxRecDepth 100000 in
/-- residual(2) -/
theorem c_MD_residual_y2 (l : Launch) (dC : Nat → ClassId) (dI : Nat → Nat → Nat) (sz : Nat) (h0 : Nat) (th : Int32) (nm : Nat) (ap : Nat) (no : Nat) (am : Nat) (aw : Nat) (az : Nat) (au : Nat) (k1 : Nat) (vP : Int64) (vQ : Int64) (vS : Int64) (vT : Int64) (vB : Int64) (vM : Int64) (vH : Int64) (ao : Nat) (ax : Nat) (np : Nat) (ay : Nat) (nl : Nat) (ad : Nat) (al : Nat) (sn : Nat) (ag : Nat) (ta : Nat) (nb : Int32) (kp : ClassId) (km : ClassId) (kw : ClassId) (ko : ClassId) (mk : Nat → Nat) (gp : Nat → Int32) (gw : Nat → Int32) (ho : Nat → Int32) (k : Nat) (hv : xin (nI k) no) (hno : no ≤ 20) (hk1 : k1 ≤ 20) (hk : k < k1) (hMB : 0 < vM * vB) (hmk : mk k < 12) : Met l xy_MD_residual xw_MD_residual ({ frames := 2, cells := 0, slots := 0, locals := 48 }) (xp_w [.ref h0, .int (nI k), .int 2] sz (dC, dI) xCl [(h0, .inr (7, [.int th, .int (nI nm), .ref ap, .int (nI no), .ref am, .ref aw, .ref az, .ref au, .int (nI k1), .long vP, .long vQ, .long vS, .long vT, .long vB, .long vM, .long vH, .ref ao, .ref ax, .int (nI np), .ref ay, .int (nI nl), .ref ad, .ref al, .int (nI sn), .ref ag, .int (nI ta), .int nb])), (ap, .inl (kp, 36, .inl gp)), (am, .inl (km, 20, .inl (md_mk mk))), (aw, .inl (kw, 60, .inl gw)), (ao, .inl (ko, 20, .inl ho))] [(kp, .int), (km, .int), (kw, .int), (ko, .int)]) (va_Qi (fun (r : Int32) (_ : Unit) => r = md_x2 gp gw ho mk vH k) (fun _ t => xb_w (dC, dI) xCl [(h0, .inr (7, [.int 0, .int (nI nm), .ref ap, .int (nI no), .ref am, .ref aw, .ref az, .ref au, .int (nI k1), .long vP, .long vQ, .long vS, .long vT, .long vB, .long vM, .long vH, .ref ao, .ref ax, .int (nI np), .ref ay, .int (nI nl), .ref ad, .ref al, .int (nI sn), .ref ag, .int (nI ta), .int nb])), (ap, .inl (kp, 36, .inl gp)), (am, .inl (km, 20, .inl (md_mk mk))), (aw, .inl (kw, 60, .inl gw)), (ao, .inl (ko, 20, .inl ho))] [(kp, .int), (km, .int), (kw, .int), (ko, .int)] (va_A [(h0, .inr (7, [.int th, .int (nI nm), .ref ap, .int (nI no), .ref am, .ref aw, .ref az, .ref au, .int (nI k1), .long vP, .long vQ, .long vS, .long vT, .long vB, .long vM, .long vH, .ref ao, .ref ax, .int (nI np), .ref ay, .int (nI nl), .ref ad, .ref al, .int (nI sn), .ref ag, .int (nI ta), .int nb])), (ap, .inl (kp, 36, .inl gp)), (am, .inl (km, 20, .inl (md_mk mk))), (aw, .inl (kw, 60, .inl gw)), (ao, .inl (ko, 20, .inl ho))] sz) t) (va_A [(h0, .inr (7, [.int th, .int (nI nm), .ref ap, .int (nI no), .ref am, .ref aw, .ref az, .ref au, .int (nI k1), .long vP, .long vQ, .long vS, .long vT, .long vB, .long vM, .long vH, .ref ao, .ref ax, .int (nI np), .ref ay, .int (nI nl), .ref ad, .ref al, .int (nI sn), .ref ag, .int (nI ta), .int nb])), (ap, .inl (kp, 36, .inl gp)), (am, .inl (km, 20, .inl (md_mk mk))), (aw, .inl (kw, 60, .inl gw)), (ao, .inl (ko, 20, .inl ho))] sz)) 0 0 (va_A [(h0, .inr (7, [.int th, .int (nI nm), .ref ap, .int (nI no), .ref am, .ref aw, .ref az, .ref au, .int (nI k1), .long vP, .long vQ, .long vS, .long vT, .long vB, .long vM, .long vH, .ref ao, .ref ax, .int (nI np), .ref ay, .int (nI nl), .ref ad, .ref al, .int (nI sn), .ref ag, .int (nI ta), .int nb])), (ap, .inl (kp, 36, .inl gp)), (am, .inl (km, 20, .inl (md_mk mk))), (aw, .inl (kw, 60, .inl gw)), (ao, .inl (ko, 20, .inl ho))] sz) := by
  refine Met.ofW (cc := prog_9_method_20_code) (maxL := 5) (ret := (some .int)) (by decide) rfl ?_
  intro p e s m args below meth c s₁ B hml hv
  obtain ⟨rfl, hsz, hz, hP, hK, hD0⟩ := hv
  have hx := B.exec
  have hb := B.bytes
  have hr := B.returns
  have hts := atoms_spec (ws := xw_MD_residual) B.pre
  have hown : s.vm.findClass xR_MD = some m.cls := findClass_of_methodNamed B.named
  have hlocks := B.notSynchronized
  subst hsz
  have hD := hD0.self (sz := s.heap.size)
  generalize hAe : va_A [(h0, .inr (7, [.int th, .int (nI nm), .ref ap, .int (nI no), .ref am, .ref aw, .ref az, .ref au, .int (nI k1), .long vP, .long vQ, .long vS, .long vT, .long vB, .long vM, .long vH, .ref ao, .ref ax, .int (nI np), .ref ay, .int (nI nl), .ref ad, .ref al, .int (nI sn), .ref ag, .int (nI ta), .int nb])), (ap, .inl (kp, 36, .inl gp)), (am, .inl (km, 20, .inl (md_mk mk))), (aw, .inl (kw, 60, .inl gw)), (ao, .inl (ko, 20, .inl ho))] s.heap.size = A at hD ⊢
  have hA : ∀ q : Nat, s.heap.size ≤ q → A q := fun q h => by rw [← hAe]; exact Or.inr h
  have hS : va_S A s.heap s.heap [] := va_S.rf
  have hP : va_P (dC, dI) xCl [(h0, .inr (7, [.int th, .int (nI nm), .ref ap, .int (nI no), .ref am, .ref aw, .ref az, .ref au, .int (nI k1), .long vP, .long vQ, .long vS, .long vT, .long vB, .long vM, .long vH, .ref ao, .ref ax, .int (nI np), .ref ay, .int (nI nl), .ref ad, .ref al, .int (nI sn), .ref ag, .int (nI ta), .int nb])), (ap, .inl (kp, 36, .inl gp)), (am, .inl (km, 20, .inl (md_mk mk))), (aw, .inl (kw, 60, .inl gw)), (ao, .inl (ko, 20, .inl ho))] s.heap := hP
  have hl := lv_entry ([.ref h0, .int (nI k), .int 2]) (n := 5) (Nat.le_of_ble_eq_true rfl)
  rw [lg_entry_eq]
  generalize (lg_sl ([.ref h0, .int (nI k), .int 2]) ++ List.replicate (5 - (lg_sl ([.ref h0, .int (nI k), .int 2])).length) Slot.unset).toArray = ls at hl ⊢
  have hl : lv_has ls 5 [(0, .ref h0), (1, .int (nI k)), (2, .int 2)] := hl
  refine lv_aload_n hx hb d_MD_residual_0 rfl (lv_at hl 0 rfl) ?_
  refine va_get (D := (dC, dI)) (ci := 7) (v := .int (nI k1)) (C := xR_MD) (T := xT_MD) (N := 27) hx hb hts (fun w h => List.mem_cons_of_mem _ (iw_MD w h)) hown hK hP 0 rfl rfl 8 (by decide) (hts _ (List.mem_cons_of_mem _ wm_705)) (fun _ h9 => h9) rfl d_MD_residual_1 ?_
  refine lv_iconst (v := (-1)) hx hb d_MD_residual_4 (by decide) ?_
  refine lv_icmp_eq (tgt := 12) hx hb d_MD_residual_5 (by decide) (fun c_1 => ?_) (fun c_1 => ?_)
  · exact absurd c_1 (nI_ne_m1 (by omega))
  · refine lv_iconst (v := 1) hx hb d_MD_residual_8 (by decide) ?_
    refine lv_goto (tgt := 13) hx hb d_MD_residual_9 (by decide) ?_
    refine lv_istore_n (lv' := [(3, .int 1), (0, .ref h0), (1, .int (nI k)), (2, .int 2)]) hx hb d_MD_residual_13 rfl hl (by decide) rfl (fun ls hl => ?_)
    refine lv_aload_n hx hb d_MD_residual_14 rfl (lv_at hl 1 rfl) ?_
    refine lv_iload_n hx hb d_MD_residual_15 rfl (lv_at hl 2 rfl) ?_
    refine xr_calli (va_runV (As := [.int (nI k)]) (rest := []) ⟨hx, hb, hml, hown, hts⟩ (c_MD_isObservation l dC dI h0 th nm ap no am aw az au (nI k1) vP vQ vS vT vB vM vH ao ax np ay nl ad al sn ag ta nb (nI k) (by first | assumption | omega | decide)) (cwV 1 hts (xgV wm_809 wm_811 wm_15 wm_34 wm_812) rfl rfl rfl (by decide +kernel) ⟨Nat.le_of_ble_eq_true rfl, Nat.le_of_ble_eq_true rfl⟩) ⟨xp_blind, va_recv hK hP (ci := 7) (q0 := 0) rfl rfl, fun U hU hW => ⟨rfl, hz.warm hW, by rw [hU]; exact hP.sub [0] rfl, va_K.moved hW.alike (hK.sub [] rfl)⟩⟩ rfl rfl hl.1 rfl (lv_room (Nat.le_of_ble_eq_true rfl)) d_MD_residual_16 ⟨Nat.le_of_ble_eq_true rfl, Nat.le_of_ble_eq_true rfl⟩) (fun r_2 h_3 => ?_)
    subst h_3
    refine lv_if_eq (tgt := 35) hx hb d_MD_residual_19 (by decide) (fun c_4 => ?_) (fun c_4 => ?_)
    · exact absurd hv (bI_f rfl c_4)
    · have b_5 := bI_t (rfl : bI (xin (nI k) no) = _) c_4
      refine lv_iload_n hx hb d_MD_residual_22 rfl (lv_at hl 3 rfl) ?_
      refine lv_iconst (v := 0) hx hb d_MD_residual_23 (by decide) ?_
      refine lv_iconst (v := 2) hx hb d_MD_residual_24 (by decide) ?_
      refine xr_calli (va_runS (As := [.int 2, .int 0, .int 2]) (rest := []) ⟨hx, hb, hml, hown, hts⟩ (c_MD_within l dC dI 2 0 2) (va_cwS 3 hts (xgS wm_790 wm_791 wm_34 wm_792) rfl rfl rfl (by decide +kernel) ⟨Nat.le_of_ble_eq_true rfl, Nat.le_of_ble_eq_true rfl⟩) ⟨xp_blind, fun U hU hW => ⟨rfl, hz.warm hW, by rw [hU]; exact hP.sub [] rfl, va_K.moved hW.alike (hK.sub [] rfl)⟩⟩ rfl rfl hl.1 rfl (lv_room (Nat.le_of_ble_eq_true rfl)) d_MD_residual_25 ⟨Nat.le_of_ble_eq_true rfl, Nat.le_of_ble_eq_true rfl⟩) (fun r_6 h_7 => ?_)
      subst h_7
      refine lv_if_eq (tgt := 35) hx hb d_MD_residual_28 (by decide) (fun c_8 => ?_) (fun c_8 => ?_)
      · exact absurd (⟨by decide, by decide⟩ : md_win 2 0 2) (bI_f rfl c_8)
      · have b_9 := bI_t (rfl : bI (md_win 2 0 2) = _) c_8
        refine lv_iconst (v := 1) hx hb d_MD_residual_31 (by decide) ?_
        refine lv_goto (tgt := 36) hx hb d_MD_residual_32 (by decide) ?_
        refine lv_istore (lv' := [(4, .int 1), (3, .int 1), (0, .ref h0), (1, .int (nI k)), (2, .int 2)]) hx hb d_MD_residual_36 hl (by decide) rfl (fun ls hl => ?_)
        refine lv_aload_n hx hb d_MD_residual_38 rfl (lv_at hl 2 rfl) ?_
        refine lv_iload hx hb d_MD_residual_39 (lv_at hl 0 rfl) ?_
        refine lv_if_eq (tgt := 60) hx hb d_MD_residual_41 (by decide) (fun c_10 => ?_) (fun c_10 => ?_)
        · exact absurd c_10 (by decide)
        · refine lv_iload_n hx hb d_MD_residual_44 rfl (lv_at hl 1 rfl) ?_
          refine lv_if_eq (tgt := 56) hx hb d_MD_residual_45 (by decide) (fun c_11 => ?_) (fun c_11 => ?_)
          · exact absurd c_11 (by decide)
          · refine lv_iload_n hx hb d_MD_residual_48 rfl (lv_at hl 3 rfl) ?_
            refine lv_aload_n hx hb d_MD_residual_49 rfl (lv_at hl 2 rfl) ?_
            refine va_get (D := (dC, dI)) (ci := 7) (v := .int (nI k1)) (C := xR_MD) (T := xT_MD) (N := 27) hx hb hts (fun w h => List.mem_cons_of_mem _ (iw_MD w h)) hown hK hP 0 rfl rfl 8 (by decide) (hts _ (List.mem_cons_of_mem _ wm_705)) (fun _ h9 => h9) rfl d_MD_residual_50 ?_
            refine lv_icmp_ge (tgt := 60) hx hb d_MD_residual_53 (by decide) (fun c_12 => ?_) (fun c_12 => ?_)
            · exact absurd (xn_le (a := k1) (b := k) c_12 rfl rfl (by omega) (by omega)) (by omega)
            · have n_13 := xn_nle (a := k1) (b := k) c_12 rfl rfl (by omega) (by omega)
              refine lv_iconst (v := 1) hx hb d_MD_residual_56 (by decide) ?_
              refine lv_goto (tgt := 61) hx hb d_MD_residual_57 (by decide) ?_
              refine lv_iload_n hx hb d_MD_residual_61 rfl (lv_at hl 1 rfl) ?_
              refine lv_iconst (v := 1) hx hb d_MD_residual_62 (by decide) ?_
              have hPc := hP.sub (ws' := [(h0, .inr (7, [.int th, .int (nI nm), .ref ap, .int (nI no), .ref am, .ref aw, .ref az, .ref au, .int (nI k1), .long vP, .long vQ, .long vS, .long vT, .long vB, .long vM, .long vH, .ref ao, .ref ax, .int (nI np), .ref ay, .int (nI nl), .ref ad, .ref al, .int (nI sn), .ref ag, .int (nI ta), .int nb]))]) [0] rfl
              have hDc := hD.sub (ws' := [(h0, .inr (7, [.int th, .int (nI nm), .ref ap, .int (nI no), .ref am, .ref aw, .ref az, .ref au, .int (nI k1), .long vP, .long vQ, .long vS, .long vT, .long vB, .long vM, .long vH, .ref ao, .ref ax, .int (nI np), .ref ay, .int (nI nl), .ref ad, .ref al, .int (nI sn), .ref ag, .int (nI ta), .int nb]))]) [0] (by decide) rfl
              have hKc := hK.sub (tys' := []) [] rfl
              have hFc := va_free (wc := [(h0, .inr (7, [.int th, .int (nI nm), .ref ap, .int (nI no), .ref am, .ref aw, .ref az, .ref au, .int (nI k1), .long vP, .long vQ, .long vS, .long vT, .long vB, .long vM, .long vH, .ref ao, .ref ax, .int (nI np), .ref ay, .int (nI nl), .ref ad, .ref al, .int (nI sn), .ref ag, .int (nI ta), .int nb]))]) hD hS hA [0] rfl
              refine va_calli (va_runV (As := [.int 1, .int 1, .int 1]) (rest := []) ⟨hx, hb, hml, hown, hts⟩ (c_MD_goes l dC dI s.heap.size h0 th nm ap no am aw az au (nI k1) vP vQ vS vT vB vM vH ao ax np ay nl ad al sn ag ta nb 1 1 1) (cwV 3 hts (xgV wm_793 wm_795 wm_13 wm_34 wm_796) rfl rfl rfl (by decide +kernel) ⟨Nat.le_of_ble_eq_true rfl, Nat.le_of_ble_eq_true rfl⟩) ⟨xw_blind, va_recv hKc hPc (ci := 7) (q0 := 0) rfl rfl, fun U hU hW => ⟨rfl, by rw [hU], hz.warm hW, by rw [hU]; exact hPc, va_K.moved hW.alike hKc, hDc.weaken (fun _ _ _ _ => trivial)⟩⟩ rfl rfl hl.1 rfl (lv_room (Nat.le_of_ble_eq_true rfl)) d_MD_residual_63 ⟨Nat.le_of_ble_eq_true rfl, Nat.le_of_ble_eq_true rfl⟩) hS (fun q _ h => hFc q h) hFc (fun r_14 _ t H1 locs ht hvm hw_15 hB hz1 hk1 hS => ?_)
              obtain ⟨hP1, hK1, hD1⟩ := hB
              rw [ht] at hP1
              have hK1 := va_K.moved hvm.symm hK1
              obtain ⟨hP, hD⟩ := va_join (wr := [(ap, .inl (kp, 36, .inl gp)), (am, .inl (km, 20, .inl (md_mk mk))), (aw, .inl (kw, 60, .inl gw)), (ao, .inl (ko, 20, .inl ho))]) (w1 := [(h0, .inr (7, [.int (md_th 1 1 1), .int (nI nm), .ref ap, .int (nI no), .ref am, .ref aw, .ref az, .ref au, .int (nI k1), .long vP, .long vQ, .long vS, .long vT, .long vB, .long vM, .long vH, .ref ao, .ref ax, .int (nI np), .ref ay, .int (nI nl), .ref ad, .ref al, .int (nI sn), .ref ag, .int (nI ta), .int nb]))]) hP hD [0] [1, 2, 3, 4] rfl rfl (by decide) (by decide) hk1 hFc hP1 hD1
              generalize H1 = H at hP hS ⊢
              have hP : va_P (dC, dI) xCl [(ap, .inl (kp, 36, .inl gp)), (am, .inl (km, 20, .inl (md_mk mk))), (aw, .inl (kw, 60, .inl gw)), (ao, .inl (ko, 20, .inl ho)), (h0, .inr (7, [.int (md_th 1 1 1), .int (nI nm), .ref ap, .int (nI no), .ref am, .ref aw, .ref az, .ref au, .int (nI k1), .long vP, .long vQ, .long vS, .long vT, .long vB, .long vM, .long vH, .ref ao, .ref ax, .int (nI np), .ref ay, .int (nI nl), .ref ad, .ref al, .int (nI sn), .ref ag, .int (nI ta), .int nb]))] H := hP
              have hD : va_D A [(ap, .inl (kp, 36, .inl gp)), (am, .inl (km, 20, .inl (md_mk mk))), (aw, .inl (kw, 60, .inl gw)), (ao, .inl (ko, 20, .inl ho)), (h0, .inr (7, [.int (md_th 1 1 1), .int (nI nm), .ref ap, .int (nI no), .ref am, .ref aw, .ref az, .ref au, .int (nI k1), .long vP, .long vQ, .long vS, .long vT, .long vB, .long vM, .long vH, .ref ao, .ref ax, .int (nI np), .ref ay, .int (nI nl), .ref ad, .ref al, .int (nI sn), .ref ag, .int (nI ta), .int nb]))] := hD
              subst hw_15
              refine lv_if_ne (tgt := 71) hx hb d_MD_residual_66 (by decide) (fun c_16 => ?_) (fun c_16 => ?_)
              · have b_17 := bI_t (rfl : bI (md_th 1 1 1 = 0) = _) c_16
                refine lv_aload_n hx hb d_MD_residual_71 rfl (lv_at hl 2 rfl) ?_
                refine lv_iload_n hx hb d_MD_residual_72 rfl (lv_at hl 3 rfl) ?_
                refine lv_iload_n hx hb d_MD_residual_73 rfl (lv_at hl 4 rfl) ?_
                refine xr_calli (va_runV (As := [.int (nI k), .int 2]) (rest := []) ⟨hx, hb, hml, hown, hts⟩ (c_MD_missed2 l dC dI h0 (md_th 1 1 1) nm ap no am aw az au (nI k1) vP vQ vS vT vB vM vH ao ax np ay nl ad al sn ag ta nb kp km kw ko mk gp gw ho k (by first | assumption | omega | decide) (by first | assumption | omega | decide) (by first | assumption | omega | decide)) (cwV 2 hts (xgV wm_844 wm_846 wm_18 wm_34 wm_847) rfl rfl rfl (by decide +kernel) ⟨Nat.le_of_ble_eq_true rfl, Nat.le_of_ble_eq_true rfl⟩) ⟨xp_blind, va_recv hK hP (ci := 7) (q0 := 4) rfl rfl, fun U hU hW => ⟨rfl, hz.warm hW, by rw [hU]; exact hP.sub [4, 0, 1, 2, 3] rfl, va_K.moved hW.alike (hK.sub [0, 1, 2, 3] rfl)⟩⟩ rfl rfl hl.1 rfl (lv_room (Nat.le_of_ble_eq_true rfl)) d_MD_residual_74 ⟨Nat.le_of_ble_eq_true rfl, Nat.le_of_ble_eq_true rfl⟩) (fun r_18 h_19 => ?_)
                subst h_19
                rw [md_th_0 (by decide) (by decide) (by decide)] at hP hD
                have hP9 := hP.sub (ws' := [(h0, .inr (7, [.int 0, .int (nI nm), .ref ap, .int (nI no), .ref am, .ref aw, .ref az, .ref au, .int (nI k1), .long vP, .long vQ, .long vS, .long vT, .long vB, .long vM, .long vH, .ref ao, .ref ax, .int (nI np), .ref ay, .int (nI nl), .ref ad, .ref al, .int (nI sn), .ref ag, .int (nI ta), .int nb])), (ap, .inl (kp, 36, .inl gp)), (am, .inl (km, 20, .inl (md_mk mk))), (aw, .inl (kw, 60, .inl gw)), (ao, .inl (ko, 20, .inl ho))]) [4, 0, 1, 2, 3] rfl
                have hD9 := hD.sub (ws' := [(h0, .inr (7, [.int 0, .int (nI nm), .ref ap, .int (nI no), .ref am, .ref aw, .ref az, .ref au, .int (nI k1), .long vP, .long vQ, .long vS, .long vT, .long vB, .long vM, .long vH, .ref ao, .ref ax, .int (nI np), .ref ay, .int (nI nl), .ref ad, .ref al, .int (nI sn), .ref ag, .int (nI ta), .int nb])), (ap, .inl (kp, 36, .inl gp)), (am, .inl (km, 20, .inl (md_mk mk))), (aw, .inl (kw, 60, .inl gw)), (ao, .inl (ko, 20, .inl ho))]) [4, 0, 1, 2, 3] (by decide) rfl
                have hK9 := hK.sub (tys' := [(kp, .int), (km, .int), (kw, .int), (ko, .int)]) [0, 1, 2, 3] rfl
                exact W.iret (v := md_x2 gp gw ho mk vH k) hx hb hr (fun t ht hW => ⟨⟨md_x2 gp gw ho mk vH k, (), rfl, rfl, ⟨by rw [ht]; exact hP9, va_K.moved hW.alike hK9, by exact hD9⟩⟩, hS.F ht⟩) hS.2.2 d_MD_residual_77 hlocks
              · exact absurd (md_th_0 (by decide) (by decide) (by decide)) (bI_f rfl c_16)
set_option maxHeartbeats 4000000 in
set_option maxRecDepth 100000 in
/-- residual, refused -/
theorem c_MD_residual_n (l : Launch) (dC : Nat → ClassId) (dI : Nat → Nat → Nat) (sz : Nat) (h0 : Nat) (th : Int32) (nm : Nat) (ap : Nat) (no : Nat) (am : Nat) (aw : Nat) (az : Nat) (au : Nat) (kn : Int32) (vP : Int64) (vQ : Int64) (vS : Int64) (vT : Int64) (vB : Int64) (vM : Int64) (vH : Int64) (ao : Nat) (ax : Nat) (np : Nat) (ay : Nat) (nl : Nat) (ad : Nat) (al : Nat) (sn : Nat) (ag : Nat) (ta : Nat) (nb : Int32) (k0 : Int32) (a : Int32) (hno : no ≤ 20) (hn : ¬ (((xin k0 no ∧ md_win a 0 2) ∧ (kn = -1 ∨ ¬ kn ≤ k0)) ∧ ¬ kn = -1)) : Met l xy_MD_residual xw_MD_residual ({ frames := 2, cells := 0, slots := 0, locals := 43 }) (xp_w [.ref h0, .int k0, .int a] sz (dC, dI) xCl [(h0, .inr (7, [.int th, .int (nI nm), .ref ap, .int (nI no), .ref am, .ref aw, .ref az, .ref au, .int kn, .long vP, .long vQ, .long vS, .long vT, .long vB, .long vM, .long vH, .ref ao, .ref ax, .int (nI np), .ref ay, .int (nI nl), .ref ad, .ref al, .int (nI sn), .ref ag, .int (nI ta), .int nb]))] []) (va_Qi (fun (r : Int32) (_ : Unit) => r = 0) (fun _ t => xb_w (dC, dI) xCl [(h0, .inr (7, [.int (md_th (bI ((xin k0 no ∧ md_win a 0 2) ∧ (kn = -1 ∨ ¬ kn ≤ k0))) (bI (¬ kn = -1)) 1), .int (nI nm), .ref ap, .int (nI no), .ref am, .ref aw, .ref az, .ref au, .int kn, .long vP, .long vQ, .long vS, .long vT, .long vB, .long vM, .long vH, .ref ao, .ref ax, .int (nI np), .ref ay, .int (nI nl), .ref ad, .ref al, .int (nI sn), .ref ag, .int (nI ta), .int nb]))] [] (va_A [(h0, .inr (7, [.int th, .int (nI nm), .ref ap, .int (nI no), .ref am, .ref aw, .ref az, .ref au, .int kn, .long vP, .long vQ, .long vS, .long vT, .long vB, .long vM, .long vH, .ref ao, .ref ax, .int (nI np), .ref ay, .int (nI nl), .ref ad, .ref al, .int (nI sn), .ref ag, .int (nI ta), .int nb]))] sz) t) (va_A [(h0, .inr (7, [.int th, .int (nI nm), .ref ap, .int (nI no), .ref am, .ref aw, .ref az, .ref au, .int kn, .long vP, .long vQ, .long vS, .long vT, .long vB, .long vM, .long vH, .ref ao, .ref ax, .int (nI np), .ref ay, .int (nI nl), .ref ad, .ref al, .int (nI sn), .ref ag, .int (nI ta), .int nb]))] sz)) 0 0 (va_A [(h0, .inr (7, [.int th, .int (nI nm), .ref ap, .int (nI no), .ref am, .ref aw, .ref az, .ref au, .int kn, .long vP, .long vQ, .long vS, .long vT, .long vB, .long vM, .long vH, .ref ao, .ref ax, .int (nI np), .ref ay, .int (nI nl), .ref ad, .ref al, .int (nI sn), .ref ag, .int (nI ta), .int nb]))] sz) := by
  refine Met.ofW (cc := prog_9_method_20_code) (maxL := 5) (ret := (some .int)) (by decide) rfl ?_
  intro p e s m args below meth c s₁ B hml hv
  obtain ⟨rfl, hsz, hz, hP, hK, hD0⟩ := hv
  have hx := B.exec
  have hb := B.bytes
  have hr := B.returns
  have hts := atoms_spec (ws := xw_MD_residual) B.pre
  have hown : s.vm.findClass xR_MD = some m.cls := findClass_of_methodNamed B.named
  have hlocks := B.notSynchronized
  subst hsz
  have hD := hD0.self (sz := s.heap.size)
  generalize hAe : va_A [(h0, .inr (7, [.int th, .int (nI nm), .ref ap, .int (nI no), .ref am, .ref aw, .ref az, .ref au, .int kn, .long vP, .long vQ, .long vS, .long vT, .long vB, .long vM, .long vH, .ref ao, .ref ax, .int (nI np), .ref ay, .int (nI nl), .ref ad, .ref al, .int (nI sn), .ref ag, .int (nI ta), .int nb]))] s.heap.size = A at hD ⊢
  have hA : ∀ q : Nat, s.heap.size ≤ q → A q := fun q h => by rw [← hAe]; exact Or.inr h
  have hS : va_S A s.heap s.heap [] := va_S.rf
  have hP : va_P (dC, dI) xCl [(h0, .inr (7, [.int th, .int (nI nm), .ref ap, .int (nI no), .ref am, .ref aw, .ref az, .ref au, .int kn, .long vP, .long vQ, .long vS, .long vT, .long vB, .long vM, .long vH, .ref ao, .ref ax, .int (nI np), .ref ay, .int (nI nl), .ref ad, .ref al, .int (nI sn), .ref ag, .int (nI ta), .int nb]))] s.heap := hP
  have hl := lv_entry ([.ref h0, .int k0, .int a]) (n := 5) (Nat.le_of_ble_eq_true rfl)
  rw [lg_entry_eq]
  generalize (lg_sl ([.ref h0, .int k0, .int a]) ++ List.replicate (5 - (lg_sl ([.ref h0, .int k0, .int a])).length) Slot.unset).toArray = ls at hl ⊢
  have hl : lv_has ls 5 [(0, .ref h0), (1, .int k0), (2, .int a)] := hl
  refine lv_aload_n hx hb d_MD_residual_0 rfl (lv_at hl 0 rfl) ?_
  refine va_get (D := (dC, dI)) (ci := 7) (v := .int kn) (C := xR_MD) (T := xT_MD) (N := 27) hx hb hts (fun w h => List.mem_cons_of_mem _ (iw_MD w h)) hown hK hP 0 rfl rfl 8 (by decide) (hts _ (List.mem_cons_of_mem _ wm_705)) (fun _ h9 => h9) rfl d_MD_residual_1 ?_
  refine lv_iconst (v := (-1)) hx hb d_MD_residual_4 (by decide) ?_
  refine lv_icmp_eq (tgt := 12) hx hb d_MD_residual_5 (by decide) (fun c_1 => ?_) (fun c_1 => ?_)
  · refine lv_iconst (v := 0) hx hb d_MD_residual_12 (by decide) ?_
    refine lv_istore_n (lv' := [(3, .int 0), (0, .ref h0), (1, .int k0), (2, .int a)]) hx hb d_MD_residual_13 rfl hl (by decide) rfl (fun ls hl => ?_)
    refine lv_aload_n hx hb d_MD_residual_14 rfl (lv_at hl 1 rfl) ?_
    refine lv_iload_n hx hb d_MD_residual_15 rfl (lv_at hl 2 rfl) ?_
    refine xr_calli (va_runV (As := [.int k0]) (rest := []) ⟨hx, hb, hml, hown, hts⟩ (c_MD_isObservation l dC dI h0 th nm ap no am aw az au kn vP vQ vS vT vB vM vH ao ax np ay nl ad al sn ag ta nb k0 (by first | assumption | omega | decide)) (cwV 1 hts (xgV wm_809 wm_811 wm_15 wm_34 wm_812) rfl rfl rfl (by decide +kernel) ⟨Nat.le_of_ble_eq_true rfl, Nat.le_of_ble_eq_true rfl⟩) ⟨xp_blind, va_recv hK hP (ci := 7) (q0 := 0) rfl rfl, fun U hU hW => ⟨rfl, hz.warm hW, by rw [hU]; exact hP.sub [0] rfl, va_K.moved hW.alike (hK.sub [] rfl)⟩⟩ rfl rfl hl.1 rfl (lv_room (Nat.le_of_ble_eq_true rfl)) d_MD_residual_16 ⟨Nat.le_of_ble_eq_true rfl, Nat.le_of_ble_eq_true rfl⟩) (fun r_2 h_3 => ?_)
    subst h_3
    refine lv_if_eq (tgt := 35) hx hb d_MD_residual_19 (by decide) (fun c_4 => ?_) (fun c_4 => ?_)
    · have b_5 := bI_f (rfl : bI (xin k0 no) = _) c_4
      refine lv_iconst (v := 0) hx hb d_MD_residual_35 (by decide) ?_
      refine lv_istore (lv' := [(4, .int 0), (3, .int 0), (0, .ref h0), (1, .int k0), (2, .int a)]) hx hb d_MD_residual_36 hl (by decide) rfl (fun ls hl => ?_)
      refine lv_aload_n hx hb d_MD_residual_38 rfl (lv_at hl 2 rfl) ?_
      refine lv_iload hx hb d_MD_residual_39 (lv_at hl 0 rfl) ?_
      refine lv_if_eq (tgt := 60) hx hb d_MD_residual_41 (by decide) (fun c_6 => ?_) (fun c_6 => ?_)
      · refine lv_iconst (v := 0) hx hb d_MD_residual_60 (by decide) ?_
        refine lv_iload_n hx hb d_MD_residual_61 rfl (lv_at hl 1 rfl) ?_
        refine lv_iconst (v := 1) hx hb d_MD_residual_62 (by decide) ?_
        have hPc := hP.sub (ws' := [(h0, .inr (7, [.int th, .int (nI nm), .ref ap, .int (nI no), .ref am, .ref aw, .ref az, .ref au, .int kn, .long vP, .long vQ, .long vS, .long vT, .long vB, .long vM, .long vH, .ref ao, .ref ax, .int (nI np), .ref ay, .int (nI nl), .ref ad, .ref al, .int (nI sn), .ref ag, .int (nI ta), .int nb]))]) [0] rfl
        have hDc := hD.sub (ws' := [(h0, .inr (7, [.int th, .int (nI nm), .ref ap, .int (nI no), .ref am, .ref aw, .ref az, .ref au, .int kn, .long vP, .long vQ, .long vS, .long vT, .long vB, .long vM, .long vH, .ref ao, .ref ax, .int (nI np), .ref ay, .int (nI nl), .ref ad, .ref al, .int (nI sn), .ref ag, .int (nI ta), .int nb]))]) [0] (by decide) rfl
        have hKc := hK.sub (tys' := []) [] rfl
        have hFc := va_free (wc := [(h0, .inr (7, [.int th, .int (nI nm), .ref ap, .int (nI no), .ref am, .ref aw, .ref az, .ref au, .int kn, .long vP, .long vQ, .long vS, .long vT, .long vB, .long vM, .long vH, .ref ao, .ref ax, .int (nI np), .ref ay, .int (nI nl), .ref ad, .ref al, .int (nI sn), .ref ag, .int (nI ta), .int nb]))]) hD hS hA [0] rfl
        refine va_calli (va_runV (As := [.int 0, .int 0, .int 1]) (rest := []) ⟨hx, hb, hml, hown, hts⟩ (c_MD_goes l dC dI s.heap.size h0 th nm ap no am aw az au kn vP vQ vS vT vB vM vH ao ax np ay nl ad al sn ag ta nb 0 0 1) (cwV 3 hts (xgV wm_793 wm_795 wm_13 wm_34 wm_796) rfl rfl rfl (by decide +kernel) ⟨Nat.le_of_ble_eq_true rfl, Nat.le_of_ble_eq_true rfl⟩) ⟨xw_blind, va_recv hKc hPc (ci := 7) (q0 := 0) rfl rfl, fun U hU hW => ⟨rfl, by rw [hU], hz.warm hW, by rw [hU]; exact hPc, va_K.moved hW.alike hKc, hDc.weaken (fun _ _ _ _ => trivial)⟩⟩ rfl rfl hl.1 rfl (lv_room (Nat.le_of_ble_eq_true rfl)) d_MD_residual_63 ⟨Nat.le_of_ble_eq_true rfl, Nat.le_of_ble_eq_true rfl⟩) hS (fun q _ h => hFc q h) hFc (fun r_7 _ t H1 locs ht hvm hw_8 hB hz1 hk1 hS => ?_)
        obtain ⟨hP1, hK1, hD1⟩ := hB
        rw [ht] at hP1
        have hK1 := va_K.moved hvm.symm hK1
        obtain ⟨hP, hD⟩ := va_join (wr := []) (w1 := [(h0, .inr (7, [.int (md_th 0 0 1), .int (nI nm), .ref ap, .int (nI no), .ref am, .ref aw, .ref az, .ref au, .int kn, .long vP, .long vQ, .long vS, .long vT, .long vB, .long vM, .long vH, .ref ao, .ref ax, .int (nI np), .ref ay, .int (nI nl), .ref ad, .ref al, .int (nI sn), .ref ag, .int (nI ta), .int nb]))]) hP hD [0] [] rfl rfl (by decide) (by decide) hk1 hFc hP1 hD1
        generalize H1 = H at hP hS ⊢
        have hP : va_P (dC, dI) xCl [(h0, .inr (7, [.int (md_th 0 0 1), .int (nI nm), .ref ap, .int (nI no), .ref am, .ref aw, .ref az, .ref au, .int kn, .long vP, .long vQ, .long vS, .long vT, .long vB, .long vM, .long vH, .ref ao, .ref ax, .int (nI np), .ref ay, .int (nI nl), .ref ad, .ref al, .int (nI sn), .ref ag, .int (nI ta), .int nb]))] H := hP
        have hD : va_D A [(h0, .inr (7, [.int (md_th 0 0 1), .int (nI nm), .ref ap, .int (nI no), .ref am, .ref aw, .ref az, .ref au, .int kn, .long vP, .long vQ, .long vS, .long vT, .long vB, .long vM, .long vH, .ref ao, .ref ax, .int (nI np), .ref ay, .int (nI nl), .ref ad, .ref al, .int (nI sn), .ref ag, .int (nI ta), .int nb]))] := hD
        subst hw_8
        refine lv_if_ne (tgt := 71) hx hb d_MD_residual_66 (by decide) (fun c_9 => ?_) (fun c_9 => ?_)
        · exact absurd (md_th_all (bI_t rfl c_9)) (fun q => q.1 rfl)
        · have b_10 := bI_f (rfl : bI (md_th 0 0 1 = 0) = _) c_9
          refine lv_iconst (v := 0) hx hb d_MD_residual_69 (by decide) ?_
          have hP9 := hP.sub (ws' := [(h0, .inr (7, [.int (md_th 0 0 1), .int (nI nm), .ref ap, .int (nI no), .ref am, .ref aw, .ref az, .ref au, .int kn, .long vP, .long vQ, .long vS, .long vT, .long vB, .long vM, .long vH, .ref ao, .ref ax, .int (nI np), .ref ay, .int (nI nl), .ref ad, .ref al, .int (nI sn), .ref ag, .int (nI ta), .int nb]))]) [0] rfl
          have hD9 := hD.sub (ws' := [(h0, .inr (7, [.int (md_th 0 0 1), .int (nI nm), .ref ap, .int (nI no), .ref am, .ref aw, .ref az, .ref au, .int kn, .long vP, .long vQ, .long vS, .long vT, .long vB, .long vM, .long vH, .ref ao, .ref ax, .int (nI np), .ref ay, .int (nI nl), .ref ad, .ref al, .int (nI sn), .ref ag, .int (nI ta), .int nb]))]) [0] (by decide) rfl
          have hK9 := hK.sub (tys' := []) [] rfl
          exact W.iret (v := 0) hx hb hr (fun t ht hW => ⟨⟨0, (), rfl, rfl, ⟨by rw [ht]; rw [show bI ((xin k0 no ∧ md_win a 0 2) ∧ (kn = -1 ∨ ¬ kn ≤ k0)) = 0 from (bI_n (fun q => b_5 q.1.1)).symm, show bI (¬ kn = -1) = 0 from (bI_n (fun q => q c_1)).symm]; exact hP9, va_K.moved hW.alike hK9, by rw [show bI ((xin k0 no ∧ md_win a 0 2) ∧ (kn = -1 ∨ ¬ kn ≤ k0)) = 0 from (bI_n (fun q => b_5 q.1.1)).symm, show bI (¬ kn = -1) = 0 from (bI_n (fun q => q c_1)).symm]; exact hD9⟩⟩, hS.F ht⟩) hS.2.2 d_MD_residual_70 hlocks
      · exact absurd c_6 (by decide)
    · have b_11 := bI_t (rfl : bI (xin k0 no) = _) c_4
      refine lv_iload_n hx hb d_MD_residual_22 rfl (lv_at hl 3 rfl) ?_
      refine lv_iconst (v := 0) hx hb d_MD_residual_23 (by decide) ?_
      refine lv_iconst (v := 2) hx hb d_MD_residual_24 (by decide) ?_
      refine xr_calli (va_runS (As := [.int a, .int 0, .int 2]) (rest := []) ⟨hx, hb, hml, hown, hts⟩ (c_MD_within l dC dI a 0 2) (va_cwS 3 hts (xgS wm_790 wm_791 wm_34 wm_792) rfl rfl rfl (by decide +kernel) ⟨Nat.le_of_ble_eq_true rfl, Nat.le_of_ble_eq_true rfl⟩) ⟨xp_blind, fun U hU hW => ⟨rfl, hz.warm hW, by rw [hU]; exact hP.sub [] rfl, va_K.moved hW.alike (hK.sub [] rfl)⟩⟩ rfl rfl hl.1 rfl (lv_room (Nat.le_of_ble_eq_true rfl)) d_MD_residual_25 ⟨Nat.le_of_ble_eq_true rfl, Nat.le_of_ble_eq_true rfl⟩) (fun r_12 h_13 => ?_)
      subst h_13
      refine lv_if_eq (tgt := 35) hx hb d_MD_residual_28 (by decide) (fun c_14 => ?_) (fun c_14 => ?_)
      · have b_15 := bI_f (rfl : bI (md_win a 0 2) = _) c_14
        refine lv_iconst (v := 0) hx hb d_MD_residual_35 (by decide) ?_
        refine lv_istore (lv' := [(4, .int 0), (3, .int 0), (0, .ref h0), (1, .int k0), (2, .int a)]) hx hb d_MD_residual_36 hl (by decide) rfl (fun ls hl => ?_)
        refine lv_aload_n hx hb d_MD_residual_38 rfl (lv_at hl 2 rfl) ?_
        refine lv_iload hx hb d_MD_residual_39 (lv_at hl 0 rfl) ?_
        refine lv_if_eq (tgt := 60) hx hb d_MD_residual_41 (by decide) (fun c_16 => ?_) (fun c_16 => ?_)
        · refine lv_iconst (v := 0) hx hb d_MD_residual_60 (by decide) ?_
          refine lv_iload_n hx hb d_MD_residual_61 rfl (lv_at hl 1 rfl) ?_
          refine lv_iconst (v := 1) hx hb d_MD_residual_62 (by decide) ?_
          have hPc := hP.sub (ws' := [(h0, .inr (7, [.int th, .int (nI nm), .ref ap, .int (nI no), .ref am, .ref aw, .ref az, .ref au, .int kn, .long vP, .long vQ, .long vS, .long vT, .long vB, .long vM, .long vH, .ref ao, .ref ax, .int (nI np), .ref ay, .int (nI nl), .ref ad, .ref al, .int (nI sn), .ref ag, .int (nI ta), .int nb]))]) [0] rfl
          have hDc := hD.sub (ws' := [(h0, .inr (7, [.int th, .int (nI nm), .ref ap, .int (nI no), .ref am, .ref aw, .ref az, .ref au, .int kn, .long vP, .long vQ, .long vS, .long vT, .long vB, .long vM, .long vH, .ref ao, .ref ax, .int (nI np), .ref ay, .int (nI nl), .ref ad, .ref al, .int (nI sn), .ref ag, .int (nI ta), .int nb]))]) [0] (by decide) rfl
          have hKc := hK.sub (tys' := []) [] rfl
          have hFc := va_free (wc := [(h0, .inr (7, [.int th, .int (nI nm), .ref ap, .int (nI no), .ref am, .ref aw, .ref az, .ref au, .int kn, .long vP, .long vQ, .long vS, .long vT, .long vB, .long vM, .long vH, .ref ao, .ref ax, .int (nI np), .ref ay, .int (nI nl), .ref ad, .ref al, .int (nI sn), .ref ag, .int (nI ta), .int nb]))]) hD hS hA [0] rfl
          refine va_calli (va_runV (As := [.int 0, .int 0, .int 1]) (rest := []) ⟨hx, hb, hml, hown, hts⟩ (c_MD_goes l dC dI s.heap.size h0 th nm ap no am aw az au kn vP vQ vS vT vB vM vH ao ax np ay nl ad al sn ag ta nb 0 0 1) (cwV 3 hts (xgV wm_793 wm_795 wm_13 wm_34 wm_796) rfl rfl rfl (by decide +kernel) ⟨Nat.le_of_ble_eq_true rfl, Nat.le_of_ble_eq_true rfl⟩) ⟨xw_blind, va_recv hKc hPc (ci := 7) (q0 := 0) rfl rfl, fun U hU hW => ⟨rfl, by rw [hU], hz.warm hW, by rw [hU]; exact hPc, va_K.moved hW.alike hKc, hDc.weaken (fun _ _ _ _ => trivial)⟩⟩ rfl rfl hl.1 rfl (lv_room (Nat.le_of_ble_eq_true rfl)) d_MD_residual_63 ⟨Nat.le_of_ble_eq_true rfl, Nat.le_of_ble_eq_true rfl⟩) hS (fun q _ h => hFc q h) hFc (fun r_17 _ t H1 locs ht hvm hw_18 hB hz1 hk1 hS => ?_)
          obtain ⟨hP1, hK1, hD1⟩ := hB
          rw [ht] at hP1
          have hK1 := va_K.moved hvm.symm hK1
          obtain ⟨hP, hD⟩ := va_join (wr := []) (w1 := [(h0, .inr (7, [.int (md_th 0 0 1), .int (nI nm), .ref ap, .int (nI no), .ref am, .ref aw, .ref az, .ref au, .int kn, .long vP, .long vQ, .long vS, .long vT, .long vB, .long vM, .long vH, .ref ao, .ref ax, .int (nI np), .ref ay, .int (nI nl), .ref ad, .ref al, .int (nI sn), .ref ag, .int (nI ta), .int nb]))]) hP hD [0] [] rfl rfl (by decide) (by decide) hk1 hFc hP1 hD1
          generalize H1 = H at hP hS ⊢
          have hP : va_P (dC, dI) xCl [(h0, .inr (7, [.int (md_th 0 0 1), .int (nI nm), .ref ap, .int (nI no), .ref am, .ref aw, .ref az, .ref au, .int kn, .long vP, .long vQ, .long vS, .long vT, .long vB, .long vM, .long vH, .ref ao, .ref ax, .int (nI np), .ref ay, .int (nI nl), .ref ad, .ref al, .int (nI sn), .ref ag, .int (nI ta), .int nb]))] H := hP
          have hD : va_D A [(h0, .inr (7, [.int (md_th 0 0 1), .int (nI nm), .ref ap, .int (nI no), .ref am, .ref aw, .ref az, .ref au, .int kn, .long vP, .long vQ, .long vS, .long vT, .long vB, .long vM, .long vH, .ref ao, .ref ax, .int (nI np), .ref ay, .int (nI nl), .ref ad, .ref al, .int (nI sn), .ref ag, .int (nI ta), .int nb]))] := hD
          subst hw_18
          refine lv_if_ne (tgt := 71) hx hb d_MD_residual_66 (by decide) (fun c_19 => ?_) (fun c_19 => ?_)
          · exact absurd (md_th_all (bI_t rfl c_19)) (fun q => q.1 rfl)
          · have b_20 := bI_f (rfl : bI (md_th 0 0 1 = 0) = _) c_19
            refine lv_iconst (v := 0) hx hb d_MD_residual_69 (by decide) ?_
            have hP9 := hP.sub (ws' := [(h0, .inr (7, [.int (md_th 0 0 1), .int (nI nm), .ref ap, .int (nI no), .ref am, .ref aw, .ref az, .ref au, .int kn, .long vP, .long vQ, .long vS, .long vT, .long vB, .long vM, .long vH, .ref ao, .ref ax, .int (nI np), .ref ay, .int (nI nl), .ref ad, .ref al, .int (nI sn), .ref ag, .int (nI ta), .int nb]))]) [0] rfl
            have hD9 := hD.sub (ws' := [(h0, .inr (7, [.int (md_th 0 0 1), .int (nI nm), .ref ap, .int (nI no), .ref am, .ref aw, .ref az, .ref au, .int kn, .long vP, .long vQ, .long vS, .long vT, .long vB, .long vM, .long vH, .ref ao, .ref ax, .int (nI np), .ref ay, .int (nI nl), .ref ad, .ref al, .int (nI sn), .ref ag, .int (nI ta), .int nb]))]) [0] (by decide) rfl
            have hK9 := hK.sub (tys' := []) [] rfl
            exact W.iret (v := 0) hx hb hr (fun t ht hW => ⟨⟨0, (), rfl, rfl, ⟨by rw [ht]; rw [show bI ((xin k0 no ∧ md_win a 0 2) ∧ (kn = -1 ∨ ¬ kn ≤ k0)) = 0 from (bI_n (fun q => b_15 q.1.2)).symm, show bI (¬ kn = -1) = 0 from (bI_n (fun q => q c_1)).symm]; exact hP9, va_K.moved hW.alike hK9, by rw [show bI ((xin k0 no ∧ md_win a 0 2) ∧ (kn = -1 ∨ ¬ kn ≤ k0)) = 0 from (bI_n (fun q => b_15 q.1.2)).symm, show bI (¬ kn = -1) = 0 from (bI_n (fun q => q c_1)).symm]; exact hD9⟩⟩, hS.F ht⟩) hS.2.2 d_MD_residual_70 hlocks
        · exact absurd c_16 (by decide)
      · have b_21 := bI_t (rfl : bI (md_win a 0 2) = _) c_14
        refine lv_iconst (v := 1) hx hb d_MD_residual_31 (by decide) ?_
        refine lv_goto (tgt := 36) hx hb d_MD_residual_32 (by decide) ?_
        refine lv_istore (lv' := [(4, .int 1), (3, .int 0), (0, .ref h0), (1, .int k0), (2, .int a)]) hx hb d_MD_residual_36 hl (by decide) rfl (fun ls hl => ?_)
        refine lv_aload_n hx hb d_MD_residual_38 rfl (lv_at hl 2 rfl) ?_
        refine lv_iload hx hb d_MD_residual_39 (lv_at hl 0 rfl) ?_
        refine lv_if_eq (tgt := 60) hx hb d_MD_residual_41 (by decide) (fun c_22 => ?_) (fun c_22 => ?_)
        · exact absurd c_22 (by decide)
        · refine lv_iload_n hx hb d_MD_residual_44 rfl (lv_at hl 1 rfl) ?_
          refine lv_if_eq (tgt := 56) hx hb d_MD_residual_45 (by decide) (fun c_23 => ?_) (fun c_23 => ?_)
          · refine lv_iconst (v := 1) hx hb d_MD_residual_56 (by decide) ?_
            refine lv_goto (tgt := 61) hx hb d_MD_residual_57 (by decide) ?_
            refine lv_iload_n hx hb d_MD_residual_61 rfl (lv_at hl 1 rfl) ?_
            refine lv_iconst (v := 1) hx hb d_MD_residual_62 (by decide) ?_
            have hPc := hP.sub (ws' := [(h0, .inr (7, [.int th, .int (nI nm), .ref ap, .int (nI no), .ref am, .ref aw, .ref az, .ref au, .int kn, .long vP, .long vQ, .long vS, .long vT, .long vB, .long vM, .long vH, .ref ao, .ref ax, .int (nI np), .ref ay, .int (nI nl), .ref ad, .ref al, .int (nI sn), .ref ag, .int (nI ta), .int nb]))]) [0] rfl
            have hDc := hD.sub (ws' := [(h0, .inr (7, [.int th, .int (nI nm), .ref ap, .int (nI no), .ref am, .ref aw, .ref az, .ref au, .int kn, .long vP, .long vQ, .long vS, .long vT, .long vB, .long vM, .long vH, .ref ao, .ref ax, .int (nI np), .ref ay, .int (nI nl), .ref ad, .ref al, .int (nI sn), .ref ag, .int (nI ta), .int nb]))]) [0] (by decide) rfl
            have hKc := hK.sub (tys' := []) [] rfl
            have hFc := va_free (wc := [(h0, .inr (7, [.int th, .int (nI nm), .ref ap, .int (nI no), .ref am, .ref aw, .ref az, .ref au, .int kn, .long vP, .long vQ, .long vS, .long vT, .long vB, .long vM, .long vH, .ref ao, .ref ax, .int (nI np), .ref ay, .int (nI nl), .ref ad, .ref al, .int (nI sn), .ref ag, .int (nI ta), .int nb]))]) hD hS hA [0] rfl
            refine va_calli (va_runV (As := [.int 1, .int 0, .int 1]) (rest := []) ⟨hx, hb, hml, hown, hts⟩ (c_MD_goes l dC dI s.heap.size h0 th nm ap no am aw az au kn vP vQ vS vT vB vM vH ao ax np ay nl ad al sn ag ta nb 1 0 1) (cwV 3 hts (xgV wm_793 wm_795 wm_13 wm_34 wm_796) rfl rfl rfl (by decide +kernel) ⟨Nat.le_of_ble_eq_true rfl, Nat.le_of_ble_eq_true rfl⟩) ⟨xw_blind, va_recv hKc hPc (ci := 7) (q0 := 0) rfl rfl, fun U hU hW => ⟨rfl, by rw [hU], hz.warm hW, by rw [hU]; exact hPc, va_K.moved hW.alike hKc, hDc.weaken (fun _ _ _ _ => trivial)⟩⟩ rfl rfl hl.1 rfl (lv_room (Nat.le_of_ble_eq_true rfl)) d_MD_residual_63 ⟨Nat.le_of_ble_eq_true rfl, Nat.le_of_ble_eq_true rfl⟩) hS (fun q _ h => hFc q h) hFc (fun r_24 _ t H1 locs ht hvm hw_25 hB hz1 hk1 hS => ?_)
            obtain ⟨hP1, hK1, hD1⟩ := hB
            rw [ht] at hP1
            have hK1 := va_K.moved hvm.symm hK1
            obtain ⟨hP, hD⟩ := va_join (wr := []) (w1 := [(h0, .inr (7, [.int (md_th 1 0 1), .int (nI nm), .ref ap, .int (nI no), .ref am, .ref aw, .ref az, .ref au, .int kn, .long vP, .long vQ, .long vS, .long vT, .long vB, .long vM, .long vH, .ref ao, .ref ax, .int (nI np), .ref ay, .int (nI nl), .ref ad, .ref al, .int (nI sn), .ref ag, .int (nI ta), .int nb]))]) hP hD [0] [] rfl rfl (by decide) (by decide) hk1 hFc hP1 hD1
            generalize H1 = H at hP hS ⊢
            have hP : va_P (dC, dI) xCl [(h0, .inr (7, [.int (md_th 1 0 1), .int (nI nm), .ref ap, .int (nI no), .ref am, .ref aw, .ref az, .ref au, .int kn, .long vP, .long vQ, .long vS, .long vT, .long vB, .long vM, .long vH, .ref ao, .ref ax, .int (nI np), .ref ay, .int (nI nl), .ref ad, .ref al, .int (nI sn), .ref ag, .int (nI ta), .int nb]))] H := hP
            have hD : va_D A [(h0, .inr (7, [.int (md_th 1 0 1), .int (nI nm), .ref ap, .int (nI no), .ref am, .ref aw, .ref az, .ref au, .int kn, .long vP, .long vQ, .long vS, .long vT, .long vB, .long vM, .long vH, .ref ao, .ref ax, .int (nI np), .ref ay, .int (nI nl), .ref ad, .ref al, .int (nI sn), .ref ag, .int (nI ta), .int nb]))] := hD
            subst hw_25
            refine lv_if_ne (tgt := 71) hx hb d_MD_residual_66 (by decide) (fun c_26 => ?_) (fun c_26 => ?_)
            · exact absurd (md_th_all (bI_t rfl c_26)) (fun q => q.2.1 rfl)
            · have b_27 := bI_f (rfl : bI (md_th 1 0 1 = 0) = _) c_26
              refine lv_iconst (v := 0) hx hb d_MD_residual_69 (by decide) ?_
              have hP9 := hP.sub (ws' := [(h0, .inr (7, [.int (md_th 1 0 1), .int (nI nm), .ref ap, .int (nI no), .ref am, .ref aw, .ref az, .ref au, .int kn, .long vP, .long vQ, .long vS, .long vT, .long vB, .long vM, .long vH, .ref ao, .ref ax, .int (nI np), .ref ay, .int (nI nl), .ref ad, .ref al, .int (nI sn), .ref ag, .int (nI ta), .int nb]))]) [0] rfl
              have hD9 := hD.sub (ws' := [(h0, .inr (7, [.int (md_th 1 0 1), .int (nI nm), .ref ap, .int (nI no), .ref am, .ref aw, .ref az, .ref au, .int kn, .long vP, .long vQ, .long vS, .long vT, .long vB, .long vM, .long vH, .ref ao, .ref ax, .int (nI np), .ref ay, .int (nI nl), .ref ad, .ref al, .int (nI sn), .ref ag, .int (nI ta), .int nb]))]) [0] (by decide) rfl
              have hK9 := hK.sub (tys' := []) [] rfl
              exact W.iret (v := 0) hx hb hr (fun t ht hW => ⟨⟨0, (), rfl, rfl, ⟨by rw [ht]; rw [show bI ((xin k0 no ∧ md_win a 0 2) ∧ (kn = -1 ∨ ¬ kn ≤ k0)) = 1 from (bI_p ⟨⟨b_11, b_21⟩, Or.inl c_1⟩).symm, show bI (¬ kn = -1) = 0 from (bI_n (fun q => q c_1)).symm]; exact hP9, va_K.moved hW.alike hK9, by rw [show bI ((xin k0 no ∧ md_win a 0 2) ∧ (kn = -1 ∨ ¬ kn ≤ k0)) = 1 from (bI_p ⟨⟨b_11, b_21⟩, Or.inl c_1⟩).symm, show bI (¬ kn = -1) = 0 from (bI_n (fun q => q c_1)).symm]; exact hD9⟩⟩, hS.F ht⟩) hS.2.2 d_MD_residual_70 hlocks
          · exact absurd c_23 (by decide)
  · refine lv_iconst (v := 1) hx hb d_MD_residual_8 (by decide) ?_
    refine lv_goto (tgt := 13) hx hb d_MD_residual_9 (by decide) ?_
    refine lv_istore_n (lv' := [(3, .int 1), (0, .ref h0), (1, .int k0), (2, .int a)]) hx hb d_MD_residual_13 rfl hl (by decide) rfl (fun ls hl => ?_)
    refine lv_aload_n hx hb d_MD_residual_14 rfl (lv_at hl 1 rfl) ?_
    refine lv_iload_n hx hb d_MD_residual_15 rfl (lv_at hl 2 rfl) ?_
    refine xr_calli (va_runV (As := [.int k0]) (rest := []) ⟨hx, hb, hml, hown, hts⟩ (c_MD_isObservation l dC dI h0 th nm ap no am aw az au kn vP vQ vS vT vB vM vH ao ax np ay nl ad al sn ag ta nb k0 (by first | assumption | omega | decide)) (cwV 1 hts (xgV wm_809 wm_811 wm_15 wm_34 wm_812) rfl rfl rfl (by decide +kernel) ⟨Nat.le_of_ble_eq_true rfl, Nat.le_of_ble_eq_true rfl⟩) ⟨xp_blind, va_recv hK hP (ci := 7) (q0 := 0) rfl rfl, fun U hU hW => ⟨rfl, hz.warm hW, by rw [hU]; exact hP.sub [0] rfl, va_K.moved hW.alike (hK.sub [] rfl)⟩⟩ rfl rfl hl.1 rfl (lv_room (Nat.le_of_ble_eq_true rfl)) d_MD_residual_16 ⟨Nat.le_of_ble_eq_true rfl, Nat.le_of_ble_eq_true rfl⟩) (fun r_28 h_29 => ?_)
    subst h_29
    refine lv_if_eq (tgt := 35) hx hb d_MD_residual_19 (by decide) (fun c_30 => ?_) (fun c_30 => ?_)
    · have b_31 := bI_f (rfl : bI (xin k0 no) = _) c_30
      refine lv_iconst (v := 0) hx hb d_MD_residual_35 (by decide) ?_
      refine lv_istore (lv' := [(4, .int 0), (3, .int 1), (0, .ref h0), (1, .int k0), (2, .int a)]) hx hb d_MD_residual_36 hl (by decide) rfl (fun ls hl => ?_)
      refine lv_aload_n hx hb d_MD_residual_38 rfl (lv_at hl 2 rfl) ?_
      refine lv_iload hx hb d_MD_residual_39 (lv_at hl 0 rfl) ?_
      refine lv_if_eq (tgt := 60) hx hb d_MD_residual_41 (by decide) (fun c_32 => ?_) (fun c_32 => ?_)
      · refine lv_iconst (v := 0) hx hb d_MD_residual_60 (by decide) ?_
        refine lv_iload_n hx hb d_MD_residual_61 rfl (lv_at hl 1 rfl) ?_
        refine lv_iconst (v := 1) hx hb d_MD_residual_62 (by decide) ?_
        have hPc := hP.sub (ws' := [(h0, .inr (7, [.int th, .int (nI nm), .ref ap, .int (nI no), .ref am, .ref aw, .ref az, .ref au, .int kn, .long vP, .long vQ, .long vS, .long vT, .long vB, .long vM, .long vH, .ref ao, .ref ax, .int (nI np), .ref ay, .int (nI nl), .ref ad, .ref al, .int (nI sn), .ref ag, .int (nI ta), .int nb]))]) [0] rfl
        have hDc := hD.sub (ws' := [(h0, .inr (7, [.int th, .int (nI nm), .ref ap, .int (nI no), .ref am, .ref aw, .ref az, .ref au, .int kn, .long vP, .long vQ, .long vS, .long vT, .long vB, .long vM, .long vH, .ref ao, .ref ax, .int (nI np), .ref ay, .int (nI nl), .ref ad, .ref al, .int (nI sn), .ref ag, .int (nI ta), .int nb]))]) [0] (by decide) rfl
        have hKc := hK.sub (tys' := []) [] rfl
        have hFc := va_free (wc := [(h0, .inr (7, [.int th, .int (nI nm), .ref ap, .int (nI no), .ref am, .ref aw, .ref az, .ref au, .int kn, .long vP, .long vQ, .long vS, .long vT, .long vB, .long vM, .long vH, .ref ao, .ref ax, .int (nI np), .ref ay, .int (nI nl), .ref ad, .ref al, .int (nI sn), .ref ag, .int (nI ta), .int nb]))]) hD hS hA [0] rfl
        refine va_calli (va_runV (As := [.int 0, .int 1, .int 1]) (rest := []) ⟨hx, hb, hml, hown, hts⟩ (c_MD_goes l dC dI s.heap.size h0 th nm ap no am aw az au kn vP vQ vS vT vB vM vH ao ax np ay nl ad al sn ag ta nb 0 1 1) (cwV 3 hts (xgV wm_793 wm_795 wm_13 wm_34 wm_796) rfl rfl rfl (by decide +kernel) ⟨Nat.le_of_ble_eq_true rfl, Nat.le_of_ble_eq_true rfl⟩) ⟨xw_blind, va_recv hKc hPc (ci := 7) (q0 := 0) rfl rfl, fun U hU hW => ⟨rfl, by rw [hU], hz.warm hW, by rw [hU]; exact hPc, va_K.moved hW.alike hKc, hDc.weaken (fun _ _ _ _ => trivial)⟩⟩ rfl rfl hl.1 rfl (lv_room (Nat.le_of_ble_eq_true rfl)) d_MD_residual_63 ⟨Nat.le_of_ble_eq_true rfl, Nat.le_of_ble_eq_true rfl⟩) hS (fun q _ h => hFc q h) hFc (fun r_33 _ t H1 locs ht hvm hw_34 hB hz1 hk1 hS => ?_)
        obtain ⟨hP1, hK1, hD1⟩ := hB
        rw [ht] at hP1
        have hK1 := va_K.moved hvm.symm hK1
        obtain ⟨hP, hD⟩ := va_join (wr := []) (w1 := [(h0, .inr (7, [.int (md_th 0 1 1), .int (nI nm), .ref ap, .int (nI no), .ref am, .ref aw, .ref az, .ref au, .int kn, .long vP, .long vQ, .long vS, .long vT, .long vB, .long vM, .long vH, .ref ao, .ref ax, .int (nI np), .ref ay, .int (nI nl), .ref ad, .ref al, .int (nI sn), .ref ag, .int (nI ta), .int nb]))]) hP hD [0] [] rfl rfl (by decide) (by decide) hk1 hFc hP1 hD1
        generalize H1 = H at hP hS ⊢
        have hP : va_P (dC, dI) xCl [(h0, .inr (7, [.int (md_th 0 1 1), .int (nI nm), .ref ap, .int (nI no), .ref am, .ref aw, .ref az, .ref au, .int kn, .long vP, .long vQ, .long vS, .long vT, .long vB, .long vM, .long vH, .ref ao, .ref ax, .int (nI np), .ref ay, .int (nI nl), .ref ad, .ref al, .int (nI sn), .ref ag, .int (nI ta), .int nb]))] H := hP
        have hD : va_D A [(h0, .inr (7, [.int (md_th 0 1 1), .int (nI nm), .ref ap, .int (nI no), .ref am, .ref aw, .ref az, .ref au, .int kn, .long vP, .long vQ, .long vS, .long vT, .long vB, .long vM, .long vH, .ref ao, .ref ax, .int (nI np), .ref ay, .int (nI nl), .ref ad, .ref al, .int (nI sn), .ref ag, .int (nI ta), .int nb]))] := hD
        subst hw_34
        refine lv_if_ne (tgt := 71) hx hb d_MD_residual_66 (by decide) (fun c_35 => ?_) (fun c_35 => ?_)
        · exact absurd (md_th_all (bI_t rfl c_35)) (fun q => q.1 rfl)
        · have b_36 := bI_f (rfl : bI (md_th 0 1 1 = 0) = _) c_35
          refine lv_iconst (v := 0) hx hb d_MD_residual_69 (by decide) ?_
          have hP9 := hP.sub (ws' := [(h0, .inr (7, [.int (md_th 0 1 1), .int (nI nm), .ref ap, .int (nI no), .ref am, .ref aw, .ref az, .ref au, .int kn, .long vP, .long vQ, .long vS, .long vT, .long vB, .long vM, .long vH, .ref ao, .ref ax, .int (nI np), .ref ay, .int (nI nl), .ref ad, .ref al, .int (nI sn), .ref ag, .int (nI ta), .int nb]))]) [0] rfl
          have hD9 := hD.sub (ws' := [(h0, .inr (7, [.int (md_th 0 1 1), .int (nI nm), .ref ap, .int (nI no), .ref am, .ref aw, .ref az, .ref au, .int kn, .long vP, .long vQ, .long vS, .long vT, .long vB, .long vM, .long vH, .ref ao, .ref ax, .int (nI np), .ref ay, .int (nI nl), .ref ad, .ref al, .int (nI sn), .ref ag, .int (nI ta), .int nb]))]) [0] (by decide) rfl
          have hK9 := hK.sub (tys' := []) [] rfl
          exact W.iret (v := 0) hx hb hr (fun t ht hW => ⟨⟨0, (), rfl, rfl, ⟨by rw [ht]; rw [show bI ((xin k0 no ∧ md_win a 0 2) ∧ (kn = -1 ∨ ¬ kn ≤ k0)) = 0 from (bI_n (fun q => b_31 q.1.1)).symm, show bI (¬ kn = -1) = 1 from (bI_p c_1).symm]; exact hP9, va_K.moved hW.alike hK9, by rw [show bI ((xin k0 no ∧ md_win a 0 2) ∧ (kn = -1 ∨ ¬ kn ≤ k0)) = 0 from (bI_n (fun q => b_31 q.1.1)).symm, show bI (¬ kn = -1) = 1 from (bI_p c_1).symm]; exact hD9⟩⟩, hS.F ht⟩) hS.2.2 d_MD_residual_70 hlocks
      · exact absurd c_32 (by decide)
    · have b_37 := bI_t (rfl : bI (xin k0 no) = _) c_30
      refine lv_iload_n hx hb d_MD_residual_22 rfl (lv_at hl 3 rfl) ?_
      refine lv_iconst (v := 0) hx hb d_MD_residual_23 (by decide) ?_
      refine lv_iconst (v := 2) hx hb d_MD_residual_24 (by decide) ?_
      refine xr_calli (va_runS (As := [.int a, .int 0, .int 2]) (rest := []) ⟨hx, hb, hml, hown, hts⟩ (c_MD_within l dC dI a 0 2) (va_cwS 3 hts (xgS wm_790 wm_791 wm_34 wm_792) rfl rfl rfl (by decide +kernel) ⟨Nat.le_of_ble_eq_true rfl, Nat.le_of_ble_eq_true rfl⟩) ⟨xp_blind, fun U hU hW => ⟨rfl, hz.warm hW, by rw [hU]; exact hP.sub [] rfl, va_K.moved hW.alike (hK.sub [] rfl)⟩⟩ rfl rfl hl.1 rfl (lv_room (Nat.le_of_ble_eq_true rfl)) d_MD_residual_25 ⟨Nat.le_of_ble_eq_true rfl, Nat.le_of_ble_eq_true rfl⟩) (fun r_38 h_39 => ?_)
      subst h_39
      refine lv_if_eq (tgt := 35) hx hb d_MD_residual_28 (by decide) (fun c_40 => ?_) (fun c_40 => ?_)
      · have b_41 := bI_f (rfl : bI (md_win a 0 2) = _) c_40
        refine lv_iconst (v := 0) hx hb d_MD_residual_35 (by decide) ?_
        refine lv_istore (lv' := [(4, .int 0), (3, .int 1), (0, .ref h0), (1, .int k0), (2, .int a)]) hx hb d_MD_residual_36 hl (by decide) rfl (fun ls hl => ?_)
        refine lv_aload_n hx hb d_MD_residual_38 rfl (lv_at hl 2 rfl) ?_
        refine lv_iload hx hb d_MD_residual_39 (lv_at hl 0 rfl) ?_
        refine lv_if_eq (tgt := 60) hx hb d_MD_residual_41 (by decide) (fun c_42 => ?_) (fun c_42 => ?_)
        · refine lv_iconst (v := 0) hx hb d_MD_residual_60 (by decide) ?_
          refine lv_iload_n hx hb d_MD_residual_61 rfl (lv_at hl 1 rfl) ?_
          refine lv_iconst (v := 1) hx hb d_MD_residual_62 (by decide) ?_
          have hPc := hP.sub (ws' := [(h0, .inr (7, [.int th, .int (nI nm), .ref ap, .int (nI no), .ref am, .ref aw, .ref az, .ref au, .int kn, .long vP, .long vQ, .long vS, .long vT, .long vB, .long vM, .long vH, .ref ao, .ref ax, .int (nI np), .ref ay, .int (nI nl), .ref ad, .ref al, .int (nI sn), .ref ag, .int (nI ta), .int nb]))]) [0] rfl
          have hDc := hD.sub (ws' := [(h0, .inr (7, [.int th, .int (nI nm), .ref ap, .int (nI no), .ref am, .ref aw, .ref az, .ref au, .int kn, .long vP, .long vQ, .long vS, .long vT, .long vB, .long vM, .long vH, .ref ao, .ref ax, .int (nI np), .ref ay, .int (nI nl), .ref ad, .ref al, .int (nI sn), .ref ag, .int (nI ta), .int nb]))]) [0] (by decide) rfl
          have hKc := hK.sub (tys' := []) [] rfl
          have hFc := va_free (wc := [(h0, .inr (7, [.int th, .int (nI nm), .ref ap, .int (nI no), .ref am, .ref aw, .ref az, .ref au, .int kn, .long vP, .long vQ, .long vS, .long vT, .long vB, .long vM, .long vH, .ref ao, .ref ax, .int (nI np), .ref ay, .int (nI nl), .ref ad, .ref al, .int (nI sn), .ref ag, .int (nI ta), .int nb]))]) hD hS hA [0] rfl
          refine va_calli (va_runV (As := [.int 0, .int 1, .int 1]) (rest := []) ⟨hx, hb, hml, hown, hts⟩ (c_MD_goes l dC dI s.heap.size h0 th nm ap no am aw az au kn vP vQ vS vT vB vM vH ao ax np ay nl ad al sn ag ta nb 0 1 1) (cwV 3 hts (xgV wm_793 wm_795 wm_13 wm_34 wm_796) rfl rfl rfl (by decide +kernel) ⟨Nat.le_of_ble_eq_true rfl, Nat.le_of_ble_eq_true rfl⟩) ⟨xw_blind, va_recv hKc hPc (ci := 7) (q0 := 0) rfl rfl, fun U hU hW => ⟨rfl, by rw [hU], hz.warm hW, by rw [hU]; exact hPc, va_K.moved hW.alike hKc, hDc.weaken (fun _ _ _ _ => trivial)⟩⟩ rfl rfl hl.1 rfl (lv_room (Nat.le_of_ble_eq_true rfl)) d_MD_residual_63 ⟨Nat.le_of_ble_eq_true rfl, Nat.le_of_ble_eq_true rfl⟩) hS (fun q _ h => hFc q h) hFc (fun r_43 _ t H1 locs ht hvm hw_44 hB hz1 hk1 hS => ?_)
          obtain ⟨hP1, hK1, hD1⟩ := hB
          rw [ht] at hP1
          have hK1 := va_K.moved hvm.symm hK1
          obtain ⟨hP, hD⟩ := va_join (wr := []) (w1 := [(h0, .inr (7, [.int (md_th 0 1 1), .int (nI nm), .ref ap, .int (nI no), .ref am, .ref aw, .ref az, .ref au, .int kn, .long vP, .long vQ, .long vS, .long vT, .long vB, .long vM, .long vH, .ref ao, .ref ax, .int (nI np), .ref ay, .int (nI nl), .ref ad, .ref al, .int (nI sn), .ref ag, .int (nI ta), .int nb]))]) hP hD [0] [] rfl rfl (by decide) (by decide) hk1 hFc hP1 hD1
          generalize H1 = H at hP hS ⊢
          have hP : va_P (dC, dI) xCl [(h0, .inr (7, [.int (md_th 0 1 1), .int (nI nm), .ref ap, .int (nI no), .ref am, .ref aw, .ref az, .ref au, .int kn, .long vP, .long vQ, .long vS, .long vT, .long vB, .long vM, .long vH, .ref ao, .ref ax, .int (nI np), .ref ay, .int (nI nl), .ref ad, .ref al, .int (nI sn), .ref ag, .int (nI ta), .int nb]))] H := hP
          have hD : va_D A [(h0, .inr (7, [.int (md_th 0 1 1), .int (nI nm), .ref ap, .int (nI no), .ref am, .ref aw, .ref az, .ref au, .int kn, .long vP, .long vQ, .long vS, .long vT, .long vB, .long vM, .long vH, .ref ao, .ref ax, .int (nI np), .ref ay, .int (nI nl), .ref ad, .ref al, .int (nI sn), .ref ag, .int (nI ta), .int nb]))] := hD
          subst hw_44
          refine lv_if_ne (tgt := 71) hx hb d_MD_residual_66 (by decide) (fun c_45 => ?_) (fun c_45 => ?_)
          · exact absurd (md_th_all (bI_t rfl c_45)) (fun q => q.1 rfl)
          · have b_46 := bI_f (rfl : bI (md_th 0 1 1 = 0) = _) c_45
            refine lv_iconst (v := 0) hx hb d_MD_residual_69 (by decide) ?_
            have hP9 := hP.sub (ws' := [(h0, .inr (7, [.int (md_th 0 1 1), .int (nI nm), .ref ap, .int (nI no), .ref am, .ref aw, .ref az, .ref au, .int kn, .long vP, .long vQ, .long vS, .long vT, .long vB, .long vM, .long vH, .ref ao, .ref ax, .int (nI np), .ref ay, .int (nI nl), .ref ad, .ref al, .int (nI sn), .ref ag, .int (nI ta), .int nb]))]) [0] rfl
            have hD9 := hD.sub (ws' := [(h0, .inr (7, [.int (md_th 0 1 1), .int (nI nm), .ref ap, .int (nI no), .ref am, .ref aw, .ref az, .ref au, .int kn, .long vP, .long vQ, .long vS, .long vT, .long vB, .long vM, .long vH, .ref ao, .ref ax, .int (nI np), .ref ay, .int (nI nl), .ref ad, .ref al, .int (nI sn), .ref ag, .int (nI ta), .int nb]))]) [0] (by decide) rfl
            have hK9 := hK.sub (tys' := []) [] rfl
            exact W.iret (v := 0) hx hb hr (fun t ht hW => ⟨⟨0, (), rfl, rfl, ⟨by rw [ht]; rw [show bI ((xin k0 no ∧ md_win a 0 2) ∧ (kn = -1 ∨ ¬ kn ≤ k0)) = 0 from (bI_n (fun q => b_41 q.1.2)).symm, show bI (¬ kn = -1) = 1 from (bI_p c_1).symm]; exact hP9, va_K.moved hW.alike hK9, by rw [show bI ((xin k0 no ∧ md_win a 0 2) ∧ (kn = -1 ∨ ¬ kn ≤ k0)) = 0 from (bI_n (fun q => b_41 q.1.2)).symm, show bI (¬ kn = -1) = 1 from (bI_p c_1).symm]; exact hD9⟩⟩, hS.F ht⟩) hS.2.2 d_MD_residual_70 hlocks
        · exact absurd c_42 (by decide)
      · have b_47 := bI_t (rfl : bI (md_win a 0 2) = _) c_40
        refine lv_iconst (v := 1) hx hb d_MD_residual_31 (by decide) ?_
        refine lv_goto (tgt := 36) hx hb d_MD_residual_32 (by decide) ?_
        refine lv_istore (lv' := [(4, .int 1), (3, .int 1), (0, .ref h0), (1, .int k0), (2, .int a)]) hx hb d_MD_residual_36 hl (by decide) rfl (fun ls hl => ?_)
        refine lv_aload_n hx hb d_MD_residual_38 rfl (lv_at hl 2 rfl) ?_
        refine lv_iload hx hb d_MD_residual_39 (lv_at hl 0 rfl) ?_
        refine lv_if_eq (tgt := 60) hx hb d_MD_residual_41 (by decide) (fun c_48 => ?_) (fun c_48 => ?_)
        · exact absurd c_48 (by decide)
        · refine lv_iload_n hx hb d_MD_residual_44 rfl (lv_at hl 1 rfl) ?_
          refine lv_if_eq (tgt := 56) hx hb d_MD_residual_45 (by decide) (fun c_49 => ?_) (fun c_49 => ?_)
          · exact absurd c_49 (by decide)
          · refine lv_iload_n hx hb d_MD_residual_48 rfl (lv_at hl 3 rfl) ?_
            refine lv_aload_n hx hb d_MD_residual_49 rfl (lv_at hl 2 rfl) ?_
            refine va_get (D := (dC, dI)) (ci := 7) (v := .int kn) (C := xR_MD) (T := xT_MD) (N := 27) hx hb hts (fun w h => List.mem_cons_of_mem _ (iw_MD w h)) hown hK hP 0 rfl rfl 8 (by decide) (hts _ (List.mem_cons_of_mem _ wm_705)) (fun _ h9 => h9) rfl d_MD_residual_50 ?_
            refine lv_icmp_ge (tgt := 60) hx hb d_MD_residual_53 (by decide) (fun c_50 => ?_) (fun c_50 => ?_)
            · refine lv_iconst (v := 0) hx hb d_MD_residual_60 (by decide) ?_
              refine lv_iload_n hx hb d_MD_residual_61 rfl (lv_at hl 1 rfl) ?_
              refine lv_iconst (v := 1) hx hb d_MD_residual_62 (by decide) ?_
              have hPc := hP.sub (ws' := [(h0, .inr (7, [.int th, .int (nI nm), .ref ap, .int (nI no), .ref am, .ref aw, .ref az, .ref au, .int kn, .long vP, .long vQ, .long vS, .long vT, .long vB, .long vM, .long vH, .ref ao, .ref ax, .int (nI np), .ref ay, .int (nI nl), .ref ad, .ref al, .int (nI sn), .ref ag, .int (nI ta), .int nb]))]) [0] rfl
              have hDc := hD.sub (ws' := [(h0, .inr (7, [.int th, .int (nI nm), .ref ap, .int (nI no), .ref am, .ref aw, .ref az, .ref au, .int kn, .long vP, .long vQ, .long vS, .long vT, .long vB, .long vM, .long vH, .ref ao, .ref ax, .int (nI np), .ref ay, .int (nI nl), .ref ad, .ref al, .int (nI sn), .ref ag, .int (nI ta), .int nb]))]) [0] (by decide) rfl
              have hKc := hK.sub (tys' := []) [] rfl
              have hFc := va_free (wc := [(h0, .inr (7, [.int th, .int (nI nm), .ref ap, .int (nI no), .ref am, .ref aw, .ref az, .ref au, .int kn, .long vP, .long vQ, .long vS, .long vT, .long vB, .long vM, .long vH, .ref ao, .ref ax, .int (nI np), .ref ay, .int (nI nl), .ref ad, .ref al, .int (nI sn), .ref ag, .int (nI ta), .int nb]))]) hD hS hA [0] rfl
              refine va_calli (va_runV (As := [.int 0, .int 1, .int 1]) (rest := []) ⟨hx, hb, hml, hown, hts⟩ (c_MD_goes l dC dI s.heap.size h0 th nm ap no am aw az au kn vP vQ vS vT vB vM vH ao ax np ay nl ad al sn ag ta nb 0 1 1) (cwV 3 hts (xgV wm_793 wm_795 wm_13 wm_34 wm_796) rfl rfl rfl (by decide +kernel) ⟨Nat.le_of_ble_eq_true rfl, Nat.le_of_ble_eq_true rfl⟩) ⟨xw_blind, va_recv hKc hPc (ci := 7) (q0 := 0) rfl rfl, fun U hU hW => ⟨rfl, by rw [hU], hz.warm hW, by rw [hU]; exact hPc, va_K.moved hW.alike hKc, hDc.weaken (fun _ _ _ _ => trivial)⟩⟩ rfl rfl hl.1 rfl (lv_room (Nat.le_of_ble_eq_true rfl)) d_MD_residual_63 ⟨Nat.le_of_ble_eq_true rfl, Nat.le_of_ble_eq_true rfl⟩) hS (fun q _ h => hFc q h) hFc (fun r_51 _ t H1 locs ht hvm hw_52 hB hz1 hk1 hS => ?_)
              obtain ⟨hP1, hK1, hD1⟩ := hB
              rw [ht] at hP1
              have hK1 := va_K.moved hvm.symm hK1
              obtain ⟨hP, hD⟩ := va_join (wr := []) (w1 := [(h0, .inr (7, [.int (md_th 0 1 1), .int (nI nm), .ref ap, .int (nI no), .ref am, .ref aw, .ref az, .ref au, .int kn, .long vP, .long vQ, .long vS, .long vT, .long vB, .long vM, .long vH, .ref ao, .ref ax, .int (nI np), .ref ay, .int (nI nl), .ref ad, .ref al, .int (nI sn), .ref ag, .int (nI ta), .int nb]))]) hP hD [0] [] rfl rfl (by decide) (by decide) hk1 hFc hP1 hD1
              generalize H1 = H at hP hS ⊢
              have hP : va_P (dC, dI) xCl [(h0, .inr (7, [.int (md_th 0 1 1), .int (nI nm), .ref ap, .int (nI no), .ref am, .ref aw, .ref az, .ref au, .int kn, .long vP, .long vQ, .long vS, .long vT, .long vB, .long vM, .long vH, .ref ao, .ref ax, .int (nI np), .ref ay, .int (nI nl), .ref ad, .ref al, .int (nI sn), .ref ag, .int (nI ta), .int nb]))] H := hP
              have hD : va_D A [(h0, .inr (7, [.int (md_th 0 1 1), .int (nI nm), .ref ap, .int (nI no), .ref am, .ref aw, .ref az, .ref au, .int kn, .long vP, .long vQ, .long vS, .long vT, .long vB, .long vM, .long vH, .ref ao, .ref ax, .int (nI np), .ref ay, .int (nI nl), .ref ad, .ref al, .int (nI sn), .ref ag, .int (nI ta), .int nb]))] := hD
              subst hw_52
              refine lv_if_ne (tgt := 71) hx hb d_MD_residual_66 (by decide) (fun c_53 => ?_) (fun c_53 => ?_)
              · exact absurd (md_th_all (bI_t rfl c_53)) (fun q => q.1 rfl)
              · have b_54 := bI_f (rfl : bI (md_th 0 1 1 = 0) = _) c_53
                refine lv_iconst (v := 0) hx hb d_MD_residual_69 (by decide) ?_
                have hP9 := hP.sub (ws' := [(h0, .inr (7, [.int (md_th 0 1 1), .int (nI nm), .ref ap, .int (nI no), .ref am, .ref aw, .ref az, .ref au, .int kn, .long vP, .long vQ, .long vS, .long vT, .long vB, .long vM, .long vH, .ref ao, .ref ax, .int (nI np), .ref ay, .int (nI nl), .ref ad, .ref al, .int (nI sn), .ref ag, .int (nI ta), .int nb]))]) [0] rfl
                have hD9 := hD.sub (ws' := [(h0, .inr (7, [.int (md_th 0 1 1), .int (nI nm), .ref ap, .int (nI no), .ref am, .ref aw, .ref az, .ref au, .int kn, .long vP, .long vQ, .long vS, .long vT, .long vB, .long vM, .long vH, .ref ao, .ref ax, .int (nI np), .ref ay, .int (nI nl), .ref ad, .ref al, .int (nI sn), .ref ag, .int (nI ta), .int nb]))]) [0] (by decide) rfl
                have hK9 := hK.sub (tys' := []) [] rfl
                exact W.iret (v := 0) hx hb hr (fun t ht hW => ⟨⟨0, (), rfl, rfl, ⟨by rw [ht]; rw [show bI ((xin k0 no ∧ md_win a 0 2) ∧ (kn = -1 ∨ ¬ kn ≤ k0)) = 0 from (bI_n (fun q => q.2.elim c_1 (fun w => w c_50))).symm, show bI (¬ kn = -1) = 1 from (bI_p c_1).symm]; exact hP9, va_K.moved hW.alike hK9, by rw [show bI ((xin k0 no ∧ md_win a 0 2) ∧ (kn = -1 ∨ ¬ kn ≤ k0)) = 0 from (bI_n (fun q => q.2.elim c_1 (fun w => w c_50))).symm, show bI (¬ kn = -1) = 1 from (bI_p c_1).symm]; exact hD9⟩⟩, hS.F ht⟩) hS.2.2 d_MD_residual_70 hlocks
            · refine lv_iconst (v := 1) hx hb d_MD_residual_56 (by decide) ?_
              refine lv_goto (tgt := 61) hx hb d_MD_residual_57 (by decide) ?_
              refine lv_iload_n hx hb d_MD_residual_61 rfl (lv_at hl 1 rfl) ?_
              refine lv_iconst (v := 1) hx hb d_MD_residual_62 (by decide) ?_
              have hPc := hP.sub (ws' := [(h0, .inr (7, [.int th, .int (nI nm), .ref ap, .int (nI no), .ref am, .ref aw, .ref az, .ref au, .int kn, .long vP, .long vQ, .long vS, .long vT, .long vB, .long vM, .long vH, .ref ao, .ref ax, .int (nI np), .ref ay, .int (nI nl), .ref ad, .ref al, .int (nI sn), .ref ag, .int (nI ta), .int nb]))]) [0] rfl
              have hDc := hD.sub (ws' := [(h0, .inr (7, [.int th, .int (nI nm), .ref ap, .int (nI no), .ref am, .ref aw, .ref az, .ref au, .int kn, .long vP, .long vQ, .long vS, .long vT, .long vB, .long vM, .long vH, .ref ao, .ref ax, .int (nI np), .ref ay, .int (nI nl), .ref ad, .ref al, .int (nI sn), .ref ag, .int (nI ta), .int nb]))]) [0] (by decide) rfl
              have hKc := hK.sub (tys' := []) [] rfl
              have hFc := va_free (wc := [(h0, .inr (7, [.int th, .int (nI nm), .ref ap, .int (nI no), .ref am, .ref aw, .ref az, .ref au, .int kn, .long vP, .long vQ, .long vS, .long vT, .long vB, .long vM, .long vH, .ref ao, .ref ax, .int (nI np), .ref ay, .int (nI nl), .ref ad, .ref al, .int (nI sn), .ref ag, .int (nI ta), .int nb]))]) hD hS hA [0] rfl
              refine va_calli (va_runV (As := [.int 1, .int 1, .int 1]) (rest := []) ⟨hx, hb, hml, hown, hts⟩ (c_MD_goes l dC dI s.heap.size h0 th nm ap no am aw az au kn vP vQ vS vT vB vM vH ao ax np ay nl ad al sn ag ta nb 1 1 1) (cwV 3 hts (xgV wm_793 wm_795 wm_13 wm_34 wm_796) rfl rfl rfl (by decide +kernel) ⟨Nat.le_of_ble_eq_true rfl, Nat.le_of_ble_eq_true rfl⟩) ⟨xw_blind, va_recv hKc hPc (ci := 7) (q0 := 0) rfl rfl, fun U hU hW => ⟨rfl, by rw [hU], hz.warm hW, by rw [hU]; exact hPc, va_K.moved hW.alike hKc, hDc.weaken (fun _ _ _ _ => trivial)⟩⟩ rfl rfl hl.1 rfl (lv_room (Nat.le_of_ble_eq_true rfl)) d_MD_residual_63 ⟨Nat.le_of_ble_eq_true rfl, Nat.le_of_ble_eq_true rfl⟩) hS (fun q _ h => hFc q h) hFc (fun r_55 _ t H1 locs ht hvm hw_56 hB hz1 hk1 hS => ?_)
              obtain ⟨hP1, hK1, hD1⟩ := hB
              rw [ht] at hP1
              have hK1 := va_K.moved hvm.symm hK1
              obtain ⟨hP, hD⟩ := va_join (wr := []) (w1 := [(h0, .inr (7, [.int (md_th 1 1 1), .int (nI nm), .ref ap, .int (nI no), .ref am, .ref aw, .ref az, .ref au, .int kn, .long vP, .long vQ, .long vS, .long vT, .long vB, .long vM, .long vH, .ref ao, .ref ax, .int (nI np), .ref ay, .int (nI nl), .ref ad, .ref al, .int (nI sn), .ref ag, .int (nI ta), .int nb]))]) hP hD [0] [] rfl rfl (by decide) (by decide) hk1 hFc hP1 hD1
              generalize H1 = H at hP hS ⊢
              have hP : va_P (dC, dI) xCl [(h0, .inr (7, [.int (md_th 1 1 1), .int (nI nm), .ref ap, .int (nI no), .ref am, .ref aw, .ref az, .ref au, .int kn, .long vP, .long vQ, .long vS, .long vT, .long vB, .long vM, .long vH, .ref ao, .ref ax, .int (nI np), .ref ay, .int (nI nl), .ref ad, .ref al, .int (nI sn), .ref ag, .int (nI ta), .int nb]))] H := hP
              have hD : va_D A [(h0, .inr (7, [.int (md_th 1 1 1), .int (nI nm), .ref ap, .int (nI no), .ref am, .ref aw, .ref az, .ref au, .int kn, .long vP, .long vQ, .long vS, .long vT, .long vB, .long vM, .long vH, .ref ao, .ref ax, .int (nI np), .ref ay, .int (nI nl), .ref ad, .ref al, .int (nI sn), .ref ag, .int (nI ta), .int nb]))] := hD
              subst hw_56
              refine lv_if_ne (tgt := 71) hx hb d_MD_residual_66 (by decide) (fun c_57 => ?_) (fun c_57 => ?_)
              · exact absurd (md_th_all (bI_t rfl c_57)) (fun q => hn ⟨⟨⟨b_37, b_47⟩, Or.inr c_50⟩, c_1⟩)
              · have b_58 := bI_f (rfl : bI (md_th 1 1 1 = 0) = _) c_57
                refine lv_iconst (v := 0) hx hb d_MD_residual_69 (by decide) ?_
                have hP9 := hP.sub (ws' := [(h0, .inr (7, [.int (md_th 1 1 1), .int (nI nm), .ref ap, .int (nI no), .ref am, .ref aw, .ref az, .ref au, .int kn, .long vP, .long vQ, .long vS, .long vT, .long vB, .long vM, .long vH, .ref ao, .ref ax, .int (nI np), .ref ay, .int (nI nl), .ref ad, .ref al, .int (nI sn), .ref ag, .int (nI ta), .int nb]))]) [0] rfl
                have hD9 := hD.sub (ws' := [(h0, .inr (7, [.int (md_th 1 1 1), .int (nI nm), .ref ap, .int (nI no), .ref am, .ref aw, .ref az, .ref au, .int kn, .long vP, .long vQ, .long vS, .long vT, .long vB, .long vM, .long vH, .ref ao, .ref ax, .int (nI np), .ref ay, .int (nI nl), .ref ad, .ref al, .int (nI sn), .ref ag, .int (nI ta), .int nb]))]) [0] (by decide) rfl
                have hK9 := hK.sub (tys' := []) [] rfl
                exact W.iret (v := 0) hx hb hr (fun t ht hW => ⟨⟨0, (), rfl, rfl, ⟨by rw [ht]; rw [show bI ((xin k0 no ∧ md_win a 0 2) ∧ (kn = -1 ∨ ¬ kn ≤ k0)) = 1 from (bI_p ⟨⟨b_37, b_47⟩, Or.inr c_50⟩).symm, show bI (¬ kn = -1) = 1 from (bI_p c_1).symm]; exact hP9, va_K.moved hW.alike hK9, by rw [show bI ((xin k0 no ∧ md_win a 0 2) ∧ (kn = -1 ∨ ¬ kn ≤ k0)) = 1 from (bI_p ⟨⟨b_37, b_47⟩, Or.inr c_50⟩).symm, show bI (¬ kn = -1) = 1 from (bI_p c_1).symm]; exact hD9⟩⟩, hS.F ht⟩) hS.2.2 d_MD_residual_70 hlocks
set_option maxHeartbeats 4000000 in
set_option maxRecDepth 100000 in
/-- reads -/
theorem c_MD_reads (l : Launch) (dC : Nat → ClassId) (dI : Nat → Nat → Nat) (sz : Nat) (h0 : Nat) (th : Int32) (nm : Nat) (ap : Nat) (no : Nat) (am : Nat) (aw : Nat) (az : Nat) (au : Nat) (kn : Int32) (vP : Int64) (vQ : Int64) (vS : Int64) (vT : Int64) (vB : Int64) (vM : Int64) (vH : Int64) (ao : Nat) (ax : Nat) (np : Nat) (ay : Nat) (nl : Nat) (ad : Nat) (al : Nat) (sn : Nat) (ag : Nat) (ta : Nat) (nb : Int32) (kg : ClassId) (gg : Nat → Int32) (a : Int32) (hle : sn ≤ 200) (hta : ta ≤ 200) : Met l xy_MD_reads xw_MD_reads ({ frames := 1, cells := 0, slots := 0, locals := 22 }) (xp_w [.ref h0, .int a] sz (dC, dI) xCl [(h0, .inr (7, [.int th, .int (nI nm), .ref ap, .int (nI no), .ref am, .ref aw, .ref az, .ref au, .int kn, .long vP, .long vQ, .long vS, .long vT, .long vB, .long vM, .long vH, .ref ao, .ref ax, .int (nI np), .ref ay, .int (nI nl), .ref ad, .ref al, .int (nI sn), .ref ag, .int (nI ta), .int nb])), (ag, .inl (kg, 200, .inl gg))] [(kg, .int)]) (va_Qi (fun (r : Int32) (_ : Unit) => r = bI (md_rs gg sn ta a)) (fun _ t => xb_w (dC, dI) xCl [(h0, .inr (7, [.int th, .int (nI nm), .ref ap, .int (nI no), .ref am, .ref aw, .ref az, .ref au, .int kn, .long vP, .long vQ, .long vS, .long vT, .long vB, .long vM, .long vH, .ref ao, .ref ax, .int (nI np), .ref ay, .int (nI nl), .ref ad, .ref al, .int (nI sn), .ref ag, .int (nI (md_np gg sn ta + 1)), .int (md_nv gg sn ta)])), (ag, .inl (kg, 200, .inl gg))] [(kg, .int)] (va_A [(h0, .inr (7, [.int th, .int (nI nm), .ref ap, .int (nI no), .ref am, .ref aw, .ref az, .ref au, .int kn, .long vP, .long vQ, .long vS, .long vT, .long vB, .long vM, .long vH, .ref ao, .ref ax, .int (nI np), .ref ay, .int (nI nl), .ref ad, .ref al, .int (nI sn), .ref ag, .int (nI ta), .int nb])), (ag, .inl (kg, 200, .inl gg))] sz) t) (va_A [(h0, .inr (7, [.int th, .int (nI nm), .ref ap, .int (nI no), .ref am, .ref aw, .ref az, .ref au, .int kn, .long vP, .long vQ, .long vS, .long vT, .long vB, .long vM, .long vH, .ref ao, .ref ax, .int (nI np), .ref ay, .int (nI nl), .ref ad, .ref al, .int (nI sn), .ref ag, .int (nI ta), .int nb])), (ag, .inl (kg, 200, .inl gg))] sz)) 0 0 (va_A [(h0, .inr (7, [.int th, .int (nI nm), .ref ap, .int (nI no), .ref am, .ref aw, .ref az, .ref au, .int kn, .long vP, .long vQ, .long vS, .long vT, .long vB, .long vM, .long vH, .ref ao, .ref ax, .int (nI np), .ref ay, .int (nI nl), .ref ad, .ref al, .int (nI sn), .ref ag, .int (nI ta), .int nb])), (ag, .inl (kg, 200, .inl gg))] sz) := by
  refine Met.ofW (cc := prog_9_method_34_code) (maxL := 5) (ret := (some .boolean)) (by decide) rfl ?_
  intro p e s m args below meth c s₁ B hml hv
  obtain ⟨rfl, hsz, hz, hP, hK, hD0⟩ := hv
  have hx := B.exec
  have hb := B.bytes
  have hr := B.returns
  have hts := atoms_spec (ws := xw_MD_reads) B.pre
  have hown : s.vm.findClass xR_MD = some m.cls := findClass_of_methodNamed B.named
  have hlocks := B.notSynchronized
  subst hsz
  have hD := hD0.self (sz := s.heap.size)
  generalize hAe : va_A [(h0, .inr (7, [.int th, .int (nI nm), .ref ap, .int (nI no), .ref am, .ref aw, .ref az, .ref au, .int kn, .long vP, .long vQ, .long vS, .long vT, .long vB, .long vM, .long vH, .ref ao, .ref ax, .int (nI np), .ref ay, .int (nI nl), .ref ad, .ref al, .int (nI sn), .ref ag, .int (nI ta), .int nb])), (ag, .inl (kg, 200, .inl gg))] s.heap.size = A at hD ⊢
  have hA : ∀ q : Nat, s.heap.size ≤ q → A q := fun q h => by rw [← hAe]; exact Or.inr h
  have hS : va_S A s.heap s.heap [] := va_S.rf
  have hP : va_P (dC, dI) xCl [(h0, .inr (7, [.int th, .int (nI nm), .ref ap, .int (nI no), .ref am, .ref aw, .ref az, .ref au, .int kn, .long vP, .long vQ, .long vS, .long vT, .long vB, .long vM, .long vH, .ref ao, .ref ax, .int (nI np), .ref ay, .int (nI nl), .ref ad, .ref al, .int (nI sn), .ref ag, .int (nI ta), .int nb])), (ag, .inl (kg, 200, .inl gg))] s.heap := hP
  have hl := lv_entry ([.ref h0, .int a]) (n := 5) (Nat.le_of_ble_eq_true rfl)
  rw [lg_entry_eq]
  generalize (lg_sl ([.ref h0, .int a]) ++ List.replicate (5 - (lg_sl ([.ref h0, .int a])).length) Slot.unset).toArray = ls at hl ⊢
  have hl : lv_has ls 5 [(0, .ref h0), (1, .int a)] := hl
  refine lv_aload_n hx hb d_MD_reads_0 rfl (lv_at hl 0 rfl) ?_
  refine va_get (D := (dC, dI)) (ci := 7) (v := .int (nI ta)) (C := xR_MD) (T := xT_MD) (N := 27) hx hb hts (fun w h => List.mem_cons_of_mem _ (iw_MD w h)) hown hK hP 0 rfl rfl 25 (by decide) (hts _ (List.mem_cons_of_mem _ wm_722)) (fun _ h9 => h9) rfl d_MD_reads_1 ?_
  refine lv_aload_n hx hb d_MD_reads_4 rfl (lv_at hl 0 rfl) ?_
  refine va_get (D := (dC, dI)) (ci := 7) (v := .int (nI sn)) (C := xR_MD) (T := xT_MD) (N := 27) hx hb hts (fun w h => List.mem_cons_of_mem _ (iw_MD w h)) hown hK hP 0 rfl rfl 23 (by decide) (hts _ (List.mem_cons_of_mem _ wm_720)) (fun _ h9 => h9) rfl d_MD_reads_5 ?_
  refine lv_icmp_ge (tgt := 29) hx hb d_MD_reads_8 (by decide) (fun c_1 => ?_) (fun c_1 => ?_)
  · have n_2 := xn_le (a := sn) (b := ta) c_1 rfl rfl (by omega) (by omega)
    refine lv_iconst (v := 0) hx hb d_MD_reads_29 (by decide) ?_
    refine lv_istore_n (lv' := [(2, .int 0), (0, .ref h0), (1, .int a)]) hx hb d_MD_reads_30 rfl hl (by decide) rfl (fun ls hl => ?_)
    refine lv_aload_n hx hb d_MD_reads_31 rfl (lv_at hl 1 rfl) ?_
    refine lv_iload_n hx hb d_MD_reads_32 rfl (lv_at hl 0 rfl) ?_
    refine lv_if_eq (tgt := 45) hx hb d_MD_reads_33 (by decide) (fun c_3 => ?_) (fun c_3 => ?_)
    · refine lv_aload_n hx hb d_MD_reads_45 rfl (lv_at hl 1 rfl) ?_
      refine va_get (D := (dC, dI)) (ci := 7) (v := .int (nI ta)) (C := xR_MD) (T := xT_MD) (N := 27) hx hb hts (fun w h => List.mem_cons_of_mem _ (iw_MD w h)) hown hK hP 0 rfl rfl 25 (by decide) (hts _ (List.mem_cons_of_mem _ wm_722)) (fun _ h9 => h9) rfl d_MD_reads_46 ?_
      refine va_put (D := (dC, dI)) (ci := 7) (v := .int (nI ta)) (ty := .int) (C := xR_MD) (T := xT_MD) (N := 27) hx hb hts (fun w h => List.mem_cons_of_mem _ (iw_MD w h)) xt_MD xt_MD_ok xn_MD_nm hown hK hP hD hS 0 rfl rfl 25 (by decide) (hts _ (List.mem_cons_of_mem _ wm_722)) (fun _ h9 => h9) rfl (by decide +kernel) rfl rfl (Nat.le_of_ble_eq_true rfl) d_MD_reads_49 (fun H locs hP hD hS => ?_)
      have hP : va_P (dC, dI) xCl [(h0, .inr (7, [.int th, .int (nI nm), .ref ap, .int (nI no), .ref am, .ref aw, .ref az, .ref au, .int kn, .long vP, .long vQ, .long vS, .long vT, .long vB, .long vM, .long vH, .ref ao, .ref ax, .int (nI np), .ref ay, .int (nI nl), .ref ad, .ref al, .int (nI sn), .ref ag, .int (nI ta), .int nb])), (ag, .inl (kg, 200, .inl gg))] H := hP
      have hD : va_D A [(h0, .inr (7, [.int th, .int (nI nm), .ref ap, .int (nI no), .ref am, .ref aw, .ref az, .ref au, .int kn, .long vP, .long vQ, .long vS, .long vT, .long vB, .long vM, .long vH, .ref ao, .ref ax, .int (nI np), .ref ay, .int (nI nl), .ref ad, .ref al, .int (nI sn), .ref ag, .int (nI ta), .int nb])), (ag, .inl (kg, 200, .inl gg))] := hD
      have hb2 : sr_sk gg sn ta 45 ≤ 200 := sr_sk_le hle hta
      have hbs : sr_sk gg sn ta 45 = ta := if_neg (fun q => absurd q.1 (by omega))
      obtain ⟨b, hbe⟩ : ∃ b, b = sr_sk gg sn ta 45 := ⟨_, rfl⟩
      rw [← hbe] at hbs hb2
      rw [show nI (ta) = nI b from congrArg nI hbs.symm] at hP hD
      have hP : va_P (dC, dI) xCl [(h0, .inr (7, [.int th, .int (nI nm), .ref ap, .int (nI no), .ref am, .ref aw, .ref az, .ref au, .int kn, .long vP, .long vQ, .long vS, .long vT, .long vB, .long vM, .long vH, .ref ao, .ref ax, .int (nI np), .ref ay, .int (nI nl), .ref ad, .ref al, .int (nI sn), .ref ag, .int (nI b), .int nb])), (ag, .inl (kg, 200, .inl gg))] H := hP
      have hD : va_D A [(h0, .inr (7, [.int th, .int (nI nm), .ref ap, .int (nI no), .ref am, .ref aw, .ref az, .ref au, .int kn, .long vP, .long vQ, .long vS, .long vT, .long vB, .long vM, .long vH, .ref ao, .ref ax, .int (nI np), .ref ay, .int (nI nl), .ref ad, .ref al, .int (nI sn), .ref ag, .int (nI b), .int nb])), (ag, .inl (kg, 200, .inl gg))] := hD
      refine lv_iconst (v := 0) hx hb d_MD_reads_52 (by decide) ?_
      refine lv_istore_n (lv' := [(3, .int 0), (2, .int 0), (0, .ref h0), (1, .int a)]) hx hb d_MD_reads_53 rfl hl (by decide) rfl (fun ls hl => ?_)
      refine lv_aload_n hx hb d_MD_reads_54 rfl (lv_at hl 2 rfl) ?_
      refine lv_iconst (v := 0) hx hb d_MD_reads_55 (by decide) ?_
      refine va_put (D := (dC, dI)) (ci := 7) (v := .int 0) (ty := .int) (C := xR_MD) (T := xT_MD) (N := 27) hx hb hts (fun w h => List.mem_cons_of_mem _ (iw_MD w h)) xt_MD xt_MD_ok xn_MD_nm hown hK hP hD hS 0 rfl rfl 26 (by decide) (hts _ (List.mem_cons_of_mem _ wm_723)) (fun _ h9 => h9) rfl (by decide +kernel) rfl rfl (Nat.le_of_ble_eq_true rfl) d_MD_reads_56 (fun H locs hP hD hS => ?_)
      have hP : va_P (dC, dI) xCl [(h0, .inr (7, [.int th, .int (nI nm), .ref ap, .int (nI no), .ref am, .ref aw, .ref az, .ref au, .int kn, .long vP, .long vQ, .long vS, .long vT, .long vB, .long vM, .long vH, .ref ao, .ref ax, .int (nI np), .ref ay, .int (nI nl), .ref ad, .ref al, .int (nI sn), .ref ag, .int (nI b), .int 0])), (ag, .inl (kg, 200, .inl gg))] H := hP
      have hD : va_D A [(h0, .inr (7, [.int th, .int (nI nm), .ref ap, .int (nI no), .ref am, .ref aw, .ref az, .ref au, .int kn, .long vP, .long vQ, .long vS, .long vT, .long vB, .long vM, .long vH, .ref ao, .ref ax, .int (nI np), .ref ay, .int (nI nl), .ref ad, .ref al, .int (nI sn), .ref ag, .int (nI b), .int 0])), (ag, .inl (kg, 200, .inl gg))] := hD
      have lp59 : ∀ (fuel : Nat) (j : Nat) (z : Nat) (xn : Int32), 201 - j < fuel → j ≤ 200 → z ≤ 200 → z = b + j → j + sr_dn gg sn (b + j) (201 - j) = sr_dn gg sn b 201 → xn = sr_va gg b (min j 6) → ∀ (H : Heap) (locs : List Loc), va_P (dC, dI) xCl [(h0, .inr (7, [.int th, .int (nI nm), .ref ap, .int (nI no), .ref am, .ref aw, .ref az, .ref au, .int kn, .long vP, .long vQ, .long vS, .long vT, .long vB, .long vM, .long vH, .ref ao, .ref ax, .int (nI np), .ref ay, .int (nI nl), .ref ad, .ref al, .int (nI sn), .ref ag, .int (nI z), .int xn])), (ag, .inl (kg, 200, .inl gg))] H → va_D A [(h0, .inr (7, [.int th, .int (nI nm), .ref ap, .int (nI no), .ref am, .ref aw, .ref az, .ref au, .int kn, .long vP, .long vQ, .long vS, .long vT, .long vB, .long vM, .long vH, .ref ao, .ref ax, .int (nI np), .ref ay, .int (nI nl), .ref ad, .ref al, .int (nI sn), .ref ag, .int (nI z), .int xn])), (ag, .inl (kg, 200, .inl gg))] → va_S A s.heap H locs → ∀ (ls : Array Slot), lv_has ls 5 [(0, .ref h0), (1, .int a), (2, .int 0), (3, .int (nI j))] → W p l e (headSpec xw_MD_reads ({ frames := 1, cells := 0, slots := 0, locals := 22 })).room s m ([.ref h0, .int a] : List Value).toArray below meth c H locs 0 0 (MQ below (va_Qi (fun (r : Int32) (_ : Unit) => r = bI (md_rs gg sn ta a)) (fun _ t => xb_w (dC, dI) xCl [(h0, .inr (7, [.int th, .int (nI nm), .ref ap, .int (nI no), .ref am, .ref aw, .ref az, .ref au, .int kn, .long vP, .long vQ, .long vS, .long vT, .long vB, .long vM, .long vH, .ref ao, .ref ax, .int (nI np), .ref ay, .int (nI nl), .ref ad, .ref al, .int (nI sn), .ref ag, .int (nI (md_np gg sn ta + 1)), .int (md_nv gg sn ta)])), (ag, .inl (kg, 200, .inl gg))] [(kg, .int)] A t) A) ([.ref h0, .int a] : List Value).toArray s 0 0 A) (F0 m 59 ls []) := by
        intro fuel
        induction fuel with
        | zero => intro j z xn hfu; exact absurd hfu (Nat.not_lt_zero _)
        | succ fuel ih =>
          intro j z xn hfu hj hz2 hz hdn hxn H locs hP hD hS ls hl
          subst hz
          subst hxn
          refine lv_aload_n hx hb d_MD_reads_59 rfl (lv_at hl 0 rfl) ?_
          refine va_get (D := (dC, dI)) (ci := 7) (v := .int (nI (b + j))) (C := xR_MD) (T := xT_MD) (N := 27) hx hb hts (fun w h => List.mem_cons_of_mem _ (iw_MD w h)) hown hK hP 0 rfl rfl 25 (by decide) (hts _ (List.mem_cons_of_mem _ wm_722)) (fun _ h9 => h9) rfl d_MD_reads_60 ?_
          refine lv_aload_n hx hb d_MD_reads_63 rfl (lv_at hl 0 rfl) ?_
          refine va_get (D := (dC, dI)) (ci := 7) (v := .int (nI sn)) (C := xR_MD) (T := xT_MD) (N := 27) hx hb hts (fun w h => List.mem_cons_of_mem _ (iw_MD w h)) hown hK hP 0 rfl rfl 23 (by decide) (hts _ (List.mem_cons_of_mem _ wm_720)) (fun _ h9 => h9) rfl d_MD_reads_64 ?_
          refine lv_icmp_ge (tgt := 142) hx hb d_MD_reads_67 (by decide) (fun c_4 => ?_) (fun c_4 => ?_)
          · have n_5 := xn_le (a := sn) (b := (b + j)) c_4 rfl rfl (by omega) (by omega)
            have he6 : j = sr_dn gg sn b 201 := md_dn_o n_5 hdn
            refine lv_aload_n hx hb d_MD_reads_142 rfl (lv_at hl 0 rfl) ?_
            refine lv_iload_n hx hb d_MD_reads_143 rfl (lv_at hl 2 rfl) ?_
            refine lv_if_eq (tgt := 156) hx hb d_MD_reads_144 (by decide) (fun c_6 => ?_) (fun c_6 => ?_)
            · refine lv_aload_n hx hb d_MD_reads_156 rfl (lv_at hl 0 rfl) ?_
              refine va_get (D := (dC, dI)) (ci := 7) (v := .int (sr_va gg b (min j 6))) (C := xR_MD) (T := xT_MD) (N := 27) hx hb hts (fun w h => List.mem_cons_of_mem _ (iw_MD w h)) hown hK hP 0 rfl rfl 26 (by decide) (hts _ (List.mem_cons_of_mem _ wm_723)) (fun _ h9 => h9) rfl d_MD_reads_157 ?_
              refine va_put (D := (dC, dI)) (ci := 7) (v := .int (sr_va gg b (min j 6))) (ty := .int) (C := xR_MD) (T := xT_MD) (N := 27) hx hb hts (fun w h => List.mem_cons_of_mem _ (iw_MD w h)) xt_MD xt_MD_ok xn_MD_nm hown hK hP hD hS 0 rfl rfl 26 (by decide) (hts _ (List.mem_cons_of_mem _ wm_723)) (fun _ h9 => h9) rfl (by decide +kernel) rfl rfl (Nat.le_of_ble_eq_true rfl) d_MD_reads_160 (fun H locs hP hD hS => ?_)
              have hP : va_P (dC, dI) xCl [(h0, .inr (7, [.int th, .int (nI nm), .ref ap, .int (nI no), .ref am, .ref aw, .ref az, .ref au, .int kn, .long vP, .long vQ, .long vS, .long vT, .long vB, .long vM, .long vH, .ref ao, .ref ax, .int (nI np), .ref ay, .int (nI nl), .ref ad, .ref al, .int (nI sn), .ref ag, .int (nI (b + j)), .int (sr_va gg b (min j 6))])), (ag, .inl (kg, 200, .inl gg))] H := hP
              have hD : va_D A [(h0, .inr (7, [.int th, .int (nI nm), .ref ap, .int (nI no), .ref am, .ref aw, .ref az, .ref au, .int kn, .long vP, .long vQ, .long vS, .long vT, .long vB, .long vM, .long vH, .ref ao, .ref ax, .int (nI np), .ref ay, .int (nI nl), .ref ad, .ref al, .int (nI sn), .ref ag, .int (nI (b + j)), .int (sr_va gg b (min j 6))])), (ag, .inl (kg, 200, .inl gg))] := hD
              refine lv_aload_n hx hb d_MD_reads_163 rfl (lv_at hl 0 rfl) ?_
              refine va_get (D := (dC, dI)) (ci := 7) (v := .int (nI (b + j))) (C := xR_MD) (T := xT_MD) (N := 27) hx hb hts (fun w h => List.mem_cons_of_mem _ (iw_MD w h)) hown hK hP 0 rfl rfl 25 (by decide) (hts _ (List.mem_cons_of_mem _ wm_722)) (fun _ h9 => h9) rfl d_MD_reads_164 ?_
              refine lv_aload_n hx hb d_MD_reads_167 rfl (lv_at hl 0 rfl) ?_
              refine va_get (D := (dC, dI)) (ci := 7) (v := .int (nI sn)) (C := xR_MD) (T := xT_MD) (N := 27) hx hb hts (fun w h => List.mem_cons_of_mem _ (iw_MD w h)) hown hK hP 0 rfl rfl 23 (by decide) (hts _ (List.mem_cons_of_mem _ wm_720)) (fun _ h9 => h9) rfl d_MD_reads_168 ?_
              refine lv_icmp_ge (tgt := 191) hx hb d_MD_reads_171 (by decide) (fun c_7 => ?_) (fun c_7 => ?_)
              · have n_8 := xn_le (a := sn) (b := (b + j)) c_7 rfl rfl (by omega) (by omega)
                refine lv_iconst (v := 0) hx hb d_MD_reads_191 (by decide) ?_
                refine lv_istore (lv' := [(4, .int 0), (0, .ref h0), (1, .int a), (2, .int 0), (3, .int (nI j))]) hx hb d_MD_reads_192 hl (by decide) rfl (fun ls hl => ?_)
                refine lv_aload_n hx hb d_MD_reads_194 rfl (lv_at hl 1 rfl) ?_
                refine lv_dup hx hb d_MD_reads_195 rfl ?_
                refine va_get (D := (dC, dI)) (ci := 7) (v := .int (nI (b + j))) (C := xR_MD) (T := xT_MD) (N := 27) hx hb hts (fun w h => List.mem_cons_of_mem _ (iw_MD w h)) hown hK hP 0 rfl rfl 25 (by decide) (hts _ (List.mem_cons_of_mem _ wm_722)) (fun _ h9 => h9) rfl d_MD_reads_196 ?_
                refine lv_iconst (v := 1) hx hb d_MD_reads_199 (by decide) ?_
                refine lv_iadd hx hb d_MD_reads_200 ?_
                refine xv_i (y := nI ((b + j) + 1)) (nI_1 _) ?_
                refine va_put (D := (dC, dI)) (ci := 7) (v := .int (nI ((b + j) + 1))) (ty := .int) (C := xR_MD) (T := xT_MD) (N := 27) hx hb hts (fun w h => List.mem_cons_of_mem _ (iw_MD w h)) xt_MD xt_MD_ok xn_MD_nm hown hK hP hD hS 0 rfl rfl 25 (by decide) (hts _ (List.mem_cons_of_mem _ wm_722)) (fun _ h9 => h9) rfl (by decide +kernel) rfl rfl (Nat.le_of_ble_eq_true rfl) d_MD_reads_201 (fun H locs hP hD hS => ?_)
                have hP : va_P (dC, dI) xCl [(h0, .inr (7, [.int th, .int (nI nm), .ref ap, .int (nI no), .ref am, .ref aw, .ref az, .ref au, .int kn, .long vP, .long vQ, .long vS, .long vT, .long vB, .long vM, .long vH, .ref ao, .ref ax, .int (nI np), .ref ay, .int (nI nl), .ref ad, .ref al, .int (nI sn), .ref ag, .int (nI ((b + j) + 1)), .int (sr_va gg b (min j 6))])), (ag, .inl (kg, 200, .inl gg))] H := hP
                have hD : va_D A [(h0, .inr (7, [.int th, .int (nI nm), .ref ap, .int (nI no), .ref am, .ref aw, .ref az, .ref au, .int kn, .long vP, .long vQ, .long vS, .long vT, .long vB, .long vM, .long vH, .ref ao, .ref ax, .int (nI np), .ref ay, .int (nI nl), .ref ad, .ref al, .int (nI sn), .ref ag, .int (nI ((b + j) + 1)), .int (sr_va gg b (min j 6))])), (ag, .inl (kg, 200, .inl gg))] := hD
                refine lv_iload_n hx hb d_MD_reads_204 rfl (lv_at hl 4 rfl) ?_
                refine lv_if_le (tgt := 223) hx hb d_MD_reads_205 (by decide) (fun c_9 => ?_) (fun c_9 => ?_)
                · have n_10 := xn_le (a := j) (b := 0) c_9 rfl (by decide) (by omega) (by omega)
                  refine lv_iconst (v := 0) hx hb d_MD_reads_223 (by decide) ?_
                  have hP9 := hP.sub (ws' := [(h0, .inr (7, [.int th, .int (nI nm), .ref ap, .int (nI no), .ref am, .ref aw, .ref az, .ref au, .int kn, .long vP, .long vQ, .long vS, .long vT, .long vB, .long vM, .long vH, .ref ao, .ref ax, .int (nI np), .ref ay, .int (nI nl), .ref ad, .ref al, .int (nI sn), .ref ag, .int (nI ((b + j) + 1)), .int (sr_va gg b (min j 6))])), (ag, .inl (kg, 200, .inl gg))]) [0, 1] rfl
                  have hD9 := hD.sub (ws' := [(h0, .inr (7, [.int th, .int (nI nm), .ref ap, .int (nI no), .ref am, .ref aw, .ref az, .ref au, .int kn, .long vP, .long vQ, .long vS, .long vT, .long vB, .long vM, .long vH, .ref ao, .ref ax, .int (nI np), .ref ay, .int (nI nl), .ref ad, .ref al, .int (nI sn), .ref ag, .int (nI ((b + j) + 1)), .int (sr_va gg b (min j 6))])), (ag, .inl (kg, 200, .inl gg))]) [0, 1] (by decide) rfl
                  have hK9 := hK.sub (tys' := [(kg, .int)]) [0] rfl
                  exact W.zret (v := 0) (ty := .boolean) hx hb hr (by exact rfl) (fun t ht hW => ⟨⟨0, (), rfl, bI_n (by unfold md_rs md_np md_nd; rw [← hbe, ← he6]; exact fun q => absurd q.1 (by omega)), ⟨by rw [ht]; unfold md_np md_nv md_nd; rw [← hbe, ← he6, if_neg (fun q => absurd q.1 (by omega))]; exact hP9, va_K.moved hW.alike hK9, by unfold md_np md_nv md_nd; rw [← hbe, ← he6, if_neg (fun q => absurd q.1 (by omega))]; exact hD9⟩⟩, hS.F ht⟩) hS.2.2 d_MD_reads_224 hlocks
                · have n_11 := xn_nle (a := j) (b := 0) c_9 rfl (by decide) (by omega) (by omega)
                  refine lv_iload_n hx hb d_MD_reads_208 rfl (lv_at hl 4 rfl) ?_
                  refine lv_bipush (v := 7) hx hb d_MD_reads_209 (by decide) ?_
                  refine lv_icmp_ge (tgt := 223) hx hb d_MD_reads_211 (by decide) (fun c_12 => ?_) (fun c_12 => ?_)
                  · have n_13 := xn_le (a := 7) (b := j) c_12 (by decide) rfl (by omega) (by omega)
                    refine lv_iconst (v := 0) hx hb d_MD_reads_223 (by decide) ?_
                    have hP9 := hP.sub (ws' := [(h0, .inr (7, [.int th, .int (nI nm), .ref ap, .int (nI no), .ref am, .ref aw, .ref az, .ref au, .int kn, .long vP, .long vQ, .long vS, .long vT, .long vB, .long vM, .long vH, .ref ao, .ref ax, .int (nI np), .ref ay, .int (nI nl), .ref ad, .ref al, .int (nI sn), .ref ag, .int (nI ((b + j) + 1)), .int (sr_va gg b (min j 6))])), (ag, .inl (kg, 200, .inl gg))]) [0, 1] rfl
                    have hD9 := hD.sub (ws' := [(h0, .inr (7, [.int th, .int (nI nm), .ref ap, .int (nI no), .ref am, .ref aw, .ref az, .ref au, .int kn, .long vP, .long vQ, .long vS, .long vT, .long vB, .long vM, .long vH, .ref ao, .ref ax, .int (nI np), .ref ay, .int (nI nl), .ref ad, .ref al, .int (nI sn), .ref ag, .int (nI ((b + j) + 1)), .int (sr_va gg b (min j 6))])), (ag, .inl (kg, 200, .inl gg))]) [0, 1] (by decide) rfl
                    have hK9 := hK.sub (tys' := [(kg, .int)]) [0] rfl
                    exact W.zret (v := 0) (ty := .boolean) hx hb hr (by exact rfl) (fun t ht hW => ⟨⟨0, (), rfl, bI_n (by unfold md_rs md_np md_nd; rw [← hbe, ← he6]; exact fun q => absurd q.2.1 (by omega)), ⟨by rw [ht]; unfold md_np md_nv md_nd; rw [← hbe, ← he6, if_neg (fun q => absurd q.1 (by omega))]; exact hP9, va_K.moved hW.alike hK9, by unfold md_np md_nv md_nd; rw [← hbe, ← he6, if_neg (fun q => absurd q.1 (by omega))]; exact hD9⟩⟩, hS.F ht⟩) hS.2.2 d_MD_reads_224 hlocks
                  · have n_14 := xn_nle (a := 7) (b := j) c_12 (by decide) rfl (by omega) (by omega)
                    refine lv_iload hx hb d_MD_reads_214 (lv_at hl 0 rfl) ?_
                    refine lv_if_eq (tgt := 223) hx hb d_MD_reads_216 (by decide) (fun c_15 => ?_) (fun c_15 => ?_)
                    · refine lv_iconst (v := 0) hx hb d_MD_reads_223 (by decide) ?_
                      have hP9 := hP.sub (ws' := [(h0, .inr (7, [.int th, .int (nI nm), .ref ap, .int (nI no), .ref am, .ref aw, .ref az, .ref au, .int kn, .long vP, .long vQ, .long vS, .long vT, .long vB, .long vM, .long vH, .ref ao, .ref ax, .int (nI np), .ref ay, .int (nI nl), .ref ad, .ref al, .int (nI sn), .ref ag, .int (nI ((b + j) + 1)), .int (sr_va gg b (min j 6))])), (ag, .inl (kg, 200, .inl gg))]) [0, 1] rfl
                      have hD9 := hD.sub (ws' := [(h0, .inr (7, [.int th, .int (nI nm), .ref ap, .int (nI no), .ref am, .ref aw, .ref az, .ref au, .int kn, .long vP, .long vQ, .long vS, .long vT, .long vB, .long vM, .long vH, .ref ao, .ref ax, .int (nI np), .ref ay, .int (nI nl), .ref ad, .ref al, .int (nI sn), .ref ag, .int (nI ((b + j) + 1)), .int (sr_va gg b (min j 6))])), (ag, .inl (kg, 200, .inl gg))]) [0, 1] (by decide) rfl
                      have hK9 := hK.sub (tys' := [(kg, .int)]) [0] rfl
                      exact W.zret (v := 0) (ty := .boolean) hx hb hr (by exact rfl) (fun t ht hW => ⟨⟨0, (), rfl, bI_n (by unfold md_rs md_np md_nd; rw [← hbe, ← he6]; exact fun q => absurd q.2.2.1 (by omega)), ⟨by rw [ht]; unfold md_np md_nv md_nd; rw [← hbe, ← he6, if_neg (fun q => absurd q.1 (by omega))]; exact hP9, va_K.moved hW.alike hK9, by unfold md_np md_nv md_nd; rw [← hbe, ← he6, if_neg (fun q => absurd q.1 (by omega))]; exact hD9⟩⟩, hS.F ht⟩) hS.2.2 d_MD_reads_224 hlocks
                    · exact absurd c_15 (by decide)
              · have n_16 := xn_nle (a := sn) (b := (b + j)) c_7 rfl rfl (by omega) (by omega)
                refine lv_aload_n hx hb d_MD_reads_174 rfl (lv_at hl 0 rfl) ?_
                refine va_get (D := (dC, dI)) (ci := 7) (v := .ref ag) (C := xR_MD) (T := xT_MD) (N := 27) hx hb hts (fun w h => List.mem_cons_of_mem _ (iw_MD w h)) hown hK hP 0 rfl rfl 24 (by decide) (hts _ (List.mem_cons_of_mem _ wm_721)) (fun _ h9 => h9) rfl d_MD_reads_175 ?_
                refine lv_aload_n hx hb d_MD_reads_178 rfl (lv_at hl 0 rfl) ?_
                refine va_get (D := (dC, dI)) (ci := 7) (v := .int (nI (b + j))) (C := xR_MD) (T := xT_MD) (N := 27) hx hb hts (fun w h => List.mem_cons_of_mem _ (iw_MD w h)) hown hK hP 0 rfl rfl 25 (by decide) (hts _ (List.mem_cons_of_mem _ wm_722)) (fun _ h9 => h9) rfl d_MD_reads_179 ?_
                refine xa_iald hx hb hK hP 1 0 rfl rfl (b + j) rfl (by omega) (by decide) d_MD_reads_182 ?_
                refine lv_iload_n hx hb d_MD_reads_183 rfl (lv_at hl 1 rfl) ?_
                refine lv_icmp_ne (tgt := 191) hx hb d_MD_reads_184 (by decide) (fun c_17 => ?_) (fun c_17 => ?_)
                · refine lv_iconst (v := 0) hx hb d_MD_reads_191 (by decide) ?_
                  refine lv_istore (lv' := [(4, .int 0), (0, .ref h0), (1, .int a), (2, .int 0), (3, .int (nI j))]) hx hb d_MD_reads_192 hl (by decide) rfl (fun ls hl => ?_)
                  refine lv_aload_n hx hb d_MD_reads_194 rfl (lv_at hl 1 rfl) ?_
                  refine lv_dup hx hb d_MD_reads_195 rfl ?_
                  refine va_get (D := (dC, dI)) (ci := 7) (v := .int (nI (b + j))) (C := xR_MD) (T := xT_MD) (N := 27) hx hb hts (fun w h => List.mem_cons_of_mem _ (iw_MD w h)) hown hK hP 0 rfl rfl 25 (by decide) (hts _ (List.mem_cons_of_mem _ wm_722)) (fun _ h9 => h9) rfl d_MD_reads_196 ?_
                  refine lv_iconst (v := 1) hx hb d_MD_reads_199 (by decide) ?_
                  refine lv_iadd hx hb d_MD_reads_200 ?_
                  refine xv_i (y := nI ((b + j) + 1)) (nI_1 _) ?_
                  refine va_put (D := (dC, dI)) (ci := 7) (v := .int (nI ((b + j) + 1))) (ty := .int) (C := xR_MD) (T := xT_MD) (N := 27) hx hb hts (fun w h => List.mem_cons_of_mem _ (iw_MD w h)) xt_MD xt_MD_ok xn_MD_nm hown hK hP hD hS 0 rfl rfl 25 (by decide) (hts _ (List.mem_cons_of_mem _ wm_722)) (fun _ h9 => h9) rfl (by decide +kernel) rfl rfl (Nat.le_of_ble_eq_true rfl) d_MD_reads_201 (fun H locs hP hD hS => ?_)
                  have hP : va_P (dC, dI) xCl [(h0, .inr (7, [.int th, .int (nI nm), .ref ap, .int (nI no), .ref am, .ref aw, .ref az, .ref au, .int kn, .long vP, .long vQ, .long vS, .long vT, .long vB, .long vM, .long vH, .ref ao, .ref ax, .int (nI np), .ref ay, .int (nI nl), .ref ad, .ref al, .int (nI sn), .ref ag, .int (nI ((b + j) + 1)), .int (sr_va gg b (min j 6))])), (ag, .inl (kg, 200, .inl gg))] H := hP
                  have hD : va_D A [(h0, .inr (7, [.int th, .int (nI nm), .ref ap, .int (nI no), .ref am, .ref aw, .ref az, .ref au, .int kn, .long vP, .long vQ, .long vS, .long vT, .long vB, .long vM, .long vH, .ref ao, .ref ax, .int (nI np), .ref ay, .int (nI nl), .ref ad, .ref al, .int (nI sn), .ref ag, .int (nI ((b + j) + 1)), .int (sr_va gg b (min j 6))])), (ag, .inl (kg, 200, .inl gg))] := hD
                  refine lv_iload_n hx hb d_MD_reads_204 rfl (lv_at hl 4 rfl) ?_
                  refine lv_if_le (tgt := 223) hx hb d_MD_reads_205 (by decide) (fun c_18 => ?_) (fun c_18 => ?_)
                  · have n_19 := xn_le (a := j) (b := 0) c_18 rfl (by decide) (by omega) (by omega)
                    refine lv_iconst (v := 0) hx hb d_MD_reads_223 (by decide) ?_
                    have hP9 := hP.sub (ws' := [(h0, .inr (7, [.int th, .int (nI nm), .ref ap, .int (nI no), .ref am, .ref aw, .ref az, .ref au, .int kn, .long vP, .long vQ, .long vS, .long vT, .long vB, .long vM, .long vH, .ref ao, .ref ax, .int (nI np), .ref ay, .int (nI nl), .ref ad, .ref al, .int (nI sn), .ref ag, .int (nI ((b + j) + 1)), .int (sr_va gg b (min j 6))])), (ag, .inl (kg, 200, .inl gg))]) [0, 1] rfl
                    have hD9 := hD.sub (ws' := [(h0, .inr (7, [.int th, .int (nI nm), .ref ap, .int (nI no), .ref am, .ref aw, .ref az, .ref au, .int kn, .long vP, .long vQ, .long vS, .long vT, .long vB, .long vM, .long vH, .ref ao, .ref ax, .int (nI np), .ref ay, .int (nI nl), .ref ad, .ref al, .int (nI sn), .ref ag, .int (nI ((b + j) + 1)), .int (sr_va gg b (min j 6))])), (ag, .inl (kg, 200, .inl gg))]) [0, 1] (by decide) rfl
                    have hK9 := hK.sub (tys' := [(kg, .int)]) [0] rfl
                    exact W.zret (v := 0) (ty := .boolean) hx hb hr (by exact rfl) (fun t ht hW => ⟨⟨0, (), rfl, bI_n (by unfold md_rs md_np md_nd; rw [← hbe, ← he6]; exact fun q => absurd q.1 (by omega)), ⟨by rw [ht]; unfold md_np md_nv md_nd; rw [← hbe, ← he6, if_neg (fun q => absurd q.1 (by omega))]; exact hP9, va_K.moved hW.alike hK9, by unfold md_np md_nv md_nd; rw [← hbe, ← he6, if_neg (fun q => absurd q.1 (by omega))]; exact hD9⟩⟩, hS.F ht⟩) hS.2.2 d_MD_reads_224 hlocks
                  · have n_20 := xn_nle (a := j) (b := 0) c_18 rfl (by decide) (by omega) (by omega)
                    refine lv_iload_n hx hb d_MD_reads_208 rfl (lv_at hl 4 rfl) ?_
                    refine lv_bipush (v := 7) hx hb d_MD_reads_209 (by decide) ?_
                    refine lv_icmp_ge (tgt := 223) hx hb d_MD_reads_211 (by decide) (fun c_21 => ?_) (fun c_21 => ?_)
                    · have n_22 := xn_le (a := 7) (b := j) c_21 (by decide) rfl (by omega) (by omega)
                      refine lv_iconst (v := 0) hx hb d_MD_reads_223 (by decide) ?_
                      have hP9 := hP.sub (ws' := [(h0, .inr (7, [.int th, .int (nI nm), .ref ap, .int (nI no), .ref am, .ref aw, .ref az, .ref au, .int kn, .long vP, .long vQ, .long vS, .long vT, .long vB, .long vM, .long vH, .ref ao, .ref ax, .int (nI np), .ref ay, .int (nI nl), .ref ad, .ref al, .int (nI sn), .ref ag, .int (nI ((b + j) + 1)), .int (sr_va gg b (min j 6))])), (ag, .inl (kg, 200, .inl gg))]) [0, 1] rfl
                      have hD9 := hD.sub (ws' := [(h0, .inr (7, [.int th, .int (nI nm), .ref ap, .int (nI no), .ref am, .ref aw, .ref az, .ref au, .int kn, .long vP, .long vQ, .long vS, .long vT, .long vB, .long vM, .long vH, .ref ao, .ref ax, .int (nI np), .ref ay, .int (nI nl), .ref ad, .ref al, .int (nI sn), .ref ag, .int (nI ((b + j) + 1)), .int (sr_va gg b (min j 6))])), (ag, .inl (kg, 200, .inl gg))]) [0, 1] (by decide) rfl
                      have hK9 := hK.sub (tys' := [(kg, .int)]) [0] rfl
                      exact W.zret (v := 0) (ty := .boolean) hx hb hr (by exact rfl) (fun t ht hW => ⟨⟨0, (), rfl, bI_n (by unfold md_rs md_np md_nd; rw [← hbe, ← he6]; exact fun q => absurd q.2.1 (by omega)), ⟨by rw [ht]; unfold md_np md_nv md_nd; rw [← hbe, ← he6, if_neg (fun q => absurd q.1 (by omega))]; exact hP9, va_K.moved hW.alike hK9, by unfold md_np md_nv md_nd; rw [← hbe, ← he6, if_neg (fun q => absurd q.1 (by omega))]; exact hD9⟩⟩, hS.F ht⟩) hS.2.2 d_MD_reads_224 hlocks
                    · have n_23 := xn_nle (a := 7) (b := j) c_21 (by decide) rfl (by omega) (by omega)
                      refine lv_iload hx hb d_MD_reads_214 (lv_at hl 0 rfl) ?_
                      refine lv_if_eq (tgt := 223) hx hb d_MD_reads_216 (by decide) (fun c_24 => ?_) (fun c_24 => ?_)
                      · refine lv_iconst (v := 0) hx hb d_MD_reads_223 (by decide) ?_
                        have hP9 := hP.sub (ws' := [(h0, .inr (7, [.int th, .int (nI nm), .ref ap, .int (nI no), .ref am, .ref aw, .ref az, .ref au, .int kn, .long vP, .long vQ, .long vS, .long vT, .long vB, .long vM, .long vH, .ref ao, .ref ax, .int (nI np), .ref ay, .int (nI nl), .ref ad, .ref al, .int (nI sn), .ref ag, .int (nI ((b + j) + 1)), .int (sr_va gg b (min j 6))])), (ag, .inl (kg, 200, .inl gg))]) [0, 1] rfl
                        have hD9 := hD.sub (ws' := [(h0, .inr (7, [.int th, .int (nI nm), .ref ap, .int (nI no), .ref am, .ref aw, .ref az, .ref au, .int kn, .long vP, .long vQ, .long vS, .long vT, .long vB, .long vM, .long vH, .ref ao, .ref ax, .int (nI np), .ref ay, .int (nI nl), .ref ad, .ref al, .int (nI sn), .ref ag, .int (nI ((b + j) + 1)), .int (sr_va gg b (min j 6))])), (ag, .inl (kg, 200, .inl gg))]) [0, 1] (by decide) rfl
                        have hK9 := hK.sub (tys' := [(kg, .int)]) [0] rfl
                        exact W.zret (v := 0) (ty := .boolean) hx hb hr (by exact rfl) (fun t ht hW => ⟨⟨0, (), rfl, bI_n (by unfold md_rs md_np md_nd; rw [← hbe, ← he6]; exact fun q => c_17 q.2.2.2), ⟨by rw [ht]; unfold md_np md_nv md_nd; rw [← hbe, ← he6, if_neg (fun q => absurd q.1 (by omega))]; exact hP9, va_K.moved hW.alike hK9, by unfold md_np md_nv md_nd; rw [← hbe, ← he6, if_neg (fun q => absurd q.1 (by omega))]; exact hD9⟩⟩, hS.F ht⟩) hS.2.2 d_MD_reads_224 hlocks
                      · exact absurd c_24 (by decide)
                · refine lv_iconst (v := 1) hx hb d_MD_reads_187 (by decide) ?_
                  refine lv_goto (tgt := 192) hx hb d_MD_reads_188 (by decide) ?_
                  refine lv_istore (lv' := [(4, .int 1), (0, .ref h0), (1, .int a), (2, .int 0), (3, .int (nI j))]) hx hb d_MD_reads_192 hl (by decide) rfl (fun ls hl => ?_)
                  refine lv_aload_n hx hb d_MD_reads_194 rfl (lv_at hl 1 rfl) ?_
                  refine lv_dup hx hb d_MD_reads_195 rfl ?_
                  refine va_get (D := (dC, dI)) (ci := 7) (v := .int (nI (b + j))) (C := xR_MD) (T := xT_MD) (N := 27) hx hb hts (fun w h => List.mem_cons_of_mem _ (iw_MD w h)) hown hK hP 0 rfl rfl 25 (by decide) (hts _ (List.mem_cons_of_mem _ wm_722)) (fun _ h9 => h9) rfl d_MD_reads_196 ?_
                  refine lv_iconst (v := 1) hx hb d_MD_reads_199 (by decide) ?_
                  refine lv_iadd hx hb d_MD_reads_200 ?_
                  refine xv_i (y := nI ((b + j) + 1)) (nI_1 _) ?_
                  refine va_put (D := (dC, dI)) (ci := 7) (v := .int (nI ((b + j) + 1))) (ty := .int) (C := xR_MD) (T := xT_MD) (N := 27) hx hb hts (fun w h => List.mem_cons_of_mem _ (iw_MD w h)) xt_MD xt_MD_ok xn_MD_nm hown hK hP hD hS 0 rfl rfl 25 (by decide) (hts _ (List.mem_cons_of_mem _ wm_722)) (fun _ h9 => h9) rfl (by decide +kernel) rfl rfl (Nat.le_of_ble_eq_true rfl) d_MD_reads_201 (fun H locs hP hD hS => ?_)
                  have hP : va_P (dC, dI) xCl [(h0, .inr (7, [.int th, .int (nI nm), .ref ap, .int (nI no), .ref am, .ref aw, .ref az, .ref au, .int kn, .long vP, .long vQ, .long vS, .long vT, .long vB, .long vM, .long vH, .ref ao, .ref ax, .int (nI np), .ref ay, .int (nI nl), .ref ad, .ref al, .int (nI sn), .ref ag, .int (nI ((b + j) + 1)), .int (sr_va gg b (min j 6))])), (ag, .inl (kg, 200, .inl gg))] H := hP
                  have hD : va_D A [(h0, .inr (7, [.int th, .int (nI nm), .ref ap, .int (nI no), .ref am, .ref aw, .ref az, .ref au, .int kn, .long vP, .long vQ, .long vS, .long vT, .long vB, .long vM, .long vH, .ref ao, .ref ax, .int (nI np), .ref ay, .int (nI nl), .ref ad, .ref al, .int (nI sn), .ref ag, .int (nI ((b + j) + 1)), .int (sr_va gg b (min j 6))])), (ag, .inl (kg, 200, .inl gg))] := hD
                  refine lv_iload_n hx hb d_MD_reads_204 rfl (lv_at hl 4 rfl) ?_
                  refine lv_if_le (tgt := 223) hx hb d_MD_reads_205 (by decide) (fun c_25 => ?_) (fun c_25 => ?_)
                  · have n_26 := xn_le (a := j) (b := 0) c_25 rfl (by decide) (by omega) (by omega)
                    refine lv_iconst (v := 0) hx hb d_MD_reads_223 (by decide) ?_
                    have hP9 := hP.sub (ws' := [(h0, .inr (7, [.int th, .int (nI nm), .ref ap, .int (nI no), .ref am, .ref aw, .ref az, .ref au, .int kn, .long vP, .long vQ, .long vS, .long vT, .long vB, .long vM, .long vH, .ref ao, .ref ax, .int (nI np), .ref ay, .int (nI nl), .ref ad, .ref al, .int (nI sn), .ref ag, .int (nI ((b + j) + 1)), .int (sr_va gg b (min j 6))])), (ag, .inl (kg, 200, .inl gg))]) [0, 1] rfl
                    have hD9 := hD.sub (ws' := [(h0, .inr (7, [.int th, .int (nI nm), .ref ap, .int (nI no), .ref am, .ref aw, .ref az, .ref au, .int kn, .long vP, .long vQ, .long vS, .long vT, .long vB, .long vM, .long vH, .ref ao, .ref ax, .int (nI np), .ref ay, .int (nI nl), .ref ad, .ref al, .int (nI sn), .ref ag, .int (nI ((b + j) + 1)), .int (sr_va gg b (min j 6))])), (ag, .inl (kg, 200, .inl gg))]) [0, 1] (by decide) rfl
                    have hK9 := hK.sub (tys' := [(kg, .int)]) [0] rfl
                    exact W.zret (v := 0) (ty := .boolean) hx hb hr (by exact rfl) (fun t ht hW => ⟨⟨0, (), rfl, bI_n (by unfold md_rs md_np md_nd; rw [← hbe, ← he6]; exact fun q => absurd q.1 (by omega)), ⟨by rw [ht]; unfold md_np md_nv md_nd; rw [← hbe, ← he6, if_neg (fun q => absurd q.1 (by omega))]; exact hP9, va_K.moved hW.alike hK9, by unfold md_np md_nv md_nd; rw [← hbe, ← he6, if_neg (fun q => absurd q.1 (by omega))]; exact hD9⟩⟩, hS.F ht⟩) hS.2.2 d_MD_reads_224 hlocks
                  · have n_27 := xn_nle (a := j) (b := 0) c_25 rfl (by decide) (by omega) (by omega)
                    refine lv_iload_n hx hb d_MD_reads_208 rfl (lv_at hl 4 rfl) ?_
                    refine lv_bipush (v := 7) hx hb d_MD_reads_209 (by decide) ?_
                    refine lv_icmp_ge (tgt := 223) hx hb d_MD_reads_211 (by decide) (fun c_28 => ?_) (fun c_28 => ?_)
                    · have n_29 := xn_le (a := 7) (b := j) c_28 (by decide) rfl (by omega) (by omega)
                      refine lv_iconst (v := 0) hx hb d_MD_reads_223 (by decide) ?_
                      have hP9 := hP.sub (ws' := [(h0, .inr (7, [.int th, .int (nI nm), .ref ap, .int (nI no), .ref am, .ref aw, .ref az, .ref au, .int kn, .long vP, .long vQ, .long vS, .long vT, .long vB, .long vM, .long vH, .ref ao, .ref ax, .int (nI np), .ref ay, .int (nI nl), .ref ad, .ref al, .int (nI sn), .ref ag, .int (nI ((b + j) + 1)), .int (sr_va gg b (min j 6))])), (ag, .inl (kg, 200, .inl gg))]) [0, 1] rfl
                      have hD9 := hD.sub (ws' := [(h0, .inr (7, [.int th, .int (nI nm), .ref ap, .int (nI no), .ref am, .ref aw, .ref az, .ref au, .int kn, .long vP, .long vQ, .long vS, .long vT, .long vB, .long vM, .long vH, .ref ao, .ref ax, .int (nI np), .ref ay, .int (nI nl), .ref ad, .ref al, .int (nI sn), .ref ag, .int (nI ((b + j) + 1)), .int (sr_va gg b (min j 6))])), (ag, .inl (kg, 200, .inl gg))]) [0, 1] (by decide) rfl
                      have hK9 := hK.sub (tys' := [(kg, .int)]) [0] rfl
                      exact W.zret (v := 0) (ty := .boolean) hx hb hr (by exact rfl) (fun t ht hW => ⟨⟨0, (), rfl, bI_n (by unfold md_rs md_np md_nd; rw [← hbe, ← he6]; exact fun q => absurd q.2.1 (by omega)), ⟨by rw [ht]; unfold md_np md_nv md_nd; rw [← hbe, ← he6, if_neg (fun q => absurd q.1 (by omega))]; exact hP9, va_K.moved hW.alike hK9, by unfold md_np md_nv md_nd; rw [← hbe, ← he6, if_neg (fun q => absurd q.1 (by omega))]; exact hD9⟩⟩, hS.F ht⟩) hS.2.2 d_MD_reads_224 hlocks
                    · have n_30 := xn_nle (a := 7) (b := j) c_28 (by decide) rfl (by omega) (by omega)
                      refine lv_iload hx hb d_MD_reads_214 (lv_at hl 0 rfl) ?_
                      refine lv_if_eq (tgt := 223) hx hb d_MD_reads_216 (by decide) (fun c_31 => ?_) (fun c_31 => ?_)
                      · exact absurd c_31 (by decide)
                      · refine lv_iconst (v := 1) hx hb d_MD_reads_219 (by decide) ?_
                        refine lv_goto (tgt := 224) hx hb d_MD_reads_220 (by decide) ?_
                        have hP9 := hP.sub (ws' := [(h0, .inr (7, [.int th, .int (nI nm), .ref ap, .int (nI no), .ref am, .ref aw, .ref az, .ref au, .int kn, .long vP, .long vQ, .long vS, .long vT, .long vB, .long vM, .long vH, .ref ao, .ref ax, .int (nI np), .ref ay, .int (nI nl), .ref ad, .ref al, .int (nI sn), .ref ag, .int (nI ((b + j) + 1)), .int (sr_va gg b (min j 6))])), (ag, .inl (kg, 200, .inl gg))]) [0, 1] rfl
                        have hD9 := hD.sub (ws' := [(h0, .inr (7, [.int th, .int (nI nm), .ref ap, .int (nI no), .ref am, .ref aw, .ref az, .ref au, .int kn, .long vP, .long vQ, .long vS, .long vT, .long vB, .long vM, .long vH, .ref ao, .ref ax, .int (nI np), .ref ay, .int (nI nl), .ref ad, .ref al, .int (nI sn), .ref ag, .int (nI ((b + j) + 1)), .int (sr_va gg b (min j 6))])), (ag, .inl (kg, 200, .inl gg))]) [0, 1] (by decide) rfl
                        have hK9 := hK.sub (tys' := [(kg, .int)]) [0] rfl
                        exact W.zret (v := 1) (ty := .boolean) hx hb hr (by exact rfl) (fun t ht hW => ⟨⟨1, (), rfl, bI_p (by unfold md_rs md_np md_nd; rw [← hbe, ← he6]; exact ⟨n_27, n_30, n_16, c_17⟩), ⟨by rw [ht]; unfold md_np md_nv md_nd; rw [← hbe, ← he6, if_neg (fun q => absurd q.1 (by omega))]; exact hP9, va_K.moved hW.alike hK9, by unfold md_np md_nv md_nd; rw [← hbe, ← he6, if_neg (fun q => absurd q.1 (by omega))]; exact hD9⟩⟩, hS.F ht⟩) hS.2.2 d_MD_reads_224 hlocks
            · exact absurd c_6 (by decide)
          · have n_32 := xn_nle (a := sn) (b := (b + j)) c_4 rfl rfl (by omega) (by omega)
            refine lv_aload_n hx hb d_MD_reads_70 rfl (lv_at hl 0 rfl) ?_
            refine va_get (D := (dC, dI)) (ci := 7) (v := .ref ag) (C := xR_MD) (T := xT_MD) (N := 27) hx hb hts (fun w h => List.mem_cons_of_mem _ (iw_MD w h)) hown hK hP 0 rfl rfl 24 (by decide) (hts _ (List.mem_cons_of_mem _ wm_721)) (fun _ h9 => h9) rfl d_MD_reads_71 ?_
            refine lv_aload_n hx hb d_MD_reads_74 rfl (lv_at hl 0 rfl) ?_
            refine va_get (D := (dC, dI)) (ci := 7) (v := .int (nI (b + j))) (C := xR_MD) (T := xT_MD) (N := 27) hx hb hts (fun w h => List.mem_cons_of_mem _ (iw_MD w h)) hown hK hP 0 rfl rfl 25 (by decide) (hts _ (List.mem_cons_of_mem _ wm_722)) (fun _ h9 => h9) rfl d_MD_reads_75 ?_
            refine xa_iald hx hb hK hP 1 0 rfl rfl (b + j) rfl (by omega) (by decide) d_MD_reads_78 ?_
            refine lv_bipush (v := 48) hx hb d_MD_reads_79 (by decide) ?_
            refine lv_bipush (v := 57) hx hb d_MD_reads_81 (by decide) ?_
            refine xr_calli (va_runS (As := [.int (gg (b + j)), .int 48, .int 57]) (rest := []) ⟨hx, hb, hml, hown, hts⟩ (c_MD_within l dC dI (gg (b + j)) 48 57) (va_cwS 3 hts (xgS wm_790 wm_791 wm_34 wm_792) rfl rfl rfl (by decide +kernel) ⟨Nat.le_of_ble_eq_true rfl, Nat.le_of_ble_eq_true rfl⟩) ⟨xp_blind, fun U hU hW => ⟨rfl, hz.warm hW, by rw [hU]; exact hP.sub [] rfl, va_K.moved hW.alike (hK.sub [] rfl)⟩⟩ rfl rfl hl.1 rfl (lv_room (Nat.le_of_ble_eq_true rfl)) d_MD_reads_83 ⟨Nat.le_of_ble_eq_true rfl, Nat.le_of_ble_eq_true rfl⟩) (fun r_33 h_34 => ?_)
            subst h_34
            refine lv_if_eq (tgt := 142) hx hb d_MD_reads_86 (by decide) (fun c_35 => ?_) (fun c_35 => ?_)
            · have b_36 := bI_f (rfl : bI (md_win (gg (b + j)) 48 57) = _) c_35
              have he6 : j = sr_dn gg sn b 201 := md_dn_n b_36 hdn
              refine lv_aload_n hx hb d_MD_reads_142 rfl (lv_at hl 0 rfl) ?_
              refine lv_iload_n hx hb d_MD_reads_143 rfl (lv_at hl 2 rfl) ?_
              refine lv_if_eq (tgt := 156) hx hb d_MD_reads_144 (by decide) (fun c_37 => ?_) (fun c_37 => ?_)
              · refine lv_aload_n hx hb d_MD_reads_156 rfl (lv_at hl 0 rfl) ?_
                refine va_get (D := (dC, dI)) (ci := 7) (v := .int (sr_va gg b (min j 6))) (C := xR_MD) (T := xT_MD) (N := 27) hx hb hts (fun w h => List.mem_cons_of_mem _ (iw_MD w h)) hown hK hP 0 rfl rfl 26 (by decide) (hts _ (List.mem_cons_of_mem _ wm_723)) (fun _ h9 => h9) rfl d_MD_reads_157 ?_
                refine va_put (D := (dC, dI)) (ci := 7) (v := .int (sr_va gg b (min j 6))) (ty := .int) (C := xR_MD) (T := xT_MD) (N := 27) hx hb hts (fun w h => List.mem_cons_of_mem _ (iw_MD w h)) xt_MD xt_MD_ok xn_MD_nm hown hK hP hD hS 0 rfl rfl 26 (by decide) (hts _ (List.mem_cons_of_mem _ wm_723)) (fun _ h9 => h9) rfl (by decide +kernel) rfl rfl (Nat.le_of_ble_eq_true rfl) d_MD_reads_160 (fun H locs hP hD hS => ?_)
                have hP : va_P (dC, dI) xCl [(h0, .inr (7, [.int th, .int (nI nm), .ref ap, .int (nI no), .ref am, .ref aw, .ref az, .ref au, .int kn, .long vP, .long vQ, .long vS, .long vT, .long vB, .long vM, .long vH, .ref ao, .ref ax, .int (nI np), .ref ay, .int (nI nl), .ref ad, .ref al, .int (nI sn), .ref ag, .int (nI (b + j)), .int (sr_va gg b (min j 6))])), (ag, .inl (kg, 200, .inl gg))] H := hP
                have hD : va_D A [(h0, .inr (7, [.int th, .int (nI nm), .ref ap, .int (nI no), .ref am, .ref aw, .ref az, .ref au, .int kn, .long vP, .long vQ, .long vS, .long vT, .long vB, .long vM, .long vH, .ref ao, .ref ax, .int (nI np), .ref ay, .int (nI nl), .ref ad, .ref al, .int (nI sn), .ref ag, .int (nI (b + j)), .int (sr_va gg b (min j 6))])), (ag, .inl (kg, 200, .inl gg))] := hD
                refine lv_aload_n hx hb d_MD_reads_163 rfl (lv_at hl 0 rfl) ?_
                refine va_get (D := (dC, dI)) (ci := 7) (v := .int (nI (b + j))) (C := xR_MD) (T := xT_MD) (N := 27) hx hb hts (fun w h => List.mem_cons_of_mem _ (iw_MD w h)) hown hK hP 0 rfl rfl 25 (by decide) (hts _ (List.mem_cons_of_mem _ wm_722)) (fun _ h9 => h9) rfl d_MD_reads_164 ?_
                refine lv_aload_n hx hb d_MD_reads_167 rfl (lv_at hl 0 rfl) ?_
                refine va_get (D := (dC, dI)) (ci := 7) (v := .int (nI sn)) (C := xR_MD) (T := xT_MD) (N := 27) hx hb hts (fun w h => List.mem_cons_of_mem _ (iw_MD w h)) hown hK hP 0 rfl rfl 23 (by decide) (hts _ (List.mem_cons_of_mem _ wm_720)) (fun _ h9 => h9) rfl d_MD_reads_168 ?_
                refine lv_icmp_ge (tgt := 191) hx hb d_MD_reads_171 (by decide) (fun c_38 => ?_) (fun c_38 => ?_)
                · have n_39 := xn_le (a := sn) (b := (b + j)) c_38 rfl rfl (by omega) (by omega)
                  refine lv_iconst (v := 0) hx hb d_MD_reads_191 (by decide) ?_
                  refine lv_istore (lv' := [(4, .int 0), (0, .ref h0), (1, .int a), (2, .int 0), (3, .int (nI j))]) hx hb d_MD_reads_192 hl (by decide) rfl (fun ls hl => ?_)
                  refine lv_aload_n hx hb d_MD_reads_194 rfl (lv_at hl 1 rfl) ?_
                  refine lv_dup hx hb d_MD_reads_195 rfl ?_
                  refine va_get (D := (dC, dI)) (ci := 7) (v := .int (nI (b + j))) (C := xR_MD) (T := xT_MD) (N := 27) hx hb hts (fun w h => List.mem_cons_of_mem _ (iw_MD w h)) hown hK hP 0 rfl rfl 25 (by decide) (hts _ (List.mem_cons_of_mem _ wm_722)) (fun _ h9 => h9) rfl d_MD_reads_196 ?_
                  refine lv_iconst (v := 1) hx hb d_MD_reads_199 (by decide) ?_
                  refine lv_iadd hx hb d_MD_reads_200 ?_
                  refine xv_i (y := nI ((b + j) + 1)) (nI_1 _) ?_
                  refine va_put (D := (dC, dI)) (ci := 7) (v := .int (nI ((b + j) + 1))) (ty := .int) (C := xR_MD) (T := xT_MD) (N := 27) hx hb hts (fun w h => List.mem_cons_of_mem _ (iw_MD w h)) xt_MD xt_MD_ok xn_MD_nm hown hK hP hD hS 0 rfl rfl 25 (by decide) (hts _ (List.mem_cons_of_mem _ wm_722)) (fun _ h9 => h9) rfl (by decide +kernel) rfl rfl (Nat.le_of_ble_eq_true rfl) d_MD_reads_201 (fun H locs hP hD hS => ?_)
                  have hP : va_P (dC, dI) xCl [(h0, .inr (7, [.int th, .int (nI nm), .ref ap, .int (nI no), .ref am, .ref aw, .ref az, .ref au, .int kn, .long vP, .long vQ, .long vS, .long vT, .long vB, .long vM, .long vH, .ref ao, .ref ax, .int (nI np), .ref ay, .int (nI nl), .ref ad, .ref al, .int (nI sn), .ref ag, .int (nI ((b + j) + 1)), .int (sr_va gg b (min j 6))])), (ag, .inl (kg, 200, .inl gg))] H := hP
                  have hD : va_D A [(h0, .inr (7, [.int th, .int (nI nm), .ref ap, .int (nI no), .ref am, .ref aw, .ref az, .ref au, .int kn, .long vP, .long vQ, .long vS, .long vT, .long vB, .long vM, .long vH, .ref ao, .ref ax, .int (nI np), .ref ay, .int (nI nl), .ref ad, .ref al, .int (nI sn), .ref ag, .int (nI ((b + j) + 1)), .int (sr_va gg b (min j 6))])), (ag, .inl (kg, 200, .inl gg))] := hD
                  refine lv_iload_n hx hb d_MD_reads_204 rfl (lv_at hl 4 rfl) ?_
                  refine lv_if_le (tgt := 223) hx hb d_MD_reads_205 (by decide) (fun c_40 => ?_) (fun c_40 => ?_)
                  · have n_41 := xn_le (a := j) (b := 0) c_40 rfl (by decide) (by omega) (by omega)
                    refine lv_iconst (v := 0) hx hb d_MD_reads_223 (by decide) ?_
                    have hP9 := hP.sub (ws' := [(h0, .inr (7, [.int th, .int (nI nm), .ref ap, .int (nI no), .ref am, .ref aw, .ref az, .ref au, .int kn, .long vP, .long vQ, .long vS, .long vT, .long vB, .long vM, .long vH, .ref ao, .ref ax, .int (nI np), .ref ay, .int (nI nl), .ref ad, .ref al, .int (nI sn), .ref ag, .int (nI ((b + j) + 1)), .int (sr_va gg b (min j 6))])), (ag, .inl (kg, 200, .inl gg))]) [0, 1] rfl
                    have hD9 := hD.sub (ws' := [(h0, .inr (7, [.int th, .int (nI nm), .ref ap, .int (nI no), .ref am, .ref aw, .ref az, .ref au, .int kn, .long vP, .long vQ, .long vS, .long vT, .long vB, .long vM, .long vH, .ref ao, .ref ax, .int (nI np), .ref ay, .int (nI nl), .ref ad, .ref al, .int (nI sn), .ref ag, .int (nI ((b + j) + 1)), .int (sr_va gg b (min j 6))])), (ag, .inl (kg, 200, .inl gg))]) [0, 1] (by decide) rfl
                    have hK9 := hK.sub (tys' := [(kg, .int)]) [0] rfl
                    exact W.zret (v := 0) (ty := .boolean) hx hb hr (by exact rfl) (fun t ht hW => ⟨⟨0, (), rfl, bI_n (by unfold md_rs md_np md_nd; rw [← hbe, ← he6]; exact fun q => absurd q.1 (by omega)), ⟨by rw [ht]; unfold md_np md_nv md_nd; rw [← hbe, ← he6, if_neg (fun q => absurd q.1 (by omega))]; exact hP9, va_K.moved hW.alike hK9, by unfold md_np md_nv md_nd; rw [← hbe, ← he6, if_neg (fun q => absurd q.1 (by omega))]; exact hD9⟩⟩, hS.F ht⟩) hS.2.2 d_MD_reads_224 hlocks
                  · have n_42 := xn_nle (a := j) (b := 0) c_40 rfl (by decide) (by omega) (by omega)
                    refine lv_iload_n hx hb d_MD_reads_208 rfl (lv_at hl 4 rfl) ?_
                    refine lv_bipush (v := 7) hx hb d_MD_reads_209 (by decide) ?_
                    refine lv_icmp_ge (tgt := 223) hx hb d_MD_reads_211 (by decide) (fun c_43 => ?_) (fun c_43 => ?_)
                    · have n_44 := xn_le (a := 7) (b := j) c_43 (by decide) rfl (by omega) (by omega)
                      refine lv_iconst (v := 0) hx hb d_MD_reads_223 (by decide) ?_
                      have hP9 := hP.sub (ws' := [(h0, .inr (7, [.int th, .int (nI nm), .ref ap, .int (nI no), .ref am, .ref aw, .ref az, .ref au, .int kn, .long vP, .long vQ, .long vS, .long vT, .long vB, .long vM, .long vH, .ref ao, .ref ax, .int (nI np), .ref ay, .int (nI nl), .ref ad, .ref al, .int (nI sn), .ref ag, .int (nI ((b + j) + 1)), .int (sr_va gg b (min j 6))])), (ag, .inl (kg, 200, .inl gg))]) [0, 1] rfl
                      have hD9 := hD.sub (ws' := [(h0, .inr (7, [.int th, .int (nI nm), .ref ap, .int (nI no), .ref am, .ref aw, .ref az, .ref au, .int kn, .long vP, .long vQ, .long vS, .long vT, .long vB, .long vM, .long vH, .ref ao, .ref ax, .int (nI np), .ref ay, .int (nI nl), .ref ad, .ref al, .int (nI sn), .ref ag, .int (nI ((b + j) + 1)), .int (sr_va gg b (min j 6))])), (ag, .inl (kg, 200, .inl gg))]) [0, 1] (by decide) rfl
                      have hK9 := hK.sub (tys' := [(kg, .int)]) [0] rfl
                      exact W.zret (v := 0) (ty := .boolean) hx hb hr (by exact rfl) (fun t ht hW => ⟨⟨0, (), rfl, bI_n (by unfold md_rs md_np md_nd; rw [← hbe, ← he6]; exact fun q => absurd q.2.1 (by omega)), ⟨by rw [ht]; unfold md_np md_nv md_nd; rw [← hbe, ← he6, if_neg (fun q => absurd q.1 (by omega))]; exact hP9, va_K.moved hW.alike hK9, by unfold md_np md_nv md_nd; rw [← hbe, ← he6, if_neg (fun q => absurd q.1 (by omega))]; exact hD9⟩⟩, hS.F ht⟩) hS.2.2 d_MD_reads_224 hlocks
                    · have n_45 := xn_nle (a := 7) (b := j) c_43 (by decide) rfl (by omega) (by omega)
                      refine lv_iload hx hb d_MD_reads_214 (lv_at hl 0 rfl) ?_
                      refine lv_if_eq (tgt := 223) hx hb d_MD_reads_216 (by decide) (fun c_46 => ?_) (fun c_46 => ?_)
                      · refine lv_iconst (v := 0) hx hb d_MD_reads_223 (by decide) ?_
                        have hP9 := hP.sub (ws' := [(h0, .inr (7, [.int th, .int (nI nm), .ref ap, .int (nI no), .ref am, .ref aw, .ref az, .ref au, .int kn, .long vP, .long vQ, .long vS, .long vT, .long vB, .long vM, .long vH, .ref ao, .ref ax, .int (nI np), .ref ay, .int (nI nl), .ref ad, .ref al, .int (nI sn), .ref ag, .int (nI ((b + j) + 1)), .int (sr_va gg b (min j 6))])), (ag, .inl (kg, 200, .inl gg))]) [0, 1] rfl
                        have hD9 := hD.sub (ws' := [(h0, .inr (7, [.int th, .int (nI nm), .ref ap, .int (nI no), .ref am, .ref aw, .ref az, .ref au, .int kn, .long vP, .long vQ, .long vS, .long vT, .long vB, .long vM, .long vH, .ref ao, .ref ax, .int (nI np), .ref ay, .int (nI nl), .ref ad, .ref al, .int (nI sn), .ref ag, .int (nI ((b + j) + 1)), .int (sr_va gg b (min j 6))])), (ag, .inl (kg, 200, .inl gg))]) [0, 1] (by decide) rfl
                        have hK9 := hK.sub (tys' := [(kg, .int)]) [0] rfl
                        exact W.zret (v := 0) (ty := .boolean) hx hb hr (by exact rfl) (fun t ht hW => ⟨⟨0, (), rfl, bI_n (by unfold md_rs md_np md_nd; rw [← hbe, ← he6]; exact fun q => absurd q.2.2.1 (by omega)), ⟨by rw [ht]; unfold md_np md_nv md_nd; rw [← hbe, ← he6, if_neg (fun q => absurd q.1 (by omega))]; exact hP9, va_K.moved hW.alike hK9, by unfold md_np md_nv md_nd; rw [← hbe, ← he6, if_neg (fun q => absurd q.1 (by omega))]; exact hD9⟩⟩, hS.F ht⟩) hS.2.2 d_MD_reads_224 hlocks
                      · exact absurd c_46 (by decide)
                · have n_47 := xn_nle (a := sn) (b := (b + j)) c_38 rfl rfl (by omega) (by omega)
                  refine lv_aload_n hx hb d_MD_reads_174 rfl (lv_at hl 0 rfl) ?_
                  refine va_get (D := (dC, dI)) (ci := 7) (v := .ref ag) (C := xR_MD) (T := xT_MD) (N := 27) hx hb hts (fun w h => List.mem_cons_of_mem _ (iw_MD w h)) hown hK hP 0 rfl rfl 24 (by decide) (hts _ (List.mem_cons_of_mem _ wm_721)) (fun _ h9 => h9) rfl d_MD_reads_175 ?_
                  refine lv_aload_n hx hb d_MD_reads_178 rfl (lv_at hl 0 rfl) ?_
                  refine va_get (D := (dC, dI)) (ci := 7) (v := .int (nI (b + j))) (C := xR_MD) (T := xT_MD) (N := 27) hx hb hts (fun w h => List.mem_cons_of_mem _ (iw_MD w h)) hown hK hP 0 rfl rfl 25 (by decide) (hts _ (List.mem_cons_of_mem _ wm_722)) (fun _ h9 => h9) rfl d_MD_reads_179 ?_
                  refine xa_iald hx hb hK hP 1 0 rfl rfl (b + j) rfl (by omega) (by decide) d_MD_reads_182 ?_
                  refine lv_iload_n hx hb d_MD_reads_183 rfl (lv_at hl 1 rfl) ?_
                  refine lv_icmp_ne (tgt := 191) hx hb d_MD_reads_184 (by decide) (fun c_48 => ?_) (fun c_48 => ?_)
                  · refine lv_iconst (v := 0) hx hb d_MD_reads_191 (by decide) ?_
                    refine lv_istore (lv' := [(4, .int 0), (0, .ref h0), (1, .int a), (2, .int 0), (3, .int (nI j))]) hx hb d_MD_reads_192 hl (by decide) rfl (fun ls hl => ?_)
                    refine lv_aload_n hx hb d_MD_reads_194 rfl (lv_at hl 1 rfl) ?_
                    refine lv_dup hx hb d_MD_reads_195 rfl ?_
                    refine va_get (D := (dC, dI)) (ci := 7) (v := .int (nI (b + j))) (C := xR_MD) (T := xT_MD) (N := 27) hx hb hts (fun w h => List.mem_cons_of_mem _ (iw_MD w h)) hown hK hP 0 rfl rfl 25 (by decide) (hts _ (List.mem_cons_of_mem _ wm_722)) (fun _ h9 => h9) rfl d_MD_reads_196 ?_
                    refine lv_iconst (v := 1) hx hb d_MD_reads_199 (by decide) ?_
                    refine lv_iadd hx hb d_MD_reads_200 ?_
                    refine xv_i (y := nI ((b + j) + 1)) (nI_1 _) ?_
                    refine va_put (D := (dC, dI)) (ci := 7) (v := .int (nI ((b + j) + 1))) (ty := .int) (C := xR_MD) (T := xT_MD) (N := 27) hx hb hts (fun w h => List.mem_cons_of_mem _ (iw_MD w h)) xt_MD xt_MD_ok xn_MD_nm hown hK hP hD hS 0 rfl rfl 25 (by decide) (hts _ (List.mem_cons_of_mem _ wm_722)) (fun _ h9 => h9) rfl (by decide +kernel) rfl rfl (Nat.le_of_ble_eq_true rfl) d_MD_reads_201 (fun H locs hP hD hS => ?_)
                    have hP : va_P (dC, dI) xCl [(h0, .inr (7, [.int th, .int (nI nm), .ref ap, .int (nI no), .ref am, .ref aw, .ref az, .ref au, .int kn, .long vP, .long vQ, .long vS, .long vT, .long vB, .long vM, .long vH, .ref ao, .ref ax, .int (nI np), .ref ay, .int (nI nl), .ref ad, .ref al, .int (nI sn), .ref ag, .int (nI ((b + j) + 1)), .int (sr_va gg b (min j 6))])), (ag, .inl (kg, 200, .inl gg))] H := hP
                    have hD : va_D A [(h0, .inr (7, [.int th, .int (nI nm), .ref ap, .int (nI no), .ref am, .ref aw, .ref az, .ref au, .int kn, .long vP, .long vQ, .long vS, .long vT, .long vB, .long vM, .long vH, .ref ao, .ref ax, .int (nI np), .ref ay, .int (nI nl), .ref ad, .ref al, .int (nI sn), .ref ag, .int (nI ((b + j) + 1)), .int (sr_va gg b (min j 6))])), (ag, .inl (kg, 200, .inl gg))] := hD
                    refine lv_iload_n hx hb d_MD_reads_204 rfl (lv_at hl 4 rfl) ?_
                    refine lv_if_le (tgt := 223) hx hb d_MD_reads_205 (by decide) (fun c_49 => ?_) (fun c_49 => ?_)
                    · have n_50 := xn_le (a := j) (b := 0) c_49 rfl (by decide) (by omega) (by omega)
                      refine lv_iconst (v := 0) hx hb d_MD_reads_223 (by decide) ?_
                      have hP9 := hP.sub (ws' := [(h0, .inr (7, [.int th, .int (nI nm), .ref ap, .int (nI no), .ref am, .ref aw, .ref az, .ref au, .int kn, .long vP, .long vQ, .long vS, .long vT, .long vB, .long vM, .long vH, .ref ao, .ref ax, .int (nI np), .ref ay, .int (nI nl), .ref ad, .ref al, .int (nI sn), .ref ag, .int (nI ((b + j) + 1)), .int (sr_va gg b (min j 6))])), (ag, .inl (kg, 200, .inl gg))]) [0, 1] rfl
                      have hD9 := hD.sub (ws' := [(h0, .inr (7, [.int th, .int (nI nm), .ref ap, .int (nI no), .ref am, .ref aw, .ref az, .ref au, .int kn, .long vP, .long vQ, .long vS, .long vT, .long vB, .long vM, .long vH, .ref ao, .ref ax, .int (nI np), .ref ay, .int (nI nl), .ref ad, .ref al, .int (nI sn), .ref ag, .int (nI ((b + j) + 1)), .int (sr_va gg b (min j 6))])), (ag, .inl (kg, 200, .inl gg))]) [0, 1] (by decide) rfl
                      have hK9 := hK.sub (tys' := [(kg, .int)]) [0] rfl
                      exact W.zret (v := 0) (ty := .boolean) hx hb hr (by exact rfl) (fun t ht hW => ⟨⟨0, (), rfl, bI_n (by unfold md_rs md_np md_nd; rw [← hbe, ← he6]; exact fun q => absurd q.1 (by omega)), ⟨by rw [ht]; unfold md_np md_nv md_nd; rw [← hbe, ← he6, if_neg (fun q => absurd q.1 (by omega))]; exact hP9, va_K.moved hW.alike hK9, by unfold md_np md_nv md_nd; rw [← hbe, ← he6, if_neg (fun q => absurd q.1 (by omega))]; exact hD9⟩⟩, hS.F ht⟩) hS.2.2 d_MD_reads_224 hlocks
                    · have n_51 := xn_nle (a := j) (b := 0) c_49 rfl (by decide) (by omega) (by omega)
                      refine lv_iload_n hx hb d_MD_reads_208 rfl (lv_at hl 4 rfl) ?_
                      refine lv_bipush (v := 7) hx hb d_MD_reads_209 (by decide) ?_
                      refine lv_icmp_ge (tgt := 223) hx hb d_MD_reads_211 (by decide) (fun c_52 => ?_) (fun c_52 => ?_)
                      · have n_53 := xn_le (a := 7) (b := j) c_52 (by decide) rfl (by omega) (by omega)
                        refine lv_iconst (v := 0) hx hb d_MD_reads_223 (by decide) ?_
                        have hP9 := hP.sub (ws' := [(h0, .inr (7, [.int th, .int (nI nm), .ref ap, .int (nI no), .ref am, .ref aw, .ref az, .ref au, .int kn, .long vP, .long vQ, .long vS, .long vT, .long vB, .long vM, .long vH, .ref ao, .ref ax, .int (nI np), .ref ay, .int (nI nl), .ref ad, .ref al, .int (nI sn), .ref ag, .int (nI ((b + j) + 1)), .int (sr_va gg b (min j 6))])), (ag, .inl (kg, 200, .inl gg))]) [0, 1] rfl
                        have hD9 := hD.sub (ws' := [(h0, .inr (7, [.int th, .int (nI nm), .ref ap, .int (nI no), .ref am, .ref aw, .ref az, .ref au, .int kn, .long vP, .long vQ, .long vS, .long vT, .long vB, .long vM, .long vH, .ref ao, .ref ax, .int (nI np), .ref ay, .int (nI nl), .ref ad, .ref al, .int (nI sn), .ref ag, .int (nI ((b + j) + 1)), .int (sr_va gg b (min j 6))])), (ag, .inl (kg, 200, .inl gg))]) [0, 1] (by decide) rfl
                        have hK9 := hK.sub (tys' := [(kg, .int)]) [0] rfl
                        exact W.zret (v := 0) (ty := .boolean) hx hb hr (by exact rfl) (fun t ht hW => ⟨⟨0, (), rfl, bI_n (by unfold md_rs md_np md_nd; rw [← hbe, ← he6]; exact fun q => absurd q.2.1 (by omega)), ⟨by rw [ht]; unfold md_np md_nv md_nd; rw [← hbe, ← he6, if_neg (fun q => absurd q.1 (by omega))]; exact hP9, va_K.moved hW.alike hK9, by unfold md_np md_nv md_nd; rw [← hbe, ← he6, if_neg (fun q => absurd q.1 (by omega))]; exact hD9⟩⟩, hS.F ht⟩) hS.2.2 d_MD_reads_224 hlocks
                      · have n_54 := xn_nle (a := 7) (b := j) c_52 (by decide) rfl (by omega) (by omega)
                        refine lv_iload hx hb d_MD_reads_214 (lv_at hl 0 rfl) ?_
                        refine lv_if_eq (tgt := 223) hx hb d_MD_reads_216 (by decide) (fun c_55 => ?_) (fun c_55 => ?_)
                        · refine lv_iconst (v := 0) hx hb d_MD_reads_223 (by decide) ?_
                          have hP9 := hP.sub (ws' := [(h0, .inr (7, [.int th, .int (nI nm), .ref ap, .int (nI no), .ref am, .ref aw, .ref az, .ref au, .int kn, .long vP, .long vQ, .long vS, .long vT, .long vB, .long vM, .long vH, .ref ao, .ref ax, .int (nI np), .ref ay, .int (nI nl), .ref ad, .ref al, .int (nI sn), .ref ag, .int (nI ((b + j) + 1)), .int (sr_va gg b (min j 6))])), (ag, .inl (kg, 200, .inl gg))]) [0, 1] rfl
                          have hD9 := hD.sub (ws' := [(h0, .inr (7, [.int th, .int (nI nm), .ref ap, .int (nI no), .ref am, .ref aw, .ref az, .ref au, .int kn, .long vP, .long vQ, .long vS, .long vT, .long vB, .long vM, .long vH, .ref ao, .ref ax, .int (nI np), .ref ay, .int (nI nl), .ref ad, .ref al, .int (nI sn), .ref ag, .int (nI ((b + j) + 1)), .int (sr_va gg b (min j 6))])), (ag, .inl (kg, 200, .inl gg))]) [0, 1] (by decide) rfl
                          have hK9 := hK.sub (tys' := [(kg, .int)]) [0] rfl
                          exact W.zret (v := 0) (ty := .boolean) hx hb hr (by exact rfl) (fun t ht hW => ⟨⟨0, (), rfl, bI_n (by unfold md_rs md_np md_nd; rw [← hbe, ← he6]; exact fun q => c_48 q.2.2.2), ⟨by rw [ht]; unfold md_np md_nv md_nd; rw [← hbe, ← he6, if_neg (fun q => absurd q.1 (by omega))]; exact hP9, va_K.moved hW.alike hK9, by unfold md_np md_nv md_nd; rw [← hbe, ← he6, if_neg (fun q => absurd q.1 (by omega))]; exact hD9⟩⟩, hS.F ht⟩) hS.2.2 d_MD_reads_224 hlocks
                        · exact absurd c_55 (by decide)
                  · refine lv_iconst (v := 1) hx hb d_MD_reads_187 (by decide) ?_
                    refine lv_goto (tgt := 192) hx hb d_MD_reads_188 (by decide) ?_
                    refine lv_istore (lv' := [(4, .int 1), (0, .ref h0), (1, .int a), (2, .int 0), (3, .int (nI j))]) hx hb d_MD_reads_192 hl (by decide) rfl (fun ls hl => ?_)
                    refine lv_aload_n hx hb d_MD_reads_194 rfl (lv_at hl 1 rfl) ?_
                    refine lv_dup hx hb d_MD_reads_195 rfl ?_
                    refine va_get (D := (dC, dI)) (ci := 7) (v := .int (nI (b + j))) (C := xR_MD) (T := xT_MD) (N := 27) hx hb hts (fun w h => List.mem_cons_of_mem _ (iw_MD w h)) hown hK hP 0 rfl rfl 25 (by decide) (hts _ (List.mem_cons_of_mem _ wm_722)) (fun _ h9 => h9) rfl d_MD_reads_196 ?_
                    refine lv_iconst (v := 1) hx hb d_MD_reads_199 (by decide) ?_
                    refine lv_iadd hx hb d_MD_reads_200 ?_
                    refine xv_i (y := nI ((b + j) + 1)) (nI_1 _) ?_
                    refine va_put (D := (dC, dI)) (ci := 7) (v := .int (nI ((b + j) + 1))) (ty := .int) (C := xR_MD) (T := xT_MD) (N := 27) hx hb hts (fun w h => List.mem_cons_of_mem _ (iw_MD w h)) xt_MD xt_MD_ok xn_MD_nm hown hK hP hD hS 0 rfl rfl 25 (by decide) (hts _ (List.mem_cons_of_mem _ wm_722)) (fun _ h9 => h9) rfl (by decide +kernel) rfl rfl (Nat.le_of_ble_eq_true rfl) d_MD_reads_201 (fun H locs hP hD hS => ?_)
                    have hP : va_P (dC, dI) xCl [(h0, .inr (7, [.int th, .int (nI nm), .ref ap, .int (nI no), .ref am, .ref aw, .ref az, .ref au, .int kn, .long vP, .long vQ, .long vS, .long vT, .long vB, .long vM, .long vH, .ref ao, .ref ax, .int (nI np), .ref ay, .int (nI nl), .ref ad, .ref al, .int (nI sn), .ref ag, .int (nI ((b + j) + 1)), .int (sr_va gg b (min j 6))])), (ag, .inl (kg, 200, .inl gg))] H := hP
                    have hD : va_D A [(h0, .inr (7, [.int th, .int (nI nm), .ref ap, .int (nI no), .ref am, .ref aw, .ref az, .ref au, .int kn, .long vP, .long vQ, .long vS, .long vT, .long vB, .long vM, .long vH, .ref ao, .ref ax, .int (nI np), .ref ay, .int (nI nl), .ref ad, .ref al, .int (nI sn), .ref ag, .int (nI ((b + j) + 1)), .int (sr_va gg b (min j 6))])), (ag, .inl (kg, 200, .inl gg))] := hD
                    refine lv_iload_n hx hb d_MD_reads_204 rfl (lv_at hl 4 rfl) ?_
                    refine lv_if_le (tgt := 223) hx hb d_MD_reads_205 (by decide) (fun c_56 => ?_) (fun c_56 => ?_)
                    · have n_57 := xn_le (a := j) (b := 0) c_56 rfl (by decide) (by omega) (by omega)
                      refine lv_iconst (v := 0) hx hb d_MD_reads_223 (by decide) ?_
                      have hP9 := hP.sub (ws' := [(h0, .inr (7, [.int th, .int (nI nm), .ref ap, .int (nI no), .ref am, .ref aw, .ref az, .ref au, .int kn, .long vP, .long vQ, .long vS, .long vT, .long vB, .long vM, .long vH, .ref ao, .ref ax, .int (nI np), .ref ay, .int (nI nl), .ref ad, .ref al, .int (nI sn), .ref ag, .int (nI ((b + j) + 1)), .int (sr_va gg b (min j 6))])), (ag, .inl (kg, 200, .inl gg))]) [0, 1] rfl
                      have hD9 := hD.sub (ws' := [(h0, .inr (7, [.int th, .int (nI nm), .ref ap, .int (nI no), .ref am, .ref aw, .ref az, .ref au, .int kn, .long vP, .long vQ, .long vS, .long vT, .long vB, .long vM, .long vH, .ref ao, .ref ax, .int (nI np), .ref ay, .int (nI nl), .ref ad, .ref al, .int (nI sn), .ref ag, .int (nI ((b + j) + 1)), .int (sr_va gg b (min j 6))])), (ag, .inl (kg, 200, .inl gg))]) [0, 1] (by decide) rfl
                      have hK9 := hK.sub (tys' := [(kg, .int)]) [0] rfl
                      exact W.zret (v := 0) (ty := .boolean) hx hb hr (by exact rfl) (fun t ht hW => ⟨⟨0, (), rfl, bI_n (by unfold md_rs md_np md_nd; rw [← hbe, ← he6]; exact fun q => absurd q.1 (by omega)), ⟨by rw [ht]; unfold md_np md_nv md_nd; rw [← hbe, ← he6, if_neg (fun q => absurd q.1 (by omega))]; exact hP9, va_K.moved hW.alike hK9, by unfold md_np md_nv md_nd; rw [← hbe, ← he6, if_neg (fun q => absurd q.1 (by omega))]; exact hD9⟩⟩, hS.F ht⟩) hS.2.2 d_MD_reads_224 hlocks
                    · have n_58 := xn_nle (a := j) (b := 0) c_56 rfl (by decide) (by omega) (by omega)
                      refine lv_iload_n hx hb d_MD_reads_208 rfl (lv_at hl 4 rfl) ?_
                      refine lv_bipush (v := 7) hx hb d_MD_reads_209 (by decide) ?_
                      refine lv_icmp_ge (tgt := 223) hx hb d_MD_reads_211 (by decide) (fun c_59 => ?_) (fun c_59 => ?_)
                      · have n_60 := xn_le (a := 7) (b := j) c_59 (by decide) rfl (by omega) (by omega)
                        refine lv_iconst (v := 0) hx hb d_MD_reads_223 (by decide) ?_
                        have hP9 := hP.sub (ws' := [(h0, .inr (7, [.int th, .int (nI nm), .ref ap, .int (nI no), .ref am, .ref aw, .ref az, .ref au, .int kn, .long vP, .long vQ, .long vS, .long vT, .long vB, .long vM, .long vH, .ref ao, .ref ax, .int (nI np), .ref ay, .int (nI nl), .ref ad, .ref al, .int (nI sn), .ref ag, .int (nI ((b + j) + 1)), .int (sr_va gg b (min j 6))])), (ag, .inl (kg, 200, .inl gg))]) [0, 1] rfl
                        have hD9 := hD.sub (ws' := [(h0, .inr (7, [.int th, .int (nI nm), .ref ap, .int (nI no), .ref am, .ref aw, .ref az, .ref au, .int kn, .long vP, .long vQ, .long vS, .long vT, .long vB, .long vM, .long vH, .ref ao, .ref ax, .int (nI np), .ref ay, .int (nI nl), .ref ad, .ref al, .int (nI sn), .ref ag, .int (nI ((b + j) + 1)), .int (sr_va gg b (min j 6))])), (ag, .inl (kg, 200, .inl gg))]) [0, 1] (by decide) rfl
                        have hK9 := hK.sub (tys' := [(kg, .int)]) [0] rfl
                        exact W.zret (v := 0) (ty := .boolean) hx hb hr (by exact rfl) (fun t ht hW => ⟨⟨0, (), rfl, bI_n (by unfold md_rs md_np md_nd; rw [← hbe, ← he6]; exact fun q => absurd q.2.1 (by omega)), ⟨by rw [ht]; unfold md_np md_nv md_nd; rw [← hbe, ← he6, if_neg (fun q => absurd q.1 (by omega))]; exact hP9, va_K.moved hW.alike hK9, by unfold md_np md_nv md_nd; rw [← hbe, ← he6, if_neg (fun q => absurd q.1 (by omega))]; exact hD9⟩⟩, hS.F ht⟩) hS.2.2 d_MD_reads_224 hlocks
                      · have n_61 := xn_nle (a := 7) (b := j) c_59 (by decide) rfl (by omega) (by omega)
                        refine lv_iload hx hb d_MD_reads_214 (lv_at hl 0 rfl) ?_
                        refine lv_if_eq (tgt := 223) hx hb d_MD_reads_216 (by decide) (fun c_62 => ?_) (fun c_62 => ?_)
                        · exact absurd c_62 (by decide)
                        · refine lv_iconst (v := 1) hx hb d_MD_reads_219 (by decide) ?_
                          refine lv_goto (tgt := 224) hx hb d_MD_reads_220 (by decide) ?_
                          have hP9 := hP.sub (ws' := [(h0, .inr (7, [.int th, .int (nI nm), .ref ap, .int (nI no), .ref am, .ref aw, .ref az, .ref au, .int kn, .long vP, .long vQ, .long vS, .long vT, .long vB, .long vM, .long vH, .ref ao, .ref ax, .int (nI np), .ref ay, .int (nI nl), .ref ad, .ref al, .int (nI sn), .ref ag, .int (nI ((b + j) + 1)), .int (sr_va gg b (min j 6))])), (ag, .inl (kg, 200, .inl gg))]) [0, 1] rfl
                          have hD9 := hD.sub (ws' := [(h0, .inr (7, [.int th, .int (nI nm), .ref ap, .int (nI no), .ref am, .ref aw, .ref az, .ref au, .int kn, .long vP, .long vQ, .long vS, .long vT, .long vB, .long vM, .long vH, .ref ao, .ref ax, .int (nI np), .ref ay, .int (nI nl), .ref ad, .ref al, .int (nI sn), .ref ag, .int (nI ((b + j) + 1)), .int (sr_va gg b (min j 6))])), (ag, .inl (kg, 200, .inl gg))]) [0, 1] (by decide) rfl
                          have hK9 := hK.sub (tys' := [(kg, .int)]) [0] rfl
                          exact W.zret (v := 1) (ty := .boolean) hx hb hr (by exact rfl) (fun t ht hW => ⟨⟨1, (), rfl, bI_p (by unfold md_rs md_np md_nd; rw [← hbe, ← he6]; exact ⟨n_58, n_61, n_47, c_48⟩), ⟨by rw [ht]; unfold md_np md_nv md_nd; rw [← hbe, ← he6, if_neg (fun q => absurd q.1 (by omega))]; exact hP9, va_K.moved hW.alike hK9, by unfold md_np md_nv md_nd; rw [← hbe, ← he6, if_neg (fun q => absurd q.1 (by omega))]; exact hD9⟩⟩, hS.F ht⟩) hS.2.2 d_MD_reads_224 hlocks
              · exact absurd c_37 (by decide)
            · have b_63 := bI_t (rfl : bI (md_win (gg (b + j)) 48 57) = _) c_35
              refine lv_aload_n hx hb d_MD_reads_89 rfl (lv_at hl 0 rfl) ?_
              refine lv_iload_n hx hb d_MD_reads_90 rfl (lv_at hl 3 rfl) ?_
              refine lv_bipush (v := 6) hx hb d_MD_reads_91 (by decide) ?_
              refine lv_icmp_ge (tgt := 119) hx hb d_MD_reads_93 (by decide) (fun c_64 => ?_) (fun c_64 => ?_)
              · have n_65 := xn_le (a := 6) (b := j) c_64 (by decide) rfl (by omega) (by omega)
                refine lv_aload_n hx hb d_MD_reads_119 rfl (lv_at hl 0 rfl) ?_
                refine va_get (D := (dC, dI)) (ci := 7) (v := .int (sr_va gg b (min j 6))) (C := xR_MD) (T := xT_MD) (N := 27) hx hb hts (fun w h => List.mem_cons_of_mem _ (iw_MD w h)) hown hK hP 0 rfl rfl 26 (by decide) (hts _ (List.mem_cons_of_mem _ wm_723)) (fun _ h9 => h9) rfl d_MD_reads_120 ?_
                refine va_put (D := (dC, dI)) (ci := 7) (v := .int (sr_va gg b (min j 6))) (ty := .int) (C := xR_MD) (T := xT_MD) (N := 27) hx hb hts (fun w h => List.mem_cons_of_mem _ (iw_MD w h)) xt_MD xt_MD_ok xn_MD_nm hown hK hP hD hS 0 rfl rfl 26 (by decide) (hts _ (List.mem_cons_of_mem _ wm_723)) (fun _ h9 => h9) rfl (by decide +kernel) rfl rfl (Nat.le_of_ble_eq_true rfl) d_MD_reads_123 (fun H locs hP hD hS => ?_)
                have hP : va_P (dC, dI) xCl [(h0, .inr (7, [.int th, .int (nI nm), .ref ap, .int (nI no), .ref am, .ref aw, .ref az, .ref au, .int kn, .long vP, .long vQ, .long vS, .long vT, .long vB, .long vM, .long vH, .ref ao, .ref ax, .int (nI np), .ref ay, .int (nI nl), .ref ad, .ref al, .int (nI sn), .ref ag, .int (nI (b + j)), .int (sr_va gg b (min j 6))])), (ag, .inl (kg, 200, .inl gg))] H := hP
                have hD : va_D A [(h0, .inr (7, [.int th, .int (nI nm), .ref ap, .int (nI no), .ref am, .ref aw, .ref az, .ref au, .int kn, .long vP, .long vQ, .long vS, .long vT, .long vB, .long vM, .long vH, .ref ao, .ref ax, .int (nI np), .ref ay, .int (nI nl), .ref ad, .ref al, .int (nI sn), .ref ag, .int (nI (b + j)), .int (sr_va gg b (min j 6))])), (ag, .inl (kg, 200, .inl gg))] := hD
                refine lv_iinc (v := nI (j + 1)) (lv' := [(3, .int (nI (j + 1))), (0, .ref h0), (1, .int a), (2, .int 0)]) hx hb d_MD_reads_126 hl (k := 3) rfl (nI_1 _) (by decide) rfl (fun ls hl => ?_)
                refine lv_aload_n hx hb d_MD_reads_129 rfl (lv_at hl 1 rfl) ?_
                refine lv_dup hx hb d_MD_reads_130 rfl ?_
                refine va_get (D := (dC, dI)) (ci := 7) (v := .int (nI (b + j))) (C := xR_MD) (T := xT_MD) (N := 27) hx hb hts (fun w h => List.mem_cons_of_mem _ (iw_MD w h)) hown hK hP 0 rfl rfl 25 (by decide) (hts _ (List.mem_cons_of_mem _ wm_722)) (fun _ h9 => h9) rfl d_MD_reads_131 ?_
                refine lv_iconst (v := 1) hx hb d_MD_reads_134 (by decide) ?_
                refine lv_iadd hx hb d_MD_reads_135 ?_
                refine xv_i (y := nI ((b + j) + 1)) (nI_1 _) ?_
                refine va_put (D := (dC, dI)) (ci := 7) (v := .int (nI ((b + j) + 1))) (ty := .int) (C := xR_MD) (T := xT_MD) (N := 27) hx hb hts (fun w h => List.mem_cons_of_mem _ (iw_MD w h)) xt_MD xt_MD_ok xn_MD_nm hown hK hP hD hS 0 rfl rfl 25 (by decide) (hts _ (List.mem_cons_of_mem _ wm_722)) (fun _ h9 => h9) rfl (by decide +kernel) rfl rfl (Nat.le_of_ble_eq_true rfl) d_MD_reads_136 (fun H locs hP hD hS => ?_)
                have hP : va_P (dC, dI) xCl [(h0, .inr (7, [.int th, .int (nI nm), .ref ap, .int (nI no), .ref am, .ref aw, .ref az, .ref au, .int kn, .long vP, .long vQ, .long vS, .long vT, .long vB, .long vM, .long vH, .ref ao, .ref ax, .int (nI np), .ref ay, .int (nI nl), .ref ad, .ref al, .int (nI sn), .ref ag, .int (nI ((b + j) + 1)), .int (sr_va gg b (min j 6))])), (ag, .inl (kg, 200, .inl gg))] H := hP
                have hD : va_D A [(h0, .inr (7, [.int th, .int (nI nm), .ref ap, .int (nI no), .ref am, .ref aw, .ref az, .ref au, .int kn, .long vP, .long vQ, .long vS, .long vT, .long vB, .long vM, .long vH, .ref ao, .ref ax, .int (nI np), .ref ay, .int (nI nl), .ref ad, .ref al, .int (nI sn), .ref ag, .int (nI ((b + j) + 1)), .int (sr_va gg b (min j 6))])), (ag, .inl (kg, 200, .inl gg))] := hD
                refine lv_goto (tgt := 59) hx hb d_MD_reads_139 (by decide) ?_
                exact ih  (j + 1) ((b + j) + 1) (sr_va gg b (min j 6)) (by omega) (by omega) (by omega) (by omega) (md_dn_s (by omega) n_32 b_63 hdn) (md_va_k n_65) _ _ (hP.sub [0, 1] rfl) (hD.sub [0, 1] (by decide) rfl) hS ls (lv_sub hl [1, 2, 3, 0] rfl)
              · have n_66 := xn_nle (a := 6) (b := j) c_64 (by decide) rfl (by omega) (by omega)
                refine lv_bipush (v := 10) hx hb d_MD_reads_96 (by decide) ?_
                refine lv_aload_n hx hb d_MD_reads_98 rfl (lv_at hl 0 rfl) ?_
                refine va_get (D := (dC, dI)) (ci := 7) (v := .int (sr_va gg b (min j 6))) (C := xR_MD) (T := xT_MD) (N := 27) hx hb hts (fun w h => List.mem_cons_of_mem _ (iw_MD w h)) hown hK hP 0 rfl rfl 26 (by decide) (hts _ (List.mem_cons_of_mem _ wm_723)) (fun _ h9 => h9) rfl d_MD_reads_99 ?_
                refine lv_imul hx hb d_MD_reads_102 ?_
                refine lv_aload_n hx hb d_MD_reads_103 rfl (lv_at hl 0 rfl) ?_
                refine va_get (D := (dC, dI)) (ci := 7) (v := .ref ag) (C := xR_MD) (T := xT_MD) (N := 27) hx hb hts (fun w h => List.mem_cons_of_mem _ (iw_MD w h)) hown hK hP 0 rfl rfl 24 (by decide) (hts _ (List.mem_cons_of_mem _ wm_721)) (fun _ h9 => h9) rfl d_MD_reads_104 ?_
                refine lv_aload_n hx hb d_MD_reads_107 rfl (lv_at hl 0 rfl) ?_
                refine va_get (D := (dC, dI)) (ci := 7) (v := .int (nI (b + j))) (C := xR_MD) (T := xT_MD) (N := 27) hx hb hts (fun w h => List.mem_cons_of_mem _ (iw_MD w h)) hown hK hP 0 rfl rfl 25 (by decide) (hts _ (List.mem_cons_of_mem _ wm_722)) (fun _ h9 => h9) rfl d_MD_reads_108 ?_
                refine xa_iald hx hb hK hP 1 0 rfl rfl (b + j) rfl (by omega) (by decide) d_MD_reads_111 ?_
                refine lv_iadd hx hb d_MD_reads_112 ?_
                refine lv_bipush (v := 48) hx hb d_MD_reads_113 (by decide) ?_
                refine lv_isub hx hb d_MD_reads_115 ?_
                refine lv_goto (tgt := 123) hx hb d_MD_reads_116 (by decide) ?_
                refine va_put (D := (dC, dI)) (ci := 7) (v := .int (((10 * (sr_va gg b (min j 6))) + (gg (b + j))) - 48)) (ty := .int) (C := xR_MD) (T := xT_MD) (N := 27) hx hb hts (fun w h => List.mem_cons_of_mem _ (iw_MD w h)) xt_MD xt_MD_ok xn_MD_nm hown hK hP hD hS 0 rfl rfl 26 (by decide) (hts _ (List.mem_cons_of_mem _ wm_723)) (fun _ h9 => h9) rfl (by decide +kernel) rfl rfl (Nat.le_of_ble_eq_true rfl) d_MD_reads_123 (fun H locs hP hD hS => ?_)
                have hP : va_P (dC, dI) xCl [(h0, .inr (7, [.int th, .int (nI nm), .ref ap, .int (nI no), .ref am, .ref aw, .ref az, .ref au, .int kn, .long vP, .long vQ, .long vS, .long vT, .long vB, .long vM, .long vH, .ref ao, .ref ax, .int (nI np), .ref ay, .int (nI nl), .ref ad, .ref al, .int (nI sn), .ref ag, .int (nI (b + j)), .int (((10 * (sr_va gg b (min j 6))) + (gg (b + j))) - 48)])), (ag, .inl (kg, 200, .inl gg))] H := hP
                have hD : va_D A [(h0, .inr (7, [.int th, .int (nI nm), .ref ap, .int (nI no), .ref am, .ref aw, .ref az, .ref au, .int kn, .long vP, .long vQ, .long vS, .long vT, .long vB, .long vM, .long vH, .ref ao, .ref ax, .int (nI np), .ref ay, .int (nI nl), .ref ad, .ref al, .int (nI sn), .ref ag, .int (nI (b + j)), .int (((10 * (sr_va gg b (min j 6))) + (gg (b + j))) - 48)])), (ag, .inl (kg, 200, .inl gg))] := hD
                refine lv_iinc (v := nI (j + 1)) (lv' := [(3, .int (nI (j + 1))), (0, .ref h0), (1, .int a), (2, .int 0)]) hx hb d_MD_reads_126 hl (k := 3) rfl (nI_1 _) (by decide) rfl (fun ls hl => ?_)
                refine lv_aload_n hx hb d_MD_reads_129 rfl (lv_at hl 1 rfl) ?_
                refine lv_dup hx hb d_MD_reads_130 rfl ?_
                refine va_get (D := (dC, dI)) (ci := 7) (v := .int (nI (b + j))) (C := xR_MD) (T := xT_MD) (N := 27) hx hb hts (fun w h => List.mem_cons_of_mem _ (iw_MD w h)) hown hK hP 0 rfl rfl 25 (by decide) (hts _ (List.mem_cons_of_mem _ wm_722)) (fun _ h9 => h9) rfl d_MD_reads_131 ?_
                refine lv_iconst (v := 1) hx hb d_MD_reads_134 (by decide) ?_
                refine lv_iadd hx hb d_MD_reads_135 ?_
                refine xv_i (y := nI ((b + j) + 1)) (nI_1 _) ?_
                refine va_put (D := (dC, dI)) (ci := 7) (v := .int (nI ((b + j) + 1))) (ty := .int) (C := xR_MD) (T := xT_MD) (N := 27) hx hb hts (fun w h => List.mem_cons_of_mem _ (iw_MD w h)) xt_MD xt_MD_ok xn_MD_nm hown hK hP hD hS 0 rfl rfl 25 (by decide) (hts _ (List.mem_cons_of_mem _ wm_722)) (fun _ h9 => h9) rfl (by decide +kernel) rfl rfl (Nat.le_of_ble_eq_true rfl) d_MD_reads_136 (fun H locs hP hD hS => ?_)
                have hP : va_P (dC, dI) xCl [(h0, .inr (7, [.int th, .int (nI nm), .ref ap, .int (nI no), .ref am, .ref aw, .ref az, .ref au, .int kn, .long vP, .long vQ, .long vS, .long vT, .long vB, .long vM, .long vH, .ref ao, .ref ax, .int (nI np), .ref ay, .int (nI nl), .ref ad, .ref al, .int (nI sn), .ref ag, .int (nI ((b + j) + 1)), .int (((10 * (sr_va gg b (min j 6))) + (gg (b + j))) - 48)])), (ag, .inl (kg, 200, .inl gg))] H := hP
                have hD : va_D A [(h0, .inr (7, [.int th, .int (nI nm), .ref ap, .int (nI no), .ref am, .ref aw, .ref az, .ref au, .int kn, .long vP, .long vQ, .long vS, .long vT, .long vB, .long vM, .long vH, .ref ao, .ref ax, .int (nI np), .ref ay, .int (nI nl), .ref ad, .ref al, .int (nI sn), .ref ag, .int (nI ((b + j) + 1)), .int (((10 * (sr_va gg b (min j 6))) + (gg (b + j))) - 48)])), (ag, .inl (kg, 200, .inl gg))] := hD
                refine lv_goto (tgt := 59) hx hb d_MD_reads_139 (by decide) ?_
                exact ih  (j + 1) ((b + j) + 1) (((10 * (sr_va gg b (min j 6))) + (gg (b + j))) - 48) (by omega) (by omega) (by omega) (by omega) (md_dn_s (by omega) n_32 b_63 hdn) (md_va_s n_66) _ _ (hP.sub [0, 1] rfl) (hD.sub [0, 1] (by decide) rfl) hS ls (lv_sub hl [1, 2, 3, 0] rfl)
      exact lp59 (201 - 0 + 1) 0 b 0 (by omega) (by omega) (by omega) (by omega) (by rw [Nat.zero_add]; rfl) rfl _ _ (hP.sub [0, 1] rfl) (hD.sub [0, 1] (by decide) rfl) hS ls (lv_sub hl [2, 3, 1, 0] rfl)
    · exact absurd c_3 (by decide)
  · have n_67 := xn_nle (a := sn) (b := ta) c_1 rfl rfl (by omega) (by omega)
    refine lv_aload_n hx hb d_MD_reads_11 rfl (lv_at hl 0 rfl) ?_
    refine va_get (D := (dC, dI)) (ci := 7) (v := .ref ag) (C := xR_MD) (T := xT_MD) (N := 27) hx hb hts (fun w h => List.mem_cons_of_mem _ (iw_MD w h)) hown hK hP 0 rfl rfl 24 (by decide) (hts _ (List.mem_cons_of_mem _ wm_721)) (fun _ h9 => h9) rfl d_MD_reads_12 ?_
    refine lv_aload_n hx hb d_MD_reads_15 rfl (lv_at hl 0 rfl) ?_
    refine va_get (D := (dC, dI)) (ci := 7) (v := .int (nI ta)) (C := xR_MD) (T := xT_MD) (N := 27) hx hb hts (fun w h => List.mem_cons_of_mem _ (iw_MD w h)) hown hK hP 0 rfl rfl 25 (by decide) (hts _ (List.mem_cons_of_mem _ wm_722)) (fun _ h9 => h9) rfl d_MD_reads_16 ?_
    refine xa_iald hx hb hK hP 1 0 rfl rfl ta rfl (by omega) (by decide) d_MD_reads_19 ?_
    refine lv_bipush (v := 45) hx hb d_MD_reads_20 (by decide) ?_
    refine lv_icmp_ne (tgt := 29) hx hb d_MD_reads_22 (by decide) (fun c_68 => ?_) (fun c_68 => ?_)
    · refine lv_iconst (v := 0) hx hb d_MD_reads_29 (by decide) ?_
      refine lv_istore_n (lv' := [(2, .int 0), (0, .ref h0), (1, .int a)]) hx hb d_MD_reads_30 rfl hl (by decide) rfl (fun ls hl => ?_)
      refine lv_aload_n hx hb d_MD_reads_31 rfl (lv_at hl 1 rfl) ?_
      refine lv_iload_n hx hb d_MD_reads_32 rfl (lv_at hl 0 rfl) ?_
      refine lv_if_eq (tgt := 45) hx hb d_MD_reads_33 (by decide) (fun c_69 => ?_) (fun c_69 => ?_)
      · refine lv_aload_n hx hb d_MD_reads_45 rfl (lv_at hl 1 rfl) ?_
        refine va_get (D := (dC, dI)) (ci := 7) (v := .int (nI ta)) (C := xR_MD) (T := xT_MD) (N := 27) hx hb hts (fun w h => List.mem_cons_of_mem _ (iw_MD w h)) hown hK hP 0 rfl rfl 25 (by decide) (hts _ (List.mem_cons_of_mem _ wm_722)) (fun _ h9 => h9) rfl d_MD_reads_46 ?_
        refine va_put (D := (dC, dI)) (ci := 7) (v := .int (nI ta)) (ty := .int) (C := xR_MD) (T := xT_MD) (N := 27) hx hb hts (fun w h => List.mem_cons_of_mem _ (iw_MD w h)) xt_MD xt_MD_ok xn_MD_nm hown hK hP hD hS 0 rfl rfl 25 (by decide) (hts _ (List.mem_cons_of_mem _ wm_722)) (fun _ h9 => h9) rfl (by decide +kernel) rfl rfl (Nat.le_of_ble_eq_true rfl) d_MD_reads_49 (fun H locs hP hD hS => ?_)
        have hP : va_P (dC, dI) xCl [(h0, .inr (7, [.int th, .int (nI nm), .ref ap, .int (nI no), .ref am, .ref aw, .ref az, .ref au, .int kn, .long vP, .long vQ, .long vS, .long vT, .long vB, .long vM, .long vH, .ref ao, .ref ax, .int (nI np), .ref ay, .int (nI nl), .ref ad, .ref al, .int (nI sn), .ref ag, .int (nI ta), .int nb])), (ag, .inl (kg, 200, .inl gg))] H := hP
        have hD : va_D A [(h0, .inr (7, [.int th, .int (nI nm), .ref ap, .int (nI no), .ref am, .ref aw, .ref az, .ref au, .int kn, .long vP, .long vQ, .long vS, .long vT, .long vB, .long vM, .long vH, .ref ao, .ref ax, .int (nI np), .ref ay, .int (nI nl), .ref ad, .ref al, .int (nI sn), .ref ag, .int (nI ta), .int nb])), (ag, .inl (kg, 200, .inl gg))] := hD
        have hb2 : sr_sk gg sn ta 45 ≤ 200 := sr_sk_le hle hta
        have hbs : sr_sk gg sn ta 45 = ta := if_neg (fun q => c_68 q.2)
        obtain ⟨b, hbe⟩ : ∃ b, b = sr_sk gg sn ta 45 := ⟨_, rfl⟩
        rw [← hbe] at hbs hb2
        rw [show nI (ta) = nI b from congrArg nI hbs.symm] at hP hD
        have hP : va_P (dC, dI) xCl [(h0, .inr (7, [.int th, .int (nI nm), .ref ap, .int (nI no), .ref am, .ref aw, .ref az, .ref au, .int kn, .long vP, .long vQ, .long vS, .long vT, .long vB, .long vM, .long vH, .ref ao, .ref ax, .int (nI np), .ref ay, .int (nI nl), .ref ad, .ref al, .int (nI sn), .ref ag, .int (nI b), .int nb])), (ag, .inl (kg, 200, .inl gg))] H := hP
        have hD : va_D A [(h0, .inr (7, [.int th, .int (nI nm), .ref ap, .int (nI no), .ref am, .ref aw, .ref az, .ref au, .int kn, .long vP, .long vQ, .long vS, .long vT, .long vB, .long vM, .long vH, .ref ao, .ref ax, .int (nI np), .ref ay, .int (nI nl), .ref ad, .ref al, .int (nI sn), .ref ag, .int (nI b), .int nb])), (ag, .inl (kg, 200, .inl gg))] := hD
        refine lv_iconst (v := 0) hx hb d_MD_reads_52 (by decide) ?_
        refine lv_istore_n (lv' := [(3, .int 0), (2, .int 0), (0, .ref h0), (1, .int a)]) hx hb d_MD_reads_53 rfl hl (by decide) rfl (fun ls hl => ?_)
        refine lv_aload_n hx hb d_MD_reads_54 rfl (lv_at hl 2 rfl) ?_
        refine lv_iconst (v := 0) hx hb d_MD_reads_55 (by decide) ?_
        refine va_put (D := (dC, dI)) (ci := 7) (v := .int 0) (ty := .int) (C := xR_MD) (T := xT_MD) (N := 27) hx hb hts (fun w h => List.mem_cons_of_mem _ (iw_MD w h)) xt_MD xt_MD_ok xn_MD_nm hown hK hP hD hS 0 rfl rfl 26 (by decide) (hts _ (List.mem_cons_of_mem _ wm_723)) (fun _ h9 => h9) rfl (by decide +kernel) rfl rfl (Nat.le_of_ble_eq_true rfl) d_MD_reads_56 (fun H locs hP hD hS => ?_)
        have hP : va_P (dC, dI) xCl [(h0, .inr (7, [.int th, .int (nI nm), .ref ap, .int (nI no), .ref am, .ref aw, .ref az, .ref au, .int kn, .long vP, .long vQ, .long vS, .long vT, .long vB, .long vM, .long vH, .ref ao, .ref ax, .int (nI np), .ref ay, .int (nI nl), .ref ad, .ref al, .int (nI sn), .ref ag, .int (nI b), .int 0])), (ag, .inl (kg, 200, .inl gg))] H := hP
        have hD : va_D A [(h0, .inr (7, [.int th, .int (nI nm), .ref ap, .int (nI no), .ref am, .ref aw, .ref az, .ref au, .int kn, .long vP, .long vQ, .long vS, .long vT, .long vB, .long vM, .long vH, .ref ao, .ref ax, .int (nI np), .ref ay, .int (nI nl), .ref ad, .ref al, .int (nI sn), .ref ag, .int (nI b), .int 0])), (ag, .inl (kg, 200, .inl gg))] := hD
        have lp59 : ∀ (fuel : Nat) (j : Nat) (z : Nat) (xn : Int32), 201 - j < fuel → j ≤ 200 → z ≤ 200 → z = b + j → j + sr_dn gg sn (b + j) (201 - j) = sr_dn gg sn b 201 → xn = sr_va gg b (min j 6) → ∀ (H : Heap) (locs : List Loc), va_P (dC, dI) xCl [(h0, .inr (7, [.int th, .int (nI nm), .ref ap, .int (nI no), .ref am, .ref aw, .ref az, .ref au, .int kn, .long vP, .long vQ, .long vS, .long vT, .long vB, .long vM, .long vH, .ref ao, .ref ax, .int (nI np), .ref ay, .int (nI nl), .ref ad, .ref al, .int (nI sn), .ref ag, .int (nI z), .int xn])), (ag, .inl (kg, 200, .inl gg))] H → va_D A [(h0, .inr (7, [.int th, .int (nI nm), .ref ap, .int (nI no), .ref am, .ref aw, .ref az, .ref au, .int kn, .long vP, .long vQ, .long vS, .long vT, .long vB, .long vM, .long vH, .ref ao, .ref ax, .int (nI np), .ref ay, .int (nI nl), .ref ad, .ref al, .int (nI sn), .ref ag, .int (nI z), .int xn])), (ag, .inl (kg, 200, .inl gg))] → va_S A s.heap H locs → ∀ (ls : Array Slot), lv_has ls 5 [(0, .ref h0), (1, .int a), (2, .int 0), (3, .int (nI j))] → W p l e (headSpec xw_MD_reads ({ frames := 1, cells := 0, slots := 0, locals := 22 })).room s m ([.ref h0, .int a] : List Value).toArray below meth c H locs 0 0 (MQ below (va_Qi (fun (r : Int32) (_ : Unit) => r = bI (md_rs gg sn ta a)) (fun _ t => xb_w (dC, dI) xCl [(h0, .inr (7, [.int th, .int (nI nm), .ref ap, .int (nI no), .ref am, .ref aw, .ref az, .ref au, .int kn, .long vP, .long vQ, .long vS, .long vT, .long vB, .long vM, .long vH, .ref ao, .ref ax, .int (nI np), .ref ay, .int (nI nl), .ref ad, .ref al, .int (nI sn), .ref ag, .int (nI (md_np gg sn ta + 1)), .int (md_nv gg sn ta)])), (ag, .inl (kg, 200, .inl gg))] [(kg, .int)] A t) A) ([.ref h0, .int a] : List Value).toArray s 0 0 A) (F0 m 59 ls []) := by
          intro fuel
          induction fuel with
          | zero => intro j z xn hfu; exact absurd hfu (Nat.not_lt_zero _)
          | succ fuel ih =>
            intro j z xn hfu hj hz2 hz hdn hxn H locs hP hD hS ls hl
            subst hz
            subst hxn
            refine lv_aload_n hx hb d_MD_reads_59 rfl (lv_at hl 0 rfl) ?_
            refine va_get (D := (dC, dI)) (ci := 7) (v := .int (nI (b + j))) (C := xR_MD) (T := xT_MD) (N := 27) hx hb hts (fun w h => List.mem_cons_of_mem _ (iw_MD w h)) hown hK hP 0 rfl rfl 25 (by decide) (hts _ (List.mem_cons_of_mem _ wm_722)) (fun _ h9 => h9) rfl d_MD_reads_60 ?_
            refine lv_aload_n hx hb d_MD_reads_63 rfl (lv_at hl 0 rfl) ?_
            refine va_get (D := (dC, dI)) (ci := 7) (v := .int (nI sn)) (C := xR_MD) (T := xT_MD) (N := 27) hx hb hts (fun w h => List.mem_cons_of_mem _ (iw_MD w h)) hown hK hP 0 rfl rfl 23 (by decide) (hts _ (List.mem_cons_of_mem _ wm_720)) (fun _ h9 => h9) rfl d_MD_reads_64 ?_
            refine lv_icmp_ge (tgt := 142) hx hb d_MD_reads_67 (by decide) (fun c_70 => ?_) (fun c_70 => ?_)
            · have n_71 := xn_le (a := sn) (b := (b + j)) c_70 rfl rfl (by omega) (by omega)
              have he6 : j = sr_dn gg sn b 201 := md_dn_o n_71 hdn
              refine lv_aload_n hx hb d_MD_reads_142 rfl (lv_at hl 0 rfl) ?_
              refine lv_iload_n hx hb d_MD_reads_143 rfl (lv_at hl 2 rfl) ?_
              refine lv_if_eq (tgt := 156) hx hb d_MD_reads_144 (by decide) (fun c_72 => ?_) (fun c_72 => ?_)
              · refine lv_aload_n hx hb d_MD_reads_156 rfl (lv_at hl 0 rfl) ?_
                refine va_get (D := (dC, dI)) (ci := 7) (v := .int (sr_va gg b (min j 6))) (C := xR_MD) (T := xT_MD) (N := 27) hx hb hts (fun w h => List.mem_cons_of_mem _ (iw_MD w h)) hown hK hP 0 rfl rfl 26 (by decide) (hts _ (List.mem_cons_of_mem _ wm_723)) (fun _ h9 => h9) rfl d_MD_reads_157 ?_
                refine va_put (D := (dC, dI)) (ci := 7) (v := .int (sr_va gg b (min j 6))) (ty := .int) (C := xR_MD) (T := xT_MD) (N := 27) hx hb hts (fun w h => List.mem_cons_of_mem _ (iw_MD w h)) xt_MD xt_MD_ok xn_MD_nm hown hK hP hD hS 0 rfl rfl 26 (by decide) (hts _ (List.mem_cons_of_mem _ wm_723)) (fun _ h9 => h9) rfl (by decide +kernel) rfl rfl (Nat.le_of_ble_eq_true rfl) d_MD_reads_160 (fun H locs hP hD hS => ?_)
                have hP : va_P (dC, dI) xCl [(h0, .inr (7, [.int th, .int (nI nm), .ref ap, .int (nI no), .ref am, .ref aw, .ref az, .ref au, .int kn, .long vP, .long vQ, .long vS, .long vT, .long vB, .long vM, .long vH, .ref ao, .ref ax, .int (nI np), .ref ay, .int (nI nl), .ref ad, .ref al, .int (nI sn), .ref ag, .int (nI (b + j)), .int (sr_va gg b (min j 6))])), (ag, .inl (kg, 200, .inl gg))] H := hP
                have hD : va_D A [(h0, .inr (7, [.int th, .int (nI nm), .ref ap, .int (nI no), .ref am, .ref aw, .ref az, .ref au, .int kn, .long vP, .long vQ, .long vS, .long vT, .long vB, .long vM, .long vH, .ref ao, .ref ax, .int (nI np), .ref ay, .int (nI nl), .ref ad, .ref al, .int (nI sn), .ref ag, .int (nI (b + j)), .int (sr_va gg b (min j 6))])), (ag, .inl (kg, 200, .inl gg))] := hD
                refine lv_aload_n hx hb d_MD_reads_163 rfl (lv_at hl 0 rfl) ?_
                refine va_get (D := (dC, dI)) (ci := 7) (v := .int (nI (b + j))) (C := xR_MD) (T := xT_MD) (N := 27) hx hb hts (fun w h => List.mem_cons_of_mem _ (iw_MD w h)) hown hK hP 0 rfl rfl 25 (by decide) (hts _ (List.mem_cons_of_mem _ wm_722)) (fun _ h9 => h9) rfl d_MD_reads_164 ?_
                refine lv_aload_n hx hb d_MD_reads_167 rfl (lv_at hl 0 rfl) ?_
                refine va_get (D := (dC, dI)) (ci := 7) (v := .int (nI sn)) (C := xR_MD) (T := xT_MD) (N := 27) hx hb hts (fun w h => List.mem_cons_of_mem _ (iw_MD w h)) hown hK hP 0 rfl rfl 23 (by decide) (hts _ (List.mem_cons_of_mem _ wm_720)) (fun _ h9 => h9) rfl d_MD_reads_168 ?_
                refine lv_icmp_ge (tgt := 191) hx hb d_MD_reads_171 (by decide) (fun c_73 => ?_) (fun c_73 => ?_)
                · have n_74 := xn_le (a := sn) (b := (b + j)) c_73 rfl rfl (by omega) (by omega)
                  refine lv_iconst (v := 0) hx hb d_MD_reads_191 (by decide) ?_
                  refine lv_istore (lv' := [(4, .int 0), (0, .ref h0), (1, .int a), (2, .int 0), (3, .int (nI j))]) hx hb d_MD_reads_192 hl (by decide) rfl (fun ls hl => ?_)
                  refine lv_aload_n hx hb d_MD_reads_194 rfl (lv_at hl 1 rfl) ?_
                  refine lv_dup hx hb d_MD_reads_195 rfl ?_
                  refine va_get (D := (dC, dI)) (ci := 7) (v := .int (nI (b + j))) (C := xR_MD) (T := xT_MD) (N := 27) hx hb hts (fun w h => List.mem_cons_of_mem _ (iw_MD w h)) hown hK hP 0 rfl rfl 25 (by decide) (hts _ (List.mem_cons_of_mem _ wm_722)) (fun _ h9 => h9) rfl d_MD_reads_196 ?_
                  refine lv_iconst (v := 1) hx hb d_MD_reads_199 (by decide) ?_
                  refine lv_iadd hx hb d_MD_reads_200 ?_
                  refine xv_i (y := nI ((b + j) + 1)) (nI_1 _) ?_
                  refine va_put (D := (dC, dI)) (ci := 7) (v := .int (nI ((b + j) + 1))) (ty := .int) (C := xR_MD) (T := xT_MD) (N := 27) hx hb hts (fun w h => List.mem_cons_of_mem _ (iw_MD w h)) xt_MD xt_MD_ok xn_MD_nm hown hK hP hD hS 0 rfl rfl 25 (by decide) (hts _ (List.mem_cons_of_mem _ wm_722)) (fun _ h9 => h9) rfl (by decide +kernel) rfl rfl (Nat.le_of_ble_eq_true rfl) d_MD_reads_201 (fun H locs hP hD hS => ?_)
                  have hP : va_P (dC, dI) xCl [(h0, .inr (7, [.int th, .int (nI nm), .ref ap, .int (nI no), .ref am, .ref aw, .ref az, .ref au, .int kn, .long vP, .long vQ, .long vS, .long vT, .long vB, .long vM, .long vH, .ref ao, .ref ax, .int (nI np), .ref ay, .int (nI nl), .ref ad, .ref al, .int (nI sn), .ref ag, .int (nI ((b + j) + 1)), .int (sr_va gg b (min j 6))])), (ag, .inl (kg, 200, .inl gg))] H := hP
                  have hD : va_D A [(h0, .inr (7, [.int th, .int (nI nm), .ref ap, .int (nI no), .ref am, .ref aw, .ref az, .ref au, .int kn, .long vP, .long vQ, .long vS, .long vT, .long vB, .long vM, .long vH, .ref ao, .ref ax, .int (nI np), .ref ay, .int (nI nl), .ref ad, .ref al, .int (nI sn), .ref ag, .int (nI ((b + j) + 1)), .int (sr_va gg b (min j 6))])), (ag, .inl (kg, 200, .inl gg))] := hD
                  refine lv_iload_n hx hb d_MD_reads_204 rfl (lv_at hl 4 rfl) ?_
                  refine lv_if_le (tgt := 223) hx hb d_MD_reads_205 (by decide) (fun c_75 => ?_) (fun c_75 => ?_)
                  · have n_76 := xn_le (a := j) (b := 0) c_75 rfl (by decide) (by omega) (by omega)
                    refine lv_iconst (v := 0) hx hb d_MD_reads_223 (by decide) ?_
                    have hP9 := hP.sub (ws' := [(h0, .inr (7, [.int th, .int (nI nm), .ref ap, .int (nI no), .ref am, .ref aw, .ref az, .ref au, .int kn, .long vP, .long vQ, .long vS, .long vT, .long vB, .long vM, .long vH, .ref ao, .ref ax, .int (nI np), .ref ay, .int (nI nl), .ref ad, .ref al, .int (nI sn), .ref ag, .int (nI ((b + j) + 1)), .int (sr_va gg b (min j 6))])), (ag, .inl (kg, 200, .inl gg))]) [0, 1] rfl
                    have hD9 := hD.sub (ws' := [(h0, .inr (7, [.int th, .int (nI nm), .ref ap, .int (nI no), .ref am, .ref aw, .ref az, .ref au, .int kn, .long vP, .long vQ, .long vS, .long vT, .long vB, .long vM, .long vH, .ref ao, .ref ax, .int (nI np), .ref ay, .int (nI nl), .ref ad, .ref al, .int (nI sn), .ref ag, .int (nI ((b + j) + 1)), .int (sr_va gg b (min j 6))])), (ag, .inl (kg, 200, .inl gg))]) [0, 1] (by decide) rfl
                    have hK9 := hK.sub (tys' := [(kg, .int)]) [0] rfl
                    exact W.zret (v := 0) (ty := .boolean) hx hb hr (by exact rfl) (fun t ht hW => ⟨⟨0, (), rfl, bI_n (by unfold md_rs md_np md_nd; rw [← hbe, ← he6]; exact fun q => absurd q.1 (by omega)), ⟨by rw [ht]; unfold md_np md_nv md_nd; rw [← hbe, ← he6, if_neg (fun q => c_68 q.2)]; exact hP9, va_K.moved hW.alike hK9, by unfold md_np md_nv md_nd; rw [← hbe, ← he6, if_neg (fun q => c_68 q.2)]; exact hD9⟩⟩, hS.F ht⟩) hS.2.2 d_MD_reads_224 hlocks
                  · have n_77 := xn_nle (a := j) (b := 0) c_75 rfl (by decide) (by omega) (by omega)
                    refine lv_iload_n hx hb d_MD_reads_208 rfl (lv_at hl 4 rfl) ?_
                    refine lv_bipush (v := 7) hx hb d_MD_reads_209 (by decide) ?_
                    refine lv_icmp_ge (tgt := 223) hx hb d_MD_reads_211 (by decide) (fun c_78 => ?_) (fun c_78 => ?_)
                    · have n_79 := xn_le (a := 7) (b := j) c_78 (by decide) rfl (by omega) (by omega)
                      refine lv_iconst (v := 0) hx hb d_MD_reads_223 (by decide) ?_
                      have hP9 := hP.sub (ws' := [(h0, .inr (7, [.int th, .int (nI nm), .ref ap, .int (nI no), .ref am, .ref aw, .ref az, .ref au, .int kn, .long vP, .long vQ, .long vS, .long vT, .long vB, .long vM, .long vH, .ref ao, .ref ax, .int (nI np), .ref ay, .int (nI nl), .ref ad, .ref al, .int (nI sn), .ref ag, .int (nI ((b + j) + 1)), .int (sr_va gg b (min j 6))])), (ag, .inl (kg, 200, .inl gg))]) [0, 1] rfl
                      have hD9 := hD.sub (ws' := [(h0, .inr (7, [.int th, .int (nI nm), .ref ap, .int (nI no), .ref am, .ref aw, .ref az, .ref au, .int kn, .long vP, .long vQ, .long vS, .long vT, .long vB, .long vM, .long vH, .ref ao, .ref ax, .int (nI np), .ref ay, .int (nI nl), .ref ad, .ref al, .int (nI sn), .ref ag, .int (nI ((b + j) + 1)), .int (sr_va gg b (min j 6))])), (ag, .inl (kg, 200, .inl gg))]) [0, 1] (by decide) rfl
                      have hK9 := hK.sub (tys' := [(kg, .int)]) [0] rfl
                      exact W.zret (v := 0) (ty := .boolean) hx hb hr (by exact rfl) (fun t ht hW => ⟨⟨0, (), rfl, bI_n (by unfold md_rs md_np md_nd; rw [← hbe, ← he6]; exact fun q => absurd q.2.1 (by omega)), ⟨by rw [ht]; unfold md_np md_nv md_nd; rw [← hbe, ← he6, if_neg (fun q => c_68 q.2)]; exact hP9, va_K.moved hW.alike hK9, by unfold md_np md_nv md_nd; rw [← hbe, ← he6, if_neg (fun q => c_68 q.2)]; exact hD9⟩⟩, hS.F ht⟩) hS.2.2 d_MD_reads_224 hlocks
                    · have n_80 := xn_nle (a := 7) (b := j) c_78 (by decide) rfl (by omega) (by omega)
                      refine lv_iload hx hb d_MD_reads_214 (lv_at hl 0 rfl) ?_
                      refine lv_if_eq (tgt := 223) hx hb d_MD_reads_216 (by decide) (fun c_81 => ?_) (fun c_81 => ?_)
                      · refine lv_iconst (v := 0) hx hb d_MD_reads_223 (by decide) ?_
                        have hP9 := hP.sub (ws' := [(h0, .inr (7, [.int th, .int (nI nm), .ref ap, .int (nI no), .ref am, .ref aw, .ref az, .ref au, .int kn, .long vP, .long vQ, .long vS, .long vT, .long vB, .long vM, .long vH, .ref ao, .ref ax, .int (nI np), .ref ay, .int (nI nl), .ref ad, .ref al, .int (nI sn), .ref ag, .int (nI ((b + j) + 1)), .int (sr_va gg b (min j 6))])), (ag, .inl (kg, 200, .inl gg))]) [0, 1] rfl
                        have hD9 := hD.sub (ws' := [(h0, .inr (7, [.int th, .int (nI nm), .ref ap, .int (nI no), .ref am, .ref aw, .ref az, .ref au, .int kn, .long vP, .long vQ, .long vS, .long vT, .long vB, .long vM, .long vH, .ref ao, .ref ax, .int (nI np), .ref ay, .int (nI nl), .ref ad, .ref al, .int (nI sn), .ref ag, .int (nI ((b + j) + 1)), .int (sr_va gg b (min j 6))])), (ag, .inl (kg, 200, .inl gg))]) [0, 1] (by decide) rfl
                        have hK9 := hK.sub (tys' := [(kg, .int)]) [0] rfl
                        exact W.zret (v := 0) (ty := .boolean) hx hb hr (by exact rfl) (fun t ht hW => ⟨⟨0, (), rfl, bI_n (by unfold md_rs md_np md_nd; rw [← hbe, ← he6]; exact fun q => absurd q.2.2.1 (by omega)), ⟨by rw [ht]; unfold md_np md_nv md_nd; rw [← hbe, ← he6, if_neg (fun q => c_68 q.2)]; exact hP9, va_K.moved hW.alike hK9, by unfold md_np md_nv md_nd; rw [← hbe, ← he6, if_neg (fun q => c_68 q.2)]; exact hD9⟩⟩, hS.F ht⟩) hS.2.2 d_MD_reads_224 hlocks
                      · exact absurd c_81 (by decide)
                · have n_82 := xn_nle (a := sn) (b := (b + j)) c_73 rfl rfl (by omega) (by omega)
                  refine lv_aload_n hx hb d_MD_reads_174 rfl (lv_at hl 0 rfl) ?_
                  refine va_get (D := (dC, dI)) (ci := 7) (v := .ref ag) (C := xR_MD) (T := xT_MD) (N := 27) hx hb hts (fun w h => List.mem_cons_of_mem _ (iw_MD w h)) hown hK hP 0 rfl rfl 24 (by decide) (hts _ (List.mem_cons_of_mem _ wm_721)) (fun _ h9 => h9) rfl d_MD_reads_175 ?_
                  refine lv_aload_n hx hb d_MD_reads_178 rfl (lv_at hl 0 rfl) ?_
                  refine va_get (D := (dC, dI)) (ci := 7) (v := .int (nI (b + j))) (C := xR_MD) (T := xT_MD) (N := 27) hx hb hts (fun w h => List.mem_cons_of_mem _ (iw_MD w h)) hown hK hP 0 rfl rfl 25 (by decide) (hts _ (List.mem_cons_of_mem _ wm_722)) (fun _ h9 => h9) rfl d_MD_reads_179 ?_
                  refine xa_iald hx hb hK hP 1 0 rfl rfl (b + j) rfl (by omega) (by decide) d_MD_reads_182 ?_
                  refine lv_iload_n hx hb d_MD_reads_183 rfl (lv_at hl 1 rfl) ?_
                  refine lv_icmp_ne (tgt := 191) hx hb d_MD_reads_184 (by decide) (fun c_83 => ?_) (fun c_83 => ?_)
                  · refine lv_iconst (v := 0) hx hb d_MD_reads_191 (by decide) ?_
                    refine lv_istore (lv' := [(4, .int 0), (0, .ref h0), (1, .int a), (2, .int 0), (3, .int (nI j))]) hx hb d_MD_reads_192 hl (by decide) rfl (fun ls hl => ?_)
                    refine lv_aload_n hx hb d_MD_reads_194 rfl (lv_at hl 1 rfl) ?_
                    refine lv_dup hx hb d_MD_reads_195 rfl ?_
                    refine va_get (D := (dC, dI)) (ci := 7) (v := .int (nI (b + j))) (C := xR_MD) (T := xT_MD) (N := 27) hx hb hts (fun w h => List.mem_cons_of_mem _ (iw_MD w h)) hown hK hP 0 rfl rfl 25 (by decide) (hts _ (List.mem_cons_of_mem _ wm_722)) (fun _ h9 => h9) rfl d_MD_reads_196 ?_
                    refine lv_iconst (v := 1) hx hb d_MD_reads_199 (by decide) ?_
                    refine lv_iadd hx hb d_MD_reads_200 ?_
                    refine xv_i (y := nI ((b + j) + 1)) (nI_1 _) ?_
                    refine va_put (D := (dC, dI)) (ci := 7) (v := .int (nI ((b + j) + 1))) (ty := .int) (C := xR_MD) (T := xT_MD) (N := 27) hx hb hts (fun w h => List.mem_cons_of_mem _ (iw_MD w h)) xt_MD xt_MD_ok xn_MD_nm hown hK hP hD hS 0 rfl rfl 25 (by decide) (hts _ (List.mem_cons_of_mem _ wm_722)) (fun _ h9 => h9) rfl (by decide +kernel) rfl rfl (Nat.le_of_ble_eq_true rfl) d_MD_reads_201 (fun H locs hP hD hS => ?_)
                    have hP : va_P (dC, dI) xCl [(h0, .inr (7, [.int th, .int (nI nm), .ref ap, .int (nI no), .ref am, .ref aw, .ref az, .ref au, .int kn, .long vP, .long vQ, .long vS, .long vT, .long vB, .long vM, .long vH, .ref ao, .ref ax, .int (nI np), .ref ay, .int (nI nl), .ref ad, .ref al, .int (nI sn), .ref ag, .int (nI ((b + j) + 1)), .int (sr_va gg b (min j 6))])), (ag, .inl (kg, 200, .inl gg))] H := hP
                    have hD : va_D A [(h0, .inr (7, [.int th, .int (nI nm), .ref ap, .int (nI no), .ref am, .ref aw, .ref az, .ref au, .int kn, .long vP, .long vQ, .long vS, .long vT, .long vB, .long vM, .long vH, .ref ao, .ref ax, .int (nI np), .ref ay, .int (nI nl), .ref ad, .ref al, .int (nI sn), .ref ag, .int (nI ((b + j) + 1)), .int (sr_va gg b (min j 6))])), (ag, .inl (kg, 200, .inl gg))] := hD
                    refine lv_iload_n hx hb d_MD_reads_204 rfl (lv_at hl 4 rfl) ?_
                    refine lv_if_le (tgt := 223) hx hb d_MD_reads_205 (by decide) (fun c_84 => ?_) (fun c_84 => ?_)
                    · have n_85 := xn_le (a := j) (b := 0) c_84 rfl (by decide) (by omega) (by omega)
                      refine lv_iconst (v := 0) hx hb d_MD_reads_223 (by decide) ?_
                      have hP9 := hP.sub (ws' := [(h0, .inr (7, [.int th, .int (nI nm), .ref ap, .int (nI no), .ref am, .ref aw, .ref az, .ref au, .int kn, .long vP, .long vQ, .long vS, .long vT, .long vB, .long vM, .long vH, .ref ao, .ref ax, .int (nI np), .ref ay, .int (nI nl), .ref ad, .ref al, .int (nI sn), .ref ag, .int (nI ((b + j) + 1)), .int (sr_va gg b (min j 6))])), (ag, .inl (kg, 200, .inl gg))]) [0, 1] rfl
                      have hD9 := hD.sub (ws' := [(h0, .inr (7, [.int th, .int (nI nm), .ref ap, .int (nI no), .ref am, .ref aw, .ref az, .ref au, .int kn, .long vP, .long vQ, .long vS, .long vT, .long vB, .long vM, .long vH, .ref ao, .ref ax, .int (nI np), .ref ay, .int (nI nl), .ref ad, .ref al, .int (nI sn), .ref ag, .int (nI ((b + j) + 1)), .int (sr_va gg b (min j 6))])), (ag, .inl (kg, 200, .inl gg))]) [0, 1] (by decide) rfl
                      have hK9 := hK.sub (tys' := [(kg, .int)]) [0] rfl
                      exact W.zret (v := 0) (ty := .boolean) hx hb hr (by exact rfl) (fun t ht hW => ⟨⟨0, (), rfl, bI_n (by unfold md_rs md_np md_nd; rw [← hbe, ← he6]; exact fun q => absurd q.1 (by omega)), ⟨by rw [ht]; unfold md_np md_nv md_nd; rw [← hbe, ← he6, if_neg (fun q => c_68 q.2)]; exact hP9, va_K.moved hW.alike hK9, by unfold md_np md_nv md_nd; rw [← hbe, ← he6, if_neg (fun q => c_68 q.2)]; exact hD9⟩⟩, hS.F ht⟩) hS.2.2 d_MD_reads_224 hlocks
                    · have n_86 := xn_nle (a := j) (b := 0) c_84 rfl (by decide) (by omega) (by omega)
                      refine lv_iload_n hx hb d_MD_reads_208 rfl (lv_at hl 4 rfl) ?_
                      refine lv_bipush (v := 7) hx hb d_MD_reads_209 (by decide) ?_
                      refine lv_icmp_ge (tgt := 223) hx hb d_MD_reads_211 (by decide) (fun c_87 => ?_) (fun c_87 => ?_)
                      · have n_88 := xn_le (a := 7) (b := j) c_87 (by decide) rfl (by omega) (by omega)
                        refine lv_iconst (v := 0) hx hb d_MD_reads_223 (by decide) ?_
                        have hP9 := hP.sub (ws' := [(h0, .inr (7, [.int th, .int (nI nm), .ref ap, .int (nI no), .ref am, .ref aw, .ref az, .ref au, .int kn, .long vP, .long vQ, .long vS, .long vT, .long vB, .long vM, .long vH, .ref ao, .ref ax, .int (nI np), .ref ay, .int (nI nl), .ref ad, .ref al, .int (nI sn), .ref ag, .int (nI ((b + j) + 1)), .int (sr_va gg b (min j 6))])), (ag, .inl (kg, 200, .inl gg))]) [0, 1] rfl
                        have hD9 := hD.sub (ws' := [(h0, .inr (7, [.int th, .int (nI nm), .ref ap, .int (nI no), .ref am, .ref aw, .ref az, .ref au, .int kn, .long vP, .long vQ, .long vS, .long vT, .long vB, .long vM, .long vH, .ref ao, .ref ax, .int (nI np), .ref ay, .int (nI nl), .ref ad, .ref al, .int (nI sn), .ref ag, .int (nI ((b + j) + 1)), .int (sr_va gg b (min j 6))])), (ag, .inl (kg, 200, .inl gg))]) [0, 1] (by decide) rfl
                        have hK9 := hK.sub (tys' := [(kg, .int)]) [0] rfl
                        exact W.zret (v := 0) (ty := .boolean) hx hb hr (by exact rfl) (fun t ht hW => ⟨⟨0, (), rfl, bI_n (by unfold md_rs md_np md_nd; rw [← hbe, ← he6]; exact fun q => absurd q.2.1 (by omega)), ⟨by rw [ht]; unfold md_np md_nv md_nd; rw [← hbe, ← he6, if_neg (fun q => c_68 q.2)]; exact hP9, va_K.moved hW.alike hK9, by unfold md_np md_nv md_nd; rw [← hbe, ← he6, if_neg (fun q => c_68 q.2)]; exact hD9⟩⟩, hS.F ht⟩) hS.2.2 d_MD_reads_224 hlocks
                      · have n_89 := xn_nle (a := 7) (b := j) c_87 (by decide) rfl (by omega) (by omega)
                        refine lv_iload hx hb d_MD_reads_214 (lv_at hl 0 rfl) ?_
                        refine lv_if_eq (tgt := 223) hx hb d_MD_reads_216 (by decide) (fun c_90 => ?_) (fun c_90 => ?_)
                        · refine lv_iconst (v := 0) hx hb d_MD_reads_223 (by decide) ?_
                          have hP9 := hP.sub (ws' := [(h0, .inr (7, [.int th, .int (nI nm), .ref ap, .int (nI no), .ref am, .ref aw, .ref az, .ref au, .int kn, .long vP, .long vQ, .long vS, .long vT, .long vB, .long vM, .long vH, .ref ao, .ref ax, .int (nI np), .ref ay, .int (nI nl), .ref ad, .ref al, .int (nI sn), .ref ag, .int (nI ((b + j) + 1)), .int (sr_va gg b (min j 6))])), (ag, .inl (kg, 200, .inl gg))]) [0, 1] rfl
                          have hD9 := hD.sub (ws' := [(h0, .inr (7, [.int th, .int (nI nm), .ref ap, .int (nI no), .ref am, .ref aw, .ref az, .ref au, .int kn, .long vP, .long vQ, .long vS, .long vT, .long vB, .long vM, .long vH, .ref ao, .ref ax, .int (nI np), .ref ay, .int (nI nl), .ref ad, .ref al, .int (nI sn), .ref ag, .int (nI ((b + j) + 1)), .int (sr_va gg b (min j 6))])), (ag, .inl (kg, 200, .inl gg))]) [0, 1] (by decide) rfl
                          have hK9 := hK.sub (tys' := [(kg, .int)]) [0] rfl
                          exact W.zret (v := 0) (ty := .boolean) hx hb hr (by exact rfl) (fun t ht hW => ⟨⟨0, (), rfl, bI_n (by unfold md_rs md_np md_nd; rw [← hbe, ← he6]; exact fun q => c_83 q.2.2.2), ⟨by rw [ht]; unfold md_np md_nv md_nd; rw [← hbe, ← he6, if_neg (fun q => c_68 q.2)]; exact hP9, va_K.moved hW.alike hK9, by unfold md_np md_nv md_nd; rw [← hbe, ← he6, if_neg (fun q => c_68 q.2)]; exact hD9⟩⟩, hS.F ht⟩) hS.2.2 d_MD_reads_224 hlocks
                        · exact absurd c_90 (by decide)
                  · refine lv_iconst (v := 1) hx hb d_MD_reads_187 (by decide) ?_
                    refine lv_goto (tgt := 192) hx hb d_MD_reads_188 (by decide) ?_
                    refine lv_istore (lv' := [(4, .int 1), (0, .ref h0), (1, .int a), (2, .int 0), (3, .int (nI j))]) hx hb d_MD_reads_192 hl (by decide) rfl (fun ls hl => ?_)
                    refine lv_aload_n hx hb d_MD_reads_194 rfl (lv_at hl 1 rfl) ?_
                    refine lv_dup hx hb d_MD_reads_195 rfl ?_
                    refine va_get (D := (dC, dI)) (ci := 7) (v := .int (nI (b + j))) (C := xR_MD) (T := xT_MD) (N := 27) hx hb hts (fun w h => List.mem_cons_of_mem _ (iw_MD w h)) hown hK hP 0 rfl rfl 25 (by decide) (hts _ (List.mem_cons_of_mem _ wm_722)) (fun _ h9 => h9) rfl d_MD_reads_196 ?_
                    refine lv_iconst (v := 1) hx hb d_MD_reads_199 (by decide) ?_
                    refine lv_iadd hx hb d_MD_reads_200 ?_
                    refine xv_i (y := nI ((b + j) + 1)) (nI_1 _) ?_
                    refine va_put (D := (dC, dI)) (ci := 7) (v := .int (nI ((b + j) + 1))) (ty := .int) (C := xR_MD) (T := xT_MD) (N := 27) hx hb hts (fun w h => List.mem_cons_of_mem _ (iw_MD w h)) xt_MD xt_MD_ok xn_MD_nm hown hK hP hD hS 0 rfl rfl 25 (by decide) (hts _ (List.mem_cons_of_mem _ wm_722)) (fun _ h9 => h9) rfl (by decide +kernel) rfl rfl (Nat.le_of_ble_eq_true rfl) d_MD_reads_201 (fun H locs hP hD hS => ?_)
                    have hP : va_P (dC, dI) xCl [(h0, .inr (7, [.int th, .int (nI nm), .ref ap, .int (nI no), .ref am, .ref aw, .ref az, .ref au, .int kn, .long vP, .long vQ, .long vS, .long vT, .long vB, .long vM, .long vH, .ref ao, .ref ax, .int (nI np), .ref ay, .int (nI nl), .ref ad, .ref al, .int (nI sn), .ref ag, .int (nI ((b + j) + 1)), .int (sr_va gg b (min j 6))])), (ag, .inl (kg, 200, .inl gg))] H := hP
                    have hD : va_D A [(h0, .inr (7, [.int th, .int (nI nm), .ref ap, .int (nI no), .ref am, .ref aw, .ref az, .ref au, .int kn, .long vP, .long vQ, .long vS, .long vT, .long vB, .long vM, .long vH, .ref ao, .ref ax, .int (nI np), .ref ay, .int (nI nl), .ref ad, .ref al, .int (nI sn), .ref ag, .int (nI ((b + j) + 1)), .int (sr_va gg b (min j 6))])), (ag, .inl (kg, 200, .inl gg))] := hD
                    refine lv_iload_n hx hb d_MD_reads_204 rfl (lv_at hl 4 rfl) ?_
                    refine lv_if_le (tgt := 223) hx hb d_MD_reads_205 (by decide) (fun c_91 => ?_) (fun c_91 => ?_)
                    · have n_92 := xn_le (a := j) (b := 0) c_91 rfl (by decide) (by omega) (by omega)
                      refine lv_iconst (v := 0) hx hb d_MD_reads_223 (by decide) ?_
                      have hP9 := hP.sub (ws' := [(h0, .inr (7, [.int th, .int (nI nm), .ref ap, .int (nI no), .ref am, .ref aw, .ref az, .ref au, .int kn, .long vP, .long vQ, .long vS, .long vT, .long vB, .long vM, .long vH, .ref ao, .ref ax, .int (nI np), .ref ay, .int (nI nl), .ref ad, .ref al, .int (nI sn), .ref ag, .int (nI ((b + j) + 1)), .int (sr_va gg b (min j 6))])), (ag, .inl (kg, 200, .inl gg))]) [0, 1] rfl
                      have hD9 := hD.sub (ws' := [(h0, .inr (7, [.int th, .int (nI nm), .ref ap, .int (nI no), .ref am, .ref aw, .ref az, .ref au, .int kn, .long vP, .long vQ, .long vS, .long vT, .long vB, .long vM, .long vH, .ref ao, .ref ax, .int (nI np), .ref ay, .int (nI nl), .ref ad, .ref al, .int (nI sn), .ref ag, .int (nI ((b + j) + 1)), .int (sr_va gg b (min j 6))])), (ag, .inl (kg, 200, .inl gg))]) [0, 1] (by decide) rfl
                      have hK9 := hK.sub (tys' := [(kg, .int)]) [0] rfl
                      exact W.zret (v := 0) (ty := .boolean) hx hb hr (by exact rfl) (fun t ht hW => ⟨⟨0, (), rfl, bI_n (by unfold md_rs md_np md_nd; rw [← hbe, ← he6]; exact fun q => absurd q.1 (by omega)), ⟨by rw [ht]; unfold md_np md_nv md_nd; rw [← hbe, ← he6, if_neg (fun q => c_68 q.2)]; exact hP9, va_K.moved hW.alike hK9, by unfold md_np md_nv md_nd; rw [← hbe, ← he6, if_neg (fun q => c_68 q.2)]; exact hD9⟩⟩, hS.F ht⟩) hS.2.2 d_MD_reads_224 hlocks
                    · have n_93 := xn_nle (a := j) (b := 0) c_91 rfl (by decide) (by omega) (by omega)
                      refine lv_iload_n hx hb d_MD_reads_208 rfl (lv_at hl 4 rfl) ?_
                      refine lv_bipush (v := 7) hx hb d_MD_reads_209 (by decide) ?_
                      refine lv_icmp_ge (tgt := 223) hx hb d_MD_reads_211 (by decide) (fun c_94 => ?_) (fun c_94 => ?_)
                      · have n_95 := xn_le (a := 7) (b := j) c_94 (by decide) rfl (by omega) (by omega)
                        refine lv_iconst (v := 0) hx hb d_MD_reads_223 (by decide) ?_
                        have hP9 := hP.sub (ws' := [(h0, .inr (7, [.int th, .int (nI nm), .ref ap, .int (nI no), .ref am, .ref aw, .ref az, .ref au, .int kn, .long vP, .long vQ, .long vS, .long vT, .long vB, .long vM, .long vH, .ref ao, .ref ax, .int (nI np), .ref ay, .int (nI nl), .ref ad, .ref al, .int (nI sn), .ref ag, .int (nI ((b + j) + 1)), .int (sr_va gg b (min j 6))])), (ag, .inl (kg, 200, .inl gg))]) [0, 1] rfl
                        have hD9 := hD.sub (ws' := [(h0, .inr (7, [.int th, .int (nI nm), .ref ap, .int (nI no), .ref am, .ref aw, .ref az, .ref au, .int kn, .long vP, .long vQ, .long vS, .long vT, .long vB, .long vM, .long vH, .ref ao, .ref ax, .int (nI np), .ref ay, .int (nI nl), .ref ad, .ref al, .int (nI sn), .ref ag, .int (nI ((b + j) + 1)), .int (sr_va gg b (min j 6))])), (ag, .inl (kg, 200, .inl gg))]) [0, 1] (by decide) rfl
                        have hK9 := hK.sub (tys' := [(kg, .int)]) [0] rfl
                        exact W.zret (v := 0) (ty := .boolean) hx hb hr (by exact rfl) (fun t ht hW => ⟨⟨0, (), rfl, bI_n (by unfold md_rs md_np md_nd; rw [← hbe, ← he6]; exact fun q => absurd q.2.1 (by omega)), ⟨by rw [ht]; unfold md_np md_nv md_nd; rw [← hbe, ← he6, if_neg (fun q => c_68 q.2)]; exact hP9, va_K.moved hW.alike hK9, by unfold md_np md_nv md_nd; rw [← hbe, ← he6, if_neg (fun q => c_68 q.2)]; exact hD9⟩⟩, hS.F ht⟩) hS.2.2 d_MD_reads_224 hlocks
                      · have n_96 := xn_nle (a := 7) (b := j) c_94 (by decide) rfl (by omega) (by omega)
                        refine lv_iload hx hb d_MD_reads_214 (lv_at hl 0 rfl) ?_
                        refine lv_if_eq (tgt := 223) hx hb d_MD_reads_216 (by decide) (fun c_97 => ?_) (fun c_97 => ?_)
                        · exact absurd c_97 (by decide)
                        · refine lv_iconst (v := 1) hx hb d_MD_reads_219 (by decide) ?_
                          refine lv_goto (tgt := 224) hx hb d_MD_reads_220 (by decide) ?_
                          have hP9 := hP.sub (ws' := [(h0, .inr (7, [.int th, .int (nI nm), .ref ap, .int (nI no), .ref am, .ref aw, .ref az, .ref au, .int kn, .long vP, .long vQ, .long vS, .long vT, .long vB, .long vM, .long vH, .ref ao, .ref ax, .int (nI np), .ref ay, .int (nI nl), .ref ad, .ref al, .int (nI sn), .ref ag, .int (nI ((b + j) + 1)), .int (sr_va gg b (min j 6))])), (ag, .inl (kg, 200, .inl gg))]) [0, 1] rfl
                          have hD9 := hD.sub (ws' := [(h0, .inr (7, [.int th, .int (nI nm), .ref ap, .int (nI no), .ref am, .ref aw, .ref az, .ref au, .int kn, .long vP, .long vQ, .long vS, .long vT, .long vB, .long vM, .long vH, .ref ao, .ref ax, .int (nI np), .ref ay, .int (nI nl), .ref ad, .ref al, .int (nI sn), .ref ag, .int (nI ((b + j) + 1)), .int (sr_va gg b (min j 6))])), (ag, .inl (kg, 200, .inl gg))]) [0, 1] (by decide) rfl
                          have hK9 := hK.sub (tys' := [(kg, .int)]) [0] rfl
                          exact W.zret (v := 1) (ty := .boolean) hx hb hr (by exact rfl) (fun t ht hW => ⟨⟨1, (), rfl, bI_p (by unfold md_rs md_np md_nd; rw [← hbe, ← he6]; exact ⟨n_93, n_96, n_82, c_83⟩), ⟨by rw [ht]; unfold md_np md_nv md_nd; rw [← hbe, ← he6, if_neg (fun q => c_68 q.2)]; exact hP9, va_K.moved hW.alike hK9, by unfold md_np md_nv md_nd; rw [← hbe, ← he6, if_neg (fun q => c_68 q.2)]; exact hD9⟩⟩, hS.F ht⟩) hS.2.2 d_MD_reads_224 hlocks
              · exact absurd c_72 (by decide)
            · have n_98 := xn_nle (a := sn) (b := (b + j)) c_70 rfl rfl (by omega) (by omega)
              refine lv_aload_n hx hb d_MD_reads_70 rfl (lv_at hl 0 rfl) ?_
              refine va_get (D := (dC, dI)) (ci := 7) (v := .ref ag) (C := xR_MD) (T := xT_MD) (N := 27) hx hb hts (fun w h => List.mem_cons_of_mem _ (iw_MD w h)) hown hK hP 0 rfl rfl 24 (by decide) (hts _ (List.mem_cons_of_mem _ wm_721)) (fun _ h9 => h9) rfl d_MD_reads_71 ?_
              refine lv_aload_n hx hb d_MD_reads_74 rfl (lv_at hl 0 rfl) ?_
              refine va_get (D := (dC, dI)) (ci := 7) (v := .int (nI (b + j))) (C := xR_MD) (T := xT_MD) (N := 27) hx hb hts (fun w h => List.mem_cons_of_mem _ (iw_MD w h)) hown hK hP 0 rfl rfl 25 (by decide) (hts _ (List.mem_cons_of_mem _ wm_722)) (fun _ h9 => h9) rfl d_MD_reads_75 ?_
              refine xa_iald hx hb hK hP 1 0 rfl rfl (b + j) rfl (by omega) (by decide) d_MD_reads_78 ?_
              refine lv_bipush (v := 48) hx hb d_MD_reads_79 (by decide) ?_
              refine lv_bipush (v := 57) hx hb d_MD_reads_81 (by decide) ?_
              refine xr_calli (va_runS (As := [.int (gg (b + j)), .int 48, .int 57]) (rest := []) ⟨hx, hb, hml, hown, hts⟩ (c_MD_within l dC dI (gg (b + j)) 48 57) (va_cwS 3 hts (xgS wm_790 wm_791 wm_34 wm_792) rfl rfl rfl (by decide +kernel) ⟨Nat.le_of_ble_eq_true rfl, Nat.le_of_ble_eq_true rfl⟩) ⟨xp_blind, fun U hU hW => ⟨rfl, hz.warm hW, by rw [hU]; exact hP.sub [] rfl, va_K.moved hW.alike (hK.sub [] rfl)⟩⟩ rfl rfl hl.1 rfl (lv_room (Nat.le_of_ble_eq_true rfl)) d_MD_reads_83 ⟨Nat.le_of_ble_eq_true rfl, Nat.le_of_ble_eq_true rfl⟩) (fun r_99 h_100 => ?_)
              subst h_100
              refine lv_if_eq (tgt := 142) hx hb d_MD_reads_86 (by decide) (fun c_101 => ?_) (fun c_101 => ?_)
              · have b_102 := bI_f (rfl : bI (md_win (gg (b + j)) 48 57) = _) c_101
                have he6 : j = sr_dn gg sn b 201 := md_dn_n b_102 hdn
                refine lv_aload_n hx hb d_MD_reads_142 rfl (lv_at hl 0 rfl) ?_
                refine lv_iload_n hx hb d_MD_reads_143 rfl (lv_at hl 2 rfl) ?_
                refine lv_if_eq (tgt := 156) hx hb d_MD_reads_144 (by decide) (fun c_103 => ?_) (fun c_103 => ?_)
                · refine lv_aload_n hx hb d_MD_reads_156 rfl (lv_at hl 0 rfl) ?_
                  refine va_get (D := (dC, dI)) (ci := 7) (v := .int (sr_va gg b (min j 6))) (C := xR_MD) (T := xT_MD) (N := 27) hx hb hts (fun w h => List.mem_cons_of_mem _ (iw_MD w h)) hown hK hP 0 rfl rfl 26 (by decide) (hts _ (List.mem_cons_of_mem _ wm_723)) (fun _ h9 => h9) rfl d_MD_reads_157 ?_
                  refine va_put (D := (dC, dI)) (ci := 7) (v := .int (sr_va gg b (min j 6))) (ty := .int) (C := xR_MD) (T := xT_MD) (N := 27) hx hb hts (fun w h => List.mem_cons_of_mem _ (iw_MD w h)) xt_MD xt_MD_ok xn_MD_nm hown hK hP hD hS 0 rfl rfl 26 (by decide) (hts _ (List.mem_cons_of_mem _ wm_723)) (fun _ h9 => h9) rfl (by decide +kernel) rfl rfl (Nat.le_of_ble_eq_true rfl) d_MD_reads_160 (fun H locs hP hD hS => ?_)
                  have hP : va_P (dC, dI) xCl [(h0, .inr (7, [.int th, .int (nI nm), .ref ap, .int (nI no), .ref am, .ref aw, .ref az, .ref au, .int kn, .long vP, .long vQ, .long vS, .long vT, .long vB, .long vM, .long vH, .ref ao, .ref ax, .int (nI np), .ref ay, .int (nI nl), .ref ad, .ref al, .int (nI sn), .ref ag, .int (nI (b + j)), .int (sr_va gg b (min j 6))])), (ag, .inl (kg, 200, .inl gg))] H := hP
                  have hD : va_D A [(h0, .inr (7, [.int th, .int (nI nm), .ref ap, .int (nI no), .ref am, .ref aw, .ref az, .ref au, .int kn, .long vP, .long vQ, .long vS, .long vT, .long vB, .long vM, .long vH, .ref ao, .ref ax, .int (nI np), .ref ay, .int (nI nl), .ref ad, .ref al, .int (nI sn), .ref ag, .int (nI (b + j)), .int (sr_va gg b (min j 6))])), (ag, .inl (kg, 200, .inl gg))] := hD
                  refine lv_aload_n hx hb d_MD_reads_163 rfl (lv_at hl 0 rfl) ?_
                  refine va_get (D := (dC, dI)) (ci := 7) (v := .int (nI (b + j))) (C := xR_MD) (T := xT_MD) (N := 27) hx hb hts (fun w h => List.mem_cons_of_mem _ (iw_MD w h)) hown hK hP 0 rfl rfl 25 (by decide) (hts _ (List.mem_cons_of_mem _ wm_722)) (fun _ h9 => h9) rfl d_MD_reads_164 ?_
                  refine lv_aload_n hx hb d_MD_reads_167 rfl (lv_at hl 0 rfl) ?_
                  refine va_get (D := (dC, dI)) (ci := 7) (v := .int (nI sn)) (C := xR_MD) (T := xT_MD) (N := 27) hx hb hts (fun w h => List.mem_cons_of_mem _ (iw_MD w h)) hown hK hP 0 rfl rfl 23 (by decide) (hts _ (List.mem_cons_of_mem _ wm_720)) (fun _ h9 => h9) rfl d_MD_reads_168 ?_
                  refine lv_icmp_ge (tgt := 191) hx hb d_MD_reads_171 (by decide) (fun c_104 => ?_) (fun c_104 => ?_)
                  · have n_105 := xn_le (a := sn) (b := (b + j)) c_104 rfl rfl (by omega) (by omega)
                    refine lv_iconst (v := 0) hx hb d_MD_reads_191 (by decide) ?_
                    refine lv_istore (lv' := [(4, .int 0), (0, .ref h0), (1, .int a), (2, .int 0), (3, .int (nI j))]) hx hb d_MD_reads_192 hl (by decide) rfl (fun ls hl => ?_)
                    refine lv_aload_n hx hb d_MD_reads_194 rfl (lv_at hl 1 rfl) ?_
                    refine lv_dup hx hb d_MD_reads_195 rfl ?_
                    refine va_get (D := (dC, dI)) (ci := 7) (v := .int (nI (b + j))) (C := xR_MD) (T := xT_MD) (N := 27) hx hb hts (fun w h => List.mem_cons_of_mem _ (iw_MD w h)) hown hK hP 0 rfl rfl 25 (by decide) (hts _ (List.mem_cons_of_mem _ wm_722)) (fun _ h9 => h9) rfl d_MD_reads_196 ?_
                    refine lv_iconst (v := 1) hx hb d_MD_reads_199 (by decide) ?_
                    refine lv_iadd hx hb d_MD_reads_200 ?_
                    refine xv_i (y := nI ((b + j) + 1)) (nI_1 _) ?_
                    refine va_put (D := (dC, dI)) (ci := 7) (v := .int (nI ((b + j) + 1))) (ty := .int) (C := xR_MD) (T := xT_MD) (N := 27) hx hb hts (fun w h => List.mem_cons_of_mem _ (iw_MD w h)) xt_MD xt_MD_ok xn_MD_nm hown hK hP hD hS 0 rfl rfl 25 (by decide) (hts _ (List.mem_cons_of_mem _ wm_722)) (fun _ h9 => h9) rfl (by decide +kernel) rfl rfl (Nat.le_of_ble_eq_true rfl) d_MD_reads_201 (fun H locs hP hD hS => ?_)
                    have hP : va_P (dC, dI) xCl [(h0, .inr (7, [.int th, .int (nI nm), .ref ap, .int (nI no), .ref am, .ref aw, .ref az, .ref au, .int kn, .long vP, .long vQ, .long vS, .long vT, .long vB, .long vM, .long vH, .ref ao, .ref ax, .int (nI np), .ref ay, .int (nI nl), .ref ad, .ref al, .int (nI sn), .ref ag, .int (nI ((b + j) + 1)), .int (sr_va gg b (min j 6))])), (ag, .inl (kg, 200, .inl gg))] H := hP
                    have hD : va_D A [(h0, .inr (7, [.int th, .int (nI nm), .ref ap, .int (nI no), .ref am, .ref aw, .ref az, .ref au, .int kn, .long vP, .long vQ, .long vS, .long vT, .long vB, .long vM, .long vH, .ref ao, .ref ax, .int (nI np), .ref ay, .int (nI nl), .ref ad, .ref al, .int (nI sn), .ref ag, .int (nI ((b + j) + 1)), .int (sr_va gg b (min j 6))])), (ag, .inl (kg, 200, .inl gg))] := hD
                    refine lv_iload_n hx hb d_MD_reads_204 rfl (lv_at hl 4 rfl) ?_
                    refine lv_if_le (tgt := 223) hx hb d_MD_reads_205 (by decide) (fun c_106 => ?_) (fun c_106 => ?_)
                    · have n_107 := xn_le (a := j) (b := 0) c_106 rfl (by decide) (by omega) (by omega)
                      refine lv_iconst (v := 0) hx hb d_MD_reads_223 (by decide) ?_
                      have hP9 := hP.sub (ws' := [(h0, .inr (7, [.int th, .int (nI nm), .ref ap, .int (nI no), .ref am, .ref aw, .ref az, .ref au, .int kn, .long vP, .long vQ, .long vS, .long vT, .long vB, .long vM, .long vH, .ref ao, .ref ax, .int (nI np), .ref ay, .int (nI nl), .ref ad, .ref al, .int (nI sn), .ref ag, .int (nI ((b + j) + 1)), .int (sr_va gg b (min j 6))])), (ag, .inl (kg, 200, .inl gg))]) [0, 1] rfl
                      have hD9 := hD.sub (ws' := [(h0, .inr (7, [.int th, .int (nI nm), .ref ap, .int (nI no), .ref am, .ref aw, .ref az, .ref au, .int kn, .long vP, .long vQ, .long vS, .long vT, .long vB, .long vM, .long vH, .ref ao, .ref ax, .int (nI np), .ref ay, .int (nI nl), .ref ad, .ref al, .int (nI sn), .ref ag, .int (nI ((b + j) + 1)), .int (sr_va gg b (min j 6))])), (ag, .inl (kg, 200, .inl gg))]) [0, 1] (by decide) rfl
                      have hK9 := hK.sub (tys' := [(kg, .int)]) [0] rfl
                      exact W.zret (v := 0) (ty := .boolean) hx hb hr (by exact rfl) (fun t ht hW => ⟨⟨0, (), rfl, bI_n (by unfold md_rs md_np md_nd; rw [← hbe, ← he6]; exact fun q => absurd q.1 (by omega)), ⟨by rw [ht]; unfold md_np md_nv md_nd; rw [← hbe, ← he6, if_neg (fun q => c_68 q.2)]; exact hP9, va_K.moved hW.alike hK9, by unfold md_np md_nv md_nd; rw [← hbe, ← he6, if_neg (fun q => c_68 q.2)]; exact hD9⟩⟩, hS.F ht⟩) hS.2.2 d_MD_reads_224 hlocks
                    · have n_108 := xn_nle (a := j) (b := 0) c_106 rfl (by decide) (by omega) (by omega)
                      refine lv_iload_n hx hb d_MD_reads_208 rfl (lv_at hl 4 rfl) ?_
                      refine lv_bipush (v := 7) hx hb d_MD_reads_209 (by decide) ?_
                      refine lv_icmp_ge (tgt := 223) hx hb d_MD_reads_211 (by decide) (fun c_109 => ?_) (fun c_109 => ?_)
                      · have n_110 := xn_le (a := 7) (b := j) c_109 (by decide) rfl (by omega) (by omega)
                        refine lv_iconst (v := 0) hx hb d_MD_reads_223 (by decide) ?_
                        have hP9 := hP.sub (ws' := [(h0, .inr (7, [.int th, .int (nI nm), .ref ap, .int (nI no), .ref am, .ref aw, .ref az, .ref au, .int kn, .long vP, .long vQ, .long vS, .long vT, .long vB, .long vM, .long vH, .ref ao, .ref ax, .int (nI np), .ref ay, .int (nI nl), .ref ad, .ref al, .int (nI sn), .ref ag, .int (nI ((b + j) + 1)), .int (sr_va gg b (min j 6))])), (ag, .inl (kg, 200, .inl gg))]) [0, 1] rfl
                        have hD9 := hD.sub (ws' := [(h0, .inr (7, [.int th, .int (nI nm), .ref ap, .int (nI no), .ref am, .ref aw, .ref az, .ref au, .int kn, .long vP, .long vQ, .long vS, .long vT, .long vB, .long vM, .long vH, .ref ao, .ref ax, .int (nI np), .ref ay, .int (nI nl), .ref ad, .ref al, .int (nI sn), .ref ag, .int (nI ((b + j) + 1)), .int (sr_va gg b (min j 6))])), (ag, .inl (kg, 200, .inl gg))]) [0, 1] (by decide) rfl
                        have hK9 := hK.sub (tys' := [(kg, .int)]) [0] rfl
                        exact W.zret (v := 0) (ty := .boolean) hx hb hr (by exact rfl) (fun t ht hW => ⟨⟨0, (), rfl, bI_n (by unfold md_rs md_np md_nd; rw [← hbe, ← he6]; exact fun q => absurd q.2.1 (by omega)), ⟨by rw [ht]; unfold md_np md_nv md_nd; rw [← hbe, ← he6, if_neg (fun q => c_68 q.2)]; exact hP9, va_K.moved hW.alike hK9, by unfold md_np md_nv md_nd; rw [← hbe, ← he6, if_neg (fun q => c_68 q.2)]; exact hD9⟩⟩, hS.F ht⟩) hS.2.2 d_MD_reads_224 hlocks
                      · have n_111 := xn_nle (a := 7) (b := j) c_109 (by decide) rfl (by omega) (by omega)
                        refine lv_iload hx hb d_MD_reads_214 (lv_at hl 0 rfl) ?_
                        refine lv_if_eq (tgt := 223) hx hb d_MD_reads_216 (by decide) (fun c_112 => ?_) (fun c_112 => ?_)
                        · refine lv_iconst (v := 0) hx hb d_MD_reads_223 (by decide) ?_
                          have hP9 := hP.sub (ws' := [(h0, .inr (7, [.int th, .int (nI nm), .ref ap, .int (nI no), .ref am, .ref aw, .ref az, .ref au, .int kn, .long vP, .long vQ, .long vS, .long vT, .long vB, .long vM, .long vH, .ref ao, .ref ax, .int (nI np), .ref ay, .int (nI nl), .ref ad, .ref al, .int (nI sn), .ref ag, .int (nI ((b + j) + 1)), .int (sr_va gg b (min j 6))])), (ag, .inl (kg, 200, .inl gg))]) [0, 1] rfl
                          have hD9 := hD.sub (ws' := [(h0, .inr (7, [.int th, .int (nI nm), .ref ap, .int (nI no), .ref am, .ref aw, .ref az, .ref au, .int kn, .long vP, .long vQ, .long vS, .long vT, .long vB, .long vM, .long vH, .ref ao, .ref ax, .int (nI np), .ref ay, .int (nI nl), .ref ad, .ref al, .int (nI sn), .ref ag, .int (nI ((b + j) + 1)), .int (sr_va gg b (min j 6))])), (ag, .inl (kg, 200, .inl gg))]) [0, 1] (by decide) rfl
                          have hK9 := hK.sub (tys' := [(kg, .int)]) [0] rfl
                          exact W.zret (v := 0) (ty := .boolean) hx hb hr (by exact rfl) (fun t ht hW => ⟨⟨0, (), rfl, bI_n (by unfold md_rs md_np md_nd; rw [← hbe, ← he6]; exact fun q => absurd q.2.2.1 (by omega)), ⟨by rw [ht]; unfold md_np md_nv md_nd; rw [← hbe, ← he6, if_neg (fun q => c_68 q.2)]; exact hP9, va_K.moved hW.alike hK9, by unfold md_np md_nv md_nd; rw [← hbe, ← he6, if_neg (fun q => c_68 q.2)]; exact hD9⟩⟩, hS.F ht⟩) hS.2.2 d_MD_reads_224 hlocks
                        · exact absurd c_112 (by decide)
                  · have n_113 := xn_nle (a := sn) (b := (b + j)) c_104 rfl rfl (by omega) (by omega)
                    refine lv_aload_n hx hb d_MD_reads_174 rfl (lv_at hl 0 rfl) ?_
                    refine va_get (D := (dC, dI)) (ci := 7) (v := .ref ag) (C := xR_MD) (T := xT_MD) (N := 27) hx hb hts (fun w h => List.mem_cons_of_mem _ (iw_MD w h)) hown hK hP 0 rfl rfl 24 (by decide) (hts _ (List.mem_cons_of_mem _ wm_721)) (fun _ h9 => h9) rfl d_MD_reads_175 ?_
                    refine lv_aload_n hx hb d_MD_reads_178 rfl (lv_at hl 0 rfl) ?_
                    refine va_get (D := (dC, dI)) (ci := 7) (v := .int (nI (b + j))) (C := xR_MD) (T := xT_MD) (N := 27) hx hb hts (fun w h => List.mem_cons_of_mem _ (iw_MD w h)) hown hK hP 0 rfl rfl 25 (by decide) (hts _ (List.mem_cons_of_mem _ wm_722)) (fun _ h9 => h9) rfl d_MD_reads_179 ?_
                    refine xa_iald hx hb hK hP 1 0 rfl rfl (b + j) rfl (by omega) (by decide) d_MD_reads_182 ?_
                    refine lv_iload_n hx hb d_MD_reads_183 rfl (lv_at hl 1 rfl) ?_
                    refine lv_icmp_ne (tgt := 191) hx hb d_MD_reads_184 (by decide) (fun c_114 => ?_) (fun c_114 => ?_)
                    · refine lv_iconst (v := 0) hx hb d_MD_reads_191 (by decide) ?_
                      refine lv_istore (lv' := [(4, .int 0), (0, .ref h0), (1, .int a), (2, .int 0), (3, .int (nI j))]) hx hb d_MD_reads_192 hl (by decide) rfl (fun ls hl => ?_)
                      refine lv_aload_n hx hb d_MD_reads_194 rfl (lv_at hl 1 rfl) ?_
                      refine lv_dup hx hb d_MD_reads_195 rfl ?_
                      refine va_get (D := (dC, dI)) (ci := 7) (v := .int (nI (b + j))) (C := xR_MD) (T := xT_MD) (N := 27) hx hb hts (fun w h => List.mem_cons_of_mem _ (iw_MD w h)) hown hK hP 0 rfl rfl 25 (by decide) (hts _ (List.mem_cons_of_mem _ wm_722)) (fun _ h9 => h9) rfl d_MD_reads_196 ?_
                      refine lv_iconst (v := 1) hx hb d_MD_reads_199 (by decide) ?_
                      refine lv_iadd hx hb d_MD_reads_200 ?_
                      refine xv_i (y := nI ((b + j) + 1)) (nI_1 _) ?_
                      refine va_put (D := (dC, dI)) (ci := 7) (v := .int (nI ((b + j) + 1))) (ty := .int) (C := xR_MD) (T := xT_MD) (N := 27) hx hb hts (fun w h => List.mem_cons_of_mem _ (iw_MD w h)) xt_MD xt_MD_ok xn_MD_nm hown hK hP hD hS 0 rfl rfl 25 (by decide) (hts _ (List.mem_cons_of_mem _ wm_722)) (fun _ h9 => h9) rfl (by decide +kernel) rfl rfl (Nat.le_of_ble_eq_true rfl) d_MD_reads_201 (fun H locs hP hD hS => ?_)
                      have hP : va_P (dC, dI) xCl [(h0, .inr (7, [.int th, .int (nI nm), .ref ap, .int (nI no), .ref am, .ref aw, .ref az, .ref au, .int kn, .long vP, .long vQ, .long vS, .long vT, .long vB, .long vM, .long vH, .ref ao, .ref ax, .int (nI np), .ref ay, .int (nI nl), .ref ad, .ref al, .int (nI sn), .ref ag, .int (nI ((b + j) + 1)), .int (sr_va gg b (min j 6))])), (ag, .inl (kg, 200, .inl gg))] H := hP
                      have hD : va_D A [(h0, .inr (7, [.int th, .int (nI nm), .ref ap, .int (nI no), .ref am, .ref aw, .ref az, .ref au, .int kn, .long vP, .long vQ, .long vS, .long vT, .long vB, .long vM, .long vH, .ref ao, .ref ax, .int (nI np), .ref ay, .int (nI nl), .ref ad, .ref al, .int (nI sn), .ref ag, .int (nI ((b + j) + 1)), .int (sr_va gg b (min j 6))])), (ag, .inl (kg, 200, .inl gg))] := hD
                      refine lv_iload_n hx hb d_MD_reads_204 rfl (lv_at hl 4 rfl) ?_
                      refine lv_if_le (tgt := 223) hx hb d_MD_reads_205 (by decide) (fun c_115 => ?_) (fun c_115 => ?_)
                      · have n_116 := xn_le (a := j) (b := 0) c_115 rfl (by decide) (by omega) (by omega)
                        refine lv_iconst (v := 0) hx hb d_MD_reads_223 (by decide) ?_
                        have hP9 := hP.sub (ws' := [(h0, .inr (7, [.int th, .int (nI nm), .ref ap, .int (nI no), .ref am, .ref aw, .ref az, .ref au, .int kn, .long vP, .long vQ, .long vS, .long vT, .long vB, .long vM, .long vH, .ref ao, .ref ax, .int (nI np), .ref ay, .int (nI nl), .ref ad, .ref al, .int (nI sn), .ref ag, .int (nI ((b + j) + 1)), .int (sr_va gg b (min j 6))])), (ag, .inl (kg, 200, .inl gg))]) [0, 1] rfl
                        have hD9 := hD.sub (ws' := [(h0, .inr (7, [.int th, .int (nI nm), .ref ap, .int (nI no), .ref am, .ref aw, .ref az, .ref au, .int kn, .long vP, .long vQ, .long vS, .long vT, .long vB, .long vM, .long vH, .ref ao, .ref ax, .int (nI np), .ref ay, .int (nI nl), .ref ad, .ref al, .int (nI sn), .ref ag, .int (nI ((b + j) + 1)), .int (sr_va gg b (min j 6))])), (ag, .inl (kg, 200, .inl gg))]) [0, 1] (by decide) rfl
                        have hK9 := hK.sub (tys' := [(kg, .int)]) [0] rfl
                        exact W.zret (v := 0) (ty := .boolean) hx hb hr (by exact rfl) (fun t ht hW => ⟨⟨0, (), rfl, bI_n (by unfold md_rs md_np md_nd; rw [← hbe, ← he6]; exact fun q => absurd q.1 (by omega)), ⟨by rw [ht]; unfold md_np md_nv md_nd; rw [← hbe, ← he6, if_neg (fun q => c_68 q.2)]; exact hP9, va_K.moved hW.alike hK9, by unfold md_np md_nv md_nd; rw [← hbe, ← he6, if_neg (fun q => c_68 q.2)]; exact hD9⟩⟩, hS.F ht⟩) hS.2.2 d_MD_reads_224 hlocks
                      · have n_117 := xn_nle (a := j) (b := 0) c_115 rfl (by decide) (by omega) (by omega)
                        refine lv_iload_n hx hb d_MD_reads_208 rfl (lv_at hl 4 rfl) ?_
                        refine lv_bipush (v := 7) hx hb d_MD_reads_209 (by decide) ?_
                        refine lv_icmp_ge (tgt := 223) hx hb d_MD_reads_211 (by decide) (fun c_118 => ?_) (fun c_118 => ?_)
                        · have n_119 := xn_le (a := 7) (b := j) c_118 (by decide) rfl (by omega) (by omega)
                          refine lv_iconst (v := 0) hx hb d_MD_reads_223 (by decide) ?_
                          have hP9 := hP.sub (ws' := [(h0, .inr (7, [.int th, .int (nI nm), .ref ap, .int (nI no), .ref am, .ref aw, .ref az, .ref au, .int kn, .long vP, .long vQ, .long vS, .long vT, .long vB, .long vM, .long vH, .ref ao, .ref ax, .int (nI np), .ref ay, .int (nI nl), .ref ad, .ref al, .int (nI sn), .ref ag, .int (nI ((b + j) + 1)), .int (sr_va gg b (min j 6))])), (ag, .inl (kg, 200, .inl gg))]) [0, 1] rfl
                          have hD9 := hD.sub (ws' := [(h0, .inr (7, [.int th, .int (nI nm), .ref ap, .int (nI no), .ref am, .ref aw, .ref az, .ref au, .int kn, .long vP, .long vQ, .long vS, .long vT, .long vB, .long vM, .long vH, .ref ao, .ref ax, .int (nI np), .ref ay, .int (nI nl), .ref ad, .ref al, .int (nI sn), .ref ag, .int (nI ((b + j) + 1)), .int (sr_va gg b (min j 6))])), (ag, .inl (kg, 200, .inl gg))]) [0, 1] (by decide) rfl
                          have hK9 := hK.sub (tys' := [(kg, .int)]) [0] rfl
                          exact W.zret (v := 0) (ty := .boolean) hx hb hr (by exact rfl) (fun t ht hW => ⟨⟨0, (), rfl, bI_n (by unfold md_rs md_np md_nd; rw [← hbe, ← he6]; exact fun q => absurd q.2.1 (by omega)), ⟨by rw [ht]; unfold md_np md_nv md_nd; rw [← hbe, ← he6, if_neg (fun q => c_68 q.2)]; exact hP9, va_K.moved hW.alike hK9, by unfold md_np md_nv md_nd; rw [← hbe, ← he6, if_neg (fun q => c_68 q.2)]; exact hD9⟩⟩, hS.F ht⟩) hS.2.2 d_MD_reads_224 hlocks
                        · have n_120 := xn_nle (a := 7) (b := j) c_118 (by decide) rfl (by omega) (by omega)
                          refine lv_iload hx hb d_MD_reads_214 (lv_at hl 0 rfl) ?_
                          refine lv_if_eq (tgt := 223) hx hb d_MD_reads_216 (by decide) (fun c_121 => ?_) (fun c_121 => ?_)
                          · refine lv_iconst (v := 0) hx hb d_MD_reads_223 (by decide) ?_
                            have hP9 := hP.sub (ws' := [(h0, .inr (7, [.int th, .int (nI nm), .ref ap, .int (nI no), .ref am, .ref aw, .ref az, .ref au, .int kn, .long vP, .long vQ, .long vS, .long vT, .long vB, .long vM, .long vH, .ref ao, .ref ax, .int (nI np), .ref ay, .int (nI nl), .ref ad, .ref al, .int (nI sn), .ref ag, .int (nI ((b + j) + 1)), .int (sr_va gg b (min j 6))])), (ag, .inl (kg, 200, .inl gg))]) [0, 1] rfl
                            have hD9 := hD.sub (ws' := [(h0, .inr (7, [.int th, .int (nI nm), .ref ap, .int (nI no), .ref am, .ref aw, .ref az, .ref au, .int kn, .long vP, .long vQ, .long vS, .long vT, .long vB, .long vM, .long vH, .ref ao, .ref ax, .int (nI np), .ref ay, .int (nI nl), .ref ad, .ref al, .int (nI sn), .ref ag, .int (nI ((b + j) + 1)), .int (sr_va gg b (min j 6))])), (ag, .inl (kg, 200, .inl gg))]) [0, 1] (by decide) rfl
                            have hK9 := hK.sub (tys' := [(kg, .int)]) [0] rfl
                            exact W.zret (v := 0) (ty := .boolean) hx hb hr (by exact rfl) (fun t ht hW => ⟨⟨0, (), rfl, bI_n (by unfold md_rs md_np md_nd; rw [← hbe, ← he6]; exact fun q => c_114 q.2.2.2), ⟨by rw [ht]; unfold md_np md_nv md_nd; rw [← hbe, ← he6, if_neg (fun q => c_68 q.2)]; exact hP9, va_K.moved hW.alike hK9, by unfold md_np md_nv md_nd; rw [← hbe, ← he6, if_neg (fun q => c_68 q.2)]; exact hD9⟩⟩, hS.F ht⟩) hS.2.2 d_MD_reads_224 hlocks
                          · exact absurd c_121 (by decide)
                    · refine lv_iconst (v := 1) hx hb d_MD_reads_187 (by decide) ?_
                      refine lv_goto (tgt := 192) hx hb d_MD_reads_188 (by decide) ?_
                      refine lv_istore (lv' := [(4, .int 1), (0, .ref h0), (1, .int a), (2, .int 0), (3, .int (nI j))]) hx hb d_MD_reads_192 hl (by decide) rfl (fun ls hl => ?_)
                      refine lv_aload_n hx hb d_MD_reads_194 rfl (lv_at hl 1 rfl) ?_
                      refine lv_dup hx hb d_MD_reads_195 rfl ?_
                      refine va_get (D := (dC, dI)) (ci := 7) (v := .int (nI (b + j))) (C := xR_MD) (T := xT_MD) (N := 27) hx hb hts (fun w h => List.mem_cons_of_mem _ (iw_MD w h)) hown hK hP 0 rfl rfl 25 (by decide) (hts _ (List.mem_cons_of_mem _ wm_722)) (fun _ h9 => h9) rfl d_MD_reads_196 ?_
                      refine lv_iconst (v := 1) hx hb d_MD_reads_199 (by decide) ?_
                      refine lv_iadd hx hb d_MD_reads_200 ?_
                      refine xv_i (y := nI ((b + j) + 1)) (nI_1 _) ?_
                      refine va_put (D := (dC, dI)) (ci := 7) (v := .int (nI ((b + j) + 1))) (ty := .int) (C := xR_MD) (T := xT_MD) (N := 27) hx hb hts (fun w h => List.mem_cons_of_mem _ (iw_MD w h)) xt_MD xt_MD_ok xn_MD_nm hown hK hP hD hS 0 rfl rfl 25 (by decide) (hts _ (List.mem_cons_of_mem _ wm_722)) (fun _ h9 => h9) rfl (by decide +kernel) rfl rfl (Nat.le_of_ble_eq_true rfl) d_MD_reads_201 (fun H locs hP hD hS => ?_)
                      have hP : va_P (dC, dI) xCl [(h0, .inr (7, [.int th, .int (nI nm), .ref ap, .int (nI no), .ref am, .ref aw, .ref az, .ref au, .int kn, .long vP, .long vQ, .long vS, .long vT, .long vB, .long vM, .long vH, .ref ao, .ref ax, .int (nI np), .ref ay, .int (nI nl), .ref ad, .ref al, .int (nI sn), .ref ag, .int (nI ((b + j) + 1)), .int (sr_va gg b (min j 6))])), (ag, .inl (kg, 200, .inl gg))] H := hP
                      have hD : va_D A [(h0, .inr (7, [.int th, .int (nI nm), .ref ap, .int (nI no), .ref am, .ref aw, .ref az, .ref au, .int kn, .long vP, .long vQ, .long vS, .long vT, .long vB, .long vM, .long vH, .ref ao, .ref ax, .int (nI np), .ref ay, .int (nI nl), .ref ad, .ref al, .int (nI sn), .ref ag, .int (nI ((b + j) + 1)), .int (sr_va gg b (min j 6))])), (ag, .inl (kg, 200, .inl gg))] := hD
                      refine lv_iload_n hx hb d_MD_reads_204 rfl (lv_at hl 4 rfl) ?_
                      refine lv_if_le (tgt := 223) hx hb d_MD_reads_205 (by decide) (fun c_122 => ?_) (fun c_122 => ?_)
                      · have n_123 := xn_le (a := j) (b := 0) c_122 rfl (by decide) (by omega) (by omega)
                        refine lv_iconst (v := 0) hx hb d_MD_reads_223 (by decide) ?_
                        have hP9 := hP.sub (ws' := [(h0, .inr (7, [.int th, .int (nI nm), .ref ap, .int (nI no), .ref am, .ref aw, .ref az, .ref au, .int kn, .long vP, .long vQ, .long vS, .long vT, .long vB, .long vM, .long vH, .ref ao, .ref ax, .int (nI np), .ref ay, .int (nI nl), .ref ad, .ref al, .int (nI sn), .ref ag, .int (nI ((b + j) + 1)), .int (sr_va gg b (min j 6))])), (ag, .inl (kg, 200, .inl gg))]) [0, 1] rfl
                        have hD9 := hD.sub (ws' := [(h0, .inr (7, [.int th, .int (nI nm), .ref ap, .int (nI no), .ref am, .ref aw, .ref az, .ref au, .int kn, .long vP, .long vQ, .long vS, .long vT, .long vB, .long vM, .long vH, .ref ao, .ref ax, .int (nI np), .ref ay, .int (nI nl), .ref ad, .ref al, .int (nI sn), .ref ag, .int (nI ((b + j) + 1)), .int (sr_va gg b (min j 6))])), (ag, .inl (kg, 200, .inl gg))]) [0, 1] (by decide) rfl
                        have hK9 := hK.sub (tys' := [(kg, .int)]) [0] rfl
                        exact W.zret (v := 0) (ty := .boolean) hx hb hr (by exact rfl) (fun t ht hW => ⟨⟨0, (), rfl, bI_n (by unfold md_rs md_np md_nd; rw [← hbe, ← he6]; exact fun q => absurd q.1 (by omega)), ⟨by rw [ht]; unfold md_np md_nv md_nd; rw [← hbe, ← he6, if_neg (fun q => c_68 q.2)]; exact hP9, va_K.moved hW.alike hK9, by unfold md_np md_nv md_nd; rw [← hbe, ← he6, if_neg (fun q => c_68 q.2)]; exact hD9⟩⟩, hS.F ht⟩) hS.2.2 d_MD_reads_224 hlocks
                      · have n_124 := xn_nle (a := j) (b := 0) c_122 rfl (by decide) (by omega) (by omega)
                        refine lv_iload_n hx hb d_MD_reads_208 rfl (lv_at hl 4 rfl) ?_
                        refine lv_bipush (v := 7) hx hb d_MD_reads_209 (by decide) ?_
                        refine lv_icmp_ge (tgt := 223) hx hb d_MD_reads_211 (by decide) (fun c_125 => ?_) (fun c_125 => ?_)
                        · have n_126 := xn_le (a := 7) (b := j) c_125 (by decide) rfl (by omega) (by omega)
                          refine lv_iconst (v := 0) hx hb d_MD_reads_223 (by decide) ?_
                          have hP9 := hP.sub (ws' := [(h0, .inr (7, [.int th, .int (nI nm), .ref ap, .int (nI no), .ref am, .ref aw, .ref az, .ref au, .int kn, .long vP, .long vQ, .long vS, .long vT, .long vB, .long vM, .long vH, .ref ao, .ref ax, .int (nI np), .ref ay, .int (nI nl), .ref ad, .ref al, .int (nI sn), .ref ag, .int (nI ((b + j) + 1)), .int (sr_va gg b (min j 6))])), (ag, .inl (kg, 200, .inl gg))]) [0, 1] rfl
                          have hD9 := hD.sub (ws' := [(h0, .inr (7, [.int th, .int (nI nm), .ref ap, .int (nI no), .ref am, .ref aw, .ref az, .ref au, .int kn, .long vP, .long vQ, .long vS, .long vT, .long vB, .long vM, .long vH, .ref ao, .ref ax, .int (nI np), .ref ay, .int (nI nl), .ref ad, .ref al, .int (nI sn), .ref ag, .int (nI ((b + j) + 1)), .int (sr_va gg b (min j 6))])), (ag, .inl (kg, 200, .inl gg))]) [0, 1] (by decide) rfl
                          have hK9 := hK.sub (tys' := [(kg, .int)]) [0] rfl
                          exact W.zret (v := 0) (ty := .boolean) hx hb hr (by exact rfl) (fun t ht hW => ⟨⟨0, (), rfl, bI_n (by unfold md_rs md_np md_nd; rw [← hbe, ← he6]; exact fun q => absurd q.2.1 (by omega)), ⟨by rw [ht]; unfold md_np md_nv md_nd; rw [← hbe, ← he6, if_neg (fun q => c_68 q.2)]; exact hP9, va_K.moved hW.alike hK9, by unfold md_np md_nv md_nd; rw [← hbe, ← he6, if_neg (fun q => c_68 q.2)]; exact hD9⟩⟩, hS.F ht⟩) hS.2.2 d_MD_reads_224 hlocks
                        · have n_127 := xn_nle (a := 7) (b := j) c_125 (by decide) rfl (by omega) (by omega)
                          refine lv_iload hx hb d_MD_reads_214 (lv_at hl 0 rfl) ?_
                          refine lv_if_eq (tgt := 223) hx hb d_MD_reads_216 (by decide) (fun c_128 => ?_) (fun c_128 => ?_)
                          · exact absurd c_128 (by decide)
                          · refine lv_iconst (v := 1) hx hb d_MD_reads_219 (by decide) ?_
                            refine lv_goto (tgt := 224) hx hb d_MD_reads_220 (by decide) ?_
                            have hP9 := hP.sub (ws' := [(h0, .inr (7, [.int th, .int (nI nm), .ref ap, .int (nI no), .ref am, .ref aw, .ref az, .ref au, .int kn, .long vP, .long vQ, .long vS, .long vT, .long vB, .long vM, .long vH, .ref ao, .ref ax, .int (nI np), .ref ay, .int (nI nl), .ref ad, .ref al, .int (nI sn), .ref ag, .int (nI ((b + j) + 1)), .int (sr_va gg b (min j 6))])), (ag, .inl (kg, 200, .inl gg))]) [0, 1] rfl
                            have hD9 := hD.sub (ws' := [(h0, .inr (7, [.int th, .int (nI nm), .ref ap, .int (nI no), .ref am, .ref aw, .ref az, .ref au, .int kn, .long vP, .long vQ, .long vS, .long vT, .long vB, .long vM, .long vH, .ref ao, .ref ax, .int (nI np), .ref ay, .int (nI nl), .ref ad, .ref al, .int (nI sn), .ref ag, .int (nI ((b + j) + 1)), .int (sr_va gg b (min j 6))])), (ag, .inl (kg, 200, .inl gg))]) [0, 1] (by decide) rfl
                            have hK9 := hK.sub (tys' := [(kg, .int)]) [0] rfl
                            exact W.zret (v := 1) (ty := .boolean) hx hb hr (by exact rfl) (fun t ht hW => ⟨⟨1, (), rfl, bI_p (by unfold md_rs md_np md_nd; rw [← hbe, ← he6]; exact ⟨n_124, n_127, n_113, c_114⟩), ⟨by rw [ht]; unfold md_np md_nv md_nd; rw [← hbe, ← he6, if_neg (fun q => c_68 q.2)]; exact hP9, va_K.moved hW.alike hK9, by unfold md_np md_nv md_nd; rw [← hbe, ← he6, if_neg (fun q => c_68 q.2)]; exact hD9⟩⟩, hS.F ht⟩) hS.2.2 d_MD_reads_224 hlocks
                · exact absurd c_103 (by decide)
              · have b_129 := bI_t (rfl : bI (md_win (gg (b + j)) 48 57) = _) c_101
                refine lv_aload_n hx hb d_MD_reads_89 rfl (lv_at hl 0 rfl) ?_
                refine lv_iload_n hx hb d_MD_reads_90 rfl (lv_at hl 3 rfl) ?_
                refine lv_bipush (v := 6) hx hb d_MD_reads_91 (by decide) ?_
                refine lv_icmp_ge (tgt := 119) hx hb d_MD_reads_93 (by decide) (fun c_130 => ?_) (fun c_130 => ?_)
                · have n_131 := xn_le (a := 6) (b := j) c_130 (by decide) rfl (by omega) (by omega)
                  refine lv_aload_n hx hb d_MD_reads_119 rfl (lv_at hl 0 rfl) ?_
                  refine va_get (D := (dC, dI)) (ci := 7) (v := .int (sr_va gg b (min j 6))) (C := xR_MD) (T := xT_MD) (N := 27) hx hb hts (fun w h => List.mem_cons_of_mem _ (iw_MD w h)) hown hK hP 0 rfl rfl 26 (by decide) (hts _ (List.mem_cons_of_mem _ wm_723)) (fun _ h9 => h9) rfl d_MD_reads_120 ?_
                  refine va_put (D := (dC, dI)) (ci := 7) (v := .int (sr_va gg b (min j 6))) (ty := .int) (C := xR_MD) (T := xT_MD) (N := 27) hx hb hts (fun w h => List.mem_cons_of_mem _ (iw_MD w h)) xt_MD xt_MD_ok xn_MD_nm hown hK hP hD hS 0 rfl rfl 26 (by decide) (hts _ (List.mem_cons_of_mem _ wm_723)) (fun _ h9 => h9) rfl (by decide +kernel) rfl rfl (Nat.le_of_ble_eq_true rfl) d_MD_reads_123 (fun H locs hP hD hS => ?_)
                  have hP : va_P (dC, dI) xCl [(h0, .inr (7, [.int th, .int (nI nm), .ref ap, .int (nI no), .ref am, .ref aw, .ref az, .ref au, .int kn, .long vP, .long vQ, .long vS, .long vT, .long vB, .long vM, .long vH, .ref ao, .ref ax, .int (nI np), .ref ay, .int (nI nl), .ref ad, .ref al, .int (nI sn), .ref ag, .int (nI (b + j)), .int (sr_va gg b (min j 6))])), (ag, .inl (kg, 200, .inl gg))] H := hP
                  have hD : va_D A [(h0, .inr (7, [.int th, .int (nI nm), .ref ap, .int (nI no), .ref am, .ref aw, .ref az, .ref au, .int kn, .long vP, .long vQ, .long vS, .long vT, .long vB, .long vM, .long vH, .ref ao, .ref ax, .int (nI np), .ref ay, .int (nI nl), .ref ad, .ref al, .int (nI sn), .ref ag, .int (nI (b + j)), .int (sr_va gg b (min j 6))])), (ag, .inl (kg, 200, .inl gg))] := hD
                  refine lv_iinc (v := nI (j + 1)) (lv' := [(3, .int (nI (j + 1))), (0, .ref h0), (1, .int a), (2, .int 0)]) hx hb d_MD_reads_126 hl (k := 3) rfl (nI_1 _) (by decide) rfl (fun ls hl => ?_)
                  refine lv_aload_n hx hb d_MD_reads_129 rfl (lv_at hl 1 rfl) ?_
                  refine lv_dup hx hb d_MD_reads_130 rfl ?_
                  refine va_get (D := (dC, dI)) (ci := 7) (v := .int (nI (b + j))) (C := xR_MD) (T := xT_MD) (N := 27) hx hb hts (fun w h => List.mem_cons_of_mem _ (iw_MD w h)) hown hK hP 0 rfl rfl 25 (by decide) (hts _ (List.mem_cons_of_mem _ wm_722)) (fun _ h9 => h9) rfl d_MD_reads_131 ?_
                  refine lv_iconst (v := 1) hx hb d_MD_reads_134 (by decide) ?_
                  refine lv_iadd hx hb d_MD_reads_135 ?_
                  refine xv_i (y := nI ((b + j) + 1)) (nI_1 _) ?_
                  refine va_put (D := (dC, dI)) (ci := 7) (v := .int (nI ((b + j) + 1))) (ty := .int) (C := xR_MD) (T := xT_MD) (N := 27) hx hb hts (fun w h => List.mem_cons_of_mem _ (iw_MD w h)) xt_MD xt_MD_ok xn_MD_nm hown hK hP hD hS 0 rfl rfl 25 (by decide) (hts _ (List.mem_cons_of_mem _ wm_722)) (fun _ h9 => h9) rfl (by decide +kernel) rfl rfl (Nat.le_of_ble_eq_true rfl) d_MD_reads_136 (fun H locs hP hD hS => ?_)
                  have hP : va_P (dC, dI) xCl [(h0, .inr (7, [.int th, .int (nI nm), .ref ap, .int (nI no), .ref am, .ref aw, .ref az, .ref au, .int kn, .long vP, .long vQ, .long vS, .long vT, .long vB, .long vM, .long vH, .ref ao, .ref ax, .int (nI np), .ref ay, .int (nI nl), .ref ad, .ref al, .int (nI sn), .ref ag, .int (nI ((b + j) + 1)), .int (sr_va gg b (min j 6))])), (ag, .inl (kg, 200, .inl gg))] H := hP
                  have hD : va_D A [(h0, .inr (7, [.int th, .int (nI nm), .ref ap, .int (nI no), .ref am, .ref aw, .ref az, .ref au, .int kn, .long vP, .long vQ, .long vS, .long vT, .long vB, .long vM, .long vH, .ref ao, .ref ax, .int (nI np), .ref ay, .int (nI nl), .ref ad, .ref al, .int (nI sn), .ref ag, .int (nI ((b + j) + 1)), .int (sr_va gg b (min j 6))])), (ag, .inl (kg, 200, .inl gg))] := hD
                  refine lv_goto (tgt := 59) hx hb d_MD_reads_139 (by decide) ?_
                  exact ih  (j + 1) ((b + j) + 1) (sr_va gg b (min j 6)) (by omega) (by omega) (by omega) (by omega) (md_dn_s (by omega) n_98 b_129 hdn) (md_va_k n_131) _ _ (hP.sub [0, 1] rfl) (hD.sub [0, 1] (by decide) rfl) hS ls (lv_sub hl [1, 2, 3, 0] rfl)
                · have n_132 := xn_nle (a := 6) (b := j) c_130 (by decide) rfl (by omega) (by omega)
                  refine lv_bipush (v := 10) hx hb d_MD_reads_96 (by decide) ?_
                  refine lv_aload_n hx hb d_MD_reads_98 rfl (lv_at hl 0 rfl) ?_
                  refine va_get (D := (dC, dI)) (ci := 7) (v := .int (sr_va gg b (min j 6))) (C := xR_MD) (T := xT_MD) (N := 27) hx hb hts (fun w h => List.mem_cons_of_mem _ (iw_MD w h)) hown hK hP 0 rfl rfl 26 (by decide) (hts _ (List.mem_cons_of_mem _ wm_723)) (fun _ h9 => h9) rfl d_MD_reads_99 ?_
                  refine lv_imul hx hb d_MD_reads_102 ?_
                  refine lv_aload_n hx hb d_MD_reads_103 rfl (lv_at hl 0 rfl) ?_
                  refine va_get (D := (dC, dI)) (ci := 7) (v := .ref ag) (C := xR_MD) (T := xT_MD) (N := 27) hx hb hts (fun w h => List.mem_cons_of_mem _ (iw_MD w h)) hown hK hP 0 rfl rfl 24 (by decide) (hts _ (List.mem_cons_of_mem _ wm_721)) (fun _ h9 => h9) rfl d_MD_reads_104 ?_
                  refine lv_aload_n hx hb d_MD_reads_107 rfl (lv_at hl 0 rfl) ?_
                  refine va_get (D := (dC, dI)) (ci := 7) (v := .int (nI (b + j))) (C := xR_MD) (T := xT_MD) (N := 27) hx hb hts (fun w h => List.mem_cons_of_mem _ (iw_MD w h)) hown hK hP 0 rfl rfl 25 (by decide) (hts _ (List.mem_cons_of_mem _ wm_722)) (fun _ h9 => h9) rfl d_MD_reads_108 ?_
                  refine xa_iald hx hb hK hP 1 0 rfl rfl (b + j) rfl (by omega) (by decide) d_MD_reads_111 ?_
                  refine lv_iadd hx hb d_MD_reads_112 ?_
                  refine lv_bipush (v := 48) hx hb d_MD_reads_113 (by decide) ?_
                  refine lv_isub hx hb d_MD_reads_115 ?_
                  refine lv_goto (tgt := 123) hx hb d_MD_reads_116 (by decide) ?_
                  refine va_put (D := (dC, dI)) (ci := 7) (v := .int (((10 * (sr_va gg b (min j 6))) + (gg (b + j))) - 48)) (ty := .int) (C := xR_MD) (T := xT_MD) (N := 27) hx hb hts (fun w h => List.mem_cons_of_mem _ (iw_MD w h)) xt_MD xt_MD_ok xn_MD_nm hown hK hP hD hS 0 rfl rfl 26 (by decide) (hts _ (List.mem_cons_of_mem _ wm_723)) (fun _ h9 => h9) rfl (by decide +kernel) rfl rfl (Nat.le_of_ble_eq_true rfl) d_MD_reads_123 (fun H locs hP hD hS => ?_)
                  have hP : va_P (dC, dI) xCl [(h0, .inr (7, [.int th, .int (nI nm), .ref ap, .int (nI no), .ref am, .ref aw, .ref az, .ref au, .int kn, .long vP, .long vQ, .long vS, .long vT, .long vB, .long vM, .long vH, .ref ao, .ref ax, .int (nI np), .ref ay, .int (nI nl), .ref ad, .ref al, .int (nI sn), .ref ag, .int (nI (b + j)), .int (((10 * (sr_va gg b (min j 6))) + (gg (b + j))) - 48)])), (ag, .inl (kg, 200, .inl gg))] H := hP
                  have hD : va_D A [(h0, .inr (7, [.int th, .int (nI nm), .ref ap, .int (nI no), .ref am, .ref aw, .ref az, .ref au, .int kn, .long vP, .long vQ, .long vS, .long vT, .long vB, .long vM, .long vH, .ref ao, .ref ax, .int (nI np), .ref ay, .int (nI nl), .ref ad, .ref al, .int (nI sn), .ref ag, .int (nI (b + j)), .int (((10 * (sr_va gg b (min j 6))) + (gg (b + j))) - 48)])), (ag, .inl (kg, 200, .inl gg))] := hD
                  refine lv_iinc (v := nI (j + 1)) (lv' := [(3, .int (nI (j + 1))), (0, .ref h0), (1, .int a), (2, .int 0)]) hx hb d_MD_reads_126 hl (k := 3) rfl (nI_1 _) (by decide) rfl (fun ls hl => ?_)
                  refine lv_aload_n hx hb d_MD_reads_129 rfl (lv_at hl 1 rfl) ?_
                  refine lv_dup hx hb d_MD_reads_130 rfl ?_
                  refine va_get (D := (dC, dI)) (ci := 7) (v := .int (nI (b + j))) (C := xR_MD) (T := xT_MD) (N := 27) hx hb hts (fun w h => List.mem_cons_of_mem _ (iw_MD w h)) hown hK hP 0 rfl rfl 25 (by decide) (hts _ (List.mem_cons_of_mem _ wm_722)) (fun _ h9 => h9) rfl d_MD_reads_131 ?_
                  refine lv_iconst (v := 1) hx hb d_MD_reads_134 (by decide) ?_
                  refine lv_iadd hx hb d_MD_reads_135 ?_
                  refine xv_i (y := nI ((b + j) + 1)) (nI_1 _) ?_
                  refine va_put (D := (dC, dI)) (ci := 7) (v := .int (nI ((b + j) + 1))) (ty := .int) (C := xR_MD) (T := xT_MD) (N := 27) hx hb hts (fun w h => List.mem_cons_of_mem _ (iw_MD w h)) xt_MD xt_MD_ok xn_MD_nm hown hK hP hD hS 0 rfl rfl 25 (by decide) (hts _ (List.mem_cons_of_mem _ wm_722)) (fun _ h9 => h9) rfl (by decide +kernel) rfl rfl (Nat.le_of_ble_eq_true rfl) d_MD_reads_136 (fun H locs hP hD hS => ?_)
                  have hP : va_P (dC, dI) xCl [(h0, .inr (7, [.int th, .int (nI nm), .ref ap, .int (nI no), .ref am, .ref aw, .ref az, .ref au, .int kn, .long vP, .long vQ, .long vS, .long vT, .long vB, .long vM, .long vH, .ref ao, .ref ax, .int (nI np), .ref ay, .int (nI nl), .ref ad, .ref al, .int (nI sn), .ref ag, .int (nI ((b + j) + 1)), .int (((10 * (sr_va gg b (min j 6))) + (gg (b + j))) - 48)])), (ag, .inl (kg, 200, .inl gg))] H := hP
                  have hD : va_D A [(h0, .inr (7, [.int th, .int (nI nm), .ref ap, .int (nI no), .ref am, .ref aw, .ref az, .ref au, .int kn, .long vP, .long vQ, .long vS, .long vT, .long vB, .long vM, .long vH, .ref ao, .ref ax, .int (nI np), .ref ay, .int (nI nl), .ref ad, .ref al, .int (nI sn), .ref ag, .int (nI ((b + j) + 1)), .int (((10 * (sr_va gg b (min j 6))) + (gg (b + j))) - 48)])), (ag, .inl (kg, 200, .inl gg))] := hD
                  refine lv_goto (tgt := 59) hx hb d_MD_reads_139 (by decide) ?_
                  exact ih  (j + 1) ((b + j) + 1) (((10 * (sr_va gg b (min j 6))) + (gg (b + j))) - 48) (by omega) (by omega) (by omega) (by omega) (md_dn_s (by omega) n_98 b_129 hdn) (md_va_s n_132) _ _ (hP.sub [0, 1] rfl) (hD.sub [0, 1] (by decide) rfl) hS ls (lv_sub hl [1, 2, 3, 0] rfl)
        exact lp59 (201 - 0 + 1) 0 b 0 (by omega) (by omega) (by omega) (by omega) (by rw [Nat.zero_add]; rfl) rfl _ _ (hP.sub [0, 1] rfl) (hD.sub [0, 1] (by decide) rfl) hS ls (lv_sub hl [2, 3, 1, 0] rfl)
      · exact absurd c_69 (by decide)
    · refine lv_iconst (v := 1) hx hb d_MD_reads_25 (by decide) ?_
      refine lv_goto (tgt := 30) hx hb d_MD_reads_26 (by decide) ?_
      refine lv_istore_n (lv' := [(2, .int 1), (0, .ref h0), (1, .int a)]) hx hb d_MD_reads_30 rfl hl (by decide) rfl (fun ls hl => ?_)
      refine lv_aload_n hx hb d_MD_reads_31 rfl (lv_at hl 1 rfl) ?_
      refine lv_iload_n hx hb d_MD_reads_32 rfl (lv_at hl 0 rfl) ?_
      refine lv_if_eq (tgt := 45) hx hb d_MD_reads_33 (by decide) (fun c_133 => ?_) (fun c_133 => ?_)
      · exact absurd c_133 (by decide)
      · refine lv_aload_n hx hb d_MD_reads_36 rfl (lv_at hl 1 rfl) ?_
        refine va_get (D := (dC, dI)) (ci := 7) (v := .int (nI ta)) (C := xR_MD) (T := xT_MD) (N := 27) hx hb hts (fun w h => List.mem_cons_of_mem _ (iw_MD w h)) hown hK hP 0 rfl rfl 25 (by decide) (hts _ (List.mem_cons_of_mem _ wm_722)) (fun _ h9 => h9) rfl d_MD_reads_37 ?_
        refine lv_iconst (v := 1) hx hb d_MD_reads_40 (by decide) ?_
        refine lv_iadd hx hb d_MD_reads_41 ?_
        refine xv_i (y := nI (ta + 1)) (nI_1 _) ?_
        refine lv_goto (tgt := 49) hx hb d_MD_reads_42 (by decide) ?_
        refine va_put (D := (dC, dI)) (ci := 7) (v := .int (nI (ta + 1))) (ty := .int) (C := xR_MD) (T := xT_MD) (N := 27) hx hb hts (fun w h => List.mem_cons_of_mem _ (iw_MD w h)) xt_MD xt_MD_ok xn_MD_nm hown hK hP hD hS 0 rfl rfl 25 (by decide) (hts _ (List.mem_cons_of_mem _ wm_722)) (fun _ h9 => h9) rfl (by decide +kernel) rfl rfl (Nat.le_of_ble_eq_true rfl) d_MD_reads_49 (fun H locs hP hD hS => ?_)
        have hP : va_P (dC, dI) xCl [(h0, .inr (7, [.int th, .int (nI nm), .ref ap, .int (nI no), .ref am, .ref aw, .ref az, .ref au, .int kn, .long vP, .long vQ, .long vS, .long vT, .long vB, .long vM, .long vH, .ref ao, .ref ax, .int (nI np), .ref ay, .int (nI nl), .ref ad, .ref al, .int (nI sn), .ref ag, .int (nI (ta + 1)), .int nb])), (ag, .inl (kg, 200, .inl gg))] H := hP
        have hD : va_D A [(h0, .inr (7, [.int th, .int (nI nm), .ref ap, .int (nI no), .ref am, .ref aw, .ref az, .ref au, .int kn, .long vP, .long vQ, .long vS, .long vT, .long vB, .long vM, .long vH, .ref ao, .ref ax, .int (nI np), .ref ay, .int (nI nl), .ref ad, .ref al, .int (nI sn), .ref ag, .int (nI (ta + 1)), .int nb])), (ag, .inl (kg, 200, .inl gg))] := hD
        have hb2 : sr_sk gg sn ta 45 ≤ 200 := sr_sk_le hle hta
        have hbs : sr_sk gg sn ta 45 = ta + 1 := if_pos ⟨n_67, c_68⟩
        obtain ⟨b, hbe⟩ : ∃ b, b = sr_sk gg sn ta 45 := ⟨_, rfl⟩
        rw [← hbe] at hbs hb2
        rw [show nI (ta + 1) = nI b from congrArg nI hbs.symm] at hP hD
        have hP : va_P (dC, dI) xCl [(h0, .inr (7, [.int th, .int (nI nm), .ref ap, .int (nI no), .ref am, .ref aw, .ref az, .ref au, .int kn, .long vP, .long vQ, .long vS, .long vT, .long vB, .long vM, .long vH, .ref ao, .ref ax, .int (nI np), .ref ay, .int (nI nl), .ref ad, .ref al, .int (nI sn), .ref ag, .int (nI b), .int nb])), (ag, .inl (kg, 200, .inl gg))] H := hP
        have hD : va_D A [(h0, .inr (7, [.int th, .int (nI nm), .ref ap, .int (nI no), .ref am, .ref aw, .ref az, .ref au, .int kn, .long vP, .long vQ, .long vS, .long vT, .long vB, .long vM, .long vH, .ref ao, .ref ax, .int (nI np), .ref ay, .int (nI nl), .ref ad, .ref al, .int (nI sn), .ref ag, .int (nI b), .int nb])), (ag, .inl (kg, 200, .inl gg))] := hD
        refine lv_iconst (v := 0) hx hb d_MD_reads_52 (by decide) ?_
        refine lv_istore_n (lv' := [(3, .int 0), (2, .int 1), (0, .ref h0), (1, .int a)]) hx hb d_MD_reads_53 rfl hl (by decide) rfl (fun ls hl => ?_)
        refine lv_aload_n hx hb d_MD_reads_54 rfl (lv_at hl 2 rfl) ?_
        refine lv_iconst (v := 0) hx hb d_MD_reads_55 (by decide) ?_
        refine va_put (D := (dC, dI)) (ci := 7) (v := .int 0) (ty := .int) (C := xR_MD) (T := xT_MD) (N := 27) hx hb hts (fun w h => List.mem_cons_of_mem _ (iw_MD w h)) xt_MD xt_MD_ok xn_MD_nm hown hK hP hD hS 0 rfl rfl 26 (by decide) (hts _ (List.mem_cons_of_mem _ wm_723)) (fun _ h9 => h9) rfl (by decide +kernel) rfl rfl (Nat.le_of_ble_eq_true rfl) d_MD_reads_56 (fun H locs hP hD hS => ?_)
        have hP : va_P (dC, dI) xCl [(h0, .inr (7, [.int th, .int (nI nm), .ref ap, .int (nI no), .ref am, .ref aw, .ref az, .ref au, .int kn, .long vP, .long vQ, .long vS, .long vT, .long vB, .long vM, .long vH, .ref ao, .ref ax, .int (nI np), .ref ay, .int (nI nl), .ref ad, .ref al, .int (nI sn), .ref ag, .int (nI b), .int 0])), (ag, .inl (kg, 200, .inl gg))] H := hP
        have hD : va_D A [(h0, .inr (7, [.int th, .int (nI nm), .ref ap, .int (nI no), .ref am, .ref aw, .ref az, .ref au, .int kn, .long vP, .long vQ, .long vS, .long vT, .long vB, .long vM, .long vH, .ref ao, .ref ax, .int (nI np), .ref ay, .int (nI nl), .ref ad, .ref al, .int (nI sn), .ref ag, .int (nI b), .int 0])), (ag, .inl (kg, 200, .inl gg))] := hD
        have lp59 : ∀ (fuel : Nat) (j : Nat) (z : Nat) (xn : Int32), 201 - j < fuel → j ≤ 200 → z ≤ 200 → z = b + j → j + sr_dn gg sn (b + j) (201 - j) = sr_dn gg sn b 201 → xn = sr_va gg b (min j 6) → ∀ (H : Heap) (locs : List Loc), va_P (dC, dI) xCl [(h0, .inr (7, [.int th, .int (nI nm), .ref ap, .int (nI no), .ref am, .ref aw, .ref az, .ref au, .int kn, .long vP, .long vQ, .long vS, .long vT, .long vB, .long vM, .long vH, .ref ao, .ref ax, .int (nI np), .ref ay, .int (nI nl), .ref ad, .ref al, .int (nI sn), .ref ag, .int (nI z), .int xn])), (ag, .inl (kg, 200, .inl gg))] H → va_D A [(h0, .inr (7, [.int th, .int (nI nm), .ref ap, .int (nI no), .ref am, .ref aw, .ref az, .ref au, .int kn, .long vP, .long vQ, .long vS, .long vT, .long vB, .long vM, .long vH, .ref ao, .ref ax, .int (nI np), .ref ay, .int (nI nl), .ref ad, .ref al, .int (nI sn), .ref ag, .int (nI z), .int xn])), (ag, .inl (kg, 200, .inl gg))] → va_S A s.heap H locs → ∀ (ls : Array Slot), lv_has ls 5 [(0, .ref h0), (1, .int a), (2, .int 1), (3, .int (nI j))] → W p l e (headSpec xw_MD_reads ({ frames := 1, cells := 0, slots := 0, locals := 22 })).room s m ([.ref h0, .int a] : List Value).toArray below meth c H locs 0 0 (MQ below (va_Qi (fun (r : Int32) (_ : Unit) => r = bI (md_rs gg sn ta a)) (fun _ t => xb_w (dC, dI) xCl [(h0, .inr (7, [.int th, .int (nI nm), .ref ap, .int (nI no), .ref am, .ref aw, .ref az, .ref au, .int kn, .long vP, .long vQ, .long vS, .long vT, .long vB, .long vM, .long vH, .ref ao, .ref ax, .int (nI np), .ref ay, .int (nI nl), .ref ad, .ref al, .int (nI sn), .ref ag, .int (nI (md_np gg sn ta + 1)), .int (md_nv gg sn ta)])), (ag, .inl (kg, 200, .inl gg))] [(kg, .int)] A t) A) ([.ref h0, .int a] : List Value).toArray s 0 0 A) (F0 m 59 ls []) := by
          intro fuel
          induction fuel with
          | zero => intro j z xn hfu; exact absurd hfu (Nat.not_lt_zero _)
          | succ fuel ih =>
            intro j z xn hfu hj hz2 hz hdn hxn H locs hP hD hS ls hl
            subst hz
            subst hxn
            refine lv_aload_n hx hb d_MD_reads_59 rfl (lv_at hl 0 rfl) ?_
            refine va_get (D := (dC, dI)) (ci := 7) (v := .int (nI (b + j))) (C := xR_MD) (T := xT_MD) (N := 27) hx hb hts (fun w h => List.mem_cons_of_mem _ (iw_MD w h)) hown hK hP 0 rfl rfl 25 (by decide) (hts _ (List.mem_cons_of_mem _ wm_722)) (fun _ h9 => h9) rfl d_MD_reads_60 ?_
            refine lv_aload_n hx hb d_MD_reads_63 rfl (lv_at hl 0 rfl) ?_
            refine va_get (D := (dC, dI)) (ci := 7) (v := .int (nI sn)) (C := xR_MD) (T := xT_MD) (N := 27) hx hb hts (fun w h => List.mem_cons_of_mem _ (iw_MD w h)) hown hK hP 0 rfl rfl 23 (by decide) (hts _ (List.mem_cons_of_mem _ wm_720)) (fun _ h9 => h9) rfl d_MD_reads_64 ?_
            refine lv_icmp_ge (tgt := 142) hx hb d_MD_reads_67 (by decide) (fun c_134 => ?_) (fun c_134 => ?_)
            · have n_135 := xn_le (a := sn) (b := (b + j)) c_134 rfl rfl (by omega) (by omega)
              have he6 : j = sr_dn gg sn b 201 := md_dn_o n_135 hdn
              refine lv_aload_n hx hb d_MD_reads_142 rfl (lv_at hl 0 rfl) ?_
              refine lv_iload_n hx hb d_MD_reads_143 rfl (lv_at hl 2 rfl) ?_
              refine lv_if_eq (tgt := 156) hx hb d_MD_reads_144 (by decide) (fun c_136 => ?_) (fun c_136 => ?_)
              · exact absurd c_136 (by decide)
              · refine lv_iconst (v := 0) hx hb d_MD_reads_147 (by decide) ?_
                refine lv_aload_n hx hb d_MD_reads_148 rfl (lv_at hl 0 rfl) ?_
                refine va_get (D := (dC, dI)) (ci := 7) (v := .int (sr_va gg b (min j 6))) (C := xR_MD) (T := xT_MD) (N := 27) hx hb hts (fun w h => List.mem_cons_of_mem _ (iw_MD w h)) hown hK hP 0 rfl rfl 26 (by decide) (hts _ (List.mem_cons_of_mem _ wm_723)) (fun _ h9 => h9) rfl d_MD_reads_149 ?_
                refine lv_isub hx hb d_MD_reads_152 ?_
                refine lv_goto (tgt := 160) hx hb d_MD_reads_153 (by decide) ?_
                refine va_put (D := (dC, dI)) (ci := 7) (v := .int (0 - (sr_va gg b (min j 6)))) (ty := .int) (C := xR_MD) (T := xT_MD) (N := 27) hx hb hts (fun w h => List.mem_cons_of_mem _ (iw_MD w h)) xt_MD xt_MD_ok xn_MD_nm hown hK hP hD hS 0 rfl rfl 26 (by decide) (hts _ (List.mem_cons_of_mem _ wm_723)) (fun _ h9 => h9) rfl (by decide +kernel) rfl rfl (Nat.le_of_ble_eq_true rfl) d_MD_reads_160 (fun H locs hP hD hS => ?_)
                have hP : va_P (dC, dI) xCl [(h0, .inr (7, [.int th, .int (nI nm), .ref ap, .int (nI no), .ref am, .ref aw, .ref az, .ref au, .int kn, .long vP, .long vQ, .long vS, .long vT, .long vB, .long vM, .long vH, .ref ao, .ref ax, .int (nI np), .ref ay, .int (nI nl), .ref ad, .ref al, .int (nI sn), .ref ag, .int (nI (b + j)), .int (0 - (sr_va gg b (min j 6)))])), (ag, .inl (kg, 200, .inl gg))] H := hP
                have hD : va_D A [(h0, .inr (7, [.int th, .int (nI nm), .ref ap, .int (nI no), .ref am, .ref aw, .ref az, .ref au, .int kn, .long vP, .long vQ, .long vS, .long vT, .long vB, .long vM, .long vH, .ref ao, .ref ax, .int (nI np), .ref ay, .int (nI nl), .ref ad, .ref al, .int (nI sn), .ref ag, .int (nI (b + j)), .int (0 - (sr_va gg b (min j 6)))])), (ag, .inl (kg, 200, .inl gg))] := hD
                refine lv_aload_n hx hb d_MD_reads_163 rfl (lv_at hl 0 rfl) ?_
                refine va_get (D := (dC, dI)) (ci := 7) (v := .int (nI (b + j))) (C := xR_MD) (T := xT_MD) (N := 27) hx hb hts (fun w h => List.mem_cons_of_mem _ (iw_MD w h)) hown hK hP 0 rfl rfl 25 (by decide) (hts _ (List.mem_cons_of_mem _ wm_722)) (fun _ h9 => h9) rfl d_MD_reads_164 ?_
                refine lv_aload_n hx hb d_MD_reads_167 rfl (lv_at hl 0 rfl) ?_
                refine va_get (D := (dC, dI)) (ci := 7) (v := .int (nI sn)) (C := xR_MD) (T := xT_MD) (N := 27) hx hb hts (fun w h => List.mem_cons_of_mem _ (iw_MD w h)) hown hK hP 0 rfl rfl 23 (by decide) (hts _ (List.mem_cons_of_mem _ wm_720)) (fun _ h9 => h9) rfl d_MD_reads_168 ?_
                refine lv_icmp_ge (tgt := 191) hx hb d_MD_reads_171 (by decide) (fun c_137 => ?_) (fun c_137 => ?_)
                · have n_138 := xn_le (a := sn) (b := (b + j)) c_137 rfl rfl (by omega) (by omega)
                  refine lv_iconst (v := 0) hx hb d_MD_reads_191 (by decide) ?_
                  refine lv_istore (lv' := [(4, .int 0), (0, .ref h0), (1, .int a), (2, .int 1), (3, .int (nI j))]) hx hb d_MD_reads_192 hl (by decide) rfl (fun ls hl => ?_)
                  refine lv_aload_n hx hb d_MD_reads_194 rfl (lv_at hl 1 rfl) ?_
                  refine lv_dup hx hb d_MD_reads_195 rfl ?_
                  refine va_get (D := (dC, dI)) (ci := 7) (v := .int (nI (b + j))) (C := xR_MD) (T := xT_MD) (N := 27) hx hb hts (fun w h => List.mem_cons_of_mem _ (iw_MD w h)) hown hK hP 0 rfl rfl 25 (by decide) (hts _ (List.mem_cons_of_mem _ wm_722)) (fun _ h9 => h9) rfl d_MD_reads_196 ?_
                  refine lv_iconst (v := 1) hx hb d_MD_reads_199 (by decide) ?_
                  refine lv_iadd hx hb d_MD_reads_200 ?_
                  refine xv_i (y := nI ((b + j) + 1)) (nI_1 _) ?_
                  refine va_put (D := (dC, dI)) (ci := 7) (v := .int (nI ((b + j) + 1))) (ty := .int) (C := xR_MD) (T := xT_MD) (N := 27) hx hb hts (fun w h => List.mem_cons_of_mem _ (iw_MD w h)) xt_MD xt_MD_ok xn_MD_nm hown hK hP hD hS 0 rfl rfl 25 (by decide) (hts _ (List.mem_cons_of_mem _ wm_722)) (fun _ h9 => h9) rfl (by decide +kernel) rfl rfl (Nat.le_of_ble_eq_true rfl) d_MD_reads_201 (fun H locs hP hD hS => ?_)
                  have hP : va_P (dC, dI) xCl [(h0, .inr (7, [.int th, .int (nI nm), .ref ap, .int (nI no), .ref am, .ref aw, .ref az, .ref au, .int kn, .long vP, .long vQ, .long vS, .long vT, .long vB, .long vM, .long vH, .ref ao, .ref ax, .int (nI np), .ref ay, .int (nI nl), .ref ad, .ref al, .int (nI sn), .ref ag, .int (nI ((b + j) + 1)), .int (0 - (sr_va gg b (min j 6)))])), (ag, .inl (kg, 200, .inl gg))] H := hP
                  have hD : va_D A [(h0, .inr (7, [.int th, .int (nI nm), .ref ap, .int (nI no), .ref am, .ref aw, .ref az, .ref au, .int kn, .long vP, .long vQ, .long vS, .long vT, .long vB, .long vM, .long vH, .ref ao, .ref ax, .int (nI np), .ref ay, .int (nI nl), .ref ad, .ref al, .int (nI sn), .ref ag, .int (nI ((b + j) + 1)), .int (0 - (sr_va gg b (min j 6)))])), (ag, .inl (kg, 200, .inl gg))] := hD
                  refine lv_iload_n hx hb d_MD_reads_204 rfl (lv_at hl 4 rfl) ?_
                  refine lv_if_le (tgt := 223) hx hb d_MD_reads_205 (by decide) (fun c_139 => ?_) (fun c_139 => ?_)
                  · have n_140 := xn_le (a := j) (b := 0) c_139 rfl (by decide) (by omega) (by omega)
                    refine lv_iconst (v := 0) hx hb d_MD_reads_223 (by decide) ?_
                    have hP9 := hP.sub (ws' := [(h0, .inr (7, [.int th, .int (nI nm), .ref ap, .int (nI no), .ref am, .ref aw, .ref az, .ref au, .int kn, .long vP, .long vQ, .long vS, .long vT, .long vB, .long vM, .long vH, .ref ao, .ref ax, .int (nI np), .ref ay, .int (nI nl), .ref ad, .ref al, .int (nI sn), .ref ag, .int (nI ((b + j) + 1)), .int (0 - (sr_va gg b (min j 6)))])), (ag, .inl (kg, 200, .inl gg))]) [0, 1] rfl
                    have hD9 := hD.sub (ws' := [(h0, .inr (7, [.int th, .int (nI nm), .ref ap, .int (nI no), .ref am, .ref aw, .ref az, .ref au, .int kn, .long vP, .long vQ, .long vS, .long vT, .long vB, .long vM, .long vH, .ref ao, .ref ax, .int (nI np), .ref ay, .int (nI nl), .ref ad, .ref al, .int (nI sn), .ref ag, .int (nI ((b + j) + 1)), .int (0 - (sr_va gg b (min j 6)))])), (ag, .inl (kg, 200, .inl gg))]) [0, 1] (by decide) rfl
                    have hK9 := hK.sub (tys' := [(kg, .int)]) [0] rfl
                    exact W.zret (v := 0) (ty := .boolean) hx hb hr (by exact rfl) (fun t ht hW => ⟨⟨0, (), rfl, bI_n (by unfold md_rs md_np md_nd; rw [← hbe, ← he6]; exact fun q => absurd q.1 (by omega)), ⟨by rw [ht]; unfold md_np md_nv md_nd; rw [← hbe, ← he6, if_pos ⟨n_67, c_68⟩]; exact hP9, va_K.moved hW.alike hK9, by unfold md_np md_nv md_nd; rw [← hbe, ← he6, if_pos ⟨n_67, c_68⟩]; exact hD9⟩⟩, hS.F ht⟩) hS.2.2 d_MD_reads_224 hlocks
                  · have n_141 := xn_nle (a := j) (b := 0) c_139 rfl (by decide) (by omega) (by omega)
                    refine lv_iload_n hx hb d_MD_reads_208 rfl (lv_at hl 4 rfl) ?_
                    refine lv_bipush (v := 7) hx hb d_MD_reads_209 (by decide) ?_
                    refine lv_icmp_ge (tgt := 223) hx hb d_MD_reads_211 (by decide) (fun c_142 => ?_) (fun c_142 => ?_)
                    · have n_143 := xn_le (a := 7) (b := j) c_142 (by decide) rfl (by omega) (by omega)
                      refine lv_iconst (v := 0) hx hb d_MD_reads_223 (by decide) ?_
                      have hP9 := hP.sub (ws' := [(h0, .inr (7, [.int th, .int (nI nm), .ref ap, .int (nI no), .ref am, .ref aw, .ref az, .ref au, .int kn, .long vP, .long vQ, .long vS, .long vT, .long vB, .long vM, .long vH, .ref ao, .ref ax, .int (nI np), .ref ay, .int (nI nl), .ref ad, .ref al, .int (nI sn), .ref ag, .int (nI ((b + j) + 1)), .int (0 - (sr_va gg b (min j 6)))])), (ag, .inl (kg, 200, .inl gg))]) [0, 1] rfl
                      have hD9 := hD.sub (ws' := [(h0, .inr (7, [.int th, .int (nI nm), .ref ap, .int (nI no), .ref am, .ref aw, .ref az, .ref au, .int kn, .long vP, .long vQ, .long vS, .long vT, .long vB, .long vM, .long vH, .ref ao, .ref ax, .int (nI np), .ref ay, .int (nI nl), .ref ad, .ref al, .int (nI sn), .ref ag, .int (nI ((b + j) + 1)), .int (0 - (sr_va gg b (min j 6)))])), (ag, .inl (kg, 200, .inl gg))]) [0, 1] (by decide) rfl
                      have hK9 := hK.sub (tys' := [(kg, .int)]) [0] rfl
                      exact W.zret (v := 0) (ty := .boolean) hx hb hr (by exact rfl) (fun t ht hW => ⟨⟨0, (), rfl, bI_n (by unfold md_rs md_np md_nd; rw [← hbe, ← he6]; exact fun q => absurd q.2.1 (by omega)), ⟨by rw [ht]; unfold md_np md_nv md_nd; rw [← hbe, ← he6, if_pos ⟨n_67, c_68⟩]; exact hP9, va_K.moved hW.alike hK9, by unfold md_np md_nv md_nd; rw [← hbe, ← he6, if_pos ⟨n_67, c_68⟩]; exact hD9⟩⟩, hS.F ht⟩) hS.2.2 d_MD_reads_224 hlocks
                    · have n_144 := xn_nle (a := 7) (b := j) c_142 (by decide) rfl (by omega) (by omega)
                      refine lv_iload hx hb d_MD_reads_214 (lv_at hl 0 rfl) ?_
                      refine lv_if_eq (tgt := 223) hx hb d_MD_reads_216 (by decide) (fun c_145 => ?_) (fun c_145 => ?_)
                      · refine lv_iconst (v := 0) hx hb d_MD_reads_223 (by decide) ?_
                        have hP9 := hP.sub (ws' := [(h0, .inr (7, [.int th, .int (nI nm), .ref ap, .int (nI no), .ref am, .ref aw, .ref az, .ref au, .int kn, .long vP, .long vQ, .long vS, .long vT, .long vB, .long vM, .long vH, .ref ao, .ref ax, .int (nI np), .ref ay, .int (nI nl), .ref ad, .ref al, .int (nI sn), .ref ag, .int (nI ((b + j) + 1)), .int (0 - (sr_va gg b (min j 6)))])), (ag, .inl (kg, 200, .inl gg))]) [0, 1] rfl
                        have hD9 := hD.sub (ws' := [(h0, .inr (7, [.int th, .int (nI nm), .ref ap, .int (nI no), .ref am, .ref aw, .ref az, .ref au, .int kn, .long vP, .long vQ, .long vS, .long vT, .long vB, .long vM, .long vH, .ref ao, .ref ax, .int (nI np), .ref ay, .int (nI nl), .ref ad, .ref al, .int (nI sn), .ref ag, .int (nI ((b + j) + 1)), .int (0 - (sr_va gg b (min j 6)))])), (ag, .inl (kg, 200, .inl gg))]) [0, 1] (by decide) rfl
                        have hK9 := hK.sub (tys' := [(kg, .int)]) [0] rfl
                        exact W.zret (v := 0) (ty := .boolean) hx hb hr (by exact rfl) (fun t ht hW => ⟨⟨0, (), rfl, bI_n (by unfold md_rs md_np md_nd; rw [← hbe, ← he6]; exact fun q => absurd q.2.2.1 (by omega)), ⟨by rw [ht]; unfold md_np md_nv md_nd; rw [← hbe, ← he6, if_pos ⟨n_67, c_68⟩]; exact hP9, va_K.moved hW.alike hK9, by unfold md_np md_nv md_nd; rw [← hbe, ← he6, if_pos ⟨n_67, c_68⟩]; exact hD9⟩⟩, hS.F ht⟩) hS.2.2 d_MD_reads_224 hlocks
                      · exact absurd c_145 (by decide)
                · have n_146 := xn_nle (a := sn) (b := (b + j)) c_137 rfl rfl (by omega) (by omega)
                  refine lv_aload_n hx hb d_MD_reads_174 rfl (lv_at hl 0 rfl) ?_
                  refine va_get (D := (dC, dI)) (ci := 7) (v := .ref ag) (C := xR_MD) (T := xT_MD) (N := 27) hx hb hts (fun w h => List.mem_cons_of_mem _ (iw_MD w h)) hown hK hP 0 rfl rfl 24 (by decide) (hts _ (List.mem_cons_of_mem _ wm_721)) (fun _ h9 => h9) rfl d_MD_reads_175 ?_
                  refine lv_aload_n hx hb d_MD_reads_178 rfl (lv_at hl 0 rfl) ?_
                  refine va_get (D := (dC, dI)) (ci := 7) (v := .int (nI (b + j))) (C := xR_MD) (T := xT_MD) (N := 27) hx hb hts (fun w h => List.mem_cons_of_mem _ (iw_MD w h)) hown hK hP 0 rfl rfl 25 (by decide) (hts _ (List.mem_cons_of_mem _ wm_722)) (fun _ h9 => h9) rfl d_MD_reads_179 ?_
                  refine xa_iald hx hb hK hP 1 0 rfl rfl (b + j) rfl (by omega) (by decide) d_MD_reads_182 ?_
                  refine lv_iload_n hx hb d_MD_reads_183 rfl (lv_at hl 1 rfl) ?_
                  refine lv_icmp_ne (tgt := 191) hx hb d_MD_reads_184 (by decide) (fun c_147 => ?_) (fun c_147 => ?_)
                  · refine lv_iconst (v := 0) hx hb d_MD_reads_191 (by decide) ?_
                    refine lv_istore (lv' := [(4, .int 0), (0, .ref h0), (1, .int a), (2, .int 1), (3, .int (nI j))]) hx hb d_MD_reads_192 hl (by decide) rfl (fun ls hl => ?_)
                    refine lv_aload_n hx hb d_MD_reads_194 rfl (lv_at hl 1 rfl) ?_
                    refine lv_dup hx hb d_MD_reads_195 rfl ?_
                    refine va_get (D := (dC, dI)) (ci := 7) (v := .int (nI (b + j))) (C := xR_MD) (T := xT_MD) (N := 27) hx hb hts (fun w h => List.mem_cons_of_mem _ (iw_MD w h)) hown hK hP 0 rfl rfl 25 (by decide) (hts _ (List.mem_cons_of_mem _ wm_722)) (fun _ h9 => h9) rfl d_MD_reads_196 ?_
                    refine lv_iconst (v := 1) hx hb d_MD_reads_199 (by decide) ?_
                    refine lv_iadd hx hb d_MD_reads_200 ?_
                    refine xv_i (y := nI ((b + j) + 1)) (nI_1 _) ?_
                    refine va_put (D := (dC, dI)) (ci := 7) (v := .int (nI ((b + j) + 1))) (ty := .int) (C := xR_MD) (T := xT_MD) (N := 27) hx hb hts (fun w h => List.mem_cons_of_mem _ (iw_MD w h)) xt_MD xt_MD_ok xn_MD_nm hown hK hP hD hS 0 rfl rfl 25 (by decide) (hts _ (List.mem_cons_of_mem _ wm_722)) (fun _ h9 => h9) rfl (by decide +kernel) rfl rfl (Nat.le_of_ble_eq_true rfl) d_MD_reads_201 (fun H locs hP hD hS => ?_)
                    have hP : va_P (dC, dI) xCl [(h0, .inr (7, [.int th, .int (nI nm), .ref ap, .int (nI no), .ref am, .ref aw, .ref az, .ref au, .int kn, .long vP, .long vQ, .long vS, .long vT, .long vB, .long vM, .long vH, .ref ao, .ref ax, .int (nI np), .ref ay, .int (nI nl), .ref ad, .ref al, .int (nI sn), .ref ag, .int (nI ((b + j) + 1)), .int (0 - (sr_va gg b (min j 6)))])), (ag, .inl (kg, 200, .inl gg))] H := hP
                    have hD : va_D A [(h0, .inr (7, [.int th, .int (nI nm), .ref ap, .int (nI no), .ref am, .ref aw, .ref az, .ref au, .int kn, .long vP, .long vQ, .long vS, .long vT, .long vB, .long vM, .long vH, .ref ao, .ref ax, .int (nI np), .ref ay, .int (nI nl), .ref ad, .ref al, .int (nI sn), .ref ag, .int (nI ((b + j) + 1)), .int (0 - (sr_va gg b (min j 6)))])), (ag, .inl (kg, 200, .inl gg))] := hD
                    refine lv_iload_n hx hb d_MD_reads_204 rfl (lv_at hl 4 rfl) ?_
                    refine lv_if_le (tgt := 223) hx hb d_MD_reads_205 (by decide) (fun c_148 => ?_) (fun c_148 => ?_)
                    · have n_149 := xn_le (a := j) (b := 0) c_148 rfl (by decide) (by omega) (by omega)
                      refine lv_iconst (v := 0) hx hb d_MD_reads_223 (by decide) ?_
                      have hP9 := hP.sub (ws' := [(h0, .inr (7, [.int th, .int (nI nm), .ref ap, .int (nI no), .ref am, .ref aw, .ref az, .ref au, .int kn, .long vP, .long vQ, .long vS, .long vT, .long vB, .long vM, .long vH, .ref ao, .ref ax, .int (nI np), .ref ay, .int (nI nl), .ref ad, .ref al, .int (nI sn), .ref ag, .int (nI ((b + j) + 1)), .int (0 - (sr_va gg b (min j 6)))])), (ag, .inl (kg, 200, .inl gg))]) [0, 1] rfl
                      have hD9 := hD.sub (ws' := [(h0, .inr (7, [.int th, .int (nI nm), .ref ap, .int (nI no), .ref am, .ref aw, .ref az, .ref au, .int kn, .long vP, .long vQ, .long vS, .long vT, .long vB, .long vM, .long vH, .ref ao, .ref ax, .int (nI np), .ref ay, .int (nI nl), .ref ad, .ref al, .int (nI sn), .ref ag, .int (nI ((b + j) + 1)), .int (0 - (sr_va gg b (min j 6)))])), (ag, .inl (kg, 200, .inl gg))]) [0, 1] (by decide) rfl
                      have hK9 := hK.sub (tys' := [(kg, .int)]) [0] rfl
                      exact W.zret (v := 0) (ty := .boolean) hx hb hr (by exact rfl) (fun t ht hW => ⟨⟨0, (), rfl, bI_n (by unfold md_rs md_np md_nd; rw [← hbe, ← he6]; exact fun q => absurd q.1 (by omega)), ⟨by rw [ht]; unfold md_np md_nv md_nd; rw [← hbe, ← he6, if_pos ⟨n_67, c_68⟩]; exact hP9, va_K.moved hW.alike hK9, by unfold md_np md_nv md_nd; rw [← hbe, ← he6, if_pos ⟨n_67, c_68⟩]; exact hD9⟩⟩, hS.F ht⟩) hS.2.2 d_MD_reads_224 hlocks
                    · have n_150 := xn_nle (a := j) (b := 0) c_148 rfl (by decide) (by omega) (by omega)
                      refine lv_iload_n hx hb d_MD_reads_208 rfl (lv_at hl 4 rfl) ?_
                      refine lv_bipush (v := 7) hx hb d_MD_reads_209 (by decide) ?_
                      refine lv_icmp_ge (tgt := 223) hx hb d_MD_reads_211 (by decide) (fun c_151 => ?_) (fun c_151 => ?_)
                      · have n_152 := xn_le (a := 7) (b := j) c_151 (by decide) rfl (by omega) (by omega)
                        refine lv_iconst (v := 0) hx hb d_MD_reads_223 (by decide) ?_
                        have hP9 := hP.sub (ws' := [(h0, .inr (7, [.int th, .int (nI nm), .ref ap, .int (nI no), .ref am, .ref aw, .ref az, .ref au, .int kn, .long vP, .long vQ, .long vS, .long vT, .long vB, .long vM, .long vH, .ref ao, .ref ax, .int (nI np), .ref ay, .int (nI nl), .ref ad, .ref al, .int (nI sn), .ref ag, .int (nI ((b + j) + 1)), .int (0 - (sr_va gg b (min j 6)))])), (ag, .inl (kg, 200, .inl gg))]) [0, 1] rfl
                        have hD9 := hD.sub (ws' := [(h0, .inr (7, [.int th, .int (nI nm), .ref ap, .int (nI no), .ref am, .ref aw, .ref az, .ref au, .int kn, .long vP, .long vQ, .long vS, .long vT, .long vB, .long vM, .long vH, .ref ao, .ref ax, .int (nI np), .ref ay, .int (nI nl), .ref ad, .ref al, .int (nI sn), .ref ag, .int (nI ((b + j) + 1)), .int (0 - (sr_va gg b (min j 6)))])), (ag, .inl (kg, 200, .inl gg))]) [0, 1] (by decide) rfl
                        have hK9 := hK.sub (tys' := [(kg, .int)]) [0] rfl
                        exact W.zret (v := 0) (ty := .boolean) hx hb hr (by exact rfl) (fun t ht hW => ⟨⟨0, (), rfl, bI_n (by unfold md_rs md_np md_nd; rw [← hbe, ← he6]; exact fun q => absurd q.2.1 (by omega)), ⟨by rw [ht]; unfold md_np md_nv md_nd; rw [← hbe, ← he6, if_pos ⟨n_67, c_68⟩]; exact hP9, va_K.moved hW.alike hK9, by unfold md_np md_nv md_nd; rw [← hbe, ← he6, if_pos ⟨n_67, c_68⟩]; exact hD9⟩⟩, hS.F ht⟩) hS.2.2 d_MD_reads_224 hlocks
                      · have n_153 := xn_nle (a := 7) (b := j) c_151 (by decide) rfl (by omega) (by omega)
                        refine lv_iload hx hb d_MD_reads_214 (lv_at hl 0 rfl) ?_
                        refine lv_if_eq (tgt := 223) hx hb d_MD_reads_216 (by decide) (fun c_154 => ?_) (fun c_154 => ?_)
                        · refine lv_iconst (v := 0) hx hb d_MD_reads_223 (by decide) ?_
                          have hP9 := hP.sub (ws' := [(h0, .inr (7, [.int th, .int (nI nm), .ref ap, .int (nI no), .ref am, .ref aw, .ref az, .ref au, .int kn, .long vP, .long vQ, .long vS, .long vT, .long vB, .long vM, .long vH, .ref ao, .ref ax, .int (nI np), .ref ay, .int (nI nl), .ref ad, .ref al, .int (nI sn), .ref ag, .int (nI ((b + j) + 1)), .int (0 - (sr_va gg b (min j 6)))])), (ag, .inl (kg, 200, .inl gg))]) [0, 1] rfl
                          have hD9 := hD.sub (ws' := [(h0, .inr (7, [.int th, .int (nI nm), .ref ap, .int (nI no), .ref am, .ref aw, .ref az, .ref au, .int kn, .long vP, .long vQ, .long vS, .long vT, .long vB, .long vM, .long vH, .ref ao, .ref ax, .int (nI np), .ref ay, .int (nI nl), .ref ad, .ref al, .int (nI sn), .ref ag, .int (nI ((b + j) + 1)), .int (0 - (sr_va gg b (min j 6)))])), (ag, .inl (kg, 200, .inl gg))]) [0, 1] (by decide) rfl
                          have hK9 := hK.sub (tys' := [(kg, .int)]) [0] rfl
                          exact W.zret (v := 0) (ty := .boolean) hx hb hr (by exact rfl) (fun t ht hW => ⟨⟨0, (), rfl, bI_n (by unfold md_rs md_np md_nd; rw [← hbe, ← he6]; exact fun q => c_147 q.2.2.2), ⟨by rw [ht]; unfold md_np md_nv md_nd; rw [← hbe, ← he6, if_pos ⟨n_67, c_68⟩]; exact hP9, va_K.moved hW.alike hK9, by unfold md_np md_nv md_nd; rw [← hbe, ← he6, if_pos ⟨n_67, c_68⟩]; exact hD9⟩⟩, hS.F ht⟩) hS.2.2 d_MD_reads_224 hlocks
                        · exact absurd c_154 (by decide)
                  · refine lv_iconst (v := 1) hx hb d_MD_reads_187 (by decide) ?_
                    refine lv_goto (tgt := 192) hx hb d_MD_reads_188 (by decide) ?_
                    refine lv_istore (lv' := [(4, .int 1), (0, .ref h0), (1, .int a), (2, .int 1), (3, .int (nI j))]) hx hb d_MD_reads_192 hl (by decide) rfl (fun ls hl => ?_)
                    refine lv_aload_n hx hb d_MD_reads_194 rfl (lv_at hl 1 rfl) ?_
                    refine lv_dup hx hb d_MD_reads_195 rfl ?_
                    refine va_get (D := (dC, dI)) (ci := 7) (v := .int (nI (b + j))) (C := xR_MD) (T := xT_MD) (N := 27) hx hb hts (fun w h => List.mem_cons_of_mem _ (iw_MD w h)) hown hK hP 0 rfl rfl 25 (by decide) (hts _ (List.mem_cons_of_mem _ wm_722)) (fun _ h9 => h9) rfl d_MD_reads_196 ?_
                    refine lv_iconst (v := 1) hx hb d_MD_reads_199 (by decide) ?_
                    refine lv_iadd hx hb d_MD_reads_200 ?_
                    refine xv_i (y := nI ((b + j) + 1)) (nI_1 _) ?_
                    refine va_put (D := (dC, dI)) (ci := 7) (v := .int (nI ((b + j) + 1))) (ty := .int) (C := xR_MD) (T := xT_MD) (N := 27) hx hb hts (fun w h => List.mem_cons_of_mem _ (iw_MD w h)) xt_MD xt_MD_ok xn_MD_nm hown hK hP hD hS 0 rfl rfl 25 (by decide) (hts _ (List.mem_cons_of_mem _ wm_722)) (fun _ h9 => h9) rfl (by decide +kernel) rfl rfl (Nat.le_of_ble_eq_true rfl) d_MD_reads_201 (fun H locs hP hD hS => ?_)
                    have hP : va_P (dC, dI) xCl [(h0, .inr (7, [.int th, .int (nI nm), .ref ap, .int (nI no), .ref am, .ref aw, .ref az, .ref au, .int kn, .long vP, .long vQ, .long vS, .long vT, .long vB, .long vM, .long vH, .ref ao, .ref ax, .int (nI np), .ref ay, .int (nI nl), .ref ad, .ref al, .int (nI sn), .ref ag, .int (nI ((b + j) + 1)), .int (0 - (sr_va gg b (min j 6)))])), (ag, .inl (kg, 200, .inl gg))] H := hP
                    have hD : va_D A [(h0, .inr (7, [.int th, .int (nI nm), .ref ap, .int (nI no), .ref am, .ref aw, .ref az, .ref au, .int kn, .long vP, .long vQ, .long vS, .long vT, .long vB, .long vM, .long vH, .ref ao, .ref ax, .int (nI np), .ref ay, .int (nI nl), .ref ad, .ref al, .int (nI sn), .ref ag, .int (nI ((b + j) + 1)), .int (0 - (sr_va gg b (min j 6)))])), (ag, .inl (kg, 200, .inl gg))] := hD
                    refine lv_iload_n hx hb d_MD_reads_204 rfl (lv_at hl 4 rfl) ?_
                    refine lv_if_le (tgt := 223) hx hb d_MD_reads_205 (by decide) (fun c_155 => ?_) (fun c_155 => ?_)
                    · have n_156 := xn_le (a := j) (b := 0) c_155 rfl (by decide) (by omega) (by omega)
                      refine lv_iconst (v := 0) hx hb d_MD_reads_223 (by decide) ?_
                      have hP9 := hP.sub (ws' := [(h0, .inr (7, [.int th, .int (nI nm), .ref ap, .int (nI no), .ref am, .ref aw, .ref az, .ref au, .int kn, .long vP, .long vQ, .long vS, .long vT, .long vB, .long vM, .long vH, .ref ao, .ref ax, .int (nI np), .ref ay, .int (nI nl), .ref ad, .ref al, .int (nI sn), .ref ag, .int (nI ((b + j) + 1)), .int (0 - (sr_va gg b (min j 6)))])), (ag, .inl (kg, 200, .inl gg))]) [0, 1] rfl
                      have hD9 := hD.sub (ws' := [(h0, .inr (7, [.int th, .int (nI nm), .ref ap, .int (nI no), .ref am, .ref aw, .ref az, .ref au, .int kn, .long vP, .long vQ, .long vS, .long vT, .long vB, .long vM, .long vH, .ref ao, .ref ax, .int (nI np), .ref ay, .int (nI nl), .ref ad, .ref al, .int (nI sn), .ref ag, .int (nI ((b + j) + 1)), .int (0 - (sr_va gg b (min j 6)))])), (ag, .inl (kg, 200, .inl gg))]) [0, 1] (by decide) rfl
                      have hK9 := hK.sub (tys' := [(kg, .int)]) [0] rfl
                      exact W.zret (v := 0) (ty := .boolean) hx hb hr (by exact rfl) (fun t ht hW => ⟨⟨0, (), rfl, bI_n (by unfold md_rs md_np md_nd; rw [← hbe, ← he6]; exact fun q => absurd q.1 (by omega)), ⟨by rw [ht]; unfold md_np md_nv md_nd; rw [← hbe, ← he6, if_pos ⟨n_67, c_68⟩]; exact hP9, va_K.moved hW.alike hK9, by unfold md_np md_nv md_nd; rw [← hbe, ← he6, if_pos ⟨n_67, c_68⟩]; exact hD9⟩⟩, hS.F ht⟩) hS.2.2 d_MD_reads_224 hlocks
                    · have n_157 := xn_nle (a := j) (b := 0) c_155 rfl (by decide) (by omega) (by omega)
                      refine lv_iload_n hx hb d_MD_reads_208 rfl (lv_at hl 4 rfl) ?_
                      refine lv_bipush (v := 7) hx hb d_MD_reads_209 (by decide) ?_
                      refine lv_icmp_ge (tgt := 223) hx hb d_MD_reads_211 (by decide) (fun c_158 => ?_) (fun c_158 => ?_)
                      · have n_159 := xn_le (a := 7) (b := j) c_158 (by decide) rfl (by omega) (by omega)
                        refine lv_iconst (v := 0) hx hb d_MD_reads_223 (by decide) ?_
                        have hP9 := hP.sub (ws' := [(h0, .inr (7, [.int th, .int (nI nm), .ref ap, .int (nI no), .ref am, .ref aw, .ref az, .ref au, .int kn, .long vP, .long vQ, .long vS, .long vT, .long vB, .long vM, .long vH, .ref ao, .ref ax, .int (nI np), .ref ay, .int (nI nl), .ref ad, .ref al, .int (nI sn), .ref ag, .int (nI ((b + j) + 1)), .int (0 - (sr_va gg b (min j 6)))])), (ag, .inl (kg, 200, .inl gg))]) [0, 1] rfl
                        have hD9 := hD.sub (ws' := [(h0, .inr (7, [.int th, .int (nI nm), .ref ap, .int (nI no), .ref am, .ref aw, .ref az, .ref au, .int kn, .long vP, .long vQ, .long vS, .long vT, .long vB, .long vM, .long vH, .ref ao, .ref ax, .int (nI np), .ref ay, .int (nI nl), .ref ad, .ref al, .int (nI sn), .ref ag, .int (nI ((b + j) + 1)), .int (0 - (sr_va gg b (min j 6)))])), (ag, .inl (kg, 200, .inl gg))]) [0, 1] (by decide) rfl
                        have hK9 := hK.sub (tys' := [(kg, .int)]) [0] rfl
                        exact W.zret (v := 0) (ty := .boolean) hx hb hr (by exact rfl) (fun t ht hW => ⟨⟨0, (), rfl, bI_n (by unfold md_rs md_np md_nd; rw [← hbe, ← he6]; exact fun q => absurd q.2.1 (by omega)), ⟨by rw [ht]; unfold md_np md_nv md_nd; rw [← hbe, ← he6, if_pos ⟨n_67, c_68⟩]; exact hP9, va_K.moved hW.alike hK9, by unfold md_np md_nv md_nd; rw [← hbe, ← he6, if_pos ⟨n_67, c_68⟩]; exact hD9⟩⟩, hS.F ht⟩) hS.2.2 d_MD_reads_224 hlocks
                      · have n_160 := xn_nle (a := 7) (b := j) c_158 (by decide) rfl (by omega) (by omega)
                        refine lv_iload hx hb d_MD_reads_214 (lv_at hl 0 rfl) ?_
                        refine lv_if_eq (tgt := 223) hx hb d_MD_reads_216 (by decide) (fun c_161 => ?_) (fun c_161 => ?_)
                        · exact absurd c_161 (by decide)
                        · refine lv_iconst (v := 1) hx hb d_MD_reads_219 (by decide) ?_
                          refine lv_goto (tgt := 224) hx hb d_MD_reads_220 (by decide) ?_
                          have hP9 := hP.sub (ws' := [(h0, .inr (7, [.int th, .int (nI nm), .ref ap, .int (nI no), .ref am, .ref aw, .ref az, .ref au, .int kn, .long vP, .long vQ, .long vS, .long vT, .long vB, .long vM, .long vH, .ref ao, .ref ax, .int (nI np), .ref ay, .int (nI nl), .ref ad, .ref al, .int (nI sn), .ref ag, .int (nI ((b + j) + 1)), .int (0 - (sr_va gg b (min j 6)))])), (ag, .inl (kg, 200, .inl gg))]) [0, 1] rfl
                          have hD9 := hD.sub (ws' := [(h0, .inr (7, [.int th, .int (nI nm), .ref ap, .int (nI no), .ref am, .ref aw, .ref az, .ref au, .int kn, .long vP, .long vQ, .long vS, .long vT, .long vB, .long vM, .long vH, .ref ao, .ref ax, .int (nI np), .ref ay, .int (nI nl), .ref ad, .ref al, .int (nI sn), .ref ag, .int (nI ((b + j) + 1)), .int (0 - (sr_va gg b (min j 6)))])), (ag, .inl (kg, 200, .inl gg))]) [0, 1] (by decide) rfl
                          have hK9 := hK.sub (tys' := [(kg, .int)]) [0] rfl
                          exact W.zret (v := 1) (ty := .boolean) hx hb hr (by exact rfl) (fun t ht hW => ⟨⟨1, (), rfl, bI_p (by unfold md_rs md_np md_nd; rw [← hbe, ← he6]; exact ⟨n_157, n_160, n_146, c_147⟩), ⟨by rw [ht]; unfold md_np md_nv md_nd; rw [← hbe, ← he6, if_pos ⟨n_67, c_68⟩]; exact hP9, va_K.moved hW.alike hK9, by unfold md_np md_nv md_nd; rw [← hbe, ← he6, if_pos ⟨n_67, c_68⟩]; exact hD9⟩⟩, hS.F ht⟩) hS.2.2 d_MD_reads_224 hlocks
            · have n_162 := xn_nle (a := sn) (b := (b + j)) c_134 rfl rfl (by omega) (by omega)
              refine lv_aload_n hx hb d_MD_reads_70 rfl (lv_at hl 0 rfl) ?_
              refine va_get (D := (dC, dI)) (ci := 7) (v := .ref ag) (C := xR_MD) (T := xT_MD) (N := 27) hx hb hts (fun w h => List.mem_cons_of_mem _ (iw_MD w h)) hown hK hP 0 rfl rfl 24 (by decide) (hts _ (List.mem_cons_of_mem _ wm_721)) (fun _ h9 => h9) rfl d_MD_reads_71 ?_
              refine lv_aload_n hx hb d_MD_reads_74 rfl (lv_at hl 0 rfl) ?_
              refine va_get (D := (dC, dI)) (ci := 7) (v := .int (nI (b + j))) (C := xR_MD) (T := xT_MD) (N := 27) hx hb hts (fun w h => List.mem_cons_of_mem _ (iw_MD w h)) hown hK hP 0 rfl rfl 25 (by decide) (hts _ (List.mem_cons_of_mem _ wm_722)) (fun _ h9 => h9) rfl d_MD_reads_75 ?_
              refine xa_iald hx hb hK hP 1 0 rfl rfl (b + j) rfl (by omega) (by decide) d_MD_reads_78 ?_
              refine lv_bipush (v := 48) hx hb d_MD_reads_79 (by decide) ?_
              refine lv_bipush (v := 57) hx hb d_MD_reads_81 (by decide) ?_
              refine xr_calli (va_runS (As := [.int (gg (b + j)), .int 48, .int 57]) (rest := []) ⟨hx, hb, hml, hown, hts⟩ (c_MD_within l dC dI (gg (b + j)) 48 57) (va_cwS 3 hts (xgS wm_790 wm_791 wm_34 wm_792) rfl rfl rfl (by decide +kernel) ⟨Nat.le_of_ble_eq_true rfl, Nat.le_of_ble_eq_true rfl⟩) ⟨xp_blind, fun U hU hW => ⟨rfl, hz.warm hW, by rw [hU]; exact hP.sub [] rfl, va_K.moved hW.alike (hK.sub [] rfl)⟩⟩ rfl rfl hl.1 rfl (lv_room (Nat.le_of_ble_eq_true rfl)) d_MD_reads_83 ⟨Nat.le_of_ble_eq_true rfl, Nat.le_of_ble_eq_true rfl⟩) (fun r_163 h_164 => ?_)
              subst h_164
              refine lv_if_eq (tgt := 142) hx hb d_MD_reads_86 (by decide) (fun c_165 => ?_) (fun c_165 => ?_)
              · have b_166 := bI_f (rfl : bI (md_win (gg (b + j)) 48 57) = _) c_165
                have he6 : j = sr_dn gg sn b 201 := md_dn_n b_166 hdn
                refine lv_aload_n hx hb d_MD_reads_142 rfl (lv_at hl 0 rfl) ?_
                refine lv_iload_n hx hb d_MD_reads_143 rfl (lv_at hl 2 rfl) ?_
                refine lv_if_eq (tgt := 156) hx hb d_MD_reads_144 (by decide) (fun c_167 => ?_) (fun c_167 => ?_)
                · exact absurd c_167 (by decide)
                · refine lv_iconst (v := 0) hx hb d_MD_reads_147 (by decide) ?_
                  refine lv_aload_n hx hb d_MD_reads_148 rfl (lv_at hl 0 rfl) ?_
                  refine va_get (D := (dC, dI)) (ci := 7) (v := .int (sr_va gg b (min j 6))) (C := xR_MD) (T := xT_MD) (N := 27) hx hb hts (fun w h => List.mem_cons_of_mem _ (iw_MD w h)) hown hK hP 0 rfl rfl 26 (by decide) (hts _ (List.mem_cons_of_mem _ wm_723)) (fun _ h9 => h9) rfl d_MD_reads_149 ?_
                  refine lv_isub hx hb d_MD_reads_152 ?_
                  refine lv_goto (tgt := 160) hx hb d_MD_reads_153 (by decide) ?_
                  refine va_put (D := (dC, dI)) (ci := 7) (v := .int (0 - (sr_va gg b (min j 6)))) (ty := .int) (C := xR_MD) (T := xT_MD) (N := 27) hx hb hts (fun w h => List.mem_cons_of_mem _ (iw_MD w h)) xt_MD xt_MD_ok xn_MD_nm hown hK hP hD hS 0 rfl rfl 26 (by decide) (hts _ (List.mem_cons_of_mem _ wm_723)) (fun _ h9 => h9) rfl (by decide +kernel) rfl rfl (Nat.le_of_ble_eq_true rfl) d_MD_reads_160 (fun H locs hP hD hS => ?_)
                  have hP : va_P (dC, dI) xCl [(h0, .inr (7, [.int th, .int (nI nm), .ref ap, .int (nI no), .ref am, .ref aw, .ref az, .ref au, .int kn, .long vP, .long vQ, .long vS, .long vT, .long vB, .long vM, .long vH, .ref ao, .ref ax, .int (nI np), .ref ay, .int (nI nl), .ref ad, .ref al, .int (nI sn), .ref ag, .int (nI (b + j)), .int (0 - (sr_va gg b (min j 6)))])), (ag, .inl (kg, 200, .inl gg))] H := hP
                  have hD : va_D A [(h0, .inr (7, [.int th, .int (nI nm), .ref ap, .int (nI no), .ref am, .ref aw, .ref az, .ref au, .int kn, .long vP, .long vQ, .long vS, .long vT, .long vB, .long vM, .long vH, .ref ao, .ref ax, .int (nI np), .ref ay, .int (nI nl), .ref ad, .ref al, .int (nI sn), .ref ag, .int (nI (b + j)), .int (0 - (sr_va gg b (min j 6)))])), (ag, .inl (kg, 200, .inl gg))] := hD
                  refine lv_aload_n hx hb d_MD_reads_163 rfl (lv_at hl 0 rfl) ?_
                  refine va_get (D := (dC, dI)) (ci := 7) (v := .int (nI (b + j))) (C := xR_MD) (T := xT_MD) (N := 27) hx hb hts (fun w h => List.mem_cons_of_mem _ (iw_MD w h)) hown hK hP 0 rfl rfl 25 (by decide) (hts _ (List.mem_cons_of_mem _ wm_722)) (fun _ h9 => h9) rfl d_MD_reads_164 ?_
                  refine lv_aload_n hx hb d_MD_reads_167 rfl (lv_at hl 0 rfl) ?_
                  refine va_get (D := (dC, dI)) (ci := 7) (v := .int (nI sn)) (C := xR_MD) (T := xT_MD) (N := 27) hx hb hts (fun w h => List.mem_cons_of_mem _ (iw_MD w h)) hown hK hP 0 rfl rfl 23 (by decide) (hts _ (List.mem_cons_of_mem _ wm_720)) (fun _ h9 => h9) rfl d_MD_reads_168 ?_
                  refine lv_icmp_ge (tgt := 191) hx hb d_MD_reads_171 (by decide) (fun c_168 => ?_) (fun c_168 => ?_)
                  · have n_169 := xn_le (a := sn) (b := (b + j)) c_168 rfl rfl (by omega) (by omega)
                    refine lv_iconst (v := 0) hx hb d_MD_reads_191 (by decide) ?_
                    refine lv_istore (lv' := [(4, .int 0), (0, .ref h0), (1, .int a), (2, .int 1), (3, .int (nI j))]) hx hb d_MD_reads_192 hl (by decide) rfl (fun ls hl => ?_)
                    refine lv_aload_n hx hb d_MD_reads_194 rfl (lv_at hl 1 rfl) ?_
                    refine lv_dup hx hb d_MD_reads_195 rfl ?_
                    refine va_get (D := (dC, dI)) (ci := 7) (v := .int (nI (b + j))) (C := xR_MD) (T := xT_MD) (N := 27) hx hb hts (fun w h => List.mem_cons_of_mem _ (iw_MD w h)) hown hK hP 0 rfl rfl 25 (by decide) (hts _ (List.mem_cons_of_mem _ wm_722)) (fun _ h9 => h9) rfl d_MD_reads_196 ?_
                    refine lv_iconst (v := 1) hx hb d_MD_reads_199 (by decide) ?_
                    refine lv_iadd hx hb d_MD_reads_200 ?_
                    refine xv_i (y := nI ((b + j) + 1)) (nI_1 _) ?_
                    refine va_put (D := (dC, dI)) (ci := 7) (v := .int (nI ((b + j) + 1))) (ty := .int) (C := xR_MD) (T := xT_MD) (N := 27) hx hb hts (fun w h => List.mem_cons_of_mem _ (iw_MD w h)) xt_MD xt_MD_ok xn_MD_nm hown hK hP hD hS 0 rfl rfl 25 (by decide) (hts _ (List.mem_cons_of_mem _ wm_722)) (fun _ h9 => h9) rfl (by decide +kernel) rfl rfl (Nat.le_of_ble_eq_true rfl) d_MD_reads_201 (fun H locs hP hD hS => ?_)
                    have hP : va_P (dC, dI) xCl [(h0, .inr (7, [.int th, .int (nI nm), .ref ap, .int (nI no), .ref am, .ref aw, .ref az, .ref au, .int kn, .long vP, .long vQ, .long vS, .long vT, .long vB, .long vM, .long vH, .ref ao, .ref ax, .int (nI np), .ref ay, .int (nI nl), .ref ad, .ref al, .int (nI sn), .ref ag, .int (nI ((b + j) + 1)), .int (0 - (sr_va gg b (min j 6)))])), (ag, .inl (kg, 200, .inl gg))] H := hP
                    have hD : va_D A [(h0, .inr (7, [.int th, .int (nI nm), .ref ap, .int (nI no), .ref am, .ref aw, .ref az, .ref au, .int kn, .long vP, .long vQ, .long vS, .long vT, .long vB, .long vM, .long vH, .ref ao, .ref ax, .int (nI np), .ref ay, .int (nI nl), .ref ad, .ref al, .int (nI sn), .ref ag, .int (nI ((b + j) + 1)), .int (0 - (sr_va gg b (min j 6)))])), (ag, .inl (kg, 200, .inl gg))] := hD
                    refine lv_iload_n hx hb d_MD_reads_204 rfl (lv_at hl 4 rfl) ?_
                    refine lv_if_le (tgt := 223) hx hb d_MD_reads_205 (by decide) (fun c_170 => ?_) (fun c_170 => ?_)
                    · have n_171 := xn_le (a := j) (b := 0) c_170 rfl (by decide) (by omega) (by omega)
                      refine lv_iconst (v := 0) hx hb d_MD_reads_223 (by decide) ?_
                      have hP9 := hP.sub (ws' := [(h0, .inr (7, [.int th, .int (nI nm), .ref ap, .int (nI no), .ref am, .ref aw, .ref az, .ref au, .int kn, .long vP, .long vQ, .long vS, .long vT, .long vB, .long vM, .long vH, .ref ao, .ref ax, .int (nI np), .ref ay, .int (nI nl), .ref ad, .ref al, .int (nI sn), .ref ag, .int (nI ((b + j) + 1)), .int (0 - (sr_va gg b (min j 6)))])), (ag, .inl (kg, 200, .inl gg))]) [0, 1] rfl
                      have hD9 := hD.sub (ws' := [(h0, .inr (7, [.int th, .int (nI nm), .ref ap, .int (nI no), .ref am, .ref aw, .ref az, .ref au, .int kn, .long vP, .long vQ, .long vS, .long vT, .long vB, .long vM, .long vH, .ref ao, .ref ax, .int (nI np), .ref ay, .int (nI nl), .ref ad, .ref al, .int (nI sn), .ref ag, .int (nI ((b + j) + 1)), .int (0 - (sr_va gg b (min j 6)))])), (ag, .inl (kg, 200, .inl gg))]) [0, 1] (by decide) rfl
                      have hK9 := hK.sub (tys' := [(kg, .int)]) [0] rfl
                      exact W.zret (v := 0) (ty := .boolean) hx hb hr (by exact rfl) (fun t ht hW => ⟨⟨0, (), rfl, bI_n (by unfold md_rs md_np md_nd; rw [← hbe, ← he6]; exact fun q => absurd q.1 (by omega)), ⟨by rw [ht]; unfold md_np md_nv md_nd; rw [← hbe, ← he6, if_pos ⟨n_67, c_68⟩]; exact hP9, va_K.moved hW.alike hK9, by unfold md_np md_nv md_nd; rw [← hbe, ← he6, if_pos ⟨n_67, c_68⟩]; exact hD9⟩⟩, hS.F ht⟩) hS.2.2 d_MD_reads_224 hlocks
                    · have n_172 := xn_nle (a := j) (b := 0) c_170 rfl (by decide) (by omega) (by omega)
                      refine lv_iload_n hx hb d_MD_reads_208 rfl (lv_at hl 4 rfl) ?_
                      refine lv_bipush (v := 7) hx hb d_MD_reads_209 (by decide) ?_
                      refine lv_icmp_ge (tgt := 223) hx hb d_MD_reads_211 (by decide) (fun c_173 => ?_) (fun c_173 => ?_)
                      · have n_174 := xn_le (a := 7) (b := j) c_173 (by decide) rfl (by omega) (by omega)
                        refine lv_iconst (v := 0) hx hb d_MD_reads_223 (by decide) ?_
                        have hP9 := hP.sub (ws' := [(h0, .inr (7, [.int th, .int (nI nm), .ref ap, .int (nI no), .ref am, .ref aw, .ref az, .ref au, .int kn, .long vP, .long vQ, .long vS, .long vT, .long vB, .long vM, .long vH, .ref ao, .ref ax, .int (nI np), .ref ay, .int (nI nl), .ref ad, .ref al, .int (nI sn), .ref ag, .int (nI ((b + j) + 1)), .int (0 - (sr_va gg b (min j 6)))])), (ag, .inl (kg, 200, .inl gg))]) [0, 1] rfl
                        have hD9 := hD.sub (ws' := [(h0, .inr (7, [.int th, .int (nI nm), .ref ap, .int (nI no), .ref am, .ref aw, .ref az, .ref au, .int kn, .long vP, .long vQ, .long vS, .long vT, .long vB, .long vM, .long vH, .ref ao, .ref ax, .int (nI np), .ref ay, .int (nI nl), .ref ad, .ref al, .int (nI sn), .ref ag, .int (nI ((b + j) + 1)), .int (0 - (sr_va gg b (min j 6)))])), (ag, .inl (kg, 200, .inl gg))]) [0, 1] (by decide) rfl
                        have hK9 := hK.sub (tys' := [(kg, .int)]) [0] rfl
                        exact W.zret (v := 0) (ty := .boolean) hx hb hr (by exact rfl) (fun t ht hW => ⟨⟨0, (), rfl, bI_n (by unfold md_rs md_np md_nd; rw [← hbe, ← he6]; exact fun q => absurd q.2.1 (by omega)), ⟨by rw [ht]; unfold md_np md_nv md_nd; rw [← hbe, ← he6, if_pos ⟨n_67, c_68⟩]; exact hP9, va_K.moved hW.alike hK9, by unfold md_np md_nv md_nd; rw [← hbe, ← he6, if_pos ⟨n_67, c_68⟩]; exact hD9⟩⟩, hS.F ht⟩) hS.2.2 d_MD_reads_224 hlocks
                      · have n_175 := xn_nle (a := 7) (b := j) c_173 (by decide) rfl (by omega) (by omega)
                        refine lv_iload hx hb d_MD_reads_214 (lv_at hl 0 rfl) ?_
                        refine lv_if_eq (tgt := 223) hx hb d_MD_reads_216 (by decide) (fun c_176 => ?_) (fun c_176 => ?_)
                        · refine lv_iconst (v := 0) hx hb d_MD_reads_223 (by decide) ?_
                          have hP9 := hP.sub (ws' := [(h0, .inr (7, [.int th, .int (nI nm), .ref ap, .int (nI no), .ref am, .ref aw, .ref az, .ref au, .int kn, .long vP, .long vQ, .long vS, .long vT, .long vB, .long vM, .long vH, .ref ao, .ref ax, .int (nI np), .ref ay, .int (nI nl), .ref ad, .ref al, .int (nI sn), .ref ag, .int (nI ((b + j) + 1)), .int (0 - (sr_va gg b (min j 6)))])), (ag, .inl (kg, 200, .inl gg))]) [0, 1] rfl
                          have hD9 := hD.sub (ws' := [(h0, .inr (7, [.int th, .int (nI nm), .ref ap, .int (nI no), .ref am, .ref aw, .ref az, .ref au, .int kn, .long vP, .long vQ, .long vS, .long vT, .long vB, .long vM, .long vH, .ref ao, .ref ax, .int (nI np), .ref ay, .int (nI nl), .ref ad, .ref al, .int (nI sn), .ref ag, .int (nI ((b + j) + 1)), .int (0 - (sr_va gg b (min j 6)))])), (ag, .inl (kg, 200, .inl gg))]) [0, 1] (by decide) rfl
                          have hK9 := hK.sub (tys' := [(kg, .int)]) [0] rfl
                          exact W.zret (v := 0) (ty := .boolean) hx hb hr (by exact rfl) (fun t ht hW => ⟨⟨0, (), rfl, bI_n (by unfold md_rs md_np md_nd; rw [← hbe, ← he6]; exact fun q => absurd q.2.2.1 (by omega)), ⟨by rw [ht]; unfold md_np md_nv md_nd; rw [← hbe, ← he6, if_pos ⟨n_67, c_68⟩]; exact hP9, va_K.moved hW.alike hK9, by unfold md_np md_nv md_nd; rw [← hbe, ← he6, if_pos ⟨n_67, c_68⟩]; exact hD9⟩⟩, hS.F ht⟩) hS.2.2 d_MD_reads_224 hlocks
                        · exact absurd c_176 (by decide)
                  · have n_177 := xn_nle (a := sn) (b := (b + j)) c_168 rfl rfl (by omega) (by omega)
                    refine lv_aload_n hx hb d_MD_reads_174 rfl (lv_at hl 0 rfl) ?_
                    refine va_get (D := (dC, dI)) (ci := 7) (v := .ref ag) (C := xR_MD) (T := xT_MD) (N := 27) hx hb hts (fun w h => List.mem_cons_of_mem _ (iw_MD w h)) hown hK hP 0 rfl rfl 24 (by decide) (hts _ (List.mem_cons_of_mem _ wm_721)) (fun _ h9 => h9) rfl d_MD_reads_175 ?_
                    refine lv_aload_n hx hb d_MD_reads_178 rfl (lv_at hl 0 rfl) ?_
                    refine va_get (D := (dC, dI)) (ci := 7) (v := .int (nI (b + j))) (C := xR_MD) (T := xT_MD) (N := 27) hx hb hts (fun w h => List.mem_cons_of_mem _ (iw_MD w h)) hown hK hP 0 rfl rfl 25 (by decide) (hts _ (List.mem_cons_of_mem _ wm_722)) (fun _ h9 => h9) rfl d_MD_reads_179 ?_
                    refine xa_iald hx hb hK hP 1 0 rfl rfl (b + j) rfl (by omega) (by decide) d_MD_reads_182 ?_
                    refine lv_iload_n hx hb d_MD_reads_183 rfl (lv_at hl 1 rfl) ?_
                    refine lv_icmp_ne (tgt := 191) hx hb d_MD_reads_184 (by decide) (fun c_178 => ?_) (fun c_178 => ?_)
                    · refine lv_iconst (v := 0) hx hb d_MD_reads_191 (by decide) ?_
                      refine lv_istore (lv' := [(4, .int 0), (0, .ref h0), (1, .int a), (2, .int 1), (3, .int (nI j))]) hx hb d_MD_reads_192 hl (by decide) rfl (fun ls hl => ?_)
                      refine lv_aload_n hx hb d_MD_reads_194 rfl (lv_at hl 1 rfl) ?_
                      refine lv_dup hx hb d_MD_reads_195 rfl ?_
                      refine va_get (D := (dC, dI)) (ci := 7) (v := .int (nI (b + j))) (C := xR_MD) (T := xT_MD) (N := 27) hx hb hts (fun w h => List.mem_cons_of_mem _ (iw_MD w h)) hown hK hP 0 rfl rfl 25 (by decide) (hts _ (List.mem_cons_of_mem _ wm_722)) (fun _ h9 => h9) rfl d_MD_reads_196 ?_
                      refine lv_iconst (v := 1) hx hb d_MD_reads_199 (by decide) ?_
                      refine lv_iadd hx hb d_MD_reads_200 ?_
                      refine xv_i (y := nI ((b + j) + 1)) (nI_1 _) ?_
                      refine va_put (D := (dC, dI)) (ci := 7) (v := .int (nI ((b + j) + 1))) (ty := .int) (C := xR_MD) (T := xT_MD) (N := 27) hx hb hts (fun w h => List.mem_cons_of_mem _ (iw_MD w h)) xt_MD xt_MD_ok xn_MD_nm hown hK hP hD hS 0 rfl rfl 25 (by decide) (hts _ (List.mem_cons_of_mem _ wm_722)) (fun _ h9 => h9) rfl (by decide +kernel) rfl rfl (Nat.le_of_ble_eq_true rfl) d_MD_reads_201 (fun H locs hP hD hS => ?_)
                      have hP : va_P (dC, dI) xCl [(h0, .inr (7, [.int th, .int (nI nm), .ref ap, .int (nI no), .ref am, .ref aw, .ref az, .ref au, .int kn, .long vP, .long vQ, .long vS, .long vT, .long vB, .long vM, .long vH, .ref ao, .ref ax, .int (nI np), .ref ay, .int (nI nl), .ref ad, .ref al, .int (nI sn), .ref ag, .int (nI ((b + j) + 1)), .int (0 - (sr_va gg b (min j 6)))])), (ag, .inl (kg, 200, .inl gg))] H := hP
                      have hD : va_D A [(h0, .inr (7, [.int th, .int (nI nm), .ref ap, .int (nI no), .ref am, .ref aw, .ref az, .ref au, .int kn, .long vP, .long vQ, .long vS, .long vT, .long vB, .long vM, .long vH, .ref ao, .ref ax, .int (nI np), .ref ay, .int (nI nl), .ref ad, .ref al, .int (nI sn), .ref ag, .int (nI ((b + j) + 1)), .int (0 - (sr_va gg b (min j 6)))])), (ag, .inl (kg, 200, .inl gg))] := hD
                      refine lv_iload_n hx hb d_MD_reads_204 rfl (lv_at hl 4 rfl) ?_
                      refine lv_if_le (tgt := 223) hx hb d_MD_reads_205 (by decide) (fun c_179 => ?_) (fun c_179 => ?_)
                      · have n_180 := xn_le (a := j) (b := 0) c_179 rfl (by decide) (by omega) (by omega)
                        refine lv_iconst (v := 0) hx hb d_MD_reads_223 (by decide) ?_
                        have hP9 := hP.sub (ws' := [(h0, .inr (7, [.int th, .int (nI nm), .ref ap, .int (nI no), .ref am, .ref aw, .ref az, .ref au, .int kn, .long vP, .long vQ, .long vS, .long vT, .long vB, .long vM, .long vH, .ref ao, .ref ax, .int (nI np), .ref ay, .int (nI nl), .ref ad, .ref al, .int (nI sn), .ref ag, .int (nI ((b + j) + 1)), .int (0 - (sr_va gg b (min j 6)))])), (ag, .inl (kg, 200, .inl gg))]) [0, 1] rfl
                        have hD9 := hD.sub (ws' := [(h0, .inr (7, [.int th, .int (nI nm), .ref ap, .int (nI no), .ref am, .ref aw, .ref az, .ref au, .int kn, .long vP, .long vQ, .long vS, .long vT, .long vB, .long vM, .long vH, .ref ao, .ref ax, .int (nI np), .ref ay, .int (nI nl), .ref ad, .ref al, .int (nI sn), .ref ag, .int (nI ((b + j) + 1)), .int (0 - (sr_va gg b (min j 6)))])), (ag, .inl (kg, 200, .inl gg))]) [0, 1] (by decide) rfl
                        have hK9 := hK.sub (tys' := [(kg, .int)]) [0] rfl
                        exact W.zret (v := 0) (ty := .boolean) hx hb hr (by exact rfl) (fun t ht hW => ⟨⟨0, (), rfl, bI_n (by unfold md_rs md_np md_nd; rw [← hbe, ← he6]; exact fun q => absurd q.1 (by omega)), ⟨by rw [ht]; unfold md_np md_nv md_nd; rw [← hbe, ← he6, if_pos ⟨n_67, c_68⟩]; exact hP9, va_K.moved hW.alike hK9, by unfold md_np md_nv md_nd; rw [← hbe, ← he6, if_pos ⟨n_67, c_68⟩]; exact hD9⟩⟩, hS.F ht⟩) hS.2.2 d_MD_reads_224 hlocks
                      · have n_181 := xn_nle (a := j) (b := 0) c_179 rfl (by decide) (by omega) (by omega)
                        refine lv_iload_n hx hb d_MD_reads_208 rfl (lv_at hl 4 rfl) ?_
                        refine lv_bipush (v := 7) hx hb d_MD_reads_209 (by decide) ?_
                        refine lv_icmp_ge (tgt := 223) hx hb d_MD_reads_211 (by decide) (fun c_182 => ?_) (fun c_182 => ?_)
                        · have n_183 := xn_le (a := 7) (b := j) c_182 (by decide) rfl (by omega) (by omega)
                          refine lv_iconst (v := 0) hx hb d_MD_reads_223 (by decide) ?_
                          have hP9 := hP.sub (ws' := [(h0, .inr (7, [.int th, .int (nI nm), .ref ap, .int (nI no), .ref am, .ref aw, .ref az, .ref au, .int kn, .long vP, .long vQ, .long vS, .long vT, .long vB, .long vM, .long vH, .ref ao, .ref ax, .int (nI np), .ref ay, .int (nI nl), .ref ad, .ref al, .int (nI sn), .ref ag, .int (nI ((b + j) + 1)), .int (0 - (sr_va gg b (min j 6)))])), (ag, .inl (kg, 200, .inl gg))]) [0, 1] rfl
                          have hD9 := hD.sub (ws' := [(h0, .inr (7, [.int th, .int (nI nm), .ref ap, .int (nI no), .ref am, .ref aw, .ref az, .ref au, .int kn, .long vP, .long vQ, .long vS, .long vT, .long vB, .long vM, .long vH, .ref ao, .ref ax, .int (nI np), .ref ay, .int (nI nl), .ref ad, .ref al, .int (nI sn), .ref ag, .int (nI ((b + j) + 1)), .int (0 - (sr_va gg b (min j 6)))])), (ag, .inl (kg, 200, .inl gg))]) [0, 1] (by decide) rfl
                          have hK9 := hK.sub (tys' := [(kg, .int)]) [0] rfl
                          exact W.zret (v := 0) (ty := .boolean) hx hb hr (by exact rfl) (fun t ht hW => ⟨⟨0, (), rfl, bI_n (by unfold md_rs md_np md_nd; rw [← hbe, ← he6]; exact fun q => absurd q.2.1 (by omega)), ⟨by rw [ht]; unfold md_np md_nv md_nd; rw [← hbe, ← he6, if_pos ⟨n_67, c_68⟩]; exact hP9, va_K.moved hW.alike hK9, by unfold md_np md_nv md_nd; rw [← hbe, ← he6, if_pos ⟨n_67, c_68⟩]; exact hD9⟩⟩, hS.F ht⟩) hS.2.2 d_MD_reads_224 hlocks
                        · have n_184 := xn_nle (a := 7) (b := j) c_182 (by decide) rfl (by omega) (by omega)
                          refine lv_iload hx hb d_MD_reads_214 (lv_at hl 0 rfl) ?_
                          refine lv_if_eq (tgt := 223) hx hb d_MD_reads_216 (by decide) (fun c_185 => ?_) (fun c_185 => ?_)
                          · refine lv_iconst (v := 0) hx hb d_MD_reads_223 (by decide) ?_
                            have hP9 := hP.sub (ws' := [(h0, .inr (7, [.int th, .int (nI nm), .ref ap, .int (nI no), .ref am, .ref aw, .ref az, .ref au, .int kn, .long vP, .long vQ, .long vS, .long vT, .long vB, .long vM, .long vH, .ref ao, .ref ax, .int (nI np), .ref ay, .int (nI nl), .ref ad, .ref al, .int (nI sn), .ref ag, .int (nI ((b + j) + 1)), .int (0 - (sr_va gg b (min j 6)))])), (ag, .inl (kg, 200, .inl gg))]) [0, 1] rfl
                            have hD9 := hD.sub (ws' := [(h0, .inr (7, [.int th, .int (nI nm), .ref ap, .int (nI no), .ref am, .ref aw, .ref az, .ref au, .int kn, .long vP, .long vQ, .long vS, .long vT, .long vB, .long vM, .long vH, .ref ao, .ref ax, .int (nI np), .ref ay, .int (nI nl), .ref ad, .ref al, .int (nI sn), .ref ag, .int (nI ((b + j) + 1)), .int (0 - (sr_va gg b (min j 6)))])), (ag, .inl (kg, 200, .inl gg))]) [0, 1] (by decide) rfl
                            have hK9 := hK.sub (tys' := [(kg, .int)]) [0] rfl
                            exact W.zret (v := 0) (ty := .boolean) hx hb hr (by exact rfl) (fun t ht hW => ⟨⟨0, (), rfl, bI_n (by unfold md_rs md_np md_nd; rw [← hbe, ← he6]; exact fun q => c_178 q.2.2.2), ⟨by rw [ht]; unfold md_np md_nv md_nd; rw [← hbe, ← he6, if_pos ⟨n_67, c_68⟩]; exact hP9, va_K.moved hW.alike hK9, by unfold md_np md_nv md_nd; rw [← hbe, ← he6, if_pos ⟨n_67, c_68⟩]; exact hD9⟩⟩, hS.F ht⟩) hS.2.2 d_MD_reads_224 hlocks
                          · exact absurd c_185 (by decide)
                    · refine lv_iconst (v := 1) hx hb d_MD_reads_187 (by decide) ?_
                      refine lv_goto (tgt := 192) hx hb d_MD_reads_188 (by decide) ?_
                      refine lv_istore (lv' := [(4, .int 1), (0, .ref h0), (1, .int a), (2, .int 1), (3, .int (nI j))]) hx hb d_MD_reads_192 hl (by decide) rfl (fun ls hl => ?_)
                      refine lv_aload_n hx hb d_MD_reads_194 rfl (lv_at hl 1 rfl) ?_
                      refine lv_dup hx hb d_MD_reads_195 rfl ?_
                      refine va_get (D := (dC, dI)) (ci := 7) (v := .int (nI (b + j))) (C := xR_MD) (T := xT_MD) (N := 27) hx hb hts (fun w h => List.mem_cons_of_mem _ (iw_MD w h)) hown hK hP 0 rfl rfl 25 (by decide) (hts _ (List.mem_cons_of_mem _ wm_722)) (fun _ h9 => h9) rfl d_MD_reads_196 ?_
                      refine lv_iconst (v := 1) hx hb d_MD_reads_199 (by decide) ?_
                      refine lv_iadd hx hb d_MD_reads_200 ?_
                      refine xv_i (y := nI ((b + j) + 1)) (nI_1 _) ?_
                      refine va_put (D := (dC, dI)) (ci := 7) (v := .int (nI ((b + j) + 1))) (ty := .int) (C := xR_MD) (T := xT_MD) (N := 27) hx hb hts (fun w h => List.mem_cons_of_mem _ (iw_MD w h)) xt_MD xt_MD_ok xn_MD_nm hown hK hP hD hS 0 rfl rfl 25 (by decide) (hts _ (List.mem_cons_of_mem _ wm_722)) (fun _ h9 => h9) rfl (by decide +kernel) rfl rfl (Nat.le_of_ble_eq_true rfl) d_MD_reads_201 (fun H locs hP hD hS => ?_)
                      have hP : va_P (dC, dI) xCl [(h0, .inr (7, [.int th, .int (nI nm), .ref ap, .int (nI no), .ref am, .ref aw, .ref az, .ref au, .int kn, .long vP, .long vQ, .long vS, .long vT, .long vB, .long vM, .long vH, .ref ao, .ref ax, .int (nI np), .ref ay, .int (nI nl), .ref ad, .ref al, .int (nI sn), .ref ag, .int (nI ((b + j) + 1)), .int (0 - (sr_va gg b (min j 6)))])), (ag, .inl (kg, 200, .inl gg))] H := hP
                      have hD : va_D A [(h0, .inr (7, [.int th, .int (nI nm), .ref ap, .int (nI no), .ref am, .ref aw, .ref az, .ref au, .int kn, .long vP, .long vQ, .long vS, .long vT, .long vB, .long vM, .long vH, .ref ao, .ref ax, .int (nI np), .ref ay, .int (nI nl), .ref ad, .ref al, .int (nI sn), .ref ag, .int (nI ((b + j) + 1)), .int (0 - (sr_va gg b (min j 6)))])), (ag, .inl (kg, 200, .inl gg))] := hD
                      refine lv_iload_n hx hb d_MD_reads_204 rfl (lv_at hl 4 rfl) ?_
                      refine lv_if_le (tgt := 223) hx hb d_MD_reads_205 (by decide) (fun c_186 => ?_) (fun c_186 => ?_)
                      · have n_187 := xn_le (a := j) (b := 0) c_186 rfl (by decide) (by omega) (by omega)
                        refine lv_iconst (v := 0) hx hb d_MD_reads_223 (by decide) ?_
                        have hP9 := hP.sub (ws' := [(h0, .inr (7, [.int th, .int (nI nm), .ref ap, .int (nI no), .ref am, .ref aw, .ref az, .ref au, .int kn, .long vP, .long vQ, .long vS, .long vT, .long vB, .long vM, .long vH, .ref ao, .ref ax, .int (nI np), .ref ay, .int (nI nl), .ref ad, .ref al, .int (nI sn), .ref ag, .int (nI ((b + j) + 1)), .int (0 - (sr_va gg b (min j 6)))])), (ag, .inl (kg, 200, .inl gg))]) [0, 1] rfl
                        have hD9 := hD.sub (ws' := [(h0, .inr (7, [.int th, .int (nI nm), .ref ap, .int (nI no), .ref am, .ref aw, .ref az, .ref au, .int kn, .long vP, .long vQ, .long vS, .long vT, .long vB, .long vM, .long vH, .ref ao, .ref ax, .int (nI np), .ref ay, .int (nI nl), .ref ad, .ref al, .int (nI sn), .ref ag, .int (nI ((b + j) + 1)), .int (0 - (sr_va gg b (min j 6)))])), (ag, .inl (kg, 200, .inl gg))]) [0, 1] (by decide) rfl
                        have hK9 := hK.sub (tys' := [(kg, .int)]) [0] rfl
                        exact W.zret (v := 0) (ty := .boolean) hx hb hr (by exact rfl) (fun t ht hW => ⟨⟨0, (), rfl, bI_n (by unfold md_rs md_np md_nd; rw [← hbe, ← he6]; exact fun q => absurd q.1 (by omega)), ⟨by rw [ht]; unfold md_np md_nv md_nd; rw [← hbe, ← he6, if_pos ⟨n_67, c_68⟩]; exact hP9, va_K.moved hW.alike hK9, by unfold md_np md_nv md_nd; rw [← hbe, ← he6, if_pos ⟨n_67, c_68⟩]; exact hD9⟩⟩, hS.F ht⟩) hS.2.2 d_MD_reads_224 hlocks
                      · have n_188 := xn_nle (a := j) (b := 0) c_186 rfl (by decide) (by omega) (by omega)
                        refine lv_iload_n hx hb d_MD_reads_208 rfl (lv_at hl 4 rfl) ?_
                        refine lv_bipush (v := 7) hx hb d_MD_reads_209 (by decide) ?_
                        refine lv_icmp_ge (tgt := 223) hx hb d_MD_reads_211 (by decide) (fun c_189 => ?_) (fun c_189 => ?_)
                        · have n_190 := xn_le (a := 7) (b := j) c_189 (by decide) rfl (by omega) (by omega)
                          refine lv_iconst (v := 0) hx hb d_MD_reads_223 (by decide) ?_
                          have hP9 := hP.sub (ws' := [(h0, .inr (7, [.int th, .int (nI nm), .ref ap, .int (nI no), .ref am, .ref aw, .ref az, .ref au, .int kn, .long vP, .long vQ, .long vS, .long vT, .long vB, .long vM, .long vH, .ref ao, .ref ax, .int (nI np), .ref ay, .int (nI nl), .ref ad, .ref al, .int (nI sn), .ref ag, .int (nI ((b + j) + 1)), .int (0 - (sr_va gg b (min j 6)))])), (ag, .inl (kg, 200, .inl gg))]) [0, 1] rfl
                          have hD9 := hD.sub (ws' := [(h0, .inr (7, [.int th, .int (nI nm), .ref ap, .int (nI no), .ref am, .ref aw, .ref az, .ref au, .int kn, .long vP, .long vQ, .long vS, .long vT, .long vB, .long vM, .long vH, .ref ao, .ref ax, .int (nI np), .ref ay, .int (nI nl), .ref ad, .ref al, .int (nI sn), .ref ag, .int (nI ((b + j) + 1)), .int (0 - (sr_va gg b (min j 6)))])), (ag, .inl (kg, 200, .inl gg))]) [0, 1] (by decide) rfl
                          have hK9 := hK.sub (tys' := [(kg, .int)]) [0] rfl
                          exact W.zret (v := 0) (ty := .boolean) hx hb hr (by exact rfl) (fun t ht hW => ⟨⟨0, (), rfl, bI_n (by unfold md_rs md_np md_nd; rw [← hbe, ← he6]; exact fun q => absurd q.2.1 (by omega)), ⟨by rw [ht]; unfold md_np md_nv md_nd; rw [← hbe, ← he6, if_pos ⟨n_67, c_68⟩]; exact hP9, va_K.moved hW.alike hK9, by unfold md_np md_nv md_nd; rw [← hbe, ← he6, if_pos ⟨n_67, c_68⟩]; exact hD9⟩⟩, hS.F ht⟩) hS.2.2 d_MD_reads_224 hlocks
                        · have n_191 := xn_nle (a := 7) (b := j) c_189 (by decide) rfl (by omega) (by omega)
                          refine lv_iload hx hb d_MD_reads_214 (lv_at hl 0 rfl) ?_
                          refine lv_if_eq (tgt := 223) hx hb d_MD_reads_216 (by decide) (fun c_192 => ?_) (fun c_192 => ?_)
                          · exact absurd c_192 (by decide)
                          · refine lv_iconst (v := 1) hx hb d_MD_reads_219 (by decide) ?_
                            refine lv_goto (tgt := 224) hx hb d_MD_reads_220 (by decide) ?_
                            have hP9 := hP.sub (ws' := [(h0, .inr (7, [.int th, .int (nI nm), .ref ap, .int (nI no), .ref am, .ref aw, .ref az, .ref au, .int kn, .long vP, .long vQ, .long vS, .long vT, .long vB, .long vM, .long vH, .ref ao, .ref ax, .int (nI np), .ref ay, .int (nI nl), .ref ad, .ref al, .int (nI sn), .ref ag, .int (nI ((b + j) + 1)), .int (0 - (sr_va gg b (min j 6)))])), (ag, .inl (kg, 200, .inl gg))]) [0, 1] rfl
                            have hD9 := hD.sub (ws' := [(h0, .inr (7, [.int th, .int (nI nm), .ref ap, .int (nI no), .ref am, .ref aw, .ref az, .ref au, .int kn, .long vP, .long vQ, .long vS, .long vT, .long vB, .long vM, .long vH, .ref ao, .ref ax, .int (nI np), .ref ay, .int (nI nl), .ref ad, .ref al, .int (nI sn), .ref ag, .int (nI ((b + j) + 1)), .int (0 - (sr_va gg b (min j 6)))])), (ag, .inl (kg, 200, .inl gg))]) [0, 1] (by decide) rfl
                            have hK9 := hK.sub (tys' := [(kg, .int)]) [0] rfl
                            exact W.zret (v := 1) (ty := .boolean) hx hb hr (by exact rfl) (fun t ht hW => ⟨⟨1, (), rfl, bI_p (by unfold md_rs md_np md_nd; rw [← hbe, ← he6]; exact ⟨n_188, n_191, n_177, c_178⟩), ⟨by rw [ht]; unfold md_np md_nv md_nd; rw [← hbe, ← he6, if_pos ⟨n_67, c_68⟩]; exact hP9, va_K.moved hW.alike hK9, by unfold md_np md_nv md_nd; rw [← hbe, ← he6, if_pos ⟨n_67, c_68⟩]; exact hD9⟩⟩, hS.F ht⟩) hS.2.2 d_MD_reads_224 hlocks
              · have b_193 := bI_t (rfl : bI (md_win (gg (b + j)) 48 57) = _) c_165
                refine lv_aload_n hx hb d_MD_reads_89 rfl (lv_at hl 0 rfl) ?_
                refine lv_iload_n hx hb d_MD_reads_90 rfl (lv_at hl 3 rfl) ?_
                refine lv_bipush (v := 6) hx hb d_MD_reads_91 (by decide) ?_
                refine lv_icmp_ge (tgt := 119) hx hb d_MD_reads_93 (by decide) (fun c_194 => ?_) (fun c_194 => ?_)
                · have n_195 := xn_le (a := 6) (b := j) c_194 (by decide) rfl (by omega) (by omega)
                  refine lv_aload_n hx hb d_MD_reads_119 rfl (lv_at hl 0 rfl) ?_
                  refine va_get (D := (dC, dI)) (ci := 7) (v := .int (sr_va gg b (min j 6))) (C := xR_MD) (T := xT_MD) (N := 27) hx hb hts (fun w h => List.mem_cons_of_mem _ (iw_MD w h)) hown hK hP 0 rfl rfl 26 (by decide) (hts _ (List.mem_cons_of_mem _ wm_723)) (fun _ h9 => h9) rfl d_MD_reads_120 ?_
                  refine va_put (D := (dC, dI)) (ci := 7) (v := .int (sr_va gg b (min j 6))) (ty := .int) (C := xR_MD) (T := xT_MD) (N := 27) hx hb hts (fun w h => List.mem_cons_of_mem _ (iw_MD w h)) xt_MD xt_MD_ok xn_MD_nm hown hK hP hD hS 0 rfl rfl 26 (by decide) (hts _ (List.mem_cons_of_mem _ wm_723)) (fun _ h9 => h9) rfl (by decide +kernel) rfl rfl (Nat.le_of_ble_eq_true rfl) d_MD_reads_123 (fun H locs hP hD hS => ?_)
                  have hP : va_P (dC, dI) xCl [(h0, .inr (7, [.int th, .int (nI nm), .ref ap, .int (nI no), .ref am, .ref aw, .ref az, .ref au, .int kn, .long vP, .long vQ, .long vS, .long vT, .long vB, .long vM, .long vH, .ref ao, .ref ax, .int (nI np), .ref ay, .int (nI nl), .ref ad, .ref al, .int (nI sn), .ref ag, .int (nI (b + j)), .int (sr_va gg b (min j 6))])), (ag, .inl (kg, 200, .inl gg))] H := hP
                  have hD : va_D A [(h0, .inr (7, [.int th, .int (nI nm), .ref ap, .int (nI no), .ref am, .ref aw, .ref az, .ref au, .int kn, .long vP, .long vQ, .long vS, .long vT, .long vB, .long vM, .long vH, .ref ao, .ref ax, .int (nI np), .ref ay, .int (nI nl), .ref ad, .ref al, .int (nI sn), .ref ag, .int (nI (b + j)), .int (sr_va gg b (min j 6))])), (ag, .inl (kg, 200, .inl gg))] := hD
                  refine lv_iinc (v := nI (j + 1)) (lv' := [(3, .int (nI (j + 1))), (0, .ref h0), (1, .int a), (2, .int 1)]) hx hb d_MD_reads_126 hl (k := 3) rfl (nI_1 _) (by decide) rfl (fun ls hl => ?_)
                  refine lv_aload_n hx hb d_MD_reads_129 rfl (lv_at hl 1 rfl) ?_
                  refine lv_dup hx hb d_MD_reads_130 rfl ?_
                  refine va_get (D := (dC, dI)) (ci := 7) (v := .int (nI (b + j))) (C := xR_MD) (T := xT_MD) (N := 27) hx hb hts (fun w h => List.mem_cons_of_mem _ (iw_MD w h)) hown hK hP 0 rfl rfl 25 (by decide) (hts _ (List.mem_cons_of_mem _ wm_722)) (fun _ h9 => h9) rfl d_MD_reads_131 ?_
                  refine lv_iconst (v := 1) hx hb d_MD_reads_134 (by decide) ?_
                  refine lv_iadd hx hb d_MD_reads_135 ?_
                  refine xv_i (y := nI ((b + j) + 1)) (nI_1 _) ?_
                  refine va_put (D := (dC, dI)) (ci := 7) (v := .int (nI ((b + j) + 1))) (ty := .int) (C := xR_MD) (T := xT_MD) (N := 27) hx hb hts (fun w h => List.mem_cons_of_mem _ (iw_MD w h)) xt_MD xt_MD_ok xn_MD_nm hown hK hP hD hS 0 rfl rfl 25 (by decide) (hts _ (List.mem_cons_of_mem _ wm_722)) (fun _ h9 => h9) rfl (by decide +kernel) rfl rfl (Nat.le_of_ble_eq_true rfl) d_MD_reads_136 (fun H locs hP hD hS => ?_)
                  have hP : va_P (dC, dI) xCl [(h0, .inr (7, [.int th, .int (nI nm), .ref ap, .int (nI no), .ref am, .ref aw, .ref az, .ref au, .int kn, .long vP, .long vQ, .long vS, .long vT, .long vB, .long vM, .long vH, .ref ao, .ref ax, .int (nI np), .ref ay, .int (nI nl), .ref ad, .ref al, .int (nI sn), .ref ag, .int (nI ((b + j) + 1)), .int (sr_va gg b (min j 6))])), (ag, .inl (kg, 200, .inl gg))] H := hP
                  have hD : va_D A [(h0, .inr (7, [.int th, .int (nI nm), .ref ap, .int (nI no), .ref am, .ref aw, .ref az, .ref au, .int kn, .long vP, .long vQ, .long vS, .long vT, .long vB, .long vM, .long vH, .ref ao, .ref ax, .int (nI np), .ref ay, .int (nI nl), .ref ad, .ref al, .int (nI sn), .ref ag, .int (nI ((b + j) + 1)), .int (sr_va gg b (min j 6))])), (ag, .inl (kg, 200, .inl gg))] := hD
                  refine lv_goto (tgt := 59) hx hb d_MD_reads_139 (by decide) ?_
                  exact ih  (j + 1) ((b + j) + 1) (sr_va gg b (min j 6)) (by omega) (by omega) (by omega) (by omega) (md_dn_s (by omega) n_162 b_193 hdn) (md_va_k n_195) _ _ (hP.sub [0, 1] rfl) (hD.sub [0, 1] (by decide) rfl) hS ls (lv_sub hl [1, 2, 3, 0] rfl)
                · have n_196 := xn_nle (a := 6) (b := j) c_194 (by decide) rfl (by omega) (by omega)
                  refine lv_bipush (v := 10) hx hb d_MD_reads_96 (by decide) ?_
                  refine lv_aload_n hx hb d_MD_reads_98 rfl (lv_at hl 0 rfl) ?_
                  refine va_get (D := (dC, dI)) (ci := 7) (v := .int (sr_va gg b (min j 6))) (C := xR_MD) (T := xT_MD) (N := 27) hx hb hts (fun w h => List.mem_cons_of_mem _ (iw_MD w h)) hown hK hP 0 rfl rfl 26 (by decide) (hts _ (List.mem_cons_of_mem _ wm_723)) (fun _ h9 => h9) rfl d_MD_reads_99 ?_
                  refine lv_imul hx hb d_MD_reads_102 ?_
                  refine lv_aload_n hx hb d_MD_reads_103 rfl (lv_at hl 0 rfl) ?_
                  refine va_get (D := (dC, dI)) (ci := 7) (v := .ref ag) (C := xR_MD) (T := xT_MD) (N := 27) hx hb hts (fun w h => List.mem_cons_of_mem _ (iw_MD w h)) hown hK hP 0 rfl rfl 24 (by decide) (hts _ (List.mem_cons_of_mem _ wm_721)) (fun _ h9 => h9) rfl d_MD_reads_104 ?_
                  refine lv_aload_n hx hb d_MD_reads_107 rfl (lv_at hl 0 rfl) ?_
                  refine va_get (D := (dC, dI)) (ci := 7) (v := .int (nI (b + j))) (C := xR_MD) (T := xT_MD) (N := 27) hx hb hts (fun w h => List.mem_cons_of_mem _ (iw_MD w h)) hown hK hP 0 rfl rfl 25 (by decide) (hts _ (List.mem_cons_of_mem _ wm_722)) (fun _ h9 => h9) rfl d_MD_reads_108 ?_
                  refine xa_iald hx hb hK hP 1 0 rfl rfl (b + j) rfl (by omega) (by decide) d_MD_reads_111 ?_
                  refine lv_iadd hx hb d_MD_reads_112 ?_
                  refine lv_bipush (v := 48) hx hb d_MD_reads_113 (by decide) ?_
                  refine lv_isub hx hb d_MD_reads_115 ?_
                  refine lv_goto (tgt := 123) hx hb d_MD_reads_116 (by decide) ?_
                  refine va_put (D := (dC, dI)) (ci := 7) (v := .int (((10 * (sr_va gg b (min j 6))) + (gg (b + j))) - 48)) (ty := .int) (C := xR_MD) (T := xT_MD) (N := 27) hx hb hts (fun w h => List.mem_cons_of_mem _ (iw_MD w h)) xt_MD xt_MD_ok xn_MD_nm hown hK hP hD hS 0 rfl rfl 26 (by decide) (hts _ (List.mem_cons_of_mem _ wm_723)) (fun _ h9 => h9) rfl (by decide +kernel) rfl rfl (Nat.le_of_ble_eq_true rfl) d_MD_reads_123 (fun H locs hP hD hS => ?_)
                  have hP : va_P (dC, dI) xCl [(h0, .inr (7, [.int th, .int (nI nm), .ref ap, .int (nI no), .ref am, .ref aw, .ref az, .ref au, .int kn, .long vP, .long vQ, .long vS, .long vT, .long vB, .long vM, .long vH, .ref ao, .ref ax, .int (nI np), .ref ay, .int (nI nl), .ref ad, .ref al, .int (nI sn), .ref ag, .int (nI (b + j)), .int (((10 * (sr_va gg b (min j 6))) + (gg (b + j))) - 48)])), (ag, .inl (kg, 200, .inl gg))] H := hP
                  have hD : va_D A [(h0, .inr (7, [.int th, .int (nI nm), .ref ap, .int (nI no), .ref am, .ref aw, .ref az, .ref au, .int kn, .long vP, .long vQ, .long vS, .long vT, .long vB, .long vM, .long vH, .ref ao, .ref ax, .int (nI np), .ref ay, .int (nI nl), .ref ad, .ref al, .int (nI sn), .ref ag, .int (nI (b + j)), .int (((10 * (sr_va gg b (min j 6))) + (gg (b + j))) - 48)])), (ag, .inl (kg, 200, .inl gg))] := hD
                  refine lv_iinc (v := nI (j + 1)) (lv' := [(3, .int (nI (j + 1))), (0, .ref h0), (1, .int a), (2, .int 1)]) hx hb d_MD_reads_126 hl (k := 3) rfl (nI_1 _) (by decide) rfl (fun ls hl => ?_)
                  refine lv_aload_n hx hb d_MD_reads_129 rfl (lv_at hl 1 rfl) ?_
                  refine lv_dup hx hb d_MD_reads_130 rfl ?_
                  refine va_get (D := (dC, dI)) (ci := 7) (v := .int (nI (b + j))) (C := xR_MD) (T := xT_MD) (N := 27) hx hb hts (fun w h => List.mem_cons_of_mem _ (iw_MD w h)) hown hK hP 0 rfl rfl 25 (by decide) (hts _ (List.mem_cons_of_mem _ wm_722)) (fun _ h9 => h9) rfl d_MD_reads_131 ?_
                  refine lv_iconst (v := 1) hx hb d_MD_reads_134 (by decide) ?_
                  refine lv_iadd hx hb d_MD_reads_135 ?_
                  refine xv_i (y := nI ((b + j) + 1)) (nI_1 _) ?_
                  refine va_put (D := (dC, dI)) (ci := 7) (v := .int (nI ((b + j) + 1))) (ty := .int) (C := xR_MD) (T := xT_MD) (N := 27) hx hb hts (fun w h => List.mem_cons_of_mem _ (iw_MD w h)) xt_MD xt_MD_ok xn_MD_nm hown hK hP hD hS 0 rfl rfl 25 (by decide) (hts _ (List.mem_cons_of_mem _ wm_722)) (fun _ h9 => h9) rfl (by decide +kernel) rfl rfl (Nat.le_of_ble_eq_true rfl) d_MD_reads_136 (fun H locs hP hD hS => ?_)
                  have hP : va_P (dC, dI) xCl [(h0, .inr (7, [.int th, .int (nI nm), .ref ap, .int (nI no), .ref am, .ref aw, .ref az, .ref au, .int kn, .long vP, .long vQ, .long vS, .long vT, .long vB, .long vM, .long vH, .ref ao, .ref ax, .int (nI np), .ref ay, .int (nI nl), .ref ad, .ref al, .int (nI sn), .ref ag, .int (nI ((b + j) + 1)), .int (((10 * (sr_va gg b (min j 6))) + (gg (b + j))) - 48)])), (ag, .inl (kg, 200, .inl gg))] H := hP
                  have hD : va_D A [(h0, .inr (7, [.int th, .int (nI nm), .ref ap, .int (nI no), .ref am, .ref aw, .ref az, .ref au, .int kn, .long vP, .long vQ, .long vS, .long vT, .long vB, .long vM, .long vH, .ref ao, .ref ax, .int (nI np), .ref ay, .int (nI nl), .ref ad, .ref al, .int (nI sn), .ref ag, .int (nI ((b + j) + 1)), .int (((10 * (sr_va gg b (min j 6))) + (gg (b + j))) - 48)])), (ag, .inl (kg, 200, .inl gg))] := hD
                  refine lv_goto (tgt := 59) hx hb d_MD_reads_139 (by decide) ?_
                  exact ih  (j + 1) ((b + j) + 1) (((10 * (sr_va gg b (min j 6))) + (gg (b + j))) - 48) (by omega) (by omega) (by omega) (by omega) (md_dn_s (by omega) n_162 b_193 hdn) (md_va_s n_196) _ _ (hP.sub [0, 1] rfl) (hD.sub [0, 1] (by decide) rfl) hS ls (lv_sub hl [1, 2, 3, 0] rfl)
        exact lp59 (201 - 0 + 1) 0 b 0 (by omega) (by omega) (by omega) (by omega) (by rw [Nat.zero_add]; rfl) rfl _ _ (hP.sub [0, 1] rfl) (hD.sub [0, 1] (by decide) rfl) hS ls (lv_sub hl [2, 3, 1, 0] rfl)
