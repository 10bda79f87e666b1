/-! THE LAW's CASES: one call of the class and of the reference each -/
/-- the law's end -/
def jw_E (g : ja_G) (cc : ByteArray) : Prop := ∀ {w : jb_W} {sz kc ks pc : Nat} {lv : List (Nat × Value)}, decode cc pc = .ok (.ireturn, 1) → ja g w sz kc ks pc lv [.int 1]
theorem jDetB.begin {σ σ1 σ2 : jSt} {p th th2 : Int32} (h : jA_begin σ p th σ1) (h2 : jA_begin σ p th2 σ2) : th = th2 ∧ σ1 = σ2 := by
  rcases Classical.em (p < 0 ∨ 64 < p) with z | z
  · exact ⟨(h.1 z).1.trans (h2.1 z).1.symm, (h.1 z).2.trans (h2.1 z).2.symm⟩
  · exact ⟨(h.2 z).1.trans (h2.2 z).1.symm, (h.2 z).2.trans (h2.2 z).2.symm⟩
theorem jl_cmp0 (v : Int64) : lg_cmp v v = 0 := by simp [lg_cmp]
theorem jk_L_63 : jb_KSW "MeasuredTensorsLaw" 63 jy_L_begin jc_L_begin 3 (some .int) [(0, 5, 8, 13)] 2 := ⟨jw_in (by decide +kernel) (by decide +kernel), jw_in (by decide +kernel) (by decide +kernel), jw_in (by decide +kernel) (by decide +kernel), jw_in (by decide +kernel) (by decide +kernel), by decide +kernel⟩
theorem jk_L_68 : jb_KV "MeasuredTensorsLaw" 68 jy_Y_begin jc_Y_begin 2 none 1 := ⟨jw_in (by decide +kernel) (by decide +kernel), jw_in (by decide +kernel) (by decide +kernel), jw_in (by decide +kernel) (by decide +kernel), jw_in (by decide +kernel) (by decide +kernel), jw_in (by decide +kernel) (by decide +kernel), by decide +kernel⟩
theorem jk_L_69 : jb_KV "MeasuredTensorsLaw" 69 jy_Y_thrown jc_Y_thrown 1 (some .int) 0 := ⟨jw_in (by decide +kernel) (by decide +kernel), jw_in (by decide +kernel) (by decide +kernel), jw_in (by decide +kernel) (by decide +kernel), jw_in (by decide +kernel) (by decide +kernel), jw_in (by decide +kernel) (by decide +kernel), by decide +kernel⟩
theorem jk_L_73 : jb_KSW "MeasuredTensorsLaw" 73 jy_L_number jc_L_number 5 (some .int) [(0, 10, 13, 13)] 4 := ⟨jw_in (by decide +kernel) (by decide +kernel), jw_in (by decide +kernel) (by decide +kernel), jw_in (by decide +kernel) (by decide +kernel), jw_in (by decide +kernel) (by decide +kernel), by decide +kernel⟩
theorem jk_L_76 : jb_KV "MeasuredTensorsLaw" 76 jy_Y_number jc_Y_number 3 (some .int) 2 := ⟨jw_in (by decide +kernel) (by decide +kernel), jw_in (by decide +kernel) (by decide +kernel), jw_in (by decide +kernel) (by decide +kernel), jw_in (by decide +kernel) (by decide +kernel), jw_in (by decide +kernel) (by decide +kernel), by decide +kernel⟩
theorem jk_L_77 : jb_KSW "MeasuredTensorsLaw" 77 jy_L_made jc_L_made 9 (some .int) [(0, 18, 21, 13)] 8 := ⟨jw_in (by decide +kernel) (by decide +kernel), jw_in (by decide +kernel) (by decide +kernel), jw_in (by decide +kernel) (by decide +kernel), jw_in (by decide +kernel) (by decide +kernel), by decide +kernel⟩
theorem jk_L_80 : jb_KV "MeasuredTensorsLaw" 80 jy_Y_made jc_Y_made 7 (some .int) 6 := ⟨jw_in (by decide +kernel) (by decide +kernel), jw_in (by decide +kernel) (by decide +kernel), jw_in (by decide +kernel) (by decide +kernel), jw_in (by decide +kernel) (by decide +kernel), jw_in (by decide +kernel) (by decide +kernel), by decide +kernel⟩
theorem jk_L_81 : jb_KSW "MeasuredTensorsLaw" 81 jy_L_index jc_L_index 9 (some .int) [(0, 18, 21, 13), (0, 18, 25, 27)] 8 := ⟨jw_in (by decide +kernel) (by decide +kernel), jw_in (by decide +kernel) (by decide +kernel), jw_in (by decide +kernel) (by decide +kernel), jw_in (by decide +kernel) (by decide +kernel), by decide +kernel⟩
theorem jk_L_84 : jb_KV "MeasuredTensorsLaw" 84 jy_Y_index jc_Y_index 8 (some .int) 6 := ⟨jw_in (by decide +kernel) (by decide +kernel), jw_in (by decide +kernel) (by decide +kernel), jw_in (by decide +kernel) (by decide +kernel), jw_in (by decide +kernel) (by decide +kernel), jw_in (by decide +kernel) (by decide +kernel), by decide +kernel⟩
theorem jk_L_85 : jb_KSW "MeasuredTensorsLaw" 85 jy_L_pair jc_L_pair 6 (some .int) [(0, 12, 15, 33), (0, 12, 19, 13)] 5 := ⟨jw_in (by decide +kernel) (by decide +kernel), jw_in (by decide +kernel) (by decide +kernel), jw_in (by decide +kernel) (by decide +kernel), jw_in (by decide +kernel) (by decide +kernel), by decide +kernel⟩
theorem jk_L_88 : jb_KV "MeasuredTensorsLaw" 88 jy_Y_pair jc_Y_pair 4 (some .int) 3 := ⟨jw_in (by decide +kernel) (by decide +kernel), jw_in (by decide +kernel) (by decide +kernel), jw_in (by decide +kernel) (by decide +kernel), jw_in (by decide +kernel) (by decide +kernel), jw_in (by decide +kernel) (by decide +kernel), by decide +kernel⟩
theorem jk_L_89 : jb_KSW "MeasuredTensorsLaw" 89 jy_L_turned jc_L_turned 4 (some .int) [(0, 9, 12, 33)] 3 := ⟨jw_in (by decide +kernel) (by decide +kernel), jw_in (by decide +kernel) (by decide +kernel), jw_in (by decide +kernel) (by decide +kernel), jw_in (by decide +kernel) (by decide +kernel), by decide +kernel⟩
theorem jk_L_92 : jb_KV "MeasuredTensorsLaw" 92 jy_Y_turned jc_Y_turned 2 (some .int) 1 := ⟨jw_in (by decide +kernel) (by decide +kernel), jw_in (by decide +kernel) (by decide +kernel), jw_in (by decide +kernel) (by decide +kernel), jw_in (by decide +kernel) (by decide +kernel), jw_in (by decide +kernel) (by decide +kernel), by decide +kernel⟩
theorem jk_L_93 : jb_KSW "MeasuredTensorsLaw" 93 jy_L_over jc_L_over 6 (some .int) [(0, 12, 15, 33), (0, 12, 19, 13)] 5 := ⟨jw_in (by decide +kernel) (by decide +kernel), jw_in (by decide +kernel) (by decide +kernel), jw_in (by decide +kernel) (by decide +kernel), jw_in (by decide +kernel) (by decide +kernel), by decide +kernel⟩
theorem jk_L_95 : jb_KV "MeasuredTensorsLaw" 95 jy_Y_over jc_Y_over 5 (some .int) 3 := ⟨jw_in (by decide +kernel) (by decide +kernel), jw_in (by decide +kernel) (by decide +kernel), jw_in (by decide +kernel) (by decide +kernel), jw_in (by decide +kernel) (by decide +kernel), jw_in (by decide +kernel) (by decide +kernel), by decide +kernel⟩
theorem jk_L_96 : jb_KSW "MeasuredTensorsLaw" 96 jy_L_call jc_L_call 10 (some .int) [(0, 20, 23, 13), (0, 20, 27, 33)] 9 := ⟨jw_in (by decide +kernel) (by decide +kernel), jw_in (by decide +kernel) (by decide +kernel), jw_in (by decide +kernel) (by decide +kernel), jw_in (by decide +kernel) (by decide +kernel), by decide +kernel⟩
theorem jk_L_99 : jb_KV "MeasuredTensorsLaw" 99 jy_Y_call jc_Y_call 13 (some .int) 7 := ⟨jw_in (by decide +kernel) (by decide +kernel), jw_in (by decide +kernel) (by decide +kernel), jw_in (by decide +kernel) (by decide +kernel), jw_in (by decide +kernel) (by decide +kernel), jw_in (by decide +kernel) (by decide +kernel), by decide +kernel⟩
theorem jk_L_100 : jb_KSW "MeasuredTensorsLaw" 100 jy_L_reshape jc_L_reshape 9 (some .int) [(0, 18, 21, 33), (0, 18, 25, 13)] 8 := ⟨jw_in (by decide +kernel) (by decide +kernel), jw_in (by decide +kernel) (by decide +kernel), jw_in (by decide +kernel) (by decide +kernel), jw_in (by decide +kernel) (by decide +kernel), by decide +kernel⟩
theorem jk_L_102 : jb_KV "MeasuredTensorsLaw" 102 jy_Y_reshape jc_Y_reshape 8 (some .int) 6 := ⟨jw_in (by decide +kernel) (by decide +kernel), jw_in (by decide +kernel) (by decide +kernel), jw_in (by decide +kernel) (by decide +kernel), jw_in (by decide +kernel) (by decide +kernel), jw_in (by decide +kernel) (by decide +kernel), by decide +kernel⟩
theorem jk_L_103 : jb_KSW "MeasuredTensorsLaw" 103 jy_L_loss jc_L_loss 4 (some .int) [(0, 9, 12, 33), (0, 9, 15, 13)] 3 := ⟨jw_in (by decide +kernel) (by decide +kernel), jw_in (by decide +kernel) (by decide +kernel), jw_in (by decide +kernel) (by decide +kernel), jw_in (by decide +kernel) (by decide +kernel), by decide +kernel⟩
theorem jk_L_105 : jb_KV "MeasuredTensorsLaw" 105 jy_Y_loss jc_Y_loss 5 (some .int) 1 := ⟨jw_in (by decide +kernel) (by decide +kernel), jw_in (by decide +kernel) (by decide +kernel), jw_in (by decide +kernel) (by decide +kernel), jw_in (by decide +kernel) (by decide +kernel), jw_in (by decide +kernel) (by decide +kernel), by decide +kernel⟩
theorem jk_L_106 : jb_KSW "MeasuredTensorsLaw" 106 jy_L_told jc_L_told 5 (some .int) [(0, 10, 13, 33), (0, 10, 17, 13)] 4 := ⟨jw_in (by decide +kernel) (by decide +kernel), jw_in (by decide +kernel) (by decide +kernel), jw_in (by decide +kernel) (by decide +kernel), jw_in (by decide +kernel) (by decide +kernel), by decide +kernel⟩
theorem jk_L_108 : jb_KV "MeasuredTensorsLaw" 108 jy_Y_told jc_Y_told 3 (some .int) 2 := ⟨jw_in (by decide +kernel) (by decide +kernel), jw_in (by decide +kernel) (by decide +kernel), jw_in (by decide +kernel) (by decide +kernel), jw_in (by decide +kernel) (by decide +kernel), jw_in (by decide +kernel) (by decide +kernel), by decide +kernel⟩
theorem jk_L_109 : jb_KSW "MeasuredTensorsLaw" 109 jy_L_divisor jc_L_divisor 5 (some .int) [(0, 9, 12, 33)] 4 := ⟨jw_in (by decide +kernel) (by decide +kernel), jw_in (by decide +kernel) (by decide +kernel), jw_in (by decide +kernel) (by decide +kernel), jw_in (by decide +kernel) (by decide +kernel), by decide +kernel⟩
theorem jk_L_112 : jb_KV "MeasuredTensorsLaw" 112 jy_Y_divisor jc_Y_divisor 3 (some .long) 2 := ⟨jw_in (by decide +kernel) (by decide +kernel), jw_in (by decide +kernel) (by decide +kernel), jw_in (by decide +kernel) (by decide +kernel), jw_in (by decide +kernel) (by decide +kernel), jw_in (by decide +kernel) (by decide +kernel), by decide +kernel⟩
theorem jk_L_113 : jb_KV "MeasuredTensorsLaw" 113 jy_X_all jc_X_all 2 (some .int) 1 := ⟨jw_in (by decide +kernel) (by decide +kernel), jw_in (by decide +kernel) (by decide +kernel), jw_in (by decide +kernel) (by decide +kernel), jw_in (by decide +kernel) (by decide +kernel), jw_in (by decide +kernel) (by decide +kernel), by decide +kernel⟩
theorem jk_L_116 : jb_KV "MeasuredTensorsLaw" 116 jy_Y_all jc_Y_all 2 (some .int) 1 := ⟨jw_in (by decide +kernel) (by decide +kernel), jw_in (by decide +kernel) (by decide +kernel), jw_in (by decide +kernel) (by decide +kernel), jw_in (by decide +kernel) (by decide +kernel), jw_in (by decide +kernel) (by decide +kernel), by decide +kernel⟩
section LC
variable {l : Launch} {D : va_G} {H0 : Heap} {cI cJ cT cX : ClassId} {w : jb_W} {sz : Nat} {u : jb_U} {b L : Nat} {xs : Nat → Int32} {x y o i k K S : Nat}
theorem jwc_begin (C : ja_C (jb_mk l room_1 8 "MeasuredTensorsLaw" D H0 (jt_all cI cJ cT cX) u) jc_L_law) (X : jb_X H0 u.1.2.2) (hst : l.stackTraces = false) (hX : va_X b L xs u.1.2.2 H0) (hbl : b < H0.size) (hL : L ≤ 4096) (hk : k < 512) (hn : i + 8 ≤ L) (inv : jInv cI cJ cT cX x y o k w) (EX : jw_E (jb_mk l room_1 8 "MeasuredTensorsLaw" D H0 (jt_all cI cJ cT cX) u) jc_L_law) (kk : ∀ w' sz', jInv cI cJ cT cX x y o (k + 1) w' → ja (jb_mk l room_1 8 "MeasuredTensorsLaw" D H0 (jt_all cI cJ cT cX) u) w' sz' K S 855 [(4, .int (nI i)), (3, .ref o), (2, .ref y), (1, .ref x), (0, .ref b)] []) : ja (jb_mk l room_1 8 "MeasuredTensorsLaw" D H0 (jt_all cI cJ cT cX) u) w sz (K + 21) (S + 9753) 108 [(4, .int (nI i)), (3, .ref o), (2, .ref y), (1, .ref x), (0, .ref b)] [] := by
  refine ja_bd (fun bd => ?_)
  obtain ⟨σ, P, A, n, n2, th, rk, N, hw, hm⟩ := inv
  obtain ⟨hx, hN, ⟨g, ho, -⟩, hP, hO⟩ := id hm
  have hc := hw.2.1
  have hi := hw.2.2
  refine ja_aload_n C jd_L_law_108 3 rfl ?_
  refine ja_aload_n C jd_L_law_109 4 rfl ?_
  refine ja_iload C jd_L_law_110 0 rfl ?_
  refine ja_iconst C (nI 1) jd_L_law_112 (by decide) ?_
  refine ja_iaddN C jd_L_law_113 ?_
  refine ja_sld C hX hbl (by omega) (by omega) jd_L_law_114 ?_
  refine jb_callSX (kc := K + 16) (ks := S + 9728) (mc := 5) (ms := 25) (As := [.ref x, .int (xs (i + 1))]) (rest := []) C X jk_L_63 (jh_begin hst hx) jd_L_law_115 rfl rfl ⟨by decide, by decide⟩ (Nat.le_of_ble_eq_true rfl) (fun v w1 z1 hp => ?_)
  obtain ⟨th1, σ1, e1, a1, q1⟩ := hp
  rw [e1]
  refine ja_bd (fun bd1 => ?_)
  obtain ⟨P1, hm1⟩ := jMid.cls hm bd (jXP.same (z := fun _ => True) q1 (bd _ _ ho) (fun z => (hP o z).2.2.1 rfl) ho trivial)
  obtain ⟨hx1, hN1, ⟨g1, ho1, hg1⟩, hP1, hO1⟩ := id hm1
  obtain ⟨fs1, hy1⟩ := hN1.obj
  refine ja_istore C [(5, .int th1), (4, .int (nI i)), (3, .ref o), (2, .ref y), (1, .ref x), (0, .ref b)] jd_L_law_118 (Nat.le_of_ble_eq_true rfl) rfl ?_
  refine ja_aload_n C jd_L_law_120 3 rfl ?_
  refine ja_aload_n C jd_L_law_121 5 rfl ?_
  refine ja_iload C jd_L_law_122 1 rfl ?_
  refine ja_iconst C (nI 1) jd_L_law_124 (by decide) ?_
  refine ja_iaddN C jd_L_law_125 ?_
  refine ja_sld C hX hbl (by omega) (by omega) jd_L_law_126 ?_
  refine ja_less (kc' := K + 0) (ks' := S + 0) (by omega) (by omega) ?_
  refine jb_callV (kc := K) (ks := S) (mc := 0) (ms := 0) (As := [.int (xs (i + 1))]) (rest := []) C X jk_L_68 hy1 rfl (jn_begin hN1) jd_L_law_127 rfl rfl ⟨by decide, by decide⟩ (Nat.le_of_ble_eq_true rfl) (fun v w2 z2 hp => ?_)
  obtain ⟨e2, th2, σ2, a2, q2⟩ := hp
  rw [e2]
  obtain ⟨A2, n9, n29, rk2, N2, hm2⟩ := jMid.rfc hm1 bd1 q2
  have hD := jDetB.begin a1 a2
  refine ja_aload_n C jd_L_law_130 3 rfl ?_
  obtain ⟨hx2, hN2, ⟨g2, ho2, hg2⟩, hP2, hO2⟩ := id hm2
  obtain ⟨s2, V2, VL2, hM2, es, -⟩ := id hN2
  refine jb_callV (kc := K) (ks := S) (mc := 0) (ms := 0) (As := []) (rest := []) C X jk_L_69 hM2.1.1 rfl (jy_thrown hM2.1) jd_L_law_131 rfl rfl ⟨by decide, by decide⟩ (Nat.le_of_ble_eq_true rfl) (fun v w3 z3 hp => ?_)
  obtain ⟨f1, f2, f3⟩ := hp
  rw [f1, f2, f3, es]
  refine ja_iload C jd_L_law_134 0 rfl ?_
  refine ja_icmp_eq C 141 jd_L_law_136 (by decide) (fun _ => ?_) (fun z => absurd hD.1.symm z)
  refine ja_goto C 855 jd_L_law_141 (by decide) ?_
  refine ja_lv (lv' := [(4, .int (nI i)), (3, .ref o), (2, .ref y), (1, .ref x), (0, .ref b)]) (fun q hq => List.mem_cons_of_mem _ hq) (kk _ _ ?_)
  exact jInv.next hm2 hD.2 (jA_begin.step a2) hw
theorem jwc_number (C : ja_C (jb_mk l room_1 8 "MeasuredTensorsLaw" D H0 (jt_all cI cJ cT cX) u) jc_L_law) (X : jb_X H0 u.1.2.2) (hst : l.stackTraces = false) (hX : va_X b L xs u.1.2.2 H0) (hbl : b < H0.size) (hL : L ≤ 4096) (hk : k < 512) (hn : i + 8 ≤ L) (inv : jInv cI cJ cT cX x y o k w) (EX : jw_E (jb_mk l room_1 8 "MeasuredTensorsLaw" D H0 (jt_all cI cJ cT cX) u) jc_L_law) (kk : ∀ w' sz', jInv cI cJ cT cX x y o (k + 1) w' → ja (jb_mk l room_1 8 "MeasuredTensorsLaw" D H0 (jt_all cI cJ cT cX) u) w' sz' K S 855 [(4, .int (nI i)), (3, .ref o), (2, .ref y), (1, .ref x), (0, .ref b)] []) : ja (jb_mk l room_1 8 "MeasuredTensorsLaw" D H0 (jt_all cI cJ cT cX) u) w sz (K + 21) (S + 9753) 144 [(4, .int (nI i)), (3, .ref o), (2, .ref y), (1, .ref x), (0, .ref b)] [] := by
  refine ja_bd (fun bd => ?_)
  obtain ⟨σ, P, A, n, n2, th, rk, N, hw, hm⟩ := inv
  obtain ⟨hx, hN, ⟨g, ho, -⟩, hP, hO⟩ := id hm
  have hc := hw.2.1
  have hi := hw.2.2
  refine ja_aload_n C jd_L_law_144 3 rfl ?_
  refine ja_aload_n C jd_L_law_145 4 rfl ?_
  refine ja_iload C jd_L_law_146 0 rfl ?_
  refine ja_iconst C (nI 1) jd_L_law_148 (by decide) ?_
  refine ja_iaddN C jd_L_law_149 ?_
  refine ja_sld C hX hbl (by omega) (by omega) jd_L_law_150 ?_
  refine ja_aload_n C jd_L_law_151 4 rfl ?_
  refine ja_iload C jd_L_law_152 0 rfl ?_
  refine ja_iconst C (nI 2) jd_L_law_154 (by decide) ?_
  refine ja_iaddN C jd_L_law_155 ?_
  refine ja_sld C hX hbl (by omega) (by omega) jd_L_law_156 ?_
  refine ja_aload_n C jd_L_law_157 1 rfl ?_
  refine jb_callSX (kc := K + 16) (ks := S + 9728) (mc := 5) (ms := 25) (As := [.ref x, .int (xs (i + 1)), .int (xs (i + 2)), .ref o]) (rest := []) C X jk_L_73 (jh_number hst hx (by omega) ho (bd _ _ ho) (fun z => (hP o z).2.2.1 rfl)) jd_L_law_158 rfl rfl ⟨by decide, by decide⟩ (Nat.le_of_ble_eq_true rfl) (fun v w1 z1 hp => ?_)
  obtain ⟨y1, th1, σ1, e1, a1, q1⟩ := hp
  rw [e1]
  refine ja_bd (fun bd1 => ?_)
  obtain ⟨P1, hm1⟩ := jMid.cls hm bd q1
  obtain ⟨hx1, hN1, ⟨g1, ho1, hg1⟩, hP1, hO1⟩ := id hm1
  obtain ⟨fs1, hy1⟩ := hN1.obj
  obtain ⟨s1, V1, VL1, hM1, -⟩ := id hN1
  refine ja_istore C [(5, .int th1), (4, .int (nI i)), (3, .ref o), (2, .ref y), (1, .ref x), (0, .ref b)] jd_L_law_161 (Nat.le_of_ble_eq_true rfl) rfl ?_
  refine ja_aload_n C jd_L_law_163 3 rfl ?_
  refine ja_aload_n C jd_L_law_164 5 rfl ?_
  refine ja_iload C jd_L_law_165 1 rfl ?_
  refine ja_iconst C (nI 1) jd_L_law_167 (by decide) ?_
  refine ja_iaddN C jd_L_law_168 ?_
  refine ja_sld C hX hbl (by omega) (by omega) jd_L_law_169 ?_
  refine ja_aload_n C jd_L_law_170 5 rfl ?_
  refine ja_iload C jd_L_law_171 1 rfl ?_
  refine ja_iconst C (nI 2) jd_L_law_173 (by decide) ?_
  refine ja_iaddN C jd_L_law_174 ?_
  refine ja_sld C hX hbl (by omega) (by omega) jd_L_law_175 ?_
  refine jb_callV (kc := K) (ks := S) (mc := 16) (ms := 9728) (As := [.int (xs (i + 1)), .int (xs (i + 2))]) (rest := []) C X jk_L_76 hy1 rfl (jy_number hM1 (by omega)) jd_L_law_176 rfl rfl ⟨by decide, by decide⟩ (Nat.le_of_ble_eq_true rfl) (fun v w2 z2 hp => ?_)
  obtain ⟨y2, th2, σ2, e2, a2, q2⟩ := hp
  rw [e2]
  obtain ⟨A2, n9, n29, rk2, N2, hm2⟩ := jMid.rfc hm1 bd1 q2
  have hD := jDetT.number _ _ _ _ _ _ a1 a2
  refine ja_istore C [(6, .int y2), (5, .int th1), (4, .int (nI i)), (3, .ref o), (2, .ref y), (1, .ref x), (0, .ref b)] jd_L_law_179 (Nat.le_of_ble_eq_true rfl) rfl ?_
  refine ja_goto C 855 jd_L_law_181 (by decide) ?_
  refine ja_lv (lv' := [(4, .int (nI i)), (3, .ref o), (2, .ref y), (1, .ref x), (0, .ref b)]) (fun q hq => List.mem_cons_of_mem _ (List.mem_cons_of_mem _ hq)) (kk _ _ ?_)
  exact jInv.next hm2 hD.2.1 (jA_number.step a2) hw
theorem jwc_made (C : ja_C (jb_mk l room_1 8 "MeasuredTensorsLaw" D H0 (jt_all cI cJ cT cX) u) jc_L_law) (X : jb_X H0 u.1.2.2) (hst : l.stackTraces = false) (hX : va_X b L xs u.1.2.2 H0) (hbl : b < H0.size) (hL : L ≤ 4096) (hk : k < 512) (hn : i + 8 ≤ L) (inv : jInv cI cJ cT cX x y o k w) (EX : jw_E (jb_mk l room_1 8 "MeasuredTensorsLaw" D H0 (jt_all cI cJ cT cX) u) jc_L_law) (kk : ∀ w' sz', jInv cI cJ cT cX x y o (k + 1) w' → ja (jb_mk l room_1 8 "MeasuredTensorsLaw" D H0 (jt_all cI cJ cT cX) u) w' sz' K S 855 [(4, .int (nI i)), (3, .ref o), (2, .ref y), (1, .ref x), (0, .ref b)] []) : ja (jb_mk l room_1 8 "MeasuredTensorsLaw" D H0 (jt_all cI cJ cT cX) u) w sz (K + 21) (S + 9753) 184 [(4, .int (nI i)), (3, .ref o), (2, .ref y), (1, .ref x), (0, .ref b)] [] := by
  refine ja_bd (fun bd => ?_)
  obtain ⟨σ, P, A, n, n2, th, rk, N, hw, hm⟩ := inv
  obtain ⟨hx, hN, ⟨g, ho, -⟩, hP, hO⟩ := id hm
  have hc := hw.2.1
  have hi := hw.2.2
  refine ja_aload_n C jd_L_law_184 3 rfl ?_
  refine ja_aload_n C jd_L_law_185 4 rfl ?_
  refine ja_iload C jd_L_law_186 0 rfl ?_
  refine ja_iconst C (nI 1) jd_L_law_188 (by decide) ?_
  refine ja_iaddN C jd_L_law_189 ?_
  refine ja_sld C hX hbl (by omega) (by omega) jd_L_law_190 ?_
  refine ja_ne0 C jd_L_law_191 jd_L_law_194 jd_L_law_195 jd_L_law_198 ?_
  refine ja_aload_n C jd_L_law_199 4 rfl ?_
  refine ja_iload C jd_L_law_200 0 rfl ?_
  refine ja_iconst C (nI 2) jd_L_law_202 (by decide) ?_
  refine ja_iaddN C jd_L_law_203 ?_
  refine ja_sld C hX hbl (by omega) (by omega) jd_L_law_204 ?_
  refine ja_aload_n C jd_L_law_205 4 rfl ?_
  refine ja_iload C jd_L_law_206 0 rfl ?_
  refine ja_iconst C (nI 3) jd_L_law_208 (by decide) ?_
  refine ja_iaddN C jd_L_law_209 ?_
  refine ja_sld C hX hbl (by omega) (by omega) jd_L_law_210 ?_
  refine ja_aload_n C jd_L_law_211 4 rfl ?_
  refine ja_iload C jd_L_law_212 0 rfl ?_
  refine ja_iconst C (nI 4) jd_L_law_214 (by decide) ?_
  refine ja_iaddN C jd_L_law_215 ?_
  refine ja_sld C hX hbl (by omega) (by omega) jd_L_law_216 ?_
  refine ja_aload_n C jd_L_law_217 4 rfl ?_
  refine ja_iload C jd_L_law_218 0 rfl ?_
  refine ja_iconst C (nI 5) jd_L_law_220 (by decide) ?_
  refine ja_iaddN C jd_L_law_221 ?_
  refine ja_sld C hX hbl (by omega) (by omega) jd_L_law_222 ?_
  refine ja_aload_n C jd_L_law_223 4 rfl ?_
  refine ja_iload C jd_L_law_224 0 rfl ?_
  refine ja_bipush C (nI 6) jd_L_law_226 (by decide) ?_
  refine ja_iaddN C jd_L_law_228 ?_
  refine ja_sld C hX hbl (by omega) (by omega) jd_L_law_229 ?_
  refine ja_aload_n C jd_L_law_230 1 rfl ?_
  refine jb_callSX (kc := K + 16) (ks := S + 9728) (mc := 5) (ms := 25) (As := [.ref x, .int (if (xs (i + 1)) = 0 then nI 0 else nI 1), .int (xs (i + 2)), .int (xs (i + 3)), .int (xs (i + 4)), .int (xs (i + 5)), .int (xs (i + 6)), .ref o]) (rest := []) C X jk_L_77 (jh_made hst hx (by omega) (jl_b01 _) ho (bd _ _ ho) (fun z => (hP o z).2.2.1 rfl)) jd_L_law_231 rfl rfl ⟨by decide, by decide⟩ (Nat.le_of_ble_eq_true rfl) (fun v w1 z1 hp => ?_)
  obtain ⟨y1, th1, σ1, e1, a1, q1⟩ := hp
  rw [e1]
  refine ja_bd (fun bd1 => ?_)
  obtain ⟨P1, hm1⟩ := jMid.cls hm bd q1
  obtain ⟨hx1, hN1, ⟨g1, ho1, hg1⟩, hP1, hO1⟩ := id hm1
  obtain ⟨fs1, hy1⟩ := hN1.obj
  obtain ⟨s1, V1, VL1, hM1, -⟩ := id hN1
  refine ja_istore C [(5, .int th1), (4, .int (nI i)), (3, .ref o), (2, .ref y), (1, .ref x), (0, .ref b)] jd_L_law_234 (Nat.le_of_ble_eq_true rfl) rfl ?_
  refine ja_aload_n C jd_L_law_236 3 rfl ?_
  refine ja_aload_n C jd_L_law_237 5 rfl ?_
  refine ja_iload C jd_L_law_238 1 rfl ?_
  refine ja_iconst C (nI 1) jd_L_law_240 (by decide) ?_
  refine ja_iaddN C jd_L_law_241 ?_
  refine ja_sld C hX hbl (by omega) (by omega) jd_L_law_242 ?_
  refine ja_ne0 C jd_L_law_243 jd_L_law_246 jd_L_law_247 jd_L_law_250 ?_
  refine ja_aload_n C jd_L_law_251 5 rfl ?_
  refine ja_iload C jd_L_law_252 1 rfl ?_
  refine ja_iconst C (nI 2) jd_L_law_254 (by decide) ?_
  refine ja_iaddN C jd_L_law_255 ?_
  refine ja_sld C hX hbl (by omega) (by omega) jd_L_law_256 ?_
  refine ja_aload_n C jd_L_law_257 5 rfl ?_
  refine ja_iload C jd_L_law_258 1 rfl ?_
  refine ja_iconst C (nI 3) jd_L_law_260 (by decide) ?_
  refine ja_iaddN C jd_L_law_261 ?_
  refine ja_sld C hX hbl (by omega) (by omega) jd_L_law_262 ?_
  refine ja_aload_n C jd_L_law_263 5 rfl ?_
  refine ja_iload C jd_L_law_264 1 rfl ?_
  refine ja_iconst C (nI 4) jd_L_law_266 (by decide) ?_
  refine ja_iaddN C jd_L_law_267 ?_
  refine ja_sld C hX hbl (by omega) (by omega) jd_L_law_268 ?_
  refine ja_aload_n C jd_L_law_269 5 rfl ?_
  refine ja_iload C jd_L_law_270 1 rfl ?_
  refine ja_iconst C (nI 5) jd_L_law_272 (by decide) ?_
  refine ja_iaddN C jd_L_law_273 ?_
  refine ja_sld C hX hbl (by omega) (by omega) jd_L_law_274 ?_
  refine ja_aload_n C jd_L_law_275 5 rfl ?_
  refine ja_iload C jd_L_law_276 1 rfl ?_
  refine ja_bipush C (nI 6) jd_L_law_278 (by decide) ?_
  refine ja_iaddN C jd_L_law_280 ?_
  refine ja_sld C hX hbl (by omega) (by omega) jd_L_law_281 ?_
  refine jb_callV (kc := K) (ks := S) (mc := 16) (ms := 9728) (As := [.int (if (xs (i + 1)) = 0 then nI 0 else nI 1), .int (xs (i + 2)), .int (xs (i + 3)), .int (xs (i + 4)), .int (xs (i + 5)), .int (xs (i + 6))]) (rest := []) C X jk_L_80 hy1 rfl (jy_made hM1 (by omega)) jd_L_law_282 rfl rfl ⟨by decide, by decide⟩ (Nat.le_of_ble_eq_true rfl) (fun v w2 z2 hp => ?_)
  obtain ⟨y2, th2, σ2, e2, a2, q2⟩ := hp
  rw [e2]
  obtain ⟨A2, n9, n29, rk2, N2, hm2⟩ := jMid.rfc hm1 bd1 q2
  have hD := jDetT.made _ _ _ _ _ _ a1 a2
  refine ja_istore C [(6, .int y2), (5, .int th1), (4, .int (nI i)), (3, .ref o), (2, .ref y), (1, .ref x), (0, .ref b)] jd_L_law_285 (Nat.le_of_ble_eq_true rfl) rfl ?_
  refine ja_goto C 855 jd_L_law_287 (by decide) ?_
  refine ja_lv (lv' := [(4, .int (nI i)), (3, .ref o), (2, .ref y), (1, .ref x), (0, .ref b)]) (fun q hq => List.mem_cons_of_mem _ (List.mem_cons_of_mem _ hq)) (kk _ _ ?_)
  exact jInv.next hm2 hD.2.1 (jA_made.step a2) hw
theorem jwc_index (C : ja_C (jb_mk l room_1 8 "MeasuredTensorsLaw" D H0 (jt_all cI cJ cT cX) u) jc_L_law) (X : jb_X H0 u.1.2.2) (hst : l.stackTraces = false) (hX : va_X b L xs u.1.2.2 H0) (hbl : b < H0.size) (hL : L ≤ 4096) (hk : k < 512) (hn : i + 8 ≤ L) (inv : jInv cI cJ cT cX x y o k w) (EX : jw_E (jb_mk l room_1 8 "MeasuredTensorsLaw" D H0 (jt_all cI cJ cT cX) u) jc_L_law) (kk : ∀ w' sz', jInv cI cJ cT cX x y o (k + 1) w' → ja (jb_mk l room_1 8 "MeasuredTensorsLaw" D H0 (jt_all cI cJ cT cX) u) w' sz' K S 855 [(4, .int (nI i)), (3, .ref o), (2, .ref y), (1, .ref x), (0, .ref b)] []) : ja (jb_mk l room_1 8 "MeasuredTensorsLaw" D H0 (jt_all cI cJ cT cX) u) w sz (K + 21) (S + 9753) 290 [(4, .int (nI i)), (3, .ref o), (2, .ref y), (1, .ref x), (0, .ref b)] [] := by
  refine ja_bd (fun bd => ?_)
  obtain ⟨σ, P, A, n, n2, th, rk, N, hw, hm⟩ := inv
  obtain ⟨hx, hN, ⟨g, ho, -⟩, hP, hO⟩ := id hm
  have hc := hw.2.1
  have hi := hw.2.2
  refine ja_aload_n C jd_L_law_290 3 rfl ?_
  refine ja_aload_n C jd_L_law_291 4 rfl ?_
  refine ja_iload C jd_L_law_292 0 rfl ?_
  refine ja_iconst C (nI 1) jd_L_law_294 (by decide) ?_
  refine ja_iaddN C jd_L_law_295 ?_
  refine ja_sld C hX hbl (by omega) (by omega) jd_L_law_296 ?_
  refine ja_aload_n C jd_L_law_297 4 rfl ?_
  refine ja_iload C jd_L_law_298 0 rfl ?_
  refine ja_iconst C (nI 2) jd_L_law_300 (by decide) ?_
  refine ja_iaddN C jd_L_law_301 ?_
  refine ja_sld C hX hbl (by omega) (by omega) jd_L_law_302 ?_
  refine ja_aload_n C jd_L_law_303 4 rfl ?_
  refine ja_iload C jd_L_law_304 0 rfl ?_
  refine ja_iconst C (nI 3) jd_L_law_306 (by decide) ?_
  refine ja_iaddN C jd_L_law_307 ?_
  refine ja_sld C hX hbl (by omega) (by omega) jd_L_law_308 ?_
  refine ja_aload_n C jd_L_law_309 4 rfl ?_
  refine ja_iload C jd_L_law_310 0 rfl ?_
  refine ja_iconst C (nI 4) jd_L_law_312 (by decide) ?_
  refine ja_iaddN C jd_L_law_313 ?_
  refine ja_sld C hX hbl (by omega) (by omega) jd_L_law_314 ?_
  refine ja_aload_n C jd_L_law_315 4 rfl ?_
  refine ja_iload C jd_L_law_316 0 rfl ?_
  refine ja_iconst C (nI 5) jd_L_law_318 (by decide) ?_
  refine ja_iaddN C jd_L_law_319 ?_
  refine ja_sld C hX hbl (by omega) (by omega) jd_L_law_320 ?_
  refine ja_aload_n C jd_L_law_321 4 rfl ?_
  refine ja_iload C jd_L_law_322 0 rfl ?_
  refine ja_bipush C (nI 6) jd_L_law_324 (by decide) ?_
  refine ja_iaddN C jd_L_law_326 ?_
  refine ja_sld C hX hbl (by omega) (by omega) jd_L_law_327 ?_
  refine ja_aload_n C jd_L_law_328 1 rfl ?_
  refine jb_callSX (kc := K + 16) (ks := S + 9728) (mc := 5) (ms := 25) (As := [.ref x, .int (xs (i + 1)), .int (xs (i + 2)), .int (xs (i + 3)), .int (xs (i + 4)), .int (xs (i + 5)), .int (xs (i + 6)), .ref o]) (rest := []) C X jk_L_81 (jh_index hst hx (by omega) ho (bd _ _ ho) (fun z => (hP o z).2.2.1 rfl)) jd_L_law_329 rfl rfl ⟨by decide, by decide⟩ (Nat.le_of_ble_eq_true rfl) (fun v w1 z1 hp => ?_)
  obtain ⟨y1, th1, σ1, e1, a1, q1⟩ := hp
  rw [e1]
  refine ja_bd (fun bd1 => ?_)
  obtain ⟨P1, hm1⟩ := jMid.cls hm bd q1
  obtain ⟨hx1, hN1, ⟨g1, ho1, hg1⟩, hP1, hO1⟩ := id hm1
  obtain ⟨fs1, hy1⟩ := hN1.obj
  refine ja_istore C [(5, .int th1), (4, .int (nI i)), (3, .ref o), (2, .ref y), (1, .ref x), (0, .ref b)] jd_L_law_332 (Nat.le_of_ble_eq_true rfl) rfl ?_
  refine ja_aload_n C jd_L_law_334 3 rfl ?_
  refine ja_aload_n C jd_L_law_335 5 rfl ?_
  refine ja_iload C jd_L_law_336 1 rfl ?_
  refine ja_iconst C (nI 1) jd_L_law_338 (by decide) ?_
  refine ja_iaddN C jd_L_law_339 ?_
  refine ja_sld C hX hbl (by omega) (by omega) jd_L_law_340 ?_
  refine ja_aload_n C jd_L_law_341 5 rfl ?_
  refine ja_iload C jd_L_law_342 1 rfl ?_
  refine ja_iconst C (nI 2) jd_L_law_344 (by decide) ?_
  refine ja_iaddN C jd_L_law_345 ?_
  refine ja_sld C hX hbl (by omega) (by omega) jd_L_law_346 ?_
  refine ja_aload_n C jd_L_law_347 5 rfl ?_
  refine ja_iload C jd_L_law_348 1 rfl ?_
  refine ja_iconst C (nI 3) jd_L_law_350 (by decide) ?_
  refine ja_iaddN C jd_L_law_351 ?_
  refine ja_sld C hX hbl (by omega) (by omega) jd_L_law_352 ?_
  refine ja_aload_n C jd_L_law_353 5 rfl ?_
  refine ja_iload C jd_L_law_354 1 rfl ?_
  refine ja_iconst C (nI 4) jd_L_law_356 (by decide) ?_
  refine ja_iaddN C jd_L_law_357 ?_
  refine ja_sld C hX hbl (by omega) (by omega) jd_L_law_358 ?_
  refine ja_aload_n C jd_L_law_359 5 rfl ?_
  refine ja_iload C jd_L_law_360 1 rfl ?_
  refine ja_iconst C (nI 5) jd_L_law_362 (by decide) ?_
  refine ja_iaddN C jd_L_law_363 ?_
  refine ja_sld C hX hbl (by omega) (by omega) jd_L_law_364 ?_
  refine ja_aload_n C jd_L_law_365 5 rfl ?_
  refine ja_iload C jd_L_law_366 1 rfl ?_
  refine ja_bipush C (nI 6) jd_L_law_368 (by decide) ?_
  refine ja_iaddN C jd_L_law_370 ?_
  refine ja_sld C hX hbl (by omega) (by omega) jd_L_law_371 ?_
  refine ja_less (kc' := K + 3) (ks' := S + 3072) (by omega) (by omega) ?_
  refine jb_callV (kc := K) (ks := S) (mc := 3) (ms := 3072) (As := [.int (xs (i + 1)), .int (xs (i + 2)), .int (xs (i + 3)), .int (xs (i + 4)), .int (xs (i + 5)), .int (xs (i + 6))]) (rest := []) C X jk_L_84 hy1 rfl (jn_index hN1 (by omega)) jd_L_law_372 rfl rfl ⟨by decide, by decide⟩ (Nat.le_of_ble_eq_true rfl) (fun v w2 z2 hp => ?_)
  obtain ⟨y2, th2, σ2, e2, a2, q2⟩ := hp
  rw [e2]
  obtain ⟨A2, n9, n29, rk2, N2, hm2⟩ := jMid.rfc hm1 bd1 q2
  have hD := jDetT.index _ _ _ _ _ _ a1 a2
  refine ja_istore C [(6, .int y2), (5, .int th1), (4, .int (nI i)), (3, .ref o), (2, .ref y), (1, .ref x), (0, .ref b)] jd_L_law_375 (Nat.le_of_ble_eq_true rfl) rfl ?_
  refine ja_goto C 855 jd_L_law_377 (by decide) ?_
  refine ja_lv (lv' := [(4, .int (nI i)), (3, .ref o), (2, .ref y), (1, .ref x), (0, .ref b)]) (fun q hq => List.mem_cons_of_mem _ (List.mem_cons_of_mem _ hq)) (kk _ _ ?_)
  exact jInv.next hm2 hD.2.1 (jA_index.step a2) hw
theorem jwc_pair (C : ja_C (jb_mk l room_1 8 "MeasuredTensorsLaw" D H0 (jt_all cI cJ cT cX) u) jc_L_law) (X : jb_X H0 u.1.2.2) (hst : l.stackTraces = false) (hX : va_X b L xs u.1.2.2 H0) (hbl : b < H0.size) (hL : L ≤ 4096) (hk : k < 512) (hn : i + 8 ≤ L) (inv : jInv cI cJ cT cX x y o k w) (EX : jw_E (jb_mk l room_1 8 "MeasuredTensorsLaw" D H0 (jt_all cI cJ cT cX) u) jc_L_law) (kk : ∀ w' sz', jInv cI cJ cT cX x y o (k + 1) w' → ja (jb_mk l room_1 8 "MeasuredTensorsLaw" D H0 (jt_all cI cJ cT cX) u) w' sz' K S 855 [(4, .int (nI i)), (3, .ref o), (2, .ref y), (1, .ref x), (0, .ref b)] []) : ja (jb_mk l room_1 8 "MeasuredTensorsLaw" D H0 (jt_all cI cJ cT cX) u) w sz (K + 21) (S + 9753) 380 [(4, .int (nI i)), (3, .ref o), (2, .ref y), (1, .ref x), (0, .ref b)] [] := by
  refine ja_bd (fun bd => ?_)
  obtain ⟨σ, P, A, n, n2, th, rk, N, hw, hm⟩ := inv
  obtain ⟨hx, hN, ⟨g, ho, -⟩, hP, hO⟩ := id hm
  have hc := hw.2.1
  have hi := hw.2.2
  refine ja_aload_n C jd_L_law_380 3 rfl ?_
  refine ja_aload_n C jd_L_law_381 4 rfl ?_
  refine ja_iload C jd_L_law_382 0 rfl ?_
  refine ja_iconst C (nI 1) jd_L_law_384 (by decide) ?_
  refine ja_iaddN C jd_L_law_385 ?_
  refine ja_sld C hX hbl (by omega) (by omega) jd_L_law_386 ?_
  refine ja_aload_n C jd_L_law_387 4 rfl ?_
  refine ja_iload C jd_L_law_388 0 rfl ?_
  refine ja_iconst C (nI 2) jd_L_law_390 (by decide) ?_
  refine ja_iaddN C jd_L_law_391 ?_
  refine ja_sld C hX hbl (by omega) (by omega) jd_L_law_392 ?_
  refine ja_aload_n C jd_L_law_393 4 rfl ?_
  refine ja_iload C jd_L_law_394 0 rfl ?_
  refine ja_iconst C (nI 3) jd_L_law_396 (by decide) ?_
  refine ja_iaddN C jd_L_law_397 ?_
  refine ja_sld C hX hbl (by omega) (by omega) jd_L_law_398 ?_
  refine ja_aload_n C jd_L_law_399 1 rfl ?_
  refine jb_callSX (kc := K + 16) (ks := S + 9728) (mc := 5) (ms := 25) (As := [.ref x, .int (xs (i + 1)), .int (xs (i + 2)), .int (xs (i + 3)), .ref o]) (rest := []) C X jk_L_85 (jh_pair hst hx (by omega) ho (bd _ _ ho) (fun z => (hP o z).2.2.1 rfl)) jd_L_law_400 rfl rfl ⟨by decide, by decide⟩ (Nat.le_of_ble_eq_true rfl) (fun v w1 z1 hp => ?_)
  obtain ⟨y1, th1, σ1, e1, a1, q1⟩ := hp
  rw [e1]
  refine ja_bd (fun bd1 => ?_)
  obtain ⟨P1, hm1⟩ := jMid.cls hm bd q1
  obtain ⟨hx1, hN1, ⟨g1, ho1, hg1⟩, hP1, hO1⟩ := id hm1
  obtain ⟨fs1, hy1⟩ := hN1.obj
  refine ja_istore C [(5, .int th1), (4, .int (nI i)), (3, .ref o), (2, .ref y), (1, .ref x), (0, .ref b)] jd_L_law_403 (Nat.le_of_ble_eq_true rfl) rfl ?_
  refine ja_aload_n C jd_L_law_405 3 rfl ?_
  refine ja_aload_n C jd_L_law_406 5 rfl ?_
  refine ja_iload C jd_L_law_407 1 rfl ?_
  refine ja_iconst C (nI 1) jd_L_law_409 (by decide) ?_
  refine ja_iaddN C jd_L_law_410 ?_
  refine ja_sld C hX hbl (by omega) (by omega) jd_L_law_411 ?_
  refine ja_aload_n C jd_L_law_412 5 rfl ?_
  refine ja_iload C jd_L_law_413 1 rfl ?_
  refine ja_iconst C (nI 2) jd_L_law_415 (by decide) ?_
  refine ja_iaddN C jd_L_law_416 ?_
  refine ja_sld C hX hbl (by omega) (by omega) jd_L_law_417 ?_
  refine ja_aload_n C jd_L_law_418 5 rfl ?_
  refine ja_iload C jd_L_law_419 1 rfl ?_
  refine ja_iconst C (nI 3) jd_L_law_421 (by decide) ?_
  refine ja_iaddN C jd_L_law_422 ?_
  refine ja_sld C hX hbl (by omega) (by omega) jd_L_law_423 ?_
  refine jb_callV (kc := K) (ks := S) (mc := 16) (ms := 9728) (As := [.int (xs (i + 1)), .int (xs (i + 2)), .int (xs (i + 3))]) (rest := []) C X jk_L_88 hy1 rfl (jn_pair hN1 (by omega)) jd_L_law_424 rfl rfl ⟨by decide, by decide⟩ (Nat.le_of_ble_eq_true rfl) (fun v w2 z2 hp => ?_)
  obtain ⟨y2, th2, σ2, e2, a2, q2⟩ := hp
  rw [e2]
  obtain ⟨A2, n9, n29, rk2, N2, hm2⟩ := jMid.rfc hm1 bd1 q2
  have hD := jDetT.pair _ _ _ _ _ _ a1 a2
  refine ja_istore C [(6, .int y2), (5, .int th1), (4, .int (nI i)), (3, .ref o), (2, .ref y), (1, .ref x), (0, .ref b)] jd_L_law_427 (Nat.le_of_ble_eq_true rfl) rfl ?_
  refine ja_goto C 855 jd_L_law_429 (by decide) ?_
  refine ja_lv (lv' := [(4, .int (nI i)), (3, .ref o), (2, .ref y), (1, .ref x), (0, .ref b)]) (fun q hq => List.mem_cons_of_mem _ (List.mem_cons_of_mem _ hq)) (kk _ _ ?_)
  exact jInv.next hm2 hD.2.1 (jA_pair.step (by omega) a2) hw
theorem jwc_turned (C : ja_C (jb_mk l room_1 8 "MeasuredTensorsLaw" D H0 (jt_all cI cJ cT cX) u) jc_L_law) (X : jb_X H0 u.1.2.2) (hst : l.stackTraces = false) (hX : va_X b L xs u.1.2.2 H0) (hbl : b < H0.size) (hL : L ≤ 4096) (hk : k < 512) (hn : i + 8 ≤ L) (inv : jInv cI cJ cT cX x y o k w) (EX : jw_E (jb_mk l room_1 8 "MeasuredTensorsLaw" D H0 (jt_all cI cJ cT cX) u) jc_L_law) (kk : ∀ w' sz', jInv cI cJ cT cX x y o (k + 1) w' → ja (jb_mk l room_1 8 "MeasuredTensorsLaw" D H0 (jt_all cI cJ cT cX) u) w' sz' K S 855 [(4, .int (nI i)), (3, .ref o), (2, .ref y), (1, .ref x), (0, .ref b)] []) : ja (jb_mk l room_1 8 "MeasuredTensorsLaw" D H0 (jt_all cI cJ cT cX) u) w sz (K + 21) (S + 9753) 432 [(4, .int (nI i)), (3, .ref o), (2, .ref y), (1, .ref x), (0, .ref b)] [] := by
  refine ja_bd (fun bd => ?_)
  obtain ⟨σ, P, A, n, n2, th, rk, N, hw, hm⟩ := inv
  obtain ⟨hx, hN, ⟨g, ho, -⟩, hP, hO⟩ := id hm
  have hc := hw.2.1
  have hi := hw.2.2
  refine ja_aload_n C jd_L_law_432 3 rfl ?_
  refine ja_aload_n C jd_L_law_433 4 rfl ?_
  refine ja_iload C jd_L_law_434 0 rfl ?_
  refine ja_iconst C (nI 1) jd_L_law_436 (by decide) ?_
  refine ja_iaddN C jd_L_law_437 ?_
  refine ja_sld C hX hbl (by omega) (by omega) jd_L_law_438 ?_
  refine ja_aload_n C jd_L_law_439 1 rfl ?_
  refine jb_callSX (kc := K + 16) (ks := S + 9728) (mc := 5) (ms := 25) (As := [.ref x, .int (xs (i + 1)), .ref o]) (rest := []) C X jk_L_89 (jh_turned hst hx (by omega) ho (bd _ _ ho) (fun z => (hP o z).2.2.1 rfl)) jd_L_law_440 rfl rfl ⟨by decide, by decide⟩ (Nat.le_of_ble_eq_true rfl) (fun v w1 z1 hp => ?_)
  obtain ⟨y1, th1, σ1, e1, a1, q1⟩ := hp
  rw [e1]
  refine ja_bd (fun bd1 => ?_)
  obtain ⟨P1, hm1⟩ := jMid.cls hm bd q1
  obtain ⟨hx1, hN1, ⟨g1, ho1, hg1⟩, hP1, hO1⟩ := id hm1
  obtain ⟨fs1, hy1⟩ := hN1.obj
  obtain ⟨s1, V1, VL1, hM1, -⟩ := id hN1
  refine ja_istore C [(5, .int th1), (4, .int (nI i)), (3, .ref o), (2, .ref y), (1, .ref x), (0, .ref b)] jd_L_law_443 (Nat.le_of_ble_eq_true rfl) rfl ?_
  refine ja_aload_n C jd_L_law_445 3 rfl ?_
  refine ja_aload_n C jd_L_law_446 5 rfl ?_
  refine ja_iload C jd_L_law_447 1 rfl ?_
  refine ja_iconst C (nI 1) jd_L_law_449 (by decide) ?_
  refine ja_iaddN C jd_L_law_450 ?_
  refine ja_sld C hX hbl (by omega) (by omega) jd_L_law_451 ?_
  refine jb_callV (kc := K) (ks := S) (mc := 16) (ms := 9728) (As := [.int (xs (i + 1))]) (rest := []) C X jk_L_92 hy1 rfl (jy_turned hM1 (by omega)) jd_L_law_452 rfl rfl ⟨by decide, by decide⟩ (Nat.le_of_ble_eq_true rfl) (fun v w2 z2 hp => ?_)
  obtain ⟨y2, th2, σ2, e2, a2, q2⟩ := hp
  rw [e2]
  obtain ⟨A2, n9, n29, rk2, N2, hm2⟩ := jMid.rfc hm1 bd1 q2
  have hD := jDetT.turned (by omega) _ _ _ _ _ _ a1 a2
  refine ja_istore C [(6, .int y2), (5, .int th1), (4, .int (nI i)), (3, .ref o), (2, .ref y), (1, .ref x), (0, .ref b)] jd_L_law_455 (Nat.le_of_ble_eq_true rfl) rfl ?_
  refine ja_goto C 855 jd_L_law_457 (by decide) ?_
  refine ja_lv (lv' := [(4, .int (nI i)), (3, .ref o), (2, .ref y), (1, .ref x), (0, .ref b)]) (fun q hq => List.mem_cons_of_mem _ (List.mem_cons_of_mem _ hq)) (kk _ _ ?_)
  exact jInv.next hm2 hD.2.1 (jA_turned.step (by omega) a2) hw
theorem jwc_over (C : ja_C (jb_mk l room_1 8 "MeasuredTensorsLaw" D H0 (jt_all cI cJ cT cX) u) jc_L_law) (X : jb_X H0 u.1.2.2) (hst : l.stackTraces = false) (hX : va_X b L xs u.1.2.2 H0) (hbl : b < H0.size) (hL : L ≤ 4096) (hk : k < 512) (hn : i + 8 ≤ L) (inv : jInv cI cJ cT cX x y o k w) (EX : jw_E (jb_mk l room_1 8 "MeasuredTensorsLaw" D H0 (jt_all cI cJ cT cX) u) jc_L_law) (kk : ∀ w' sz', jInv cI cJ cT cX x y o (k + 1) w' → ja (jb_mk l room_1 8 "MeasuredTensorsLaw" D H0 (jt_all cI cJ cT cX) u) w' sz' K S 855 [(4, .int (nI i)), (3, .ref o), (2, .ref y), (1, .ref x), (0, .ref b)] []) : ja (jb_mk l room_1 8 "MeasuredTensorsLaw" D H0 (jt_all cI cJ cT cX) u) w sz (K + 21) (S + 9753) 460 [(4, .int (nI i)), (3, .ref o), (2, .ref y), (1, .ref x), (0, .ref b)] [] := by
  refine ja_bd (fun bd => ?_)
  obtain ⟨σ, P, A, n, n2, th, rk, N, hw, hm⟩ := inv
  obtain ⟨hx, hN, ⟨g, ho, -⟩, hP, hO⟩ := id hm
  have hc := hw.2.1
  have hi := hw.2.2
  refine ja_aload_n C jd_L_law_460 3 rfl ?_
  refine ja_aload_n C jd_L_law_461 4 rfl ?_
  refine ja_iload C jd_L_law_462 0 rfl ?_
  refine ja_iconst C (nI 1) jd_L_law_464 (by decide) ?_
  refine ja_iaddN C jd_L_law_465 ?_
  refine ja_sld C hX hbl (by omega) (by omega) jd_L_law_466 ?_
  refine ja_aload_n C jd_L_law_467 4 rfl ?_
  refine ja_iload C jd_L_law_468 0 rfl ?_
  refine ja_iconst C (nI 2) jd_L_law_470 (by decide) ?_
  refine ja_iaddN C jd_L_law_471 ?_
  refine ja_sld C hX hbl (by omega) (by omega) jd_L_law_472 ?_
  refine ja_aload_n C jd_L_law_473 4 rfl ?_
  refine ja_iload C jd_L_law_474 0 rfl ?_
  refine ja_iconst C (nI 3) jd_L_law_476 (by decide) ?_
  refine ja_iaddN C jd_L_law_477 ?_
  refine ja_sld C hX hbl (by omega) (by omega) jd_L_law_478 ?_
  refine ja_aload_n C jd_L_law_479 1 rfl ?_
  refine jb_callSX (kc := K + 16) (ks := S + 9728) (mc := 5) (ms := 25) (As := [.ref x, .int (xs (i + 1)), .int (xs (i + 2)), .int (xs (i + 3)), .ref o]) (rest := []) C X jk_L_93 (jh_over hst hx (by omega) ho (bd _ _ ho) (fun z => (hP o z).2.2.1 rfl)) jd_L_law_480 rfl rfl ⟨by decide, by decide⟩ (Nat.le_of_ble_eq_true rfl) (fun v w1 z1 hp => ?_)
  obtain ⟨y1, th1, σ1, e1, a1, q1⟩ := hp
  rw [e1]
  refine ja_bd (fun bd1 => ?_)
  obtain ⟨P1, hm1⟩ := jMid.cls hm bd q1
  obtain ⟨hx1, hN1, ⟨g1, ho1, hg1⟩, hP1, hO1⟩ := id hm1
  obtain ⟨fs1, hy1⟩ := hN1.obj
  refine ja_istore C [(5, .int th1), (4, .int (nI i)), (3, .ref o), (2, .ref y), (1, .ref x), (0, .ref b)] jd_L_law_483 (Nat.le_of_ble_eq_true rfl) rfl ?_
  refine ja_aload_n C jd_L_law_485 3 rfl ?_
  refine ja_aload_n C jd_L_law_486 5 rfl ?_
  refine ja_iload C jd_L_law_487 1 rfl ?_
  refine ja_iconst C (nI 1) jd_L_law_489 (by decide) ?_
  refine ja_iaddN C jd_L_law_490 ?_
  refine ja_sld C hX hbl (by omega) (by omega) jd_L_law_491 ?_
  refine ja_aload_n C jd_L_law_492 5 rfl ?_
  refine ja_iload C jd_L_law_493 1 rfl ?_
  refine ja_iconst C (nI 2) jd_L_law_495 (by decide) ?_
  refine ja_iaddN C jd_L_law_496 ?_
  refine ja_sld C hX hbl (by omega) (by omega) jd_L_law_497 ?_
  refine ja_aload_n C jd_L_law_498 5 rfl ?_
  refine ja_iload C jd_L_law_499 1 rfl ?_
  refine ja_iconst C (nI 3) jd_L_law_501 (by decide) ?_
  refine ja_iaddN C jd_L_law_502 ?_
  refine ja_sld C hX hbl (by omega) (by omega) jd_L_law_503 ?_
  refine jb_callV (kc := K) (ks := S) (mc := 16) (ms := 9728) (As := [.int (xs (i + 1)), .int (xs (i + 2)), .int (xs (i + 3))]) (rest := []) C X jk_L_95 hy1 rfl (jn_over hN1 (by omega)) jd_L_law_504 rfl rfl ⟨by decide, by decide⟩ (Nat.le_of_ble_eq_true rfl) (fun v w2 z2 hp => ?_)
  obtain ⟨y2, th2, σ2, e2, a2, q2⟩ := hp
  rw [e2]
  obtain ⟨A2, n9, n29, rk2, N2, hm2⟩ := jMid.rfc hm1 bd1 q2
  have hD := jDetT.over _ _ _ _ _ _ a1 a2
  refine ja_istore C [(6, .int y2), (5, .int th1), (4, .int (nI i)), (3, .ref o), (2, .ref y), (1, .ref x), (0, .ref b)] jd_L_law_507 (Nat.le_of_ble_eq_true rfl) rfl ?_
  refine ja_goto C 855 jd_L_law_509 (by decide) ?_
  refine ja_lv (lv' := [(4, .int (nI i)), (3, .ref o), (2, .ref y), (1, .ref x), (0, .ref b)]) (fun q hq => List.mem_cons_of_mem _ (List.mem_cons_of_mem _ hq)) (kk _ _ ?_)
  exact jInv.next hm2 hD.2.1 (jA_over.step (by omega) a2) hw
theorem jwc_call (C : ja_C (jb_mk l room_1 8 "MeasuredTensorsLaw" D H0 (jt_all cI cJ cT cX) u) jc_L_law) (X : jb_X H0 u.1.2.2) (hst : l.stackTraces = false) (hX : va_X b L xs u.1.2.2 H0) (hbl : b < H0.size) (hL : L ≤ 4096) (hk : k < 512) (hn : i + 8 ≤ L) (inv : jInv cI cJ cT cX x y o k w) (EX : jw_E (jb_mk l room_1 8 "MeasuredTensorsLaw" D H0 (jt_all cI cJ cT cX) u) jc_L_law) (kk : ∀ w' sz', jInv cI cJ cT cX x y o (k + 1) w' → ja (jb_mk l room_1 8 "MeasuredTensorsLaw" D H0 (jt_all cI cJ cT cX) u) w' sz' K S 855 [(4, .int (nI i)), (3, .ref o), (2, .ref y), (1, .ref x), (0, .ref b)] []) : ja (jb_mk l room_1 8 "MeasuredTensorsLaw" D H0 (jt_all cI cJ cT cX) u) w sz (K + 21) (S + 9753) 512 [(4, .int (nI i)), (3, .ref o), (2, .ref y), (1, .ref x), (0, .ref b)] [] := by
  refine ja_bd (fun bd => ?_)
  obtain ⟨σ, P, A, n, n2, th, rk, N, hw, hm⟩ := inv
  obtain ⟨hx, hN, ⟨g, ho, -⟩, hP, hO⟩ := id hm
  have hc := hw.2.1
  have hi := hw.2.2
  refine ja_aload_n C jd_L_law_512 3 rfl ?_
  refine ja_aload_n C jd_L_law_513 4 rfl ?_
  refine ja_iload C jd_L_law_514 0 rfl ?_
  refine ja_iconst C (nI 1) jd_L_law_516 (by decide) ?_
  refine ja_iaddN C jd_L_law_517 ?_
  refine ja_sld C hX hbl (by omega) (by omega) jd_L_law_518 ?_
  refine ja_aload_n C jd_L_law_519 4 rfl ?_
  refine ja_iload C jd_L_law_520 0 rfl ?_
  refine ja_iconst C (nI 2) jd_L_law_522 (by decide) ?_
  refine ja_iaddN C jd_L_law_523 ?_
  refine ja_sld C hX hbl (by omega) (by omega) jd_L_law_524 ?_
  refine ja_aload_n C jd_L_law_525 4 rfl ?_
  refine ja_iload C jd_L_law_526 0 rfl ?_
  refine ja_iconst C (nI 3) jd_L_law_528 (by decide) ?_
  refine ja_iaddN C jd_L_law_529 ?_
  refine ja_sld C hX hbl (by omega) (by omega) jd_L_law_530 ?_
  refine ja_aload_n C jd_L_law_531 4 rfl ?_
  refine ja_iload C jd_L_law_532 0 rfl ?_
  refine ja_iconst C (nI 4) jd_L_law_534 (by decide) ?_
  refine ja_iaddN C jd_L_law_535 ?_
  refine ja_sld C hX hbl (by omega) (by omega) jd_L_law_536 ?_
  refine ja_aload_n C jd_L_law_537 4 rfl ?_
  refine ja_iload C jd_L_law_538 0 rfl ?_
  refine ja_iconst C (nI 5) jd_L_law_540 (by decide) ?_
  refine ja_iaddN C jd_L_law_541 ?_
  refine ja_sld C hX hbl (by omega) (by omega) jd_L_law_542 ?_
  refine ja_aload_n C jd_L_law_543 4 rfl ?_
  refine ja_iload C jd_L_law_544 0 rfl ?_
  refine ja_bipush C (nI 6) jd_L_law_546 (by decide) ?_
  refine ja_iaddN C jd_L_law_548 ?_
  refine ja_sld C hX hbl (by omega) (by omega) jd_L_law_549 ?_
  refine ja_aload_n C jd_L_law_550 4 rfl ?_
  refine ja_iload C jd_L_law_551 0 rfl ?_
  refine ja_bipush C (nI 7) jd_L_law_553 (by decide) ?_
  refine ja_iaddN C jd_L_law_555 ?_
  refine ja_sld C hX hbl (by omega) (by omega) jd_L_law_556 ?_
  refine ja_aload_n C jd_L_law_557 1 rfl ?_
  refine jb_callSX (kc := K + 16) (ks := S + 9728) (mc := 5) (ms := 25) (As := [.ref x, .int (xs (i + 1)), .int (xs (i + 2)), .int (xs (i + 3)), .int (xs (i + 4)), .int (xs (i + 5)), .int (xs (i + 6)), .int (xs (i + 7)), .ref o]) (rest := []) C X jk_L_96 (jh_call hst hx (by omega) ho (bd _ _ ho) (fun z => (hP o z).2.2.1 rfl)) jd_L_law_558 rfl rfl ⟨by decide, by decide⟩ (Nat.le_of_ble_eq_true rfl) (fun v w1 z1 hp => ?_)
  obtain ⟨y1, th1, σ1, e1, a1, q1⟩ := hp
  rw [e1]
  refine ja_bd (fun bd1 => ?_)
  obtain ⟨P1, hm1⟩ := jMid.cls hm bd q1
  obtain ⟨hx1, hN1, ⟨g1, ho1, hg1⟩, hP1, hO1⟩ := id hm1
  obtain ⟨fs1, hy1⟩ := hN1.obj
  refine ja_istore C [(5, .int th1), (4, .int (nI i)), (3, .ref o), (2, .ref y), (1, .ref x), (0, .ref b)] jd_L_law_561 (Nat.le_of_ble_eq_true rfl) rfl ?_
  refine ja_aload_n C jd_L_law_563 3 rfl ?_
  refine ja_aload_n C jd_L_law_564 5 rfl ?_
  refine ja_iload C jd_L_law_565 1 rfl ?_
  refine ja_iconst C (nI 1) jd_L_law_567 (by decide) ?_
  refine ja_iaddN C jd_L_law_568 ?_
  refine ja_sld C hX hbl (by omega) (by omega) jd_L_law_569 ?_
  refine ja_aload_n C jd_L_law_570 5 rfl ?_
  refine ja_iload C jd_L_law_571 1 rfl ?_
  refine ja_iconst C (nI 2) jd_L_law_573 (by decide) ?_
  refine ja_iaddN C jd_L_law_574 ?_
  refine ja_sld C hX hbl (by omega) (by omega) jd_L_law_575 ?_
  refine ja_aload_n C jd_L_law_576 5 rfl ?_
  refine ja_iload C jd_L_law_577 1 rfl ?_
  refine ja_iconst C (nI 3) jd_L_law_579 (by decide) ?_
  refine ja_iaddN C jd_L_law_580 ?_
  refine ja_sld C hX hbl (by omega) (by omega) jd_L_law_581 ?_
  refine ja_aload_n C jd_L_law_582 5 rfl ?_
  refine ja_iload C jd_L_law_583 1 rfl ?_
  refine ja_iconst C (nI 4) jd_L_law_585 (by decide) ?_
  refine ja_iaddN C jd_L_law_586 ?_
  refine ja_sld C hX hbl (by omega) (by omega) jd_L_law_587 ?_
  refine ja_aload_n C jd_L_law_588 5 rfl ?_
  refine ja_iload C jd_L_law_589 1 rfl ?_
  refine ja_iconst C (nI 5) jd_L_law_591 (by decide) ?_
  refine ja_iaddN C jd_L_law_592 ?_
  refine ja_sld C hX hbl (by omega) (by omega) jd_L_law_593 ?_
  refine ja_aload_n C jd_L_law_594 5 rfl ?_
  refine ja_iload C jd_L_law_595 1 rfl ?_
  refine ja_bipush C (nI 6) jd_L_law_597 (by decide) ?_
  refine ja_iaddN C jd_L_law_599 ?_
  refine ja_sld C hX hbl (by omega) (by omega) jd_L_law_600 ?_
  refine ja_aload_n C jd_L_law_601 5 rfl ?_
  refine ja_iload C jd_L_law_602 1 rfl ?_
  refine ja_bipush C (nI 7) jd_L_law_604 (by decide) ?_
  refine ja_iaddN C jd_L_law_606 ?_
  refine ja_sld C hX hbl (by omega) (by omega) jd_L_law_607 ?_
  refine jb_callV (kc := K) (ks := S) (mc := 16) (ms := 9728) (As := [.int (xs (i + 1)), .int (xs (i + 2)), .int (xs (i + 3)), .int (xs (i + 4)), .int (xs (i + 5)), .int (xs (i + 6)), .int (xs (i + 7))]) (rest := []) C X jk_L_99 hy1 rfl (jn_call hN1 (by omega)) jd_L_law_608 rfl rfl ⟨by decide, by decide⟩ (Nat.le_of_ble_eq_true rfl) (fun v w2 z2 hp => ?_)
  obtain ⟨y2, th2, σ2, e2, a2, q2⟩ := hp
  rw [e2]
  obtain ⟨A2, n9, n29, rk2, N2, hm2⟩ := jMid.rfc hm1 bd1 q2
  have hD := jDetT.call _ _ _ _ _ _ a1 a2
  refine ja_istore C [(6, .int y2), (5, .int th1), (4, .int (nI i)), (3, .ref o), (2, .ref y), (1, .ref x), (0, .ref b)] jd_L_law_611 (Nat.le_of_ble_eq_true rfl) rfl ?_
  refine ja_goto C 855 jd_L_law_613 (by decide) ?_
  refine ja_lv (lv' := [(4, .int (nI i)), (3, .ref o), (2, .ref y), (1, .ref x), (0, .ref b)]) (fun q hq => List.mem_cons_of_mem _ (List.mem_cons_of_mem _ hq)) (kk _ _ ?_)
  exact jInv.next hm2 hD.2.1 (jA_call.step (by omega) a2) hw
theorem jwc_reshape (C : ja_C (jb_mk l room_1 8 "MeasuredTensorsLaw" D H0 (jt_all cI cJ cT cX) u) jc_L_law) (X : jb_X H0 u.1.2.2) (hst : l.stackTraces = false) (hX : va_X b L xs u.1.2.2 H0) (hbl : b < H0.size) (hL : L ≤ 4096) (hk : k < 512) (hn : i + 8 ≤ L) (inv : jInv cI cJ cT cX x y o k w) (EX : jw_E (jb_mk l room_1 8 "MeasuredTensorsLaw" D H0 (jt_all cI cJ cT cX) u) jc_L_law) (kk : ∀ w' sz', jInv cI cJ cT cX x y o (k + 1) w' → ja (jb_mk l room_1 8 "MeasuredTensorsLaw" D H0 (jt_all cI cJ cT cX) u) w' sz' K S 855 [(4, .int (nI i)), (3, .ref o), (2, .ref y), (1, .ref x), (0, .ref b)] []) : ja (jb_mk l room_1 8 "MeasuredTensorsLaw" D H0 (jt_all cI cJ cT cX) u) w sz (K + 21) (S + 9753) 616 [(4, .int (nI i)), (3, .ref o), (2, .ref y), (1, .ref x), (0, .ref b)] [] := by
  refine ja_bd (fun bd => ?_)
  obtain ⟨σ, P, A, n, n2, th, rk, N, hw, hm⟩ := inv
  obtain ⟨hx, hN, ⟨g, ho, -⟩, hP, hO⟩ := id hm
  have hc := hw.2.1
  have hi := hw.2.2
  refine ja_aload_n C jd_L_law_616 3 rfl ?_
  refine ja_aload_n C jd_L_law_617 4 rfl ?_
  refine ja_iload C jd_L_law_618 0 rfl ?_
  refine ja_iconst C (nI 1) jd_L_law_620 (by decide) ?_
  refine ja_iaddN C jd_L_law_621 ?_
  refine ja_sld C hX hbl (by omega) (by omega) jd_L_law_622 ?_
  refine ja_aload_n C jd_L_law_623 4 rfl ?_
  refine ja_iload C jd_L_law_624 0 rfl ?_
  refine ja_iconst C (nI 2) jd_L_law_626 (by decide) ?_
  refine ja_iaddN C jd_L_law_627 ?_
  refine ja_sld C hX hbl (by omega) (by omega) jd_L_law_628 ?_
  refine ja_aload_n C jd_L_law_629 4 rfl ?_
  refine ja_iload C jd_L_law_630 0 rfl ?_
  refine ja_iconst C (nI 3) jd_L_law_632 (by decide) ?_
  refine ja_iaddN C jd_L_law_633 ?_
  refine ja_sld C hX hbl (by omega) (by omega) jd_L_law_634 ?_
  refine ja_aload_n C jd_L_law_635 4 rfl ?_
  refine ja_iload C jd_L_law_636 0 rfl ?_
  refine ja_iconst C (nI 4) jd_L_law_638 (by decide) ?_
  refine ja_iaddN C jd_L_law_639 ?_
  refine ja_sld C hX hbl (by omega) (by omega) jd_L_law_640 ?_
  refine ja_aload_n C jd_L_law_641 4 rfl ?_
  refine ja_iload C jd_L_law_642 0 rfl ?_
  refine ja_iconst C (nI 5) jd_L_law_644 (by decide) ?_
  refine ja_iaddN C jd_L_law_645 ?_
  refine ja_sld C hX hbl (by omega) (by omega) jd_L_law_646 ?_
  refine ja_aload_n C jd_L_law_647 4 rfl ?_
  refine ja_iload C jd_L_law_648 0 rfl ?_
  refine ja_bipush C (nI 6) jd_L_law_650 (by decide) ?_
  refine ja_iaddN C jd_L_law_652 ?_
  refine ja_sld C hX hbl (by omega) (by omega) jd_L_law_653 ?_
  refine ja_aload_n C jd_L_law_654 1 rfl ?_
  refine jb_callSX (kc := K + 16) (ks := S + 9728) (mc := 5) (ms := 25) (As := [.ref x, .int (xs (i + 1)), .int (xs (i + 2)), .int (xs (i + 3)), .int (xs (i + 4)), .int (xs (i + 5)), .int (xs (i + 6)), .ref o]) (rest := []) C X jk_L_100 (jh_reshape hst hx (by omega) ho (bd _ _ ho) (fun z => (hP o z).2.2.1 rfl)) jd_L_law_655 rfl rfl ⟨by decide, by decide⟩ (Nat.le_of_ble_eq_true rfl) (fun v w1 z1 hp => ?_)
  obtain ⟨y1, th1, σ1, e1, a1, q1⟩ := hp
  rw [e1]
  refine ja_bd (fun bd1 => ?_)
  obtain ⟨P1, hm1⟩ := jMid.cls hm bd q1
  obtain ⟨hx1, hN1, ⟨g1, ho1, hg1⟩, hP1, hO1⟩ := id hm1
  obtain ⟨fs1, hy1⟩ := hN1.obj
  refine ja_istore C [(5, .int th1), (4, .int (nI i)), (3, .ref o), (2, .ref y), (1, .ref x), (0, .ref b)] jd_L_law_658 (Nat.le_of_ble_eq_true rfl) rfl ?_
  refine ja_aload_n C jd_L_law_660 3 rfl ?_
  refine ja_aload_n C jd_L_law_661 5 rfl ?_
  refine ja_iload C jd_L_law_662 1 rfl ?_
  refine ja_iconst C (nI 1) jd_L_law_664 (by decide) ?_
  refine ja_iaddN C jd_L_law_665 ?_
  refine ja_sld C hX hbl (by omega) (by omega) jd_L_law_666 ?_
  refine ja_aload_n C jd_L_law_667 5 rfl ?_
  refine ja_iload C jd_L_law_668 1 rfl ?_
  refine ja_iconst C (nI 2) jd_L_law_670 (by decide) ?_
  refine ja_iaddN C jd_L_law_671 ?_
  refine ja_sld C hX hbl (by omega) (by omega) jd_L_law_672 ?_
  refine ja_aload_n C jd_L_law_673 5 rfl ?_
  refine ja_iload C jd_L_law_674 1 rfl ?_
  refine ja_iconst C (nI 3) jd_L_law_676 (by decide) ?_
  refine ja_iaddN C jd_L_law_677 ?_
  refine ja_sld C hX hbl (by omega) (by omega) jd_L_law_678 ?_
  refine ja_aload_n C jd_L_law_679 5 rfl ?_
  refine ja_iload C jd_L_law_680 1 rfl ?_
  refine ja_iconst C (nI 4) jd_L_law_682 (by decide) ?_
  refine ja_iaddN C jd_L_law_683 ?_
  refine ja_sld C hX hbl (by omega) (by omega) jd_L_law_684 ?_
  refine ja_aload_n C jd_L_law_685 5 rfl ?_
  refine ja_iload C jd_L_law_686 1 rfl ?_
  refine ja_iconst C (nI 5) jd_L_law_688 (by decide) ?_
  refine ja_iaddN C jd_L_law_689 ?_
  refine ja_sld C hX hbl (by omega) (by omega) jd_L_law_690 ?_
  refine ja_aload_n C jd_L_law_691 5 rfl ?_
  refine ja_iload C jd_L_law_692 1 rfl ?_
  refine ja_bipush C (nI 6) jd_L_law_694 (by decide) ?_
  refine ja_iaddN C jd_L_law_696 ?_
  refine ja_sld C hX hbl (by omega) (by omega) jd_L_law_697 ?_
  refine jb_callV (kc := K) (ks := S) (mc := 16) (ms := 9728) (As := [.int (xs (i + 1)), .int (xs (i + 2)), .int (xs (i + 3)), .int (xs (i + 4)), .int (xs (i + 5)), .int (xs (i + 6))]) (rest := []) C X jk_L_102 hy1 rfl (jn_reshape hN1 (by omega)) jd_L_law_698 rfl rfl ⟨by decide, by decide⟩ (Nat.le_of_ble_eq_true rfl) (fun v w2 z2 hp => ?_)
  obtain ⟨y2, th2, σ2, e2, a2, q2⟩ := hp
  rw [e2]
  obtain ⟨A2, n9, n29, rk2, N2, hm2⟩ := jMid.rfc hm1 bd1 q2
  have hD := jDetT.reshape _ _ _ _ _ _ a1 a2
  refine ja_istore C [(6, .int y2), (5, .int th1), (4, .int (nI i)), (3, .ref o), (2, .ref y), (1, .ref x), (0, .ref b)] jd_L_law_701 (Nat.le_of_ble_eq_true rfl) rfl ?_
  refine ja_goto C 855 jd_L_law_703 (by decide) ?_
  refine ja_lv (lv' := [(4, .int (nI i)), (3, .ref o), (2, .ref y), (1, .ref x), (0, .ref b)]) (fun q hq => List.mem_cons_of_mem _ (List.mem_cons_of_mem _ hq)) (kk _ _ ?_)
  exact jInv.next hm2 hD.2.1 (jA_reshape.step (by omega) a2) hw
theorem jwc_loss (C : ja_C (jb_mk l room_1 8 "MeasuredTensorsLaw" D H0 (jt_all cI cJ cT cX) u) jc_L_law) (X : jb_X H0 u.1.2.2) (hst : l.stackTraces = false) (hX : va_X b L xs u.1.2.2 H0) (hbl : b < H0.size) (hL : L ≤ 4096) (hk : k < 512) (hn : i + 8 ≤ L) (inv : jInv cI cJ cT cX x y o k w) (EX : jw_E (jb_mk l room_1 8 "MeasuredTensorsLaw" D H0 (jt_all cI cJ cT cX) u) jc_L_law) (kk : ∀ w' sz', jInv cI cJ cT cX x y o (k + 1) w' → ja (jb_mk l room_1 8 "MeasuredTensorsLaw" D H0 (jt_all cI cJ cT cX) u) w' sz' K S 855 [(4, .int (nI i)), (3, .ref o), (2, .ref y), (1, .ref x), (0, .ref b)] []) : ja (jb_mk l room_1 8 "MeasuredTensorsLaw" D H0 (jt_all cI cJ cT cX) u) w sz (K + 21) (S + 9753) 706 [(4, .int (nI i)), (3, .ref o), (2, .ref y), (1, .ref x), (0, .ref b)] [] := by
  refine ja_bd (fun bd => ?_)
  obtain ⟨σ, P, A, n, n2, th, rk, N, hw, hm⟩ := inv
  obtain ⟨hx, hN, ⟨g, ho, -⟩, hP, hO⟩ := id hm
  have hc := hw.2.1
  have hi := hw.2.2
  refine ja_aload_n C jd_L_law_706 3 rfl ?_
  refine ja_aload_n C jd_L_law_707 4 rfl ?_
  refine ja_iload C jd_L_law_708 0 rfl ?_
  refine ja_iconst C (nI 1) jd_L_law_710 (by decide) ?_
  refine ja_iaddN C jd_L_law_711 ?_
  refine ja_sld C hX hbl (by omega) (by omega) jd_L_law_712 ?_
  refine ja_aload_n C jd_L_law_713 1 rfl ?_
  refine jb_callSX (kc := K + 16) (ks := S + 9728) (mc := 5) (ms := 25) (As := [.ref x, .int (xs (i + 1)), .ref o]) (rest := []) C X jk_L_103 (jh_loss hst hx ho (bd _ _ ho) (fun z => (hP o z).2.2.1 rfl)) jd_L_law_714 rfl rfl ⟨by decide, by decide⟩ (Nat.le_of_ble_eq_true rfl) (fun v w1 z1 hp => ?_)
  obtain ⟨th1, e1, q1⟩ := hp
  rw [e1]
  refine ja_bd (fun bd1 => ?_)
  obtain ⟨P1, hm1⟩ := jMid.cls hm bd q1
  obtain ⟨hx1, hN1, ⟨g1, ho1, hg1⟩, hP1, hO1⟩ := id hm1
  obtain ⟨fs1, hy1⟩ := hN1.obj
  refine ja_istore C [(5, .int th1), (4, .int (nI i)), (3, .ref o), (2, .ref y), (1, .ref x), (0, .ref b)] jd_L_law_717 (Nat.le_of_ble_eq_true rfl) rfl ?_
  refine ja_aload_n C jd_L_law_719 3 rfl ?_
  refine ja_aload_n C jd_L_law_720 5 rfl ?_
  refine ja_iload C jd_L_law_721 1 rfl ?_
  refine ja_iconst C (nI 1) jd_L_law_723 (by decide) ?_
  refine ja_iaddN C jd_L_law_724 ?_
  refine ja_sld C hX hbl (by omega) (by omega) jd_L_law_725 ?_
  refine ja_less (kc' := K + 0) (ks' := S + 0) (by omega) (by omega) ?_
  refine jb_callV (kc := K) (ks := S) (mc := 0) (ms := 0) (As := [.int (xs (i + 1))]) (rest := []) C X jk_L_105 hy1 rfl (jv_loss hN1 (by omega) hw.1) jd_L_law_726 rfl rfl ⟨by decide, by decide⟩ (Nat.le_of_ble_eq_true rfl) (fun v w2 z2 hp => ?_)
  obtain ⟨y2, th2, e2, q2⟩ := hp
  rw [e2]
  obtain ⟨A2, n9, n29, rk2, N2, hm2⟩ := jMid.rfc hm1 bd1 q2
  refine ja_istore C [(6, .int y2), (5, .int th1), (4, .int (nI i)), (3, .ref o), (2, .ref y), (1, .ref x), (0, .ref b)] jd_L_law_729 (Nat.le_of_ble_eq_true rfl) rfl ?_
  refine ja_goto C 855 jd_L_law_731 (by decide) ?_
  refine ja_lv (lv' := [(4, .int (nI i)), (3, .ref o), (2, .ref y), (1, .ref x), (0, .ref b)]) (fun q hq => List.mem_cons_of_mem _ (List.mem_cons_of_mem _ hq)) (kk _ _ ?_)
  exact jInv.next hm2 rfl jStep.rf hw
theorem jwc_told (C : ja_C (jb_mk l room_1 8 "MeasuredTensorsLaw" D H0 (jt_all cI cJ cT cX) u) jc_L_law) (X : jb_X H0 u.1.2.2) (hst : l.stackTraces = false) (hX : va_X b L xs u.1.2.2 H0) (hbl : b < H0.size) (hL : L ≤ 4096) (hk : k < 512) (hn : i + 8 ≤ L) (inv : jInv cI cJ cT cX x y o k w) (EX : jw_E (jb_mk l room_1 8 "MeasuredTensorsLaw" D H0 (jt_all cI cJ cT cX) u) jc_L_law) (kk : ∀ w' sz', jInv cI cJ cT cX x y o (k + 1) w' → ja (jb_mk l room_1 8 "MeasuredTensorsLaw" D H0 (jt_all cI cJ cT cX) u) w' sz' K S 855 [(4, .int (nI i)), (3, .ref o), (2, .ref y), (1, .ref x), (0, .ref b)] []) : ja (jb_mk l room_1 8 "MeasuredTensorsLaw" D H0 (jt_all cI cJ cT cX) u) w sz (K + 21) (S + 9753) 734 [(4, .int (nI i)), (3, .ref o), (2, .ref y), (1, .ref x), (0, .ref b)] [] := by
  refine ja_bd (fun bd => ?_)
  obtain ⟨σ, P, A, n, n2, th, rk, N, hw, hm⟩ := inv
  obtain ⟨hx, hN, ⟨g, ho, -⟩, hP, hO⟩ := id hm
  have hc := hw.2.1
  have hi := hw.2.2
  refine ja_aload_n C jd_L_law_734 3 rfl ?_
  refine ja_aload_n C jd_L_law_735 4 rfl ?_
  refine ja_iload C jd_L_law_736 0 rfl ?_
  refine ja_iconst C (nI 1) jd_L_law_738 (by decide) ?_
  refine ja_iaddN C jd_L_law_739 ?_
  refine ja_sld C hX hbl (by omega) (by omega) jd_L_law_740 ?_
  refine ja_aload_n C jd_L_law_741 4 rfl ?_
  refine ja_iload C jd_L_law_742 0 rfl ?_
  refine ja_iconst C (nI 2) jd_L_law_744 (by decide) ?_
  refine ja_iaddN C jd_L_law_745 ?_
  refine ja_sld C hX hbl (by omega) (by omega) jd_L_law_746 ?_
  refine ja_aload_n C jd_L_law_747 1 rfl ?_
  refine jb_callSX (kc := K + 16) (ks := S + 9728) (mc := 5) (ms := 25) (As := [.ref x, .int (xs (i + 1)), .int (xs (i + 2)), .ref o]) (rest := []) C X jk_L_106 (jh_told hst hx ho (bd _ _ ho) (fun z => (hP o z).2.2.1 rfl)) jd_L_law_748 rfl rfl ⟨by decide, by decide⟩ (Nat.le_of_ble_eq_true rfl) (fun v w1 z1 hp => ?_)
  obtain ⟨th1, e1, q1⟩ := hp
  rw [e1]
  refine ja_bd (fun bd1 => ?_)
  obtain ⟨P1, hm1⟩ := jMid.cls hm bd q1
  obtain ⟨hx1, hN1, ⟨g1, ho1, hg1⟩, hP1, hO1⟩ := id hm1
  obtain ⟨fs1, hy1⟩ := hN1.obj
  refine ja_istore C [(5, .int th1), (4, .int (nI i)), (3, .ref o), (2, .ref y), (1, .ref x), (0, .ref b)] jd_L_law_751 (Nat.le_of_ble_eq_true rfl) rfl ?_
  refine ja_aload_n C jd_L_law_753 3 rfl ?_
  refine ja_aload_n C jd_L_law_754 5 rfl ?_
  refine ja_iload C jd_L_law_755 1 rfl ?_
  refine ja_iconst C (nI 1) jd_L_law_757 (by decide) ?_
  refine ja_iaddN C jd_L_law_758 ?_
  refine ja_sld C hX hbl (by omega) (by omega) jd_L_law_759 ?_
  refine ja_aload_n C jd_L_law_760 5 rfl ?_
  refine ja_iload C jd_L_law_761 1 rfl ?_
  refine ja_iconst C (nI 2) jd_L_law_763 (by decide) ?_
  refine ja_iaddN C jd_L_law_764 ?_
  refine ja_sld C hX hbl (by omega) (by omega) jd_L_law_765 ?_
  refine ja_less (kc' := K + 0) (ks' := S + 0) (by omega) (by omega) ?_
  refine jb_callV (kc := K) (ks := S) (mc := 0) (ms := 0) (As := [.int (xs (i + 1)), .int (xs (i + 2))]) (rest := []) C X jk_L_108 hy1 rfl (jv_told hN1) jd_L_law_766 rfl rfl ⟨by decide, by decide⟩ (Nat.le_of_ble_eq_true rfl) (fun v w2 z2 hp => ?_)
  obtain ⟨y2, th2, e2, q2⟩ := hp
  rw [e2]
  obtain ⟨A2, n9, n29, rk2, N2, hm2⟩ := jMid.rfc hm1 bd1 q2
  refine ja_istore C [(6, .int y2), (5, .int th1), (4, .int (nI i)), (3, .ref o), (2, .ref y), (1, .ref x), (0, .ref b)] jd_L_law_769 (Nat.le_of_ble_eq_true rfl) rfl ?_
  refine ja_goto C 855 jd_L_law_771 (by decide) ?_
  refine ja_lv (lv' := [(4, .int (nI i)), (3, .ref o), (2, .ref y), (1, .ref x), (0, .ref b)]) (fun q hq => List.mem_cons_of_mem _ (List.mem_cons_of_mem _ hq)) (kk _ _ ?_)
  exact jInv.next hm2 rfl jStep.rf hw
theorem jwc_divisor (C : ja_C (jb_mk l room_1 8 "MeasuredTensorsLaw" D H0 (jt_all cI cJ cT cX) u) jc_L_law) (X : jb_X H0 u.1.2.2) (hst : l.stackTraces = false) (hX : va_X b L xs u.1.2.2 H0) (hbl : b < H0.size) (hL : L ≤ 4096) (hk : k < 512) (hn : i + 8 ≤ L) (inv : jInv cI cJ cT cX x y o k w) (EX : jw_E (jb_mk l room_1 8 "MeasuredTensorsLaw" D H0 (jt_all cI cJ cT cX) u) jc_L_law) (kk : ∀ w' sz', jInv cI cJ cT cX x y o (k + 1) w' → ja (jb_mk l room_1 8 "MeasuredTensorsLaw" D H0 (jt_all cI cJ cT cX) u) w' sz' K S 855 [(4, .int (nI i)), (3, .ref o), (2, .ref y), (1, .ref x), (0, .ref b)] []) : ja (jb_mk l room_1 8 "MeasuredTensorsLaw" D H0 (jt_all cI cJ cT cX) u) w sz (K + 21) (S + 9753) 774 [(4, .int (nI i)), (3, .ref o), (2, .ref y), (1, .ref x), (0, .ref b)] [] := by
  refine ja_bd (fun bd => ?_)
  obtain ⟨σ, P, A, n, n2, th, rk, N, hw, hm⟩ := inv
  obtain ⟨hx, hN, ⟨g, ho, -⟩, hP, hO⟩ := id hm
  have hc := hw.2.1
  have hi := hw.2.2
  refine ja_aload_n C jd_L_law_774 3 rfl ?_
  refine ja_aload_n C jd_L_law_775 4 rfl ?_
  refine ja_iload C jd_L_law_776 0 rfl ?_
  refine ja_iconst C (nI 1) jd_L_law_778 (by decide) ?_
  refine ja_iaddN C jd_L_law_779 ?_
  refine ja_sld C hX hbl (by omega) (by omega) jd_L_law_780 ?_
  refine ja_aload_n C jd_L_law_781 4 rfl ?_
  refine ja_iload C jd_L_law_782 0 rfl ?_
  refine ja_iconst C (nI 2) jd_L_law_784 (by decide) ?_
  refine ja_iaddN C jd_L_law_785 ?_
  refine ja_sld C hX hbl (by omega) (by omega) jd_L_law_786 ?_
  refine ja_ne0 C jd_L_law_787 jd_L_law_790 jd_L_law_791 jd_L_law_794 ?_
  refine ja_aload_n C jd_L_law_795 1 rfl ?_
  refine jb_callSX (kc := K + 16) (ks := S + 9728) (mc := 5) (ms := 25) (As := [.ref x, .int (xs (i + 1)), .int (if (xs (i + 2)) = 0 then nI 0 else nI 1), .ref o]) (rest := []) C X jk_L_109 (jh_divisor hst hx ho (bd _ _ ho) (fun z => (hP o z).2.2.1 rfl)) jd_L_law_796 rfl rfl ⟨by decide, by decide⟩ (Nat.le_of_ble_eq_true rfl) (fun v w1 z1 hp => ?_)
  obtain ⟨th1, e1, q1⟩ := hp
  rw [e1]
  refine ja_bd (fun bd1 => ?_)
  obtain ⟨P1, hm1⟩ := jMid.cls hm bd q1
  obtain ⟨hx1, hN1, ⟨g1, ho1, hg1⟩, hP1, hO1⟩ := id hm1
  obtain ⟨fs1, hy1⟩ := hN1.obj
  refine ja_istore C [(5, .int th1), (4, .int (nI i)), (3, .ref o), (2, .ref y), (1, .ref x), (0, .ref b)] jd_L_law_799 (Nat.le_of_ble_eq_true rfl) rfl ?_
  refine ja_aload_n C jd_L_law_801 3 rfl ?_
  refine ja_aload_n C jd_L_law_802 5 rfl ?_
  refine ja_iload C jd_L_law_803 1 rfl ?_
  refine ja_iconst C (nI 1) jd_L_law_805 (by decide) ?_
  refine ja_iaddN C jd_L_law_806 ?_
  refine ja_sld C hX hbl (by omega) (by omega) jd_L_law_807 ?_
  refine ja_aload_n C jd_L_law_808 5 rfl ?_
  refine ja_iload C jd_L_law_809 1 rfl ?_
  refine ja_iconst C (nI 2) jd_L_law_811 (by decide) ?_
  refine ja_iaddN C jd_L_law_812 ?_
  refine ja_sld C hX hbl (by omega) (by omega) jd_L_law_813 ?_
  refine ja_ne0 C jd_L_law_814 jd_L_law_817 jd_L_law_818 jd_L_law_821 ?_
  refine ja_less (kc' := K + 0) (ks' := S + 0) (by omega) (by omega) ?_
  refine jb_callV (kc := K) (ks := S) (mc := 0) (ms := 0) (As := [.int (xs (i + 1)), .int (if (xs (i + 2)) = 0 then nI 0 else nI 1)]) (rest := []) C X jk_L_112 hy1 rfl (jv_divisor hN1) jd_L_law_822 rfl rfl ⟨by decide, by decide⟩ (Nat.le_of_ble_eq_true rfl) (fun v w2 z2 hp => ?_)
  obtain ⟨y2, th2, e2, q2⟩ := hp
  rw [e2]
  obtain ⟨A2, n9, n29, rk2, N2, hm2⟩ := jMid.rfc hm1 bd1 q2
  refine ja_lstore C [(6, .long y2), (5, .int th1), (4, .int (nI i)), (3, .ref o), (2, .ref y), (1, .ref x), (0, .ref b)] jd_L_law_825 (Nat.le_of_ble_eq_true rfl) rfl ?_
  refine ja_goto C 855 jd_L_law_827 (by decide) ?_
  refine ja_lv (lv' := [(4, .int (nI i)), (3, .ref o), (2, .ref y), (1, .ref x), (0, .ref b)]) (fun q hq => List.mem_cons_of_mem _ (List.mem_cons_of_mem _ hq)) (kk _ _ ?_)
  exact jInv.next hm2 rfl jStep.rf hw
theorem jwc_all (C : ja_C (jb_mk l room_1 8 "MeasuredTensorsLaw" D H0 (jt_all cI cJ cT cX) u) jc_L_law) (X : jb_X H0 u.1.2.2) (hst : l.stackTraces = false) (hX : va_X b L xs u.1.2.2 H0) (hbl : b < H0.size) (hL : L ≤ 4096) (hk : k < 512) (hn : i + 8 ≤ L) (inv : jInv cI cJ cT cX x y o k w) (EX : jw_E (jb_mk l room_1 8 "MeasuredTensorsLaw" D H0 (jt_all cI cJ cT cX) u) jc_L_law) (kk : ∀ w' sz', jInv cI cJ cT cX x y o (k + 1) w' → ja (jb_mk l room_1 8 "MeasuredTensorsLaw" D H0 (jt_all cI cJ cT cX) u) w' sz' K S 855 [(4, .int (nI i)), (3, .ref o), (2, .ref y), (1, .ref x), (0, .ref b)] []) : ja (jb_mk l room_1 8 "MeasuredTensorsLaw" D H0 (jt_all cI cJ cT cX) u) w sz (K + 21) (S + 9753) 830 [(4, .int (nI i)), (3, .ref o), (2, .ref y), (1, .ref x), (0, .ref b)] [] := by
  refine ja_bd (fun bd => ?_)
  obtain ⟨σ, P, A, n, n2, th, rk, N, hw, hm⟩ := inv
  obtain ⟨hx, hN, ⟨g, ho, -⟩, hP, hO⟩ := id hm
  have hc := hw.2.1
  have hi := hw.2.2
  refine ja_aload_n C jd_L_law_830 3 rfl ?_
  refine ja_aload_n C jd_L_law_831 4 rfl ?_
  refine ja_iload C jd_L_law_832 0 rfl ?_
  refine ja_iconst C (nI 1) jd_L_law_834 (by decide) ?_
  refine ja_iaddN C jd_L_law_835 ?_
  refine ja_sld C hX hbl (by omega) (by omega) jd_L_law_836 ?_
  obtain ⟨dr, F, G, own, fT, ls, k9, f, m, tm, h⟩ := id hx
  refine jb_callV (kc := K + 21) (ks := S + 9753) (mc := 0) (ms := 0) (As := [.int (xs (i + 1))]) (rest := []) C X jk_L_113 h.obj rfl (jx_all h) jd_L_law_837 rfl rfl ⟨by decide, by decide⟩ (Nat.le_of_ble_eq_true rfl) (fun v w1 z1 hp => ?_)
  obtain ⟨⟨y1, e1⟩, q1⟩ := hp
  rw [e1]
  refine ja_bd (fun bd1 => ?_)
  obtain ⟨P1, hm1⟩ := jMid.cls hm bd (jXP.same (z := fun _ => True) q1 (bd _ _ ho) (fun z => (hP o z).2.2.1 rfl) ho trivial)
  obtain ⟨hx1, hN1, ⟨g1, ho1, hg1⟩, hP1, hO1⟩ := id hm1
  obtain ⟨fs1, hy1⟩ := hN1.obj
  refine ja_pop C jd_L_law_840 rfl ?_
  refine ja_aload_n C jd_L_law_841 2 rfl ?_
  refine ja_aload_n C jd_L_law_842 4 rfl ?_
  refine ja_iload C jd_L_law_843 0 rfl ?_
  refine ja_iconst C (nI 1) jd_L_law_845 (by decide) ?_
  refine ja_iaddN C jd_L_law_846 ?_
  refine ja_sld C hX hbl (by omega) (by omega) jd_L_law_847 ?_
  refine ja_less (kc' := K + 0) (ks' := S + 0) (by omega) (by omega) ?_
  refine jb_callV (kc := K) (ks := S) (mc := 0) (ms := 0) (As := [.int (xs (i + 1))]) (rest := []) C X jk_L_116 hy1 rfl (jv_all hN1) jd_L_law_848 rfl rfl ⟨by decide, by decide⟩ (Nat.le_of_ble_eq_true rfl) (fun v w2 z2 hp => ?_)
  obtain ⟨y2, th2, e2, q2⟩ := hp
  rw [e2]
  obtain ⟨A2, n9, n29, rk2, N2, hm2⟩ := jMid.rfc hm1 bd1 q2
  refine ja_pop C jd_L_law_851 rfl ?_
  refine ja_goto C 855 jd_L_law_852 (by decide) ?_
  refine ja_lv (lv' := [(4, .int (nI i)), (3, .ref o), (2, .ref y), (1, .ref x), (0, .ref b)]) (fun q hq => hq) (kk _ _ ?_)
  exact jInv.next hm2 rfl jStep.rf hw
end LC
