/-! THE LAW's CASES: one call of the class and of the reference each -/
/-- the law's end -/
def jw_E (g : ja_G) (cc : ByteArray) : Prop := ∀ {w : jb_W} {sz kc ks pc : Nat} {lv : List (Nat × Value)}, decode cc pc = .ok (.ireturn, 1) → ja g w sz kc ks pc lv [.int 1]
theorem jDetB.begin {σ σ1 σ2 : jSt} {p th th2 : Int32} (h : jA_begin σ p th σ1) (h2 : jA_begin σ p th2 σ2) : th = th2 ∧ σ1 = σ2 := by
  rcases Classical.em (p < 0 ∨ 64 < p) with z | z
  · exact ⟨(h.1 z).1.trans (h2.1 z).1.symm, (h.1 z).2.trans (h2.1 z).2.symm⟩
  · exact ⟨(h.2 z).1.trans (h2.2 z).1.symm, (h.2 z).2.trans (h2.2 z).2.symm⟩
theorem jl_cmp0 (v : Int64) : lg_cmp v v = 0 := by simp [lg_cmp]
theorem jk_L_63 : jb_KSW "MeasuredTensorsLaw" 63 jy_L_begin jc_L_begin 3 (some .int) [(0, 5, 8, 13)] 2 := ⟨jw_in (by decide +kernel) (by decide +kernel), jw_in (by decide +kernel) (by decide +kernel), jw_in (by decide +kernel) (by decide +kernel), jw_in (by decide +kernel) (by decide +kernel), by decide +kernel⟩
theorem jk_L_68 : jb_KV "MeasuredTensorsLaw" 68 jy_Y_begin jc_Y_begin 2 none 1 := ⟨jw_in (by decide +kernel) (by decide +kernel), jw_in (by decide +kernel) (by decide +kernel), jw_in (by decide +kernel) (by decide +kernel), jw_in (by decide +kernel) (by decide +kernel), jw_in (by decide +kernel) (by decide +kernel), by decide +kernel⟩
theorem jk_L_69 : jb_KSW "MeasuredTensorsLaw" 69 jy_L_number jc_L_number 5 (some .int) [(0, 10, 13, 13)] 4 := ⟨jw_in (by decide +kernel) (by decide +kernel), jw_in (by decide +kernel) (by decide +kernel), jw_in (by decide +kernel) (by decide +kernel), jw_in (by decide +kernel) (by decide +kernel), by decide +kernel⟩
theorem jk_L_72 : jb_KV "MeasuredTensorsLaw" 72 jy_Y_number jc_Y_number 3 (some .int) 2 := ⟨jw_in (by decide +kernel) (by decide +kernel), jw_in (by decide +kernel) (by decide +kernel), jw_in (by decide +kernel) (by decide +kernel), jw_in (by decide +kernel) (by decide +kernel), jw_in (by decide +kernel) (by decide +kernel), by decide +kernel⟩
theorem jk_L_73 : jb_KSW "MeasuredTensorsLaw" 73 jy_L_made jc_L_made 9 (some .int) [(0, 18, 21, 13)] 8 := ⟨jw_in (by decide +kernel) (by decide +kernel), jw_in (by decide +kernel) (by decide +kernel), jw_in (by decide +kernel) (by decide +kernel), jw_in (by decide +kernel) (by decide +kernel), by decide +kernel⟩
theorem jk_L_76 : jb_KV "MeasuredTensorsLaw" 76 jy_Y_made jc_Y_made 7 (some .int) 6 := ⟨jw_in (by decide +kernel) (by decide +kernel), jw_in (by decide +kernel) (by decide +kernel), jw_in (by decide +kernel) (by decide +kernel), jw_in (by decide +kernel) (by decide +kernel), jw_in (by decide +kernel) (by decide +kernel), by decide +kernel⟩
theorem jk_L_77 : jb_KSW "MeasuredTensorsLaw" 77 jy_L_index jc_L_index 9 (some .int) [(0, 18, 21, 13), (0, 18, 25, 27)] 8 := ⟨jw_in (by decide +kernel) (by decide +kernel), jw_in (by decide +kernel) (by decide +kernel), jw_in (by decide +kernel) (by decide +kernel), jw_in (by decide +kernel) (by decide +kernel), by decide +kernel⟩
theorem jk_L_80 : jb_KV "MeasuredTensorsLaw" 80 jy_Y_index jc_Y_index 8 (some .int) 6 := ⟨jw_in (by decide +kernel) (by decide +kernel), jw_in (by decide +kernel) (by decide +kernel), jw_in (by decide +kernel) (by decide +kernel), jw_in (by decide +kernel) (by decide +kernel), jw_in (by decide +kernel) (by decide +kernel), by decide +kernel⟩
theorem jk_L_81 : jb_KV "MeasuredTensorsLaw" 81 jy_Y_thrown jc_Y_thrown 1 (some .int) 0 := ⟨jw_in (by decide +kernel) (by decide +kernel), jw_in (by decide +kernel) (by decide +kernel), jw_in (by decide +kernel) (by decide +kernel), jw_in (by decide +kernel) (by decide +kernel), jw_in (by decide +kernel) (by decide +kernel), by decide +kernel⟩
theorem jk_L_85 : jb_KSW "MeasuredTensorsLaw" 85 jy_L_pair jc_L_pair 6 (some .int) [(0, 12, 15, 33), (0, 12, 19, 13)] 5 := ⟨jw_in (by decide +kernel) (by decide +kernel), jw_in (by decide +kernel) (by decide +kernel), jw_in (by decide +kernel) (by decide +kernel), jw_in (by decide +kernel) (by decide +kernel), by decide +kernel⟩
theorem jk_L_88 : jb_KV "MeasuredTensorsLaw" 88 jy_Y_pair jc_Y_pair 4 (some .int) 3 := ⟨jw_in (by decide +kernel) (by decide +kernel), jw_in (by decide +kernel) (by decide +kernel), jw_in (by decide +kernel) (by decide +kernel), jw_in (by decide +kernel) (by decide +kernel), jw_in (by decide +kernel) (by decide +kernel), by decide +kernel⟩
theorem jk_L_89 : jb_KSW "MeasuredTensorsLaw" 89 jy_L_turned jc_L_turned 4 (some .int) [(0, 9, 12, 33)] 3 := ⟨jw_in (by decide +kernel) (by decide +kernel), jw_in (by decide +kernel) (by decide +kernel), jw_in (by decide +kernel) (by decide +kernel), jw_in (by decide +kernel) (by decide +kernel), by decide +kernel⟩
theorem jk_L_92 : jb_KV "MeasuredTensorsLaw" 92 jy_Y_turned jc_Y_turned 2 (some .int) 1 := ⟨jw_in (by decide +kernel) (by decide +kernel), jw_in (by decide +kernel) (by decide +kernel), jw_in (by decide +kernel) (by decide +kernel), jw_in (by decide +kernel) (by decide +kernel), jw_in (by decide +kernel) (by decide +kernel), by decide +kernel⟩
theorem jk_L_93 : jb_KSW "MeasuredTensorsLaw" 93 jy_L_over jc_L_over 6 (some .int) [(0, 12, 15, 33), (0, 12, 19, 13)] 5 := ⟨jw_in (by decide +kernel) (by decide +kernel), jw_in (by decide +kernel) (by decide +kernel), jw_in (by decide +kernel) (by decide +kernel), jw_in (by decide +kernel) (by decide +kernel), by decide +kernel⟩
theorem jk_L_95 : jb_KV "MeasuredTensorsLaw" 95 jy_Y_over jc_Y_over 5 (some .int) 3 := ⟨jw_in (by decide +kernel) (by decide +kernel), jw_in (by decide +kernel) (by decide +kernel), jw_in (by decide +kernel) (by decide +kernel), jw_in (by decide +kernel) (by decide +kernel), jw_in (by decide +kernel) (by decide +kernel), by decide +kernel⟩
theorem jk_L_96 : jb_KSW "MeasuredTensorsLaw" 96 jy_L_call jc_L_call 10 (some .int) [(0, 20, 23, 13), (0, 20, 27, 33)] 9 := ⟨jw_in (by decide +kernel) (by decide +kernel), jw_in (by decide +kernel) (by decide +kernel), jw_in (by decide +kernel) (by decide +kernel), jw_in (by decide +kernel) (by decide +kernel), by decide +kernel⟩
theorem jk_L_99 : jb_KV "MeasuredTensorsLaw" 99 jy_Y_call jc_Y_call 13 (some .int) 7 := ⟨jw_in (by decide +kernel) (by decide +kernel), jw_in (by decide +kernel) (by decide +kernel), jw_in (by decide +kernel) (by decide +kernel), jw_in (by decide +kernel) (by decide +kernel), jw_in (by decide +kernel) (by decide +kernel), by decide +kernel⟩
theorem jk_L_100 : jb_KSW "MeasuredTensorsLaw" 100 jy_L_reshape jc_L_reshape 9 (some .int) [(0, 18, 21, 33), (0, 18, 25, 13)] 8 := ⟨jw_in (by decide +kernel) (by decide +kernel), jw_in (by decide +kernel) (by decide +kernel), jw_in (by decide +kernel) (by decide +kernel), jw_in (by decide +kernel) (by decide +kernel), by decide +kernel⟩
theorem jk_L_102 : jb_KV "MeasuredTensorsLaw" 102 jy_Y_reshape jc_Y_reshape 8 (some .int) 6 := ⟨jw_in (by decide +kernel) (by decide +kernel), jw_in (by decide +kernel) (by decide +kernel), jw_in (by decide +kernel) (by decide +kernel), jw_in (by decide +kernel) (by decide +kernel), jw_in (by decide +kernel) (by decide +kernel), by decide +kernel⟩
theorem jk_L_103 : jb_KSW "MeasuredTensorsLaw" 103 jy_L_loss jc_L_loss 4 (some .int) [(0, 9, 12, 33), (0, 9, 15, 13)] 3 := ⟨jw_in (by decide +kernel) (by decide +kernel), jw_in (by decide +kernel) (by decide +kernel), jw_in (by decide +kernel) (by decide +kernel), jw_in (by decide +kernel) (by decide +kernel), by decide +kernel⟩
theorem jk_L_105 : jb_KV "MeasuredTensorsLaw" 105 jy_Y_loss jc_Y_loss 5 (some .int) 1 := ⟨jw_in (by decide +kernel) (by decide +kernel), jw_in (by decide +kernel) (by decide +kernel), jw_in (by decide +kernel) (by decide +kernel), jw_in (by decide +kernel) (by decide +kernel), jw_in (by decide +kernel) (by decide +kernel), by decide +kernel⟩
theorem jk_L_106 : jb_KSW "MeasuredTensorsLaw" 106 jy_L_told jc_L_told 5 (some .int) [(0, 10, 13, 33), (0, 10, 17, 13)] 4 := ⟨jw_in (by decide +kernel) (by decide +kernel), jw_in (by decide +kernel) (by decide +kernel), jw_in (by decide +kernel) (by decide +kernel), jw_in (by decide +kernel) (by decide +kernel), by decide +kernel⟩
theorem jk_L_108 : jb_KV "MeasuredTensorsLaw" 108 jy_Y_told jc_Y_told 3 (some .int) 2 := ⟨jw_in (by decide +kernel) (by decide +kernel), jw_in (by decide +kernel) (by decide +kernel), jw_in (by decide +kernel) (by decide +kernel), jw_in (by decide +kernel) (by decide +kernel), jw_in (by decide +kernel) (by decide +kernel), by decide +kernel⟩
theorem jk_L_109 : jb_KSW "MeasuredTensorsLaw" 109 jy_L_divisor jc_L_divisor 5 (some .int) [(0, 9, 12, 33)] 4 := ⟨jw_in (by decide +kernel) (by decide +kernel), jw_in (by decide +kernel) (by decide +kernel), jw_in (by decide +kernel) (by decide +kernel), jw_in (by decide +kernel) (by decide +kernel), by decide +kernel⟩
theorem jk_L_112 : jb_KV "MeasuredTensorsLaw" 112 jy_Y_divisor jc_Y_divisor 3 (some .long) 2 := ⟨jw_in (by decide +kernel) (by decide +kernel), jw_in (by decide +kernel) (by decide +kernel), jw_in (by decide +kernel) (by decide +kernel), jw_in (by decide +kernel) (by decide +kernel), jw_in (by decide +kernel) (by decide +kernel), by decide +kernel⟩
theorem jk_L_113 : jb_KV "MeasuredTensorsLaw" 113 jy_X_all jc_X_all 2 (some .int) 1 := ⟨jw_in (by decide +kernel) (by decide +kernel), jw_in (by decide +kernel) (by decide +kernel), jw_in (by decide +kernel) (by decide +kernel), jw_in (by decide +kernel) (by decide +kernel), jw_in (by decide +kernel) (by decide +kernel), by decide +kernel⟩
theorem jk_L_116 : jb_KV "MeasuredTensorsLaw" 116 jy_Y_all jc_Y_all 2 (some .int) 1 := ⟨jw_in (by decide +kernel) (by decide +kernel), jw_in (by decide +kernel) (by decide +kernel), jw_in (by decide +kernel) (by decide +kernel), jw_in (by decide +kernel) (by decide +kernel), jw_in (by decide +kernel) (by decide +kernel), by decide +kernel⟩
section LC
variable {l : Launch} {D : va_G} {H0 : Heap} {cI cJ cT cX : ClassId} {w : jb_W} {sz : Nat} {u : jb_U} {b L : Nat} {xs : Nat → Int32} {x y o i k K S : Nat}
theorem jwc_begin (C : ja_C (jb_mk l room_1 8 "MeasuredTensorsLaw" D H0 (jt_all cI cJ cT cX) u) jc_L_law) (X : jb_X H0 u.1.2.2) (hst : l.stackTraces = false) (hX : va_X b L xs u.1.2.2 H0) (hbl : b < H0.size) (hL : L ≤ 4096) (hk : k < 512) (hn : i + 8 ≤ L) (inv : jInv cI cJ cT cX x y o k w) (EX : jw_E (jb_mk l room_1 8 "MeasuredTensorsLaw" D H0 (jt_all cI cJ cT cX) u) jc_L_law) (kk : ∀ w' sz', jInv cI cJ cT cX x y o (k + 1) w' → ja (jb_mk l room_1 8 "MeasuredTensorsLaw" D H0 (jt_all cI cJ cT cX) u) w' sz' K S 872 [(4, .int (nI i)), (3, .ref o), (2, .ref y), (1, .ref x), (0, .ref b)] []) : ja (jb_mk l room_1 8 "MeasuredTensorsLaw" D H0 (jt_all cI cJ cT cX) u) w sz (K + 21) (S + 9753) 108 [(4, .int (nI i)), (3, .ref o), (2, .ref y), (1, .ref x), (0, .ref b)] [] := by
  refine ja_bd (fun bd => ?_)
  obtain ⟨σ, P, A, n, n2, th, rk, N, hw, hm⟩ := inv
  obtain ⟨hx, hN, ⟨g, ho, -⟩, hP, hO⟩ := id hm
  have hc := hw.2.1
  have hi := hw.2.2
  refine ja_aload_n C jd_L_law_108 3 rfl ?_
  refine ja_aload_n C jd_L_law_109 4 rfl ?_
  refine ja_iload C jd_L_law_110 0 rfl ?_
  refine ja_iconst C (nI 1) jd_L_law_112 (by decide) ?_
  refine ja_iaddN C jd_L_law_113 ?_
  refine ja_sld C hX hbl (by omega) (by omega) jd_L_law_114 ?_
  refine jb_callSX (kc := K + 16) (ks := S + 9728) (mc := 5) (ms := 25) (As := [.ref x, .int (xs (i + 1))]) (rest := []) C X jk_L_63 (jh_begin hst hx) jd_L_law_115 rfl rfl ⟨by decide, by decide⟩ (Nat.le_of_ble_eq_true rfl) (fun v w1 z1 hp => ?_)
  obtain ⟨th1, σ1, e1, a1, q1⟩ := hp
  rw [e1]
  refine ja_bd (fun bd1 => ?_)
  obtain ⟨P1, hm1⟩ := jMid.cls hm bd (jXP.same (z := fun _ => True) q1 (bd _ _ ho) (fun z => (hP o z).2.2.1 rfl) ho trivial)
  obtain ⟨hx1, hN1, ⟨g1, ho1, hg1⟩, hP1, hO1⟩ := id hm1
  obtain ⟨fs1, hy1⟩ := hN1.obj
  refine ja_istore C [(5, .int th1), (4, .int (nI i)), (3, .ref o), (2, .ref y), (1, .ref x), (0, .ref b)] jd_L_law_118 (Nat.le_of_ble_eq_true rfl) rfl ?_
  refine ja_aload_n C jd_L_law_120 3 rfl ?_
  refine ja_aload_n C jd_L_law_121 5 rfl ?_
  refine ja_iload C jd_L_law_122 1 rfl ?_
  refine ja_iconst C (nI 1) jd_L_law_124 (by decide) ?_
  refine ja_iaddN C jd_L_law_125 ?_
  refine ja_sld C hX hbl (by omega) (by omega) jd_L_law_126 ?_
  refine ja_less (kc' := K + 0) (ks' := S + 0) (by omega) (by omega) ?_
  refine jb_callV (kc := K) (ks := S) (mc := 0) (ms := 0) (As := [.int (xs (i + 1))]) (rest := []) C X jk_L_68 hy1 rfl (jn_begin hN1) jd_L_law_127 rfl rfl ⟨by decide, by decide⟩ (Nat.le_of_ble_eq_true rfl) (fun v w2 z2 hp => ?_)
  obtain ⟨e2, th2, σ2, a2, q2⟩ := hp
  rw [e2]
  obtain ⟨A2, n9, n29, rk2, N2, hm2⟩ := jMid.rfc hm1 bd1 q2
  have hD := jDetB.begin a1 a2
  refine ja_goto C 872 jd_L_law_130 (by decide) ?_
  refine ja_lv (lv' := [(4, .int (nI i)), (3, .ref o), (2, .ref y), (1, .ref x), (0, .ref b)]) (fun q hq => List.mem_cons_of_mem _ hq) (kk _ _ ?_)
  exact jInv.next hm2 hD.2 (jA_begin.step a2) hw
theorem jwc_number (C : ja_C (jb_mk l room_1 8 "MeasuredTensorsLaw" D H0 (jt_all cI cJ cT cX) u) jc_L_law) (X : jb_X H0 u.1.2.2) (hst : l.stackTraces = false) (hX : va_X b L xs u.1.2.2 H0) (hbl : b < H0.size) (hL : L ≤ 4096) (hk : k < 512) (hn : i + 8 ≤ L) (inv : jInv cI cJ cT cX x y o k w) (EX : jw_E (jb_mk l room_1 8 "MeasuredTensorsLaw" D H0 (jt_all cI cJ cT cX) u) jc_L_law) (kk : ∀ w' sz', jInv cI cJ cT cX x y o (k + 1) w' → ja (jb_mk l room_1 8 "MeasuredTensorsLaw" D H0 (jt_all cI cJ cT cX) u) w' sz' K S 872 [(4, .int (nI i)), (3, .ref o), (2, .ref y), (1, .ref x), (0, .ref b)] []) : ja (jb_mk l room_1 8 "MeasuredTensorsLaw" D H0 (jt_all cI cJ cT cX) u) w sz (K + 21) (S + 9753) 133 [(4, .int (nI i)), (3, .ref o), (2, .ref y), (1, .ref x), (0, .ref b)] [] := by
  refine ja_bd (fun bd => ?_)
  obtain ⟨σ, P, A, n, n2, th, rk, N, hw, hm⟩ := inv
  obtain ⟨hx, hN, ⟨g, ho, -⟩, hP, hO⟩ := id hm
  have hc := hw.2.1
  have hi := hw.2.2
  refine ja_aload_n C jd_L_law_133 3 rfl ?_
  refine ja_aload_n C jd_L_law_134 4 rfl ?_
  refine ja_iload C jd_L_law_135 0 rfl ?_
  refine ja_iconst C (nI 1) jd_L_law_137 (by decide) ?_
  refine ja_iaddN C jd_L_law_138 ?_
  refine ja_sld C hX hbl (by omega) (by omega) jd_L_law_139 ?_
  refine ja_aload_n C jd_L_law_140 4 rfl ?_
  refine ja_iload C jd_L_law_141 0 rfl ?_
  refine ja_iconst C (nI 2) jd_L_law_143 (by decide) ?_
  refine ja_iaddN C jd_L_law_144 ?_
  refine ja_sld C hX hbl (by omega) (by omega) jd_L_law_145 ?_
  refine ja_aload_n C jd_L_law_146 1 rfl ?_
  refine jb_callSX (kc := K + 16) (ks := S + 9728) (mc := 5) (ms := 25) (As := [.ref x, .int (xs (i + 1)), .int (xs (i + 2)), .ref o]) (rest := []) C X jk_L_69 (jh_number hst hx (by omega) ho (bd _ _ ho) (fun z => (hP o z).2.2.1 rfl)) jd_L_law_147 rfl rfl ⟨by decide, by decide⟩ (Nat.le_of_ble_eq_true rfl) (fun v w1 z1 hp => ?_)
  obtain ⟨y1, th1, σ1, e1, a1, q1⟩ := hp
  rw [e1]
  refine ja_bd (fun bd1 => ?_)
  obtain ⟨P1, hm1⟩ := jMid.cls hm bd q1
  obtain ⟨hx1, hN1, ⟨g1, ho1, hg1⟩, hP1, hO1⟩ := id hm1
  obtain ⟨fs1, hy1⟩ := hN1.obj
  obtain ⟨s1, V1, VL1, hM1, -⟩ := id hN1
  refine ja_istore C [(5, .int th1), (4, .int (nI i)), (3, .ref o), (2, .ref y), (1, .ref x), (0, .ref b)] jd_L_law_150 (Nat.le_of_ble_eq_true rfl) rfl ?_
  refine ja_aload_n C jd_L_law_152 3 rfl ?_
  refine ja_aload_n C jd_L_law_153 5 rfl ?_
  refine ja_iload C jd_L_law_154 1 rfl ?_
  refine ja_iconst C (nI 1) jd_L_law_156 (by decide) ?_
  refine ja_iaddN C jd_L_law_157 ?_
  refine ja_sld C hX hbl (by omega) (by omega) jd_L_law_158 ?_
  refine ja_aload_n C jd_L_law_159 5 rfl ?_
  refine ja_iload C jd_L_law_160 1 rfl ?_
  refine ja_iconst C (nI 2) jd_L_law_162 (by decide) ?_
  refine ja_iaddN C jd_L_law_163 ?_
  refine ja_sld C hX hbl (by omega) (by omega) jd_L_law_164 ?_
  refine jb_callV (kc := K) (ks := S) (mc := 16) (ms := 9728) (As := [.int (xs (i + 1)), .int (xs (i + 2))]) (rest := []) C X jk_L_72 hy1 rfl (jy_number hM1 (by omega)) jd_L_law_165 rfl rfl ⟨by decide, by decide⟩ (Nat.le_of_ble_eq_true rfl) (fun v w2 z2 hp => ?_)
  obtain ⟨y2, th2, σ2, e2, a2, q2⟩ := hp
  rw [e2]
  obtain ⟨A2, n9, n29, rk2, N2, hm2⟩ := jMid.rfc hm1 bd1 q2
  have hD := jDetT.number _ _ _ _ _ _ a1 a2
  refine ja_istore C [(6, .int y2), (5, .int th1), (4, .int (nI i)), (3, .ref o), (2, .ref y), (1, .ref x), (0, .ref b)] jd_L_law_168 (Nat.le_of_ble_eq_true rfl) rfl ?_
  refine ja_goto C 872 jd_L_law_170 (by decide) ?_
  refine ja_lv (lv' := [(4, .int (nI i)), (3, .ref o), (2, .ref y), (1, .ref x), (0, .ref b)]) (fun q hq => List.mem_cons_of_mem _ (List.mem_cons_of_mem _ hq)) (kk _ _ ?_)
  exact jInv.next hm2 hD.2.1 (jA_number.step a2) hw
theorem jwc_made (C : ja_C (jb_mk l room_1 8 "MeasuredTensorsLaw" D H0 (jt_all cI cJ cT cX) u) jc_L_law) (X : jb_X H0 u.1.2.2) (hst : l.stackTraces = false) (hX : va_X b L xs u.1.2.2 H0) (hbl : b < H0.size) (hL : L ≤ 4096) (hk : k < 512) (hn : i + 8 ≤ L) (inv : jInv cI cJ cT cX x y o k w) (EX : jw_E (jb_mk l room_1 8 "MeasuredTensorsLaw" D H0 (jt_all cI cJ cT cX) u) jc_L_law) (kk : ∀ w' sz', jInv cI cJ cT cX x y o (k + 1) w' → ja (jb_mk l room_1 8 "MeasuredTensorsLaw" D H0 (jt_all cI cJ cT cX) u) w' sz' K S 872 [(4, .int (nI i)), (3, .ref o), (2, .ref y), (1, .ref x), (0, .ref b)] []) : ja (jb_mk l room_1 8 "MeasuredTensorsLaw" D H0 (jt_all cI cJ cT cX) u) w sz (K + 21) (S + 9753) 173 [(4, .int (nI i)), (3, .ref o), (2, .ref y), (1, .ref x), (0, .ref b)] [] := by
  refine ja_bd (fun bd => ?_)
  obtain ⟨σ, P, A, n, n2, th, rk, N, hw, hm⟩ := inv
  obtain ⟨hx, hN, ⟨g, ho, -⟩, hP, hO⟩ := id hm
  have hc := hw.2.1
  have hi := hw.2.2
  refine ja_aload_n C jd_L_law_173 3 rfl ?_
  refine ja_aload_n C jd_L_law_174 4 rfl ?_
  refine ja_iload C jd_L_law_175 0 rfl ?_
  refine ja_iconst C (nI 1) jd_L_law_177 (by decide) ?_
  refine ja_iaddN C jd_L_law_178 ?_
  refine ja_sld C hX hbl (by omega) (by omega) jd_L_law_179 ?_
  refine ja_ne0 C jd_L_law_180 jd_L_law_183 jd_L_law_184 jd_L_law_187 ?_
  refine ja_aload_n C jd_L_law_188 4 rfl ?_
  refine ja_iload C jd_L_law_189 0 rfl ?_
  refine ja_iconst C (nI 2) jd_L_law_191 (by decide) ?_
  refine ja_iaddN C jd_L_law_192 ?_
  refine ja_sld C hX hbl (by omega) (by omega) jd_L_law_193 ?_
  refine ja_aload_n C jd_L_law_194 4 rfl ?_
  refine ja_iload C jd_L_law_195 0 rfl ?_
  refine ja_iconst C (nI 3) jd_L_law_197 (by decide) ?_
  refine ja_iaddN C jd_L_law_198 ?_
  refine ja_sld C hX hbl (by omega) (by omega) jd_L_law_199 ?_
  refine ja_aload_n C jd_L_law_200 4 rfl ?_
  refine ja_iload C jd_L_law_201 0 rfl ?_
  refine ja_iconst C (nI 4) jd_L_law_203 (by decide) ?_
  refine ja_iaddN C jd_L_law_204 ?_
  refine ja_sld C hX hbl (by omega) (by omega) jd_L_law_205 ?_
  refine ja_aload_n C jd_L_law_206 4 rfl ?_
  refine ja_iload C jd_L_law_207 0 rfl ?_
  refine ja_iconst C (nI 5) jd_L_law_209 (by decide) ?_
  refine ja_iaddN C jd_L_law_210 ?_
  refine ja_sld C hX hbl (by omega) (by omega) jd_L_law_211 ?_
  refine ja_aload_n C jd_L_law_212 4 rfl ?_
  refine ja_iload C jd_L_law_213 0 rfl ?_
  refine ja_bipush C (nI 6) jd_L_law_215 (by decide) ?_
  refine ja_iaddN C jd_L_law_217 ?_
  refine ja_sld C hX hbl (by omega) (by omega) jd_L_law_218 ?_
  refine ja_aload_n C jd_L_law_219 1 rfl ?_
  refine jb_callSX (kc := K + 16) (ks := S + 9728) (mc := 5) (ms := 25) (As := [.ref x, .int (if (xs (i + 1)) = 0 then nI 0 else nI 1), .int (xs (i + 2)), .int (xs (i + 3)), .int (xs (i + 4)), .int (xs (i + 5)), .int (xs (i + 6)), .ref o]) (rest := []) C X jk_L_73 (jh_made hst hx (by omega) (jl_b01 _) ho (bd _ _ ho) (fun z => (hP o z).2.2.1 rfl)) jd_L_law_220 rfl rfl ⟨by decide, by decide⟩ (Nat.le_of_ble_eq_true rfl) (fun v w1 z1 hp => ?_)
  obtain ⟨y1, th1, σ1, e1, a1, q1⟩ := hp
  rw [e1]
  refine ja_bd (fun bd1 => ?_)
  obtain ⟨P1, hm1⟩ := jMid.cls hm bd q1
  obtain ⟨hx1, hN1, ⟨g1, ho1, hg1⟩, hP1, hO1⟩ := id hm1
  obtain ⟨fs1, hy1⟩ := hN1.obj
  obtain ⟨s1, V1, VL1, hM1, -⟩ := id hN1
  refine ja_istore C [(5, .int th1), (4, .int (nI i)), (3, .ref o), (2, .ref y), (1, .ref x), (0, .ref b)] jd_L_law_223 (Nat.le_of_ble_eq_true rfl) rfl ?_
  refine ja_aload_n C jd_L_law_225 3 rfl ?_
  refine ja_aload_n C jd_L_law_226 5 rfl ?_
  refine ja_iload C jd_L_law_227 1 rfl ?_
  refine ja_iconst C (nI 1) jd_L_law_229 (by decide) ?_
  refine ja_iaddN C jd_L_law_230 ?_
  refine ja_sld C hX hbl (by omega) (by omega) jd_L_law_231 ?_
  refine ja_ne0 C jd_L_law_232 jd_L_law_235 jd_L_law_236 jd_L_law_239 ?_
  refine ja_aload_n C jd_L_law_240 5 rfl ?_
  refine ja_iload C jd_L_law_241 1 rfl ?_
  refine ja_iconst C (nI 2) jd_L_law_243 (by decide) ?_
  refine ja_iaddN C jd_L_law_244 ?_
  refine ja_sld C hX hbl (by omega) (by omega) jd_L_law_245 ?_
  refine ja_aload_n C jd_L_law_246 5 rfl ?_
  refine ja_iload C jd_L_law_247 1 rfl ?_
  refine ja_iconst C (nI 3) jd_L_law_249 (by decide) ?_
  refine ja_iaddN C jd_L_law_250 ?_
  refine ja_sld C hX hbl (by omega) (by omega) jd_L_law_251 ?_
  refine ja_aload_n C jd_L_law_252 5 rfl ?_
  refine ja_iload C jd_L_law_253 1 rfl ?_
  refine ja_iconst C (nI 4) jd_L_law_255 (by decide) ?_
  refine ja_iaddN C jd_L_law_256 ?_
  refine ja_sld C hX hbl (by omega) (by omega) jd_L_law_257 ?_
  refine ja_aload_n C jd_L_law_258 5 rfl ?_
  refine ja_iload C jd_L_law_259 1 rfl ?_
  refine ja_iconst C (nI 5) jd_L_law_261 (by decide) ?_
  refine ja_iaddN C jd_L_law_262 ?_
  refine ja_sld C hX hbl (by omega) (by omega) jd_L_law_263 ?_
  refine ja_aload_n C jd_L_law_264 5 rfl ?_
  refine ja_iload C jd_L_law_265 1 rfl ?_
  refine ja_bipush C (nI 6) jd_L_law_267 (by decide) ?_
  refine ja_iaddN C jd_L_law_269 ?_
  refine ja_sld C hX hbl (by omega) (by omega) jd_L_law_270 ?_
  refine jb_callV (kc := K) (ks := S) (mc := 16) (ms := 9728) (As := [.int (if (xs (i + 1)) = 0 then nI 0 else nI 1), .int (xs (i + 2)), .int (xs (i + 3)), .int (xs (i + 4)), .int (xs (i + 5)), .int (xs (i + 6))]) (rest := []) C X jk_L_76 hy1 rfl (jy_made hM1 (by omega)) jd_L_law_271 rfl rfl ⟨by decide, by decide⟩ (Nat.le_of_ble_eq_true rfl) (fun v w2 z2 hp => ?_)
  obtain ⟨y2, th2, σ2, e2, a2, q2⟩ := hp
  rw [e2]
  obtain ⟨A2, n9, n29, rk2, N2, hm2⟩ := jMid.rfc hm1 bd1 q2
  have hD := jDetT.made _ _ _ _ _ _ a1 a2
  refine ja_istore C [(6, .int y2), (5, .int th1), (4, .int (nI i)), (3, .ref o), (2, .ref y), (1, .ref x), (0, .ref b)] jd_L_law_274 (Nat.le_of_ble_eq_true rfl) rfl ?_
  refine ja_goto C 872 jd_L_law_276 (by decide) ?_
  refine ja_lv (lv' := [(4, .int (nI i)), (3, .ref o), (2, .ref y), (1, .ref x), (0, .ref b)]) (fun q hq => List.mem_cons_of_mem _ (List.mem_cons_of_mem _ hq)) (kk _ _ ?_)
  exact jInv.next hm2 hD.2.1 (jA_made.step a2) hw
theorem jwc_index (C : ja_C (jb_mk l room_1 8 "MeasuredTensorsLaw" D H0 (jt_all cI cJ cT cX) u) jc_L_law) (X : jb_X H0 u.1.2.2) (hst : l.stackTraces = false) (hX : va_X b L xs u.1.2.2 H0) (hbl : b < H0.size) (hL : L ≤ 4096) (hk : k < 512) (hn : i + 8 ≤ L) (inv : jInv cI cJ cT cX x y o k w) (EX : jw_E (jb_mk l room_1 8 "MeasuredTensorsLaw" D H0 (jt_all cI cJ cT cX) u) jc_L_law) (kk : ∀ w' sz', jInv cI cJ cT cX x y o (k + 1) w' → ja (jb_mk l room_1 8 "MeasuredTensorsLaw" D H0 (jt_all cI cJ cT cX) u) w' sz' K S 872 [(4, .int (nI i)), (3, .ref o), (2, .ref y), (1, .ref x), (0, .ref b)] []) : ja (jb_mk l room_1 8 "MeasuredTensorsLaw" D H0 (jt_all cI cJ cT cX) u) w sz (K + 21) (S + 9753) 279 [(4, .int (nI i)), (3, .ref o), (2, .ref y), (1, .ref x), (0, .ref b)] [] := by
  refine ja_bd (fun bd => ?_)
  obtain ⟨σ, P, A, n, n2, th, rk, N, hw, hm⟩ := inv
  obtain ⟨hx, hN, ⟨g, ho, -⟩, hP, hO⟩ := id hm
  have hc := hw.2.1
  have hi := hw.2.2
  refine ja_aload_n C jd_L_law_279 3 rfl ?_
  refine ja_aload_n C jd_L_law_280 4 rfl ?_
  refine ja_iload C jd_L_law_281 0 rfl ?_
  refine ja_iconst C (nI 1) jd_L_law_283 (by decide) ?_
  refine ja_iaddN C jd_L_law_284 ?_
  refine ja_sld C hX hbl (by omega) (by omega) jd_L_law_285 ?_
  refine ja_aload_n C jd_L_law_286 4 rfl ?_
  refine ja_iload C jd_L_law_287 0 rfl ?_
  refine ja_iconst C (nI 2) jd_L_law_289 (by decide) ?_
  refine ja_iaddN C jd_L_law_290 ?_
  refine ja_sld C hX hbl (by omega) (by omega) jd_L_law_291 ?_
  refine ja_aload_n C jd_L_law_292 4 rfl ?_
  refine ja_iload C jd_L_law_293 0 rfl ?_
  refine ja_iconst C (nI 3) jd_L_law_295 (by decide) ?_
  refine ja_iaddN C jd_L_law_296 ?_
  refine ja_sld C hX hbl (by omega) (by omega) jd_L_law_297 ?_
  refine ja_aload_n C jd_L_law_298 4 rfl ?_
  refine ja_iload C jd_L_law_299 0 rfl ?_
  refine ja_iconst C (nI 4) jd_L_law_301 (by decide) ?_
  refine ja_iaddN C jd_L_law_302 ?_
  refine ja_sld C hX hbl (by omega) (by omega) jd_L_law_303 ?_
  refine ja_aload_n C jd_L_law_304 4 rfl ?_
  refine ja_iload C jd_L_law_305 0 rfl ?_
  refine ja_iconst C (nI 5) jd_L_law_307 (by decide) ?_
  refine ja_iaddN C jd_L_law_308 ?_
  refine ja_sld C hX hbl (by omega) (by omega) jd_L_law_309 ?_
  refine ja_aload_n C jd_L_law_310 4 rfl ?_
  refine ja_iload C jd_L_law_311 0 rfl ?_
  refine ja_bipush C (nI 6) jd_L_law_313 (by decide) ?_
  refine ja_iaddN C jd_L_law_315 ?_
  refine ja_sld C hX hbl (by omega) (by omega) jd_L_law_316 ?_
  refine ja_aload_n C jd_L_law_317 1 rfl ?_
  refine jb_callSX (kc := K + 16) (ks := S + 9728) (mc := 5) (ms := 25) (As := [.ref x, .int (xs (i + 1)), .int (xs (i + 2)), .int (xs (i + 3)), .int (xs (i + 4)), .int (xs (i + 5)), .int (xs (i + 6)), .ref o]) (rest := []) C X jk_L_77 (jh_index hst hx (by omega) ho (bd _ _ ho) (fun z => (hP o z).2.2.1 rfl)) jd_L_law_318 rfl rfl ⟨by decide, by decide⟩ (Nat.le_of_ble_eq_true rfl) (fun v w1 z1 hp => ?_)
  obtain ⟨y1, th1, σ1, e1, a1, q1⟩ := hp
  rw [e1]
  refine ja_bd (fun bd1 => ?_)
  obtain ⟨P1, hm1⟩ := jMid.cls hm bd q1
  obtain ⟨hx1, hN1, ⟨g1, ho1, hg1⟩, hP1, hO1⟩ := id hm1
  obtain ⟨fs1, hy1⟩ := hN1.obj
  refine ja_istore C [(5, .int th1), (4, .int (nI i)), (3, .ref o), (2, .ref y), (1, .ref x), (0, .ref b)] jd_L_law_321 (Nat.le_of_ble_eq_true rfl) rfl ?_
  refine ja_aload_n C jd_L_law_323 3 rfl ?_
  refine ja_aload_n C jd_L_law_324 5 rfl ?_
  refine ja_iload C jd_L_law_325 1 rfl ?_
  refine ja_iconst C (nI 1) jd_L_law_327 (by decide) ?_
  refine ja_iaddN C jd_L_law_328 ?_
  refine ja_sld C hX hbl (by omega) (by omega) jd_L_law_329 ?_
  refine ja_aload_n C jd_L_law_330 5 rfl ?_
  refine ja_iload C jd_L_law_331 1 rfl ?_
  refine ja_iconst C (nI 2) jd_L_law_333 (by decide) ?_
  refine ja_iaddN C jd_L_law_334 ?_
  refine ja_sld C hX hbl (by omega) (by omega) jd_L_law_335 ?_
  refine ja_aload_n C jd_L_law_336 5 rfl ?_
  refine ja_iload C jd_L_law_337 1 rfl ?_
  refine ja_iconst C (nI 3) jd_L_law_339 (by decide) ?_
  refine ja_iaddN C jd_L_law_340 ?_
  refine ja_sld C hX hbl (by omega) (by omega) jd_L_law_341 ?_
  refine ja_aload_n C jd_L_law_342 5 rfl ?_
  refine ja_iload C jd_L_law_343 1 rfl ?_
  refine ja_iconst C (nI 4) jd_L_law_345 (by decide) ?_
  refine ja_iaddN C jd_L_law_346 ?_
  refine ja_sld C hX hbl (by omega) (by omega) jd_L_law_347 ?_
  refine ja_aload_n C jd_L_law_348 5 rfl ?_
  refine ja_iload C jd_L_law_349 1 rfl ?_
  refine ja_iconst C (nI 5) jd_L_law_351 (by decide) ?_
  refine ja_iaddN C jd_L_law_352 ?_
  refine ja_sld C hX hbl (by omega) (by omega) jd_L_law_353 ?_
  refine ja_aload_n C jd_L_law_354 5 rfl ?_
  refine ja_iload C jd_L_law_355 1 rfl ?_
  refine ja_bipush C (nI 6) jd_L_law_357 (by decide) ?_
  refine ja_iaddN C jd_L_law_359 ?_
  refine ja_sld C hX hbl (by omega) (by omega) jd_L_law_360 ?_
  refine ja_less (kc' := K + 3) (ks' := S + 3072) (by omega) (by omega) ?_
  refine jb_callV (kc := K) (ks := S) (mc := 3) (ms := 3072) (As := [.int (xs (i + 1)), .int (xs (i + 2)), .int (xs (i + 3)), .int (xs (i + 4)), .int (xs (i + 5)), .int (xs (i + 6))]) (rest := []) C X jk_L_80 hy1 rfl (jn_index hN1 (by omega)) jd_L_law_361 rfl rfl ⟨by decide, by decide⟩ (Nat.le_of_ble_eq_true rfl) (fun v w2 z2 hp => ?_)
  obtain ⟨y2, th2, σ2, e2, a2, q2⟩ := hp
  rw [e2]
  obtain ⟨A2, n9, n29, rk2, N2, hm2⟩ := jMid.rfc hm1 bd1 q2
  have hD := jDetT.index _ _ _ _ _ _ a1 a2
  refine ja_istore C [(6, .int y2), (5, .int th1), (4, .int (nI i)), (3, .ref o), (2, .ref y), (1, .ref x), (0, .ref b)] jd_L_law_364 (Nat.le_of_ble_eq_true rfl) rfl ?_
  refine ja_aload_n C jd_L_law_366 4 rfl ?_
  obtain ⟨hx2, hN2, ⟨g2, ho2, hg2⟩, hP2, hO2⟩ := id hm2
  obtain ⟨s2, V2, VL2, hM2, es, -⟩ := id hN2
  refine jb_callV (kc := K) (ks := S) (mc := 0) (ms := 0) (As := []) (rest := []) C X jk_L_81 hM2.1.1 rfl (jy_thrown hM2.1) jd_L_law_367 rfl rfl ⟨by decide, by decide⟩ (Nat.le_of_ble_eq_true rfl) (fun v w3 z3 hp => ?_)
  obtain ⟨f1, f2, f3⟩ := hp
  rw [f1, f2, f3, es]
  refine ja_iload C jd_L_law_370 1 rfl ?_
  refine ja_icmp_eq C 377 jd_L_law_372 (by decide) (fun _ => ?_) (fun z => absurd hD.1.symm z)
  refine ja_iload C jd_L_law_377 1 rfl ?_
  have fin : ja (jb_mk l room_1 8 "MeasuredTensorsLaw" D H0 (jt_all cI cJ cT cX) u) w2 z2 K S 394 [(6, .int y2), (5, .int th1), (4, .int (nI i)), (3, .ref o), (2, .ref y), (1, .ref x), (0, .ref b)] [] := by
    refine ja_goto C 872 jd_L_law_394 (by decide) ?_
    refine ja_lv (lv' := [(4, .int (nI i)), (3, .ref o), (2, .ref y), (1, .ref x), (0, .ref b)]) (fun q hq => List.mem_cons_of_mem _ (List.mem_cons_of_mem _ hq)) (kk _ _ ?_)
    exact jInv.next hm2 hD.2.1 (jA_index.step a2) hw
  refine ja_if_ne C 394 jd_L_law_379 (by decide) (fun _ => fin) (fun hth => ?_)
  refine ja_aload_n C jd_L_law_382 3 rfl ?_
  refine ja_iconst C (nI 0) jd_L_law_383 (by decide) ?_
  refine ja_lald C 1 rfl jd_L_law_384 ho2 (vp_in_nI (n := 0) (N := 1) (by decide) (by decide)) ?_
  refine ja_iload C jd_L_law_385 0 rfl ?_
  refine ja_i2l C jd_L_law_387 ?_
  have hv : g2 (nI 0).toNatClampNeg = y2.toInt64 := by rw [nI_clamp (by decide), ← hD.2.2 hth]; exact hg2 hth
  rw [hv]
  refine ja_lcmp C jd_L_law_388 ?_
  refine ja_if_eq C 394 jd_L_law_389 (by decide) (fun _ => fin) (fun z => absurd (jl_cmp0 _) z)
theorem jwc_pair (C : ja_C (jb_mk l room_1 8 "MeasuredTensorsLaw" D H0 (jt_all cI cJ cT cX) u) jc_L_law) (X : jb_X H0 u.1.2.2) (hst : l.stackTraces = false) (hX : va_X b L xs u.1.2.2 H0) (hbl : b < H0.size) (hL : L ≤ 4096) (hk : k < 512) (hn : i + 8 ≤ L) (inv : jInv cI cJ cT cX x y o k w) (EX : jw_E (jb_mk l room_1 8 "MeasuredTensorsLaw" D H0 (jt_all cI cJ cT cX) u) jc_L_law) (kk : ∀ w' sz', jInv cI cJ cT cX x y o (k + 1) w' → ja (jb_mk l room_1 8 "MeasuredTensorsLaw" D H0 (jt_all cI cJ cT cX) u) w' sz' K S 872 [(4, .int (nI i)), (3, .ref o), (2, .ref y), (1, .ref x), (0, .ref b)] []) : ja (jb_mk l room_1 8 "MeasuredTensorsLaw" D H0 (jt_all cI cJ cT cX) u) w sz (K + 21) (S + 9753) 397 [(4, .int (nI i)), (3, .ref o), (2, .ref y), (1, .ref x), (0, .ref b)] [] := by
  refine ja_bd (fun bd => ?_)
  obtain ⟨σ, P, A, n, n2, th, rk, N, hw, hm⟩ := inv
  obtain ⟨hx, hN, ⟨g, ho, -⟩, hP, hO⟩ := id hm
  have hc := hw.2.1
  have hi := hw.2.2
  refine ja_aload_n C jd_L_law_397 3 rfl ?_
  refine ja_aload_n C jd_L_law_398 4 rfl ?_
  refine ja_iload C jd_L_law_399 0 rfl ?_
  refine ja_iconst C (nI 1) jd_L_law_401 (by decide) ?_
  refine ja_iaddN C jd_L_law_402 ?_
  refine ja_sld C hX hbl (by omega) (by omega) jd_L_law_403 ?_
  refine ja_aload_n C jd_L_law_404 4 rfl ?_
  refine ja_iload C jd_L_law_405 0 rfl ?_
  refine ja_iconst C (nI 2) jd_L_law_407 (by decide) ?_
  refine ja_iaddN C jd_L_law_408 ?_
  refine ja_sld C hX hbl (by omega) (by omega) jd_L_law_409 ?_
  refine ja_aload_n C jd_L_law_410 4 rfl ?_
  refine ja_iload C jd_L_law_411 0 rfl ?_
  refine ja_iconst C (nI 3) jd_L_law_413 (by decide) ?_
  refine ja_iaddN C jd_L_law_414 ?_
  refine ja_sld C hX hbl (by omega) (by omega) jd_L_law_415 ?_
  refine ja_aload_n C jd_L_law_416 1 rfl ?_
  refine jb_callSX (kc := K + 16) (ks := S + 9728) (mc := 5) (ms := 25) (As := [.ref x, .int (xs (i + 1)), .int (xs (i + 2)), .int (xs (i + 3)), .ref o]) (rest := []) C X jk_L_85 (jh_pair hst hx (by omega) ho (bd _ _ ho) (fun z => (hP o z).2.2.1 rfl)) jd_L_law_417 rfl rfl ⟨by decide, by decide⟩ (Nat.le_of_ble_eq_true rfl) (fun v w1 z1 hp => ?_)
  obtain ⟨y1, th1, σ1, e1, a1, q1⟩ := hp
  rw [e1]
  refine ja_bd (fun bd1 => ?_)
  obtain ⟨P1, hm1⟩ := jMid.cls hm bd q1
  obtain ⟨hx1, hN1, ⟨g1, ho1, hg1⟩, hP1, hO1⟩ := id hm1
  obtain ⟨fs1, hy1⟩ := hN1.obj
  refine ja_istore C [(5, .int th1), (4, .int (nI i)), (3, .ref o), (2, .ref y), (1, .ref x), (0, .ref b)] jd_L_law_420 (Nat.le_of_ble_eq_true rfl) rfl ?_
  refine ja_aload_n C jd_L_law_422 3 rfl ?_
  refine ja_aload_n C jd_L_law_423 5 rfl ?_
  refine ja_iload C jd_L_law_424 1 rfl ?_
  refine ja_iconst C (nI 1) jd_L_law_426 (by decide) ?_
  refine ja_iaddN C jd_L_law_427 ?_
  refine ja_sld C hX hbl (by omega) (by omega) jd_L_law_428 ?_
  refine ja_aload_n C jd_L_law_429 5 rfl ?_
  refine ja_iload C jd_L_law_430 1 rfl ?_
  refine ja_iconst C (nI 2) jd_L_law_432 (by decide) ?_
  refine ja_iaddN C jd_L_law_433 ?_
  refine ja_sld C hX hbl (by omega) (by omega) jd_L_law_434 ?_
  refine ja_aload_n C jd_L_law_435 5 rfl ?_
  refine ja_iload C jd_L_law_436 1 rfl ?_
  refine ja_iconst C (nI 3) jd_L_law_438 (by decide) ?_
  refine ja_iaddN C jd_L_law_439 ?_
  refine ja_sld C hX hbl (by omega) (by omega) jd_L_law_440 ?_
  refine jb_callV (kc := K) (ks := S) (mc := 16) (ms := 9728) (As := [.int (xs (i + 1)), .int (xs (i + 2)), .int (xs (i + 3))]) (rest := []) C X jk_L_88 hy1 rfl (jn_pair hN1 (by omega)) jd_L_law_441 rfl rfl ⟨by decide, by decide⟩ (Nat.le_of_ble_eq_true rfl) (fun v w2 z2 hp => ?_)
  obtain ⟨y2, th2, σ2, e2, a2, q2⟩ := hp
  rw [e2]
  obtain ⟨A2, n9, n29, rk2, N2, hm2⟩ := jMid.rfc hm1 bd1 q2
  have hD := jDetT.pair _ _ _ _ _ _ a1 a2
  refine ja_istore C [(6, .int y2), (5, .int th1), (4, .int (nI i)), (3, .ref o), (2, .ref y), (1, .ref x), (0, .ref b)] jd_L_law_444 (Nat.le_of_ble_eq_true rfl) rfl ?_
  refine ja_goto C 872 jd_L_law_446 (by decide) ?_
  refine ja_lv (lv' := [(4, .int (nI i)), (3, .ref o), (2, .ref y), (1, .ref x), (0, .ref b)]) (fun q hq => List.mem_cons_of_mem _ (List.mem_cons_of_mem _ hq)) (kk _ _ ?_)
  exact jInv.next hm2 hD.2.1 (jA_pair.step (by omega) a2) hw
theorem jwc_turned (C : ja_C (jb_mk l room_1 8 "MeasuredTensorsLaw" D H0 (jt_all cI cJ cT cX) u) jc_L_law) (X : jb_X H0 u.1.2.2) (hst : l.stackTraces = false) (hX : va_X b L xs u.1.2.2 H0) (hbl : b < H0.size) (hL : L ≤ 4096) (hk : k < 512) (hn : i + 8 ≤ L) (inv : jInv cI cJ cT cX x y o k w) (EX : jw_E (jb_mk l room_1 8 "MeasuredTensorsLaw" D H0 (jt_all cI cJ cT cX) u) jc_L_law) (kk : ∀ w' sz', jInv cI cJ cT cX x y o (k + 1) w' → ja (jb_mk l room_1 8 "MeasuredTensorsLaw" D H0 (jt_all cI cJ cT cX) u) w' sz' K S 872 [(4, .int (nI i)), (3, .ref o), (2, .ref y), (1, .ref x), (0, .ref b)] []) : ja (jb_mk l room_1 8 "MeasuredTensorsLaw" D H0 (jt_all cI cJ cT cX) u) w sz (K + 21) (S + 9753) 449 [(4, .int (nI i)), (3, .ref o), (2, .ref y), (1, .ref x), (0, .ref b)] [] := by
  refine ja_bd (fun bd => ?_)
  obtain ⟨σ, P, A, n, n2, th, rk, N, hw, hm⟩ := inv
  obtain ⟨hx, hN, ⟨g, ho, -⟩, hP, hO⟩ := id hm
  have hc := hw.2.1
  have hi := hw.2.2
  refine ja_aload_n C jd_L_law_449 3 rfl ?_
  refine ja_aload_n C jd_L_law_450 4 rfl ?_
  refine ja_iload C jd_L_law_451 0 rfl ?_
  refine ja_iconst C (nI 1) jd_L_law_453 (by decide) ?_
  refine ja_iaddN C jd_L_law_454 ?_
  refine ja_sld C hX hbl (by omega) (by omega) jd_L_law_455 ?_
  refine ja_aload_n C jd_L_law_456 1 rfl ?_
  refine jb_callSX (kc := K + 16) (ks := S + 9728) (mc := 5) (ms := 25) (As := [.ref x, .int (xs (i + 1)), .ref o]) (rest := []) C X jk_L_89 (jh_turned hst hx (by omega) ho (bd _ _ ho) (fun z => (hP o z).2.2.1 rfl)) jd_L_law_457 rfl rfl ⟨by decide, by decide⟩ (Nat.le_of_ble_eq_true rfl) (fun v w1 z1 hp => ?_)
  obtain ⟨y1, th1, σ1, e1, a1, q1⟩ := hp
  rw [e1]
  refine ja_bd (fun bd1 => ?_)
  obtain ⟨P1, hm1⟩ := jMid.cls hm bd q1
  obtain ⟨hx1, hN1, ⟨g1, ho1, hg1⟩, hP1, hO1⟩ := id hm1
  obtain ⟨fs1, hy1⟩ := hN1.obj
  obtain ⟨s1, V1, VL1, hM1, -⟩ := id hN1
  refine ja_istore C [(5, .int th1), (4, .int (nI i)), (3, .ref o), (2, .ref y), (1, .ref x), (0, .ref b)] jd_L_law_460 (Nat.le_of_ble_eq_true rfl) rfl ?_
  refine ja_aload_n C jd_L_law_462 3 rfl ?_
  refine ja_aload_n C jd_L_law_463 5 rfl ?_
  refine ja_iload C jd_L_law_464 1 rfl ?_
  refine ja_iconst C (nI 1) jd_L_law_466 (by decide) ?_
  refine ja_iaddN C jd_L_law_467 ?_
  refine ja_sld C hX hbl (by omega) (by omega) jd_L_law_468 ?_
  refine jb_callV (kc := K) (ks := S) (mc := 16) (ms := 9728) (As := [.int (xs (i + 1))]) (rest := []) C X jk_L_92 hy1 rfl (jy_turned hM1 (by omega)) jd_L_law_469 rfl rfl ⟨by decide, by decide⟩ (Nat.le_of_ble_eq_true rfl) (fun v w2 z2 hp => ?_)
  obtain ⟨y2, th2, σ2, e2, a2, q2⟩ := hp
  rw [e2]
  obtain ⟨A2, n9, n29, rk2, N2, hm2⟩ := jMid.rfc hm1 bd1 q2
  have hD := jDetT.turned (by omega) _ _ _ _ _ _ a1 a2
  refine ja_istore C [(6, .int y2), (5, .int th1), (4, .int (nI i)), (3, .ref o), (2, .ref y), (1, .ref x), (0, .ref b)] jd_L_law_472 (Nat.le_of_ble_eq_true rfl) rfl ?_
  refine ja_goto C 872 jd_L_law_474 (by decide) ?_
  refine ja_lv (lv' := [(4, .int (nI i)), (3, .ref o), (2, .ref y), (1, .ref x), (0, .ref b)]) (fun q hq => List.mem_cons_of_mem _ (List.mem_cons_of_mem _ hq)) (kk _ _ ?_)
  exact jInv.next hm2 hD.2.1 (jA_turned.step (by omega) a2) hw
theorem jwc_over (C : ja_C (jb_mk l room_1 8 "MeasuredTensorsLaw" D H0 (jt_all cI cJ cT cX) u) jc_L_law) (X : jb_X H0 u.1.2.2) (hst : l.stackTraces = false) (hX : va_X b L xs u.1.2.2 H0) (hbl : b < H0.size) (hL : L ≤ 4096) (hk : k < 512) (hn : i + 8 ≤ L) (inv : jInv cI cJ cT cX x y o k w) (EX : jw_E (jb_mk l room_1 8 "MeasuredTensorsLaw" D H0 (jt_all cI cJ cT cX) u) jc_L_law) (kk : ∀ w' sz', jInv cI cJ cT cX x y o (k + 1) w' → ja (jb_mk l room_1 8 "MeasuredTensorsLaw" D H0 (jt_all cI cJ cT cX) u) w' sz' K S 872 [(4, .int (nI i)), (3, .ref o), (2, .ref y), (1, .ref x), (0, .ref b)] []) : ja (jb_mk l room_1 8 "MeasuredTensorsLaw" D H0 (jt_all cI cJ cT cX) u) w sz (K + 21) (S + 9753) 477 [(4, .int (nI i)), (3, .ref o), (2, .ref y), (1, .ref x), (0, .ref b)] [] := by
  refine ja_bd (fun bd => ?_)
  obtain ⟨σ, P, A, n, n2, th, rk, N, hw, hm⟩ := inv
  obtain ⟨hx, hN, ⟨g, ho, -⟩, hP, hO⟩ := id hm
  have hc := hw.2.1
  have hi := hw.2.2
  refine ja_aload_n C jd_L_law_477 3 rfl ?_
  refine ja_aload_n C jd_L_law_478 4 rfl ?_
  refine ja_iload C jd_L_law_479 0 rfl ?_
  refine ja_iconst C (nI 1) jd_L_law_481 (by decide) ?_
  refine ja_iaddN C jd_L_law_482 ?_
  refine ja_sld C hX hbl (by omega) (by omega) jd_L_law_483 ?_
  refine ja_aload_n C jd_L_law_484 4 rfl ?_
  refine ja_iload C jd_L_law_485 0 rfl ?_
  refine ja_iconst C (nI 2) jd_L_law_487 (by decide) ?_
  refine ja_iaddN C jd_L_law_488 ?_
  refine ja_sld C hX hbl (by omega) (by omega) jd_L_law_489 ?_
  refine ja_aload_n C jd_L_law_490 4 rfl ?_
  refine ja_iload C jd_L_law_491 0 rfl ?_
  refine ja_iconst C (nI 3) jd_L_law_493 (by decide) ?_
  refine ja_iaddN C jd_L_law_494 ?_
  refine ja_sld C hX hbl (by omega) (by omega) jd_L_law_495 ?_
  refine ja_aload_n C jd_L_law_496 1 rfl ?_
  refine jb_callSX (kc := K + 16) (ks := S + 9728) (mc := 5) (ms := 25) (As := [.ref x, .int (xs (i + 1)), .int (xs (i + 2)), .int (xs (i + 3)), .ref o]) (rest := []) C X jk_L_93 (jh_over hst hx (by omega) ho (bd _ _ ho) (fun z => (hP o z).2.2.1 rfl)) jd_L_law_497 rfl rfl ⟨by decide, by decide⟩ (Nat.le_of_ble_eq_true rfl) (fun v w1 z1 hp => ?_)
  obtain ⟨y1, th1, σ1, e1, a1, q1⟩ := hp
  rw [e1]
  refine ja_bd (fun bd1 => ?_)
  obtain ⟨P1, hm1⟩ := jMid.cls hm bd q1
  obtain ⟨hx1, hN1, ⟨g1, ho1, hg1⟩, hP1, hO1⟩ := id hm1
  obtain ⟨fs1, hy1⟩ := hN1.obj
  refine ja_istore C [(5, .int th1), (4, .int (nI i)), (3, .ref o), (2, .ref y), (1, .ref x), (0, .ref b)] jd_L_law_500 (Nat.le_of_ble_eq_true rfl) rfl ?_
  refine ja_aload_n C jd_L_law_502 3 rfl ?_
  refine ja_aload_n C jd_L_law_503 5 rfl ?_
  refine ja_iload C jd_L_law_504 1 rfl ?_
  refine ja_iconst C (nI 1) jd_L_law_506 (by decide) ?_
  refine ja_iaddN C jd_L_law_507 ?_
  refine ja_sld C hX hbl (by omega) (by omega) jd_L_law_508 ?_
  refine ja_aload_n C jd_L_law_509 5 rfl ?_
  refine ja_iload C jd_L_law_510 1 rfl ?_
  refine ja_iconst C (nI 2) jd_L_law_512 (by decide) ?_
  refine ja_iaddN C jd_L_law_513 ?_
  refine ja_sld C hX hbl (by omega) (by omega) jd_L_law_514 ?_
  refine ja_aload_n C jd_L_law_515 5 rfl ?_
  refine ja_iload C jd_L_law_516 1 rfl ?_
  refine ja_iconst C (nI 3) jd_L_law_518 (by decide) ?_
  refine ja_iaddN C jd_L_law_519 ?_
  refine ja_sld C hX hbl (by omega) (by omega) jd_L_law_520 ?_
  refine jb_callV (kc := K) (ks := S) (mc := 16) (ms := 9728) (As := [.int (xs (i + 1)), .int (xs (i + 2)), .int (xs (i + 3))]) (rest := []) C X jk_L_95 hy1 rfl (jn_over hN1 (by omega)) jd_L_law_521 rfl rfl ⟨by decide, by decide⟩ (Nat.le_of_ble_eq_true rfl) (fun v w2 z2 hp => ?_)
  obtain ⟨y2, th2, σ2, e2, a2, q2⟩ := hp
  rw [e2]
  obtain ⟨A2, n9, n29, rk2, N2, hm2⟩ := jMid.rfc hm1 bd1 q2
  have hD := jDetT.over _ _ _ _ _ _ a1 a2
  refine ja_istore C [(6, .int y2), (5, .int th1), (4, .int (nI i)), (3, .ref o), (2, .ref y), (1, .ref x), (0, .ref b)] jd_L_law_524 (Nat.le_of_ble_eq_true rfl) rfl ?_
  refine ja_goto C 872 jd_L_law_526 (by decide) ?_
  refine ja_lv (lv' := [(4, .int (nI i)), (3, .ref o), (2, .ref y), (1, .ref x), (0, .ref b)]) (fun q hq => List.mem_cons_of_mem _ (List.mem_cons_of_mem _ hq)) (kk _ _ ?_)
  exact jInv.next hm2 hD.2.1 (jA_over.step (by omega) a2) hw
theorem jwc_call (C : ja_C (jb_mk l room_1 8 "MeasuredTensorsLaw" D H0 (jt_all cI cJ cT cX) u) jc_L_law) (X : jb_X H0 u.1.2.2) (hst : l.stackTraces = false) (hX : va_X b L xs u.1.2.2 H0) (hbl : b < H0.size) (hL : L ≤ 4096) (hk : k < 512) (hn : i + 8 ≤ L) (inv : jInv cI cJ cT cX x y o k w) (EX : jw_E (jb_mk l room_1 8 "MeasuredTensorsLaw" D H0 (jt_all cI cJ cT cX) u) jc_L_law) (kk : ∀ w' sz', jInv cI cJ cT cX x y o (k + 1) w' → ja (jb_mk l room_1 8 "MeasuredTensorsLaw" D H0 (jt_all cI cJ cT cX) u) w' sz' K S 872 [(4, .int (nI i)), (3, .ref o), (2, .ref y), (1, .ref x), (0, .ref b)] []) : ja (jb_mk l room_1 8 "MeasuredTensorsLaw" D H0 (jt_all cI cJ cT cX) u) w sz (K + 21) (S + 9753) 529 [(4, .int (nI i)), (3, .ref o), (2, .ref y), (1, .ref x), (0, .ref b)] [] := by
  refine ja_bd (fun bd => ?_)
  obtain ⟨σ, P, A, n, n2, th, rk, N, hw, hm⟩ := inv
  obtain ⟨hx, hN, ⟨g, ho, -⟩, hP, hO⟩ := id hm
  have hc := hw.2.1
  have hi := hw.2.2
  refine ja_aload_n C jd_L_law_529 3 rfl ?_
  refine ja_aload_n C jd_L_law_530 4 rfl ?_
  refine ja_iload C jd_L_law_531 0 rfl ?_
  refine ja_iconst C (nI 1) jd_L_law_533 (by decide) ?_
  refine ja_iaddN C jd_L_law_534 ?_
  refine ja_sld C hX hbl (by omega) (by omega) jd_L_law_535 ?_
  refine ja_aload_n C jd_L_law_536 4 rfl ?_
  refine ja_iload C jd_L_law_537 0 rfl ?_
  refine ja_iconst C (nI 2) jd_L_law_539 (by decide) ?_
  refine ja_iaddN C jd_L_law_540 ?_
  refine ja_sld C hX hbl (by omega) (by omega) jd_L_law_541 ?_
  refine ja_aload_n C jd_L_law_542 4 rfl ?_
  refine ja_iload C jd_L_law_543 0 rfl ?_
  refine ja_iconst C (nI 3) jd_L_law_545 (by decide) ?_
  refine ja_iaddN C jd_L_law_546 ?_
  refine ja_sld C hX hbl (by omega) (by omega) jd_L_law_547 ?_
  refine ja_aload_n C jd_L_law_548 4 rfl ?_
  refine ja_iload C jd_L_law_549 0 rfl ?_
  refine ja_iconst C (nI 4) jd_L_law_551 (by decide) ?_
  refine ja_iaddN C jd_L_law_552 ?_
  refine ja_sld C hX hbl (by omega) (by omega) jd_L_law_553 ?_
  refine ja_aload_n C jd_L_law_554 4 rfl ?_
  refine ja_iload C jd_L_law_555 0 rfl ?_
  refine ja_iconst C (nI 5) jd_L_law_557 (by decide) ?_
  refine ja_iaddN C jd_L_law_558 ?_
  refine ja_sld C hX hbl (by omega) (by omega) jd_L_law_559 ?_
  refine ja_aload_n C jd_L_law_560 4 rfl ?_
  refine ja_iload C jd_L_law_561 0 rfl ?_
  refine ja_bipush C (nI 6) jd_L_law_563 (by decide) ?_
  refine ja_iaddN C jd_L_law_565 ?_
  refine ja_sld C hX hbl (by omega) (by omega) jd_L_law_566 ?_
  refine ja_aload_n C jd_L_law_567 4 rfl ?_
  refine ja_iload C jd_L_law_568 0 rfl ?_
  refine ja_bipush C (nI 7) jd_L_law_570 (by decide) ?_
  refine ja_iaddN C jd_L_law_572 ?_
  refine ja_sld C hX hbl (by omega) (by omega) jd_L_law_573 ?_
  refine ja_aload_n C jd_L_law_574 1 rfl ?_
  refine jb_callSX (kc := K + 16) (ks := S + 9728) (mc := 5) (ms := 25) (As := [.ref x, .int (xs (i + 1)), .int (xs (i + 2)), .int (xs (i + 3)), .int (xs (i + 4)), .int (xs (i + 5)), .int (xs (i + 6)), .int (xs (i + 7)), .ref o]) (rest := []) C X jk_L_96 (jh_call hst hx (by omega) ho (bd _ _ ho) (fun z => (hP o z).2.2.1 rfl)) jd_L_law_575 rfl rfl ⟨by decide, by decide⟩ (Nat.le_of_ble_eq_true rfl) (fun v w1 z1 hp => ?_)
  obtain ⟨y1, th1, σ1, e1, a1, q1⟩ := hp
  rw [e1]
  refine ja_bd (fun bd1 => ?_)
  obtain ⟨P1, hm1⟩ := jMid.cls hm bd q1
  obtain ⟨hx1, hN1, ⟨g1, ho1, hg1⟩, hP1, hO1⟩ := id hm1
  obtain ⟨fs1, hy1⟩ := hN1.obj
  refine ja_istore C [(5, .int th1), (4, .int (nI i)), (3, .ref o), (2, .ref y), (1, .ref x), (0, .ref b)] jd_L_law_578 (Nat.le_of_ble_eq_true rfl) rfl ?_
  refine ja_aload_n C jd_L_law_580 3 rfl ?_
  refine ja_aload_n C jd_L_law_581 5 rfl ?_
  refine ja_iload C jd_L_law_582 1 rfl ?_
  refine ja_iconst C (nI 1) jd_L_law_584 (by decide) ?_
  refine ja_iaddN C jd_L_law_585 ?_
  refine ja_sld C hX hbl (by omega) (by omega) jd_L_law_586 ?_
  refine ja_aload_n C jd_L_law_587 5 rfl ?_
  refine ja_iload C jd_L_law_588 1 rfl ?_
  refine ja_iconst C (nI 2) jd_L_law_590 (by decide) ?_
  refine ja_iaddN C jd_L_law_591 ?_
  refine ja_sld C hX hbl (by omega) (by omega) jd_L_law_592 ?_
  refine ja_aload_n C jd_L_law_593 5 rfl ?_
  refine ja_iload C jd_L_law_594 1 rfl ?_
  refine ja_iconst C (nI 3) jd_L_law_596 (by decide) ?_
  refine ja_iaddN C jd_L_law_597 ?_
  refine ja_sld C hX hbl (by omega) (by omega) jd_L_law_598 ?_
  refine ja_aload_n C jd_L_law_599 5 rfl ?_
  refine ja_iload C jd_L_law_600 1 rfl ?_
  refine ja_iconst C (nI 4) jd_L_law_602 (by decide) ?_
  refine ja_iaddN C jd_L_law_603 ?_
  refine ja_sld C hX hbl (by omega) (by omega) jd_L_law_604 ?_
  refine ja_aload_n C jd_L_law_605 5 rfl ?_
  refine ja_iload C jd_L_law_606 1 rfl ?_
  refine ja_iconst C (nI 5) jd_L_law_608 (by decide) ?_
  refine ja_iaddN C jd_L_law_609 ?_
  refine ja_sld C hX hbl (by omega) (by omega) jd_L_law_610 ?_
  refine ja_aload_n C jd_L_law_611 5 rfl ?_
  refine ja_iload C jd_L_law_612 1 rfl ?_
  refine ja_bipush C (nI 6) jd_L_law_614 (by decide) ?_
  refine ja_iaddN C jd_L_law_616 ?_
  refine ja_sld C hX hbl (by omega) (by omega) jd_L_law_617 ?_
  refine ja_aload_n C jd_L_law_618 5 rfl ?_
  refine ja_iload C jd_L_law_619 1 rfl ?_
  refine ja_bipush C (nI 7) jd_L_law_621 (by decide) ?_
  refine ja_iaddN C jd_L_law_623 ?_
  refine ja_sld C hX hbl (by omega) (by omega) jd_L_law_624 ?_
  refine jb_callV (kc := K) (ks := S) (mc := 16) (ms := 9728) (As := [.int (xs (i + 1)), .int (xs (i + 2)), .int (xs (i + 3)), .int (xs (i + 4)), .int (xs (i + 5)), .int (xs (i + 6)), .int (xs (i + 7))]) (rest := []) C X jk_L_99 hy1 rfl (jn_call hN1 (by omega)) jd_L_law_625 rfl rfl ⟨by decide, by decide⟩ (Nat.le_of_ble_eq_true rfl) (fun v w2 z2 hp => ?_)
  obtain ⟨y2, th2, σ2, e2, a2, q2⟩ := hp
  rw [e2]
  obtain ⟨A2, n9, n29, rk2, N2, hm2⟩ := jMid.rfc hm1 bd1 q2
  have hD := jDetT.call _ _ _ _ _ _ a1 a2
  refine ja_istore C [(6, .int y2), (5, .int th1), (4, .int (nI i)), (3, .ref o), (2, .ref y), (1, .ref x), (0, .ref b)] jd_L_law_628 (Nat.le_of_ble_eq_true rfl) rfl ?_
  refine ja_goto C 872 jd_L_law_630 (by decide) ?_
  refine ja_lv (lv' := [(4, .int (nI i)), (3, .ref o), (2, .ref y), (1, .ref x), (0, .ref b)]) (fun q hq => List.mem_cons_of_mem _ (List.mem_cons_of_mem _ hq)) (kk _ _ ?_)
  exact jInv.next hm2 hD.2.1 (jA_call.step (by omega) a2) hw
theorem jwc_reshape (C : ja_C (jb_mk l room_1 8 "MeasuredTensorsLaw" D H0 (jt_all cI cJ cT cX) u) jc_L_law) (X : jb_X H0 u.1.2.2) (hst : l.stackTraces = false) (hX : va_X b L xs u.1.2.2 H0) (hbl : b < H0.size) (hL : L ≤ 4096) (hk : k < 512) (hn : i + 8 ≤ L) (inv : jInv cI cJ cT cX x y o k w) (EX : jw_E (jb_mk l room_1 8 "MeasuredTensorsLaw" D H0 (jt_all cI cJ cT cX) u) jc_L_law) (kk : ∀ w' sz', jInv cI cJ cT cX x y o (k + 1) w' → ja (jb_mk l room_1 8 "MeasuredTensorsLaw" D H0 (jt_all cI cJ cT cX) u) w' sz' K S 872 [(4, .int (nI i)), (3, .ref o), (2, .ref y), (1, .ref x), (0, .ref b)] []) : ja (jb_mk l room_1 8 "MeasuredTensorsLaw" D H0 (jt_all cI cJ cT cX) u) w sz (K + 21) (S + 9753) 633 [(4, .int (nI i)), (3, .ref o), (2, .ref y), (1, .ref x), (0, .ref b)] [] := by
  refine ja_bd (fun bd => ?_)
  obtain ⟨σ, P, A, n, n2, th, rk, N, hw, hm⟩ := inv
  obtain ⟨hx, hN, ⟨g, ho, -⟩, hP, hO⟩ := id hm
  have hc := hw.2.1
  have hi := hw.2.2
  refine ja_aload_n C jd_L_law_633 3 rfl ?_
  refine ja_aload_n C jd_L_law_634 4 rfl ?_
  refine ja_iload C jd_L_law_635 0 rfl ?_
  refine ja_iconst C (nI 1) jd_L_law_637 (by decide) ?_
  refine ja_iaddN C jd_L_law_638 ?_
  refine ja_sld C hX hbl (by omega) (by omega) jd_L_law_639 ?_
  refine ja_aload_n C jd_L_law_640 4 rfl ?_
  refine ja_iload C jd_L_law_641 0 rfl ?_
  refine ja_iconst C (nI 2) jd_L_law_643 (by decide) ?_
  refine ja_iaddN C jd_L_law_644 ?_
  refine ja_sld C hX hbl (by omega) (by omega) jd_L_law_645 ?_
  refine ja_aload_n C jd_L_law_646 4 rfl ?_
  refine ja_iload C jd_L_law_647 0 rfl ?_
  refine ja_iconst C (nI 3) jd_L_law_649 (by decide) ?_
  refine ja_iaddN C jd_L_law_650 ?_
  refine ja_sld C hX hbl (by omega) (by omega) jd_L_law_651 ?_
  refine ja_aload_n C jd_L_law_652 4 rfl ?_
  refine ja_iload C jd_L_law_653 0 rfl ?_
  refine ja_iconst C (nI 4) jd_L_law_655 (by decide) ?_
  refine ja_iaddN C jd_L_law_656 ?_
  refine ja_sld C hX hbl (by omega) (by omega) jd_L_law_657 ?_
  refine ja_aload_n C jd_L_law_658 4 rfl ?_
  refine ja_iload C jd_L_law_659 0 rfl ?_
  refine ja_iconst C (nI 5) jd_L_law_661 (by decide) ?_
  refine ja_iaddN C jd_L_law_662 ?_
  refine ja_sld C hX hbl (by omega) (by omega) jd_L_law_663 ?_
  refine ja_aload_n C jd_L_law_664 4 rfl ?_
  refine ja_iload C jd_L_law_665 0 rfl ?_
  refine ja_bipush C (nI 6) jd_L_law_667 (by decide) ?_
  refine ja_iaddN C jd_L_law_669 ?_
  refine ja_sld C hX hbl (by omega) (by omega) jd_L_law_670 ?_
  refine ja_aload_n C jd_L_law_671 1 rfl ?_
  refine jb_callSX (kc := K + 16) (ks := S + 9728) (mc := 5) (ms := 25) (As := [.ref x, .int (xs (i + 1)), .int (xs (i + 2)), .int (xs (i + 3)), .int (xs (i + 4)), .int (xs (i + 5)), .int (xs (i + 6)), .ref o]) (rest := []) C X jk_L_100 (jh_reshape hst hx (by omega) ho (bd _ _ ho) (fun z => (hP o z).2.2.1 rfl)) jd_L_law_672 rfl rfl ⟨by decide, by decide⟩ (Nat.le_of_ble_eq_true rfl) (fun v w1 z1 hp => ?_)
  obtain ⟨y1, th1, σ1, e1, a1, q1⟩ := hp
  rw [e1]
  refine ja_bd (fun bd1 => ?_)
  obtain ⟨P1, hm1⟩ := jMid.cls hm bd q1
  obtain ⟨hx1, hN1, ⟨g1, ho1, hg1⟩, hP1, hO1⟩ := id hm1
  obtain ⟨fs1, hy1⟩ := hN1.obj
  refine ja_istore C [(5, .int th1), (4, .int (nI i)), (3, .ref o), (2, .ref y), (1, .ref x), (0, .ref b)] jd_L_law_675 (Nat.le_of_ble_eq_true rfl) rfl ?_
  refine ja_aload_n C jd_L_law_677 3 rfl ?_
  refine ja_aload_n C jd_L_law_678 5 rfl ?_
  refine ja_iload C jd_L_law_679 1 rfl ?_
  refine ja_iconst C (nI 1) jd_L_law_681 (by decide) ?_
  refine ja_iaddN C jd_L_law_682 ?_
  refine ja_sld C hX hbl (by omega) (by omega) jd_L_law_683 ?_
  refine ja_aload_n C jd_L_law_684 5 rfl ?_
  refine ja_iload C jd_L_law_685 1 rfl ?_
  refine ja_iconst C (nI 2) jd_L_law_687 (by decide) ?_
  refine ja_iaddN C jd_L_law_688 ?_
  refine ja_sld C hX hbl (by omega) (by omega) jd_L_law_689 ?_
  refine ja_aload_n C jd_L_law_690 5 rfl ?_
  refine ja_iload C jd_L_law_691 1 rfl ?_
  refine ja_iconst C (nI 3) jd_L_law_693 (by decide) ?_
  refine ja_iaddN C jd_L_law_694 ?_
  refine ja_sld C hX hbl (by omega) (by omega) jd_L_law_695 ?_
  refine ja_aload_n C jd_L_law_696 5 rfl ?_
  refine ja_iload C jd_L_law_697 1 rfl ?_
  refine ja_iconst C (nI 4) jd_L_law_699 (by decide) ?_
  refine ja_iaddN C jd_L_law_700 ?_
  refine ja_sld C hX hbl (by omega) (by omega) jd_L_law_701 ?_
  refine ja_aload_n C jd_L_law_702 5 rfl ?_
  refine ja_iload C jd_L_law_703 1 rfl ?_
  refine ja_iconst C (nI 5) jd_L_law_705 (by decide) ?_
  refine ja_iaddN C jd_L_law_706 ?_
  refine ja_sld C hX hbl (by omega) (by omega) jd_L_law_707 ?_
  refine ja_aload_n C jd_L_law_708 5 rfl ?_
  refine ja_iload C jd_L_law_709 1 rfl ?_
  refine ja_bipush C (nI 6) jd_L_law_711 (by decide) ?_
  refine ja_iaddN C jd_L_law_713 ?_
  refine ja_sld C hX hbl (by omega) (by omega) jd_L_law_714 ?_
  refine jb_callV (kc := K) (ks := S) (mc := 16) (ms := 9728) (As := [.int (xs (i + 1)), .int (xs (i + 2)), .int (xs (i + 3)), .int (xs (i + 4)), .int (xs (i + 5)), .int (xs (i + 6))]) (rest := []) C X jk_L_102 hy1 rfl (jn_reshape hN1 (by omega)) jd_L_law_715 rfl rfl ⟨by decide, by decide⟩ (Nat.le_of_ble_eq_true rfl) (fun v w2 z2 hp => ?_)
  obtain ⟨y2, th2, σ2, e2, a2, q2⟩ := hp
  rw [e2]
  obtain ⟨A2, n9, n29, rk2, N2, hm2⟩ := jMid.rfc hm1 bd1 q2
  have hD := jDetT.reshape _ _ _ _ _ _ a1 a2
  refine ja_istore C [(6, .int y2), (5, .int th1), (4, .int (nI i)), (3, .ref o), (2, .ref y), (1, .ref x), (0, .ref b)] jd_L_law_718 (Nat.le_of_ble_eq_true rfl) rfl ?_
  refine ja_goto C 872 jd_L_law_720 (by decide) ?_
  refine ja_lv (lv' := [(4, .int (nI i)), (3, .ref o), (2, .ref y), (1, .ref x), (0, .ref b)]) (fun q hq => List.mem_cons_of_mem _ (List.mem_cons_of_mem _ hq)) (kk _ _ ?_)
  exact jInv.next hm2 hD.2.1 (jA_reshape.step (by omega) a2) hw
theorem jwc_loss (C : ja_C (jb_mk l room_1 8 "MeasuredTensorsLaw" D H0 (jt_all cI cJ cT cX) u) jc_L_law) (X : jb_X H0 u.1.2.2) (hst : l.stackTraces = false) (hX : va_X b L xs u.1.2.2 H0) (hbl : b < H0.size) (hL : L ≤ 4096) (hk : k < 512) (hn : i + 8 ≤ L) (inv : jInv cI cJ cT cX x y o k w) (EX : jw_E (jb_mk l room_1 8 "MeasuredTensorsLaw" D H0 (jt_all cI cJ cT cX) u) jc_L_law) (kk : ∀ w' sz', jInv cI cJ cT cX x y o (k + 1) w' → ja (jb_mk l room_1 8 "MeasuredTensorsLaw" D H0 (jt_all cI cJ cT cX) u) w' sz' K S 872 [(4, .int (nI i)), (3, .ref o), (2, .ref y), (1, .ref x), (0, .ref b)] []) : ja (jb_mk l room_1 8 "MeasuredTensorsLaw" D H0 (jt_all cI cJ cT cX) u) w sz (K + 21) (S + 9753) 723 [(4, .int (nI i)), (3, .ref o), (2, .ref y), (1, .ref x), (0, .ref b)] [] := by
  refine ja_bd (fun bd => ?_)
  obtain ⟨σ, P, A, n, n2, th, rk, N, hw, hm⟩ := inv
  obtain ⟨hx, hN, ⟨g, ho, -⟩, hP, hO⟩ := id hm
  have hc := hw.2.1
  have hi := hw.2.2
  refine ja_aload_n C jd_L_law_723 3 rfl ?_
  refine ja_aload_n C jd_L_law_724 4 rfl ?_
  refine ja_iload C jd_L_law_725 0 rfl ?_
  refine ja_iconst C (nI 1) jd_L_law_727 (by decide) ?_
  refine ja_iaddN C jd_L_law_728 ?_
  refine ja_sld C hX hbl (by omega) (by omega) jd_L_law_729 ?_
  refine ja_aload_n C jd_L_law_730 1 rfl ?_
  refine jb_callSX (kc := K + 16) (ks := S + 9728) (mc := 5) (ms := 25) (As := [.ref x, .int (xs (i + 1)), .ref o]) (rest := []) C X jk_L_103 (jh_loss hst hx ho (bd _ _ ho) (fun z => (hP o z).2.2.1 rfl)) jd_L_law_731 rfl rfl ⟨by decide, by decide⟩ (Nat.le_of_ble_eq_true rfl) (fun v w1 z1 hp => ?_)
  obtain ⟨th1, e1, q1⟩ := hp
  rw [e1]
  refine ja_bd (fun bd1 => ?_)
  obtain ⟨P1, hm1⟩ := jMid.cls hm bd q1
  obtain ⟨hx1, hN1, ⟨g1, ho1, hg1⟩, hP1, hO1⟩ := id hm1
  obtain ⟨fs1, hy1⟩ := hN1.obj
  refine ja_istore C [(5, .int th1), (4, .int (nI i)), (3, .ref o), (2, .ref y), (1, .ref x), (0, .ref b)] jd_L_law_734 (Nat.le_of_ble_eq_true rfl) rfl ?_
  refine ja_aload_n C jd_L_law_736 3 rfl ?_
  refine ja_aload_n C jd_L_law_737 5 rfl ?_
  refine ja_iload C jd_L_law_738 1 rfl ?_
  refine ja_iconst C (nI 1) jd_L_law_740 (by decide) ?_
  refine ja_iaddN C jd_L_law_741 ?_
  refine ja_sld C hX hbl (by omega) (by omega) jd_L_law_742 ?_
  refine ja_less (kc' := K + 0) (ks' := S + 0) (by omega) (by omega) ?_
  refine jb_callV (kc := K) (ks := S) (mc := 0) (ms := 0) (As := [.int (xs (i + 1))]) (rest := []) C X jk_L_105 hy1 rfl (jv_loss hN1 (by omega) hw.1) jd_L_law_743 rfl rfl ⟨by decide, by decide⟩ (Nat.le_of_ble_eq_true rfl) (fun v w2 z2 hp => ?_)
  obtain ⟨y2, th2, e2, q2⟩ := hp
  rw [e2]
  obtain ⟨A2, n9, n29, rk2, N2, hm2⟩ := jMid.rfc hm1 bd1 q2
  refine ja_istore C [(6, .int y2), (5, .int th1), (4, .int (nI i)), (3, .ref o), (2, .ref y), (1, .ref x), (0, .ref b)] jd_L_law_746 (Nat.le_of_ble_eq_true rfl) rfl ?_
  refine ja_goto C 872 jd_L_law_748 (by decide) ?_
  refine ja_lv (lv' := [(4, .int (nI i)), (3, .ref o), (2, .ref y), (1, .ref x), (0, .ref b)]) (fun q hq => List.mem_cons_of_mem _ (List.mem_cons_of_mem _ hq)) (kk _ _ ?_)
  exact jInv.next hm2 rfl jStep.rf hw
theorem jwc_told (C : ja_C (jb_mk l room_1 8 "MeasuredTensorsLaw" D H0 (jt_all cI cJ cT cX) u) jc_L_law) (X : jb_X H0 u.1.2.2) (hst : l.stackTraces = false) (hX : va_X b L xs u.1.2.2 H0) (hbl : b < H0.size) (hL : L ≤ 4096) (hk : k < 512) (hn : i + 8 ≤ L) (inv : jInv cI cJ cT cX x y o k w) (EX : jw_E (jb_mk l room_1 8 "MeasuredTensorsLaw" D H0 (jt_all cI cJ cT cX) u) jc_L_law) (kk : ∀ w' sz', jInv cI cJ cT cX x y o (k + 1) w' → ja (jb_mk l room_1 8 "MeasuredTensorsLaw" D H0 (jt_all cI cJ cT cX) u) w' sz' K S 872 [(4, .int (nI i)), (3, .ref o), (2, .ref y), (1, .ref x), (0, .ref b)] []) : ja (jb_mk l room_1 8 "MeasuredTensorsLaw" D H0 (jt_all cI cJ cT cX) u) w sz (K + 21) (S + 9753) 751 [(4, .int (nI i)), (3, .ref o), (2, .ref y), (1, .ref x), (0, .ref b)] [] := by
  refine ja_bd (fun bd => ?_)
  obtain ⟨σ, P, A, n, n2, th, rk, N, hw, hm⟩ := inv
  obtain ⟨hx, hN, ⟨g, ho, -⟩, hP, hO⟩ := id hm
  have hc := hw.2.1
  have hi := hw.2.2
  refine ja_aload_n C jd_L_law_751 3 rfl ?_
  refine ja_aload_n C jd_L_law_752 4 rfl ?_
  refine ja_iload C jd_L_law_753 0 rfl ?_
  refine ja_iconst C (nI 1) jd_L_law_755 (by decide) ?_
  refine ja_iaddN C jd_L_law_756 ?_
  refine ja_sld C hX hbl (by omega) (by omega) jd_L_law_757 ?_
  refine ja_aload_n C jd_L_law_758 4 rfl ?_
  refine ja_iload C jd_L_law_759 0 rfl ?_
  refine ja_iconst C (nI 2) jd_L_law_761 (by decide) ?_
  refine ja_iaddN C jd_L_law_762 ?_
  refine ja_sld C hX hbl (by omega) (by omega) jd_L_law_763 ?_
  refine ja_aload_n C jd_L_law_764 1 rfl ?_
  refine jb_callSX (kc := K + 16) (ks := S + 9728) (mc := 5) (ms := 25) (As := [.ref x, .int (xs (i + 1)), .int (xs (i + 2)), .ref o]) (rest := []) C X jk_L_106 (jh_told hst hx ho (bd _ _ ho) (fun z => (hP o z).2.2.1 rfl)) jd_L_law_765 rfl rfl ⟨by decide, by decide⟩ (Nat.le_of_ble_eq_true rfl) (fun v w1 z1 hp => ?_)
  obtain ⟨th1, e1, q1⟩ := hp
  rw [e1]
  refine ja_bd (fun bd1 => ?_)
  obtain ⟨P1, hm1⟩ := jMid.cls hm bd q1
  obtain ⟨hx1, hN1, ⟨g1, ho1, hg1⟩, hP1, hO1⟩ := id hm1
  obtain ⟨fs1, hy1⟩ := hN1.obj
  refine ja_istore C [(5, .int th1), (4, .int (nI i)), (3, .ref o), (2, .ref y), (1, .ref x), (0, .ref b)] jd_L_law_768 (Nat.le_of_ble_eq_true rfl) rfl ?_
  refine ja_aload_n C jd_L_law_770 3 rfl ?_
  refine ja_aload_n C jd_L_law_771 5 rfl ?_
  refine ja_iload C jd_L_law_772 1 rfl ?_
  refine ja_iconst C (nI 1) jd_L_law_774 (by decide) ?_
  refine ja_iaddN C jd_L_law_775 ?_
  refine ja_sld C hX hbl (by omega) (by omega) jd_L_law_776 ?_
  refine ja_aload_n C jd_L_law_777 5 rfl ?_
  refine ja_iload C jd_L_law_778 1 rfl ?_
  refine ja_iconst C (nI 2) jd_L_law_780 (by decide) ?_
  refine ja_iaddN C jd_L_law_781 ?_
  refine ja_sld C hX hbl (by omega) (by omega) jd_L_law_782 ?_
  refine ja_less (kc' := K + 0) (ks' := S + 0) (by omega) (by omega) ?_
  refine jb_callV (kc := K) (ks := S) (mc := 0) (ms := 0) (As := [.int (xs (i + 1)), .int (xs (i + 2))]) (rest := []) C X jk_L_108 hy1 rfl (jv_told hN1) jd_L_law_783 rfl rfl ⟨by decide, by decide⟩ (Nat.le_of_ble_eq_true rfl) (fun v w2 z2 hp => ?_)
  obtain ⟨y2, th2, e2, q2⟩ := hp
  rw [e2]
  obtain ⟨A2, n9, n29, rk2, N2, hm2⟩ := jMid.rfc hm1 bd1 q2
  refine ja_istore C [(6, .int y2), (5, .int th1), (4, .int (nI i)), (3, .ref o), (2, .ref y), (1, .ref x), (0, .ref b)] jd_L_law_786 (Nat.le_of_ble_eq_true rfl) rfl ?_
  refine ja_goto C 872 jd_L_law_788 (by decide) ?_
  refine ja_lv (lv' := [(4, .int (nI i)), (3, .ref o), (2, .ref y), (1, .ref x), (0, .ref b)]) (fun q hq => List.mem_cons_of_mem _ (List.mem_cons_of_mem _ hq)) (kk _ _ ?_)
  exact jInv.next hm2 rfl jStep.rf hw
theorem jwc_divisor (C : ja_C (jb_mk l room_1 8 "MeasuredTensorsLaw" D H0 (jt_all cI cJ cT cX) u) jc_L_law) (X : jb_X H0 u.1.2.2) (hst : l.stackTraces = false) (hX : va_X b L xs u.1.2.2 H0) (hbl : b < H0.size) (hL : L ≤ 4096) (hk : k < 512) (hn : i + 8 ≤ L) (inv : jInv cI cJ cT cX x y o k w) (EX : jw_E (jb_mk l room_1 8 "MeasuredTensorsLaw" D H0 (jt_all cI cJ cT cX) u) jc_L_law) (kk : ∀ w' sz', jInv cI cJ cT cX x y o (k + 1) w' → ja (jb_mk l room_1 8 "MeasuredTensorsLaw" D H0 (jt_all cI cJ cT cX) u) w' sz' K S 872 [(4, .int (nI i)), (3, .ref o), (2, .ref y), (1, .ref x), (0, .ref b)] []) : ja (jb_mk l room_1 8 "MeasuredTensorsLaw" D H0 (jt_all cI cJ cT cX) u) w sz (K + 21) (S + 9753) 791 [(4, .int (nI i)), (3, .ref o), (2, .ref y), (1, .ref x), (0, .ref b)] [] := by
  refine ja_bd (fun bd => ?_)
  obtain ⟨σ, P, A, n, n2, th, rk, N, hw, hm⟩ := inv
  obtain ⟨hx, hN, ⟨g, ho, -⟩, hP, hO⟩ := id hm
  have hc := hw.2.1
  have hi := hw.2.2
  refine ja_aload_n C jd_L_law_791 3 rfl ?_
  refine ja_aload_n C jd_L_law_792 4 rfl ?_
  refine ja_iload C jd_L_law_793 0 rfl ?_
  refine ja_iconst C (nI 1) jd_L_law_795 (by decide) ?_
  refine ja_iaddN C jd_L_law_796 ?_
  refine ja_sld C hX hbl (by omega) (by omega) jd_L_law_797 ?_
  refine ja_aload_n C jd_L_law_798 4 rfl ?_
  refine ja_iload C jd_L_law_799 0 rfl ?_
  refine ja_iconst C (nI 2) jd_L_law_801 (by decide) ?_
  refine ja_iaddN C jd_L_law_802 ?_
  refine ja_sld C hX hbl (by omega) (by omega) jd_L_law_803 ?_
  refine ja_ne0 C jd_L_law_804 jd_L_law_807 jd_L_law_808 jd_L_law_811 ?_
  refine ja_aload_n C jd_L_law_812 1 rfl ?_
  refine jb_callSX (kc := K + 16) (ks := S + 9728) (mc := 5) (ms := 25) (As := [.ref x, .int (xs (i + 1)), .int (if (xs (i + 2)) = 0 then nI 0 else nI 1), .ref o]) (rest := []) C X jk_L_109 (jh_divisor hst hx ho (bd _ _ ho) (fun z => (hP o z).2.2.1 rfl)) jd_L_law_813 rfl rfl ⟨by decide, by decide⟩ (Nat.le_of_ble_eq_true rfl) (fun v w1 z1 hp => ?_)
  obtain ⟨th1, e1, q1⟩ := hp
  rw [e1]
  refine ja_bd (fun bd1 => ?_)
  obtain ⟨P1, hm1⟩ := jMid.cls hm bd q1
  obtain ⟨hx1, hN1, ⟨g1, ho1, hg1⟩, hP1, hO1⟩ := id hm1
  obtain ⟨fs1, hy1⟩ := hN1.obj
  refine ja_istore C [(5, .int th1), (4, .int (nI i)), (3, .ref o), (2, .ref y), (1, .ref x), (0, .ref b)] jd_L_law_816 (Nat.le_of_ble_eq_true rfl) rfl ?_
  refine ja_aload_n C jd_L_law_818 3 rfl ?_
  refine ja_aload_n C jd_L_law_819 5 rfl ?_
  refine ja_iload C jd_L_law_820 1 rfl ?_
  refine ja_iconst C (nI 1) jd_L_law_822 (by decide) ?_
  refine ja_iaddN C jd_L_law_823 ?_
  refine ja_sld C hX hbl (by omega) (by omega) jd_L_law_824 ?_
  refine ja_aload_n C jd_L_law_825 5 rfl ?_
  refine ja_iload C jd_L_law_826 1 rfl ?_
  refine ja_iconst C (nI 2) jd_L_law_828 (by decide) ?_
  refine ja_iaddN C jd_L_law_829 ?_
  refine ja_sld C hX hbl (by omega) (by omega) jd_L_law_830 ?_
  refine ja_ne0 C jd_L_law_831 jd_L_law_834 jd_L_law_835 jd_L_law_838 ?_
  refine ja_less (kc' := K + 0) (ks' := S + 0) (by omega) (by omega) ?_
  refine jb_callV (kc := K) (ks := S) (mc := 0) (ms := 0) (As := [.int (xs (i + 1)), .int (if (xs (i + 2)) = 0 then nI 0 else nI 1)]) (rest := []) C X jk_L_112 hy1 rfl (jv_divisor hN1) jd_L_law_839 rfl rfl ⟨by decide, by decide⟩ (Nat.le_of_ble_eq_true rfl) (fun v w2 z2 hp => ?_)
  obtain ⟨y2, th2, e2, q2⟩ := hp
  rw [e2]
  obtain ⟨A2, n9, n29, rk2, N2, hm2⟩ := jMid.rfc hm1 bd1 q2
  refine ja_lstore C [(6, .long y2), (5, .int th1), (4, .int (nI i)), (3, .ref o), (2, .ref y), (1, .ref x), (0, .ref b)] jd_L_law_842 (Nat.le_of_ble_eq_true rfl) rfl ?_
  refine ja_goto C 872 jd_L_law_844 (by decide) ?_
  refine ja_lv (lv' := [(4, .int (nI i)), (3, .ref o), (2, .ref y), (1, .ref x), (0, .ref b)]) (fun q hq => List.mem_cons_of_mem _ (List.mem_cons_of_mem _ hq)) (kk _ _ ?_)
  exact jInv.next hm2 rfl jStep.rf hw
theorem jwc_all (C : ja_C (jb_mk l room_1 8 "MeasuredTensorsLaw" D H0 (jt_all cI cJ cT cX) u) jc_L_law) (X : jb_X H0 u.1.2.2) (hst : l.stackTraces = false) (hX : va_X b L xs u.1.2.2 H0) (hbl : b < H0.size) (hL : L ≤ 4096) (hk : k < 512) (hn : i + 8 ≤ L) (inv : jInv cI cJ cT cX x y o k w) (EX : jw_E (jb_mk l room_1 8 "MeasuredTensorsLaw" D H0 (jt_all cI cJ cT cX) u) jc_L_law) (kk : ∀ w' sz', jInv cI cJ cT cX x y o (k + 1) w' → ja (jb_mk l room_1 8 "MeasuredTensorsLaw" D H0 (jt_all cI cJ cT cX) u) w' sz' K S 872 [(4, .int (nI i)), (3, .ref o), (2, .ref y), (1, .ref x), (0, .ref b)] []) : ja (jb_mk l room_1 8 "MeasuredTensorsLaw" D H0 (jt_all cI cJ cT cX) u) w sz (K + 21) (S + 9753) 847 [(4, .int (nI i)), (3, .ref o), (2, .ref y), (1, .ref x), (0, .ref b)] [] := by
  refine ja_bd (fun bd => ?_)
  obtain ⟨σ, P, A, n, n2, th, rk, N, hw, hm⟩ := inv
  obtain ⟨hx, hN, ⟨g, ho, -⟩, hP, hO⟩ := id hm
  have hc := hw.2.1
  have hi := hw.2.2
  refine ja_aload_n C jd_L_law_847 3 rfl ?_
  refine ja_aload_n C jd_L_law_848 4 rfl ?_
  refine ja_iload C jd_L_law_849 0 rfl ?_
  refine ja_iconst C (nI 1) jd_L_law_851 (by decide) ?_
  refine ja_iaddN C jd_L_law_852 ?_
  refine ja_sld C hX hbl (by omega) (by omega) jd_L_law_853 ?_
  obtain ⟨dr, F, G, own, fT, ls, k9, f, m, tm, h⟩ := id hx
  refine jb_callV (kc := K + 21) (ks := S + 9753) (mc := 0) (ms := 0) (As := [.int (xs (i + 1))]) (rest := []) C X jk_L_113 h.obj rfl (jx_all h) jd_L_law_854 rfl rfl ⟨by decide, by decide⟩ (Nat.le_of_ble_eq_true rfl) (fun v w1 z1 hp => ?_)
  obtain ⟨⟨y1, e1⟩, q1⟩ := hp
  rw [e1]
  refine ja_bd (fun bd1 => ?_)
  obtain ⟨P1, hm1⟩ := jMid.cls hm bd (jXP.same (z := fun _ => True) q1 (bd _ _ ho) (fun z => (hP o z).2.2.1 rfl) ho trivial)
  obtain ⟨hx1, hN1, ⟨g1, ho1, hg1⟩, hP1, hO1⟩ := id hm1
  obtain ⟨fs1, hy1⟩ := hN1.obj
  refine ja_pop C jd_L_law_857 rfl ?_
  refine ja_aload_n C jd_L_law_858 2 rfl ?_
  refine ja_aload_n C jd_L_law_859 4 rfl ?_
  refine ja_iload C jd_L_law_860 0 rfl ?_
  refine ja_iconst C (nI 1) jd_L_law_862 (by decide) ?_
  refine ja_iaddN C jd_L_law_863 ?_
  refine ja_sld C hX hbl (by omega) (by omega) jd_L_law_864 ?_
  refine ja_less (kc' := K + 0) (ks' := S + 0) (by omega) (by omega) ?_
  refine jb_callV (kc := K) (ks := S) (mc := 0) (ms := 0) (As := [.int (xs (i + 1))]) (rest := []) C X jk_L_116 hy1 rfl (jv_all hN1) jd_L_law_865 rfl rfl ⟨by decide, by decide⟩ (Nat.le_of_ble_eq_true rfl) (fun v w2 z2 hp => ?_)
  obtain ⟨y2, th2, e2, q2⟩ := hp
  rw [e2]
  obtain ⟨A2, n9, n29, rk2, N2, hm2⟩ := jMid.rfc hm1 bd1 q2
  refine ja_pop C jd_L_law_868 rfl ?_
  refine ja_goto C 872 jd_L_law_869 (by decide) ?_
  refine ja_lv (lv' := [(4, .int (nI i)), (3, .ref o), (2, .ref y), (1, .ref x), (0, .ref b)]) (fun q hq => hq) (kk _ _ ?_)
  exact jInv.next hm2 rfl jStep.rf hw
end LC
