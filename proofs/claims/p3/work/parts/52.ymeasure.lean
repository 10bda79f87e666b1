/-! THE REFERENCE: measure, loss (what they answer is any) -/
/-- the order of the locals doesn't matter -/
theorem ja_pick {g : ja_G} {w : jb_W} {sz kc ks pc : Nat} {lv' : List (Nat × Value)} {st : List Value} (ps : List Nat) (h : ja g w sz kc ks pc (lv_pick lv' ps) st) : ja g w sz kc ks pc lv' st := fun H locs cells slots ls a1 a2 a3 a4 hl => h H locs cells slots ls a1 a2 a3 a4 ⟨hl.1, hl.2.1, fun q hq => by
  obtain ⟨k, -, hk⟩ := List.mem_filterMap.mp hq
  exact hl.2.2 q (List.mem_of_getElem? hk)⟩
theorem jl_dec (x : Int32) : x + Int32.ofInt (-1) = x - 1 := by rw [Int32.sub_eq_add_neg]; rfl
theorem jq_Y_237 : Cond.constantLong "MeasuredTensorsModel" 237 (lN 200000) ∈ jw_all := jw_in (by decide +kernel) (by decide +kernel)
theorem jk_limbs : jb_KS "MeasuredTensorsModel" 225 jy_Y_limbs jc_Y_limbs 2 (some .long) 2 := ⟨jw_in (by decide +kernel) (by decide +kernel), jw_in (by decide +kernel) (by decide +kernel), jw_in (by decide +kernel) (by decide +kernel), jw_in (by decide +kernel) (by decide +kernel), by decide +kernel⟩
theorem jk_hasSlope : jb_KV "MeasuredTensorsModel" 229 jy_Y_hasSlope jc_Y_hasSlope 2 (some .boolean) 1 := ⟨jw_in (by decide +kernel) (by decide +kernel), jw_in (by decide +kernel) (by decide +kernel), jw_in (by decide +kernel) (by decide +kernel), jw_in (by decide +kernel) (by decide +kernel), jw_in (by decide +kernel) (by decide +kernel), by decide +kernel⟩
set_option maxRecDepth 40000 in
theorem jk_passOn : jb_KV "MeasuredTensorsModel" 234 jy_Y_passOn jc_Y_passOn 6 none 1 := ⟨jw_in (by decide +kernel) (by decide +kernel), jw_in (by decide +kernel) (by decide +kernel), jw_in (by decide +kernel) (by decide +kernel), jw_in (by decide +kernel) (by decide +kernel), jw_in (List.mem_of_getElem? (i := 958) rfl) (by decide +kernel), by decide +kernel⟩
set_option maxRecDepth 40000 in
theorem jk_measure : jb_KV "MeasuredTensorsModel" 239 jy_Y_measure jc_Y_measure 7 (some .long) 1 := ⟨jw_in (by decide +kernel) (by decide +kernel), jw_in (by decide +kernel) (by decide +kernel), jw_in (by decide +kernel) (by decide +kernel), jw_in (by decide +kernel) (by decide +kernel), jw_in (List.mem_of_getElem? (i := 939) rfl) (by decide +kernel), by decide +kernel⟩
section Y52
variable {l : Launch} {D : va_G} {H0 : Heap} {cI cJ cT cX : ClassId} {w : jb_W} {sz : Nat}
variable {y : Nat} {A : Nat → Nat} {n n2 : Nat} {σ : jSt} {th rk : Int32} {N : Nat → Int32}
variable {U Qv : Nat → Nat}
theorem jv_passOn {s : Nat} (h : jV cI cJ y A n n2 σ w th rk N U Qv) (hs : s < jSt_c σ) (hus : 0 < U s) (hQ : jQ σ U Qv) {K : Nat} (hU : ∀ i, i < jSt_c σ → U i ≤ K) (hK : K < 2 ^ 20) (hw : jT_wf s (jSt_T σ s)) : jb_M l jy_Y_passOn jc_Y_passOn 6 none 4 115 0 0 D H0 (jt_all cI cJ cT cX) [.ref y, .int (nI s)] w sz
    (fun v w' sz' => v = none ∧ jPs cI cJ y A n n2 σ w th rk N (K + 2) w' ∧ sz' = sz) := by
  obtain ⟨o, ho, hop, h1, h2⟩ := hw
  match o, ho, hop, h1, h2 with
  | 0, ho, _, h1, _ => obtain ⟨a, ha, ea⟩ := h1 (by decide); exact jv_passOn_0 h hs hus hQ hU hK ho ea (by omega)
  | 1, ho, _, h1, _ => obtain ⟨a, ha, ea⟩ := h1 (by decide); exact jv_passOn_1 h hs hus hQ hU hK ho ea (by omega)
  | 2, ho, _, h1, _ => obtain ⟨a, ha, ea⟩ := h1 (by decide); exact jv_passOn_2 h hs hus hQ hU hK ho ea (by omega)
  | 3, ho, _, h1, _ => obtain ⟨a, ha, ea⟩ := h1 (by decide); exact jv_passOn_3 h hs hus hQ hU hK ho ea (by omega)
  | 4, ho, _, h1, _ => obtain ⟨a, ha, ea⟩ := h1 (by decide); exact jv_passOn_4 h hs hus hQ hU hK ho ea (by omega)
  | 5, ho, _, h1, _ => obtain ⟨a, ha, ea⟩ := h1 (by decide); exact jv_passOn_5 h hs hus hQ hU hK ho ea (by omega)
  | 6, ho, _, h1, _ => obtain ⟨a, ha, ea⟩ := h1 (by decide); exact jv_passOn_6 h hs hus hQ hU hK ho ea (by omega)
  | 7, ho, _, h1, _ => obtain ⟨a, ha, ea⟩ := h1 (by decide); exact jv_passOn_7 h hs hus hQ hU hK ho ea (by omega)
  | 8, ho, _, h1, h2 => obtain ⟨a, ha, ea⟩ := h1 (by decide); obtain ⟨b, hb, eb⟩ := h2 (by unfold jl_two; decide); exact jv_passOn_8 h hs hus hQ hU hK ho ea (by omega) eb (by omega)
  | 9, ho, _, h1, _ => obtain ⟨a, ha, ea⟩ := h1 (by decide); exact jv_passOn_9 h hs hus hQ hU hK ho ea (by omega)
  | 10, ho, _, h1, _ => obtain ⟨a, ha, ea⟩ := h1 (by decide); exact jv_passOn_10 h hs hus hQ hU hK ho ea (by omega)
  | 11, ho, _, h1, _ => obtain ⟨a, ha, ea⟩ := h1 (by decide); exact jv_passOn_11 h hs hus hQ hU hK ho ea (by omega)
  | 12, ho, _, h1, _ => obtain ⟨a, ha, ea⟩ := h1 (by decide); exact jv_passOn_12 h hs hus hQ hU hK ho ea (by omega)
  | 13, ho, _, h1, _ => obtain ⟨a, ha, ea⟩ := h1 (by decide); exact jv_passOn_13 h hs hus hQ hU hK ho ea (by omega)
  | 14, ho, _, h1, h2 => obtain ⟨a, ha, ea⟩ := h1 (by decide); obtain ⟨b, hb, eb⟩ := h2 (by unfold jl_two; decide); exact jv_passOn_14 h hs hus hQ hU hK ho ea (by omega) eb (by omega)
  | 15, ho, _, h1, _ => obtain ⟨a, ha, ea⟩ := h1 (by decide); exact jv_passOn_15 h hs hus hQ hU hK ho ea (by omega)
  | 16, ho, _, h1, _ => obtain ⟨a, ha, ea⟩ := h1 (by decide); exact jv_passOn_16 h hs hus hQ hU hK ho ea (by omega)
  | 17, ho, _, h1, _ => obtain ⟨a, ha, ea⟩ := h1 (by decide); exact jv_passOn_17 h hs hus hQ hU hK ho ea (by omega)
  | 18, ho, _, h1, h2 => obtain ⟨a, ha, ea⟩ := h1 (by decide); obtain ⟨b, hb, eb⟩ := h2 (by unfold jl_two; decide); exact jv_passOn_18 h hs hus hQ hU hK ho ea (by omega) eb (by omega)
  | 19, _, z, _, _ => unfold jl_op at z; omega
  | 20, _, z, _, _ => unfold jl_op at z; omega
  | 21, _, z, _, _ => unfold jl_op at z; omega
  | 22, _, z, _, _ => unfold jl_op at z; omega
  | 23, _, z, _, _ => unfold jl_op at z; omega
  | 24, _, z, _, _ => unfold jl_op at z; omega
  | 25, _, z, _, _ => unfold jl_op at z; omega
  | 26, _, z, _, _ => unfold jl_op at z; omega
  | 27, _, z, _, _ => unfold jl_op at z; omega
  | 28, _, z, _, _ => unfold jl_op at z; omega
  | 29, _, z, _, _ => unfold jl_op at z; omega
  | 30, ho, _, _, _ => exact jv_passOn_30 h hs hus hQ hU hK ho
  | 31, ho, _, _, _ => exact jv_passOn_31 h hs hus hQ hU hK ho
  | 32, ho, _, _, _ => exact jv_passOn_32 h hs hus hQ hU hK ho
  | 33, _, z, _, _ => unfold jl_op at z; omega
  | 34, _, z, _, _ => unfold jl_op at z; omega
  | 35, _, z, _, _ => unfold jl_op at z; omega
  | 36, _, z, _, _ => unfold jl_op at z; omega
  | 37, _, z, _, _ => unfold jl_op at z; omega
  | 38, _, z, _, _ => unfold jl_op at z; omega
  | 39, _, z, _, _ => unfold jl_op at z; omega
  | 40, ho, _, h1, h2 => obtain ⟨a, ha, ea⟩ := h1 (by decide); obtain ⟨b, hb, eb⟩ := h2 (by unfold jl_two; decide); exact jv_passOn_40 h hs hus hQ hU hK ho ea (by omega) eb (by omega)
  | 41, ho, _, h1, h2 => obtain ⟨a, ha, ea⟩ := h1 (by decide); obtain ⟨b, hb, eb⟩ := h2 (by unfold jl_two; decide); exact jv_passOn_41 h hs hus hQ hU hK ho ea (by omega) eb (by omega)
  | 42, ho, _, h1, h2 => obtain ⟨a, ha, ea⟩ := h1 (by decide); obtain ⟨b, hb, eb⟩ := h2 (by unfold jl_two; decide); exact jv_passOn_42 h hs hus hQ hU hK ho ea (by omega) eb (by omega)
  | 43, ho, _, h1, h2 => obtain ⟨a, ha, ea⟩ := h1 (by decide); obtain ⟨b, hb, eb⟩ := h2 (by unfold jl_two; decide); exact jv_passOn_43 h hs hus hQ hU hK ho ea (by omega) eb (by omega)
  | 44, _, z, _, _ => unfold jl_op at z; omega
  | 45, _, z, _, _ => unfold jl_op at z; omega
  | 46, _, z, _, _ => unfold jl_op at z; omega
  | 47, _, z, _, _ => unfold jl_op at z; omega
  | 48, _, z, _, _ => unfold jl_op at z; omega
  | 49, _, z, _, _ => unfold jl_op at z; omega
  | 50, ho, _, h1, _ => obtain ⟨a, ha, ea⟩ := h1 (by decide); exact jv_passOn_50 h hs hus hQ hU hK ho ea (by omega)
  | 51, ho, _, h1, _ => obtain ⟨a, ha, ea⟩ := h1 (by decide); exact jv_passOn_51 h hs hus hQ hU hK ho ea (by omega)
  | k + 52, _, z, _, _ => unfold jl_op at z; omega

theorem jv_measure {t : Nat} (h : jN cI cJ y A n n2 σ w th rk N) (hct : jSt_c σ ≤ 512) (hwf : jSt_wf σ) (ht : t < jSt_c σ) : jb_M l jy_Y_measure jc_Y_measure 7 (some .long) 5 140 0 0 D H0 (jt_all cI cJ cT cX) [.ref y, .int (nI t)] w sz
    (fun v w' sz' => ∃ x : Int64, v = some (.long x) ∧ (∃ U' Qv', jV cI cJ y A n n2 σ w' th rk N U' Qv' ∧ jR y A w w') ∧ sz' = sz) := by
  refine jb_meth_l (by decide) (Nat.le_of_ble_eq_true rfl) (fun u C X E => ?_)
  have hn := h.cn
  have ng : ∀ (w3 : jb_W) (U3 Q3 : Nat → Nat) (lv3 : List (Nat × Value)), jV cI cJ y A n n2 σ w3 th rk N U3 Q3 → jR y A w w3 → ja (jb_mk l (jb_rm 5 140 0 0) 7 "MeasuredTensorsModel" D H0 (jt_all cI cJ cT cX) u) w3 sz 0 0 156 lv3 [] := fun w3 U3 Q3 lv3 a1 a2 => ja_ldc2 C (-1) jq_Y_232 jd_Y_measure_156 (E jd_Y_measure_159 ⟨_, rfl, ⟨U3, Q3, a1, a2⟩, rfl⟩)
  have lp2 : ∀ (j : Nat), j ≤ jSt_c σ → ∀ (w2 : jb_W) (U2 Q2 : Nat → Nat) (al : Int64) (sh : Nat), jV cI cJ y A n n2 σ w2 th rk N U2 Q2 → jQ σ U2 Q2 → (∀ i, i < jSt_c σ → U2 i ≤ 1 + 2 * (jSt_c σ - j)) → sh < 2 ^ 62 → jR y A w w2 → ja (jb_mk l (jb_rm 5 140 0 0) 7 "MeasuredTensorsModel" D H0 (jt_all cI cJ cT cX) u) w2 sz 0 0 44 [(6, .int (nI j - 1)), (4, .long (lN sh)), (2, .long al), (0, .ref y), (1, .int (nI t))] [] := by
    intro j
    induction j with
    | zero =>
      intro _ w2 U2 Q2 al sh v2 hQ2 hU2 hsh r0
      refine ja_iload C jd_Y_measure_44 0 rfl ?_
      refine ja_if_lt C 231 jd_Y_measure_46 (by decide) (fun c46 => ?_) (fun c46 => absurd (by decide) c46)
      refine ja_lload C jd_Y_measure_231 1 rfl ?_
      refine ja_lconst C (lN 0) jd_Y_measure_233 (by decide) ?_
      have neg : ∀ (_ : True), ja (jb_mk l (jb_rm 5 140 0 0) 7 "MeasuredTensorsModel" D H0 (jt_all cI cJ cT cX) u) w2 sz 0 0 246 [(6, .int (nI 0 - 1)), (4, .long (lN sh)), (2, .long al), (0, .ref y), (1, .int (nI t))] [] := by
        intro _
        refine ja_ldc2 C (-1) jq_Y_232 jd_Y_measure_246 ?_
        refine ja_goto C 253 jd_Y_measure_249 (by decide) ?_
        exact E jd_Y_measure_253 ⟨_, rfl, ⟨U2, Q2, v2, r0⟩, rfl⟩
      refine ja_lc_eq C 246 jd_Y_measure_234 jd_Y_measure_235 (by decide) (by omega) (by omega) (fun c235 => neg trivial) (fun c235 => ?_)
      refine ja_lload_n C jd_Y_measure_238 2 rfl ?_
      refine ja_ldc2 C (lN 200000) jq_Y_237 jd_Y_measure_239 ?_
      refine ja_lcmp C jd_Y_measure_242 ?_
      refine ja_if_le C 252 jd_Y_measure_243 (by decide) (fun c243 => ?_) (fun c243 => ?_)
      · refine ja_lload_n C jd_Y_measure_252 2 rfl ?_
        exact E jd_Y_measure_253 ⟨_, rfl, ⟨U2, Q2, v2, r0⟩, rfl⟩
      · exact neg trivial
    | succ k ih =>
      intro hk w2 U2 Q2 al sh v2 hQ2 hU2 hsh r0
      rw [nI_pred]
      have htk : k < jSt_c σ := by omega
      obtain ⟨ok1, ok2, ok3, ok4, ok5, ok6, ok7, ok8, ok9, ok10⟩ := v2.toN.ok htk
      have huk := hU2 k htk
      have back : ∀ (w3 : jb_W) (U3 Q3 : Nat → Nat) (al3 : Int64) (sh3 : Nat), jV cI cJ y A n n2 σ w3 th rk N U3 Q3 → jQ σ U3 Q3 → (∀ i, i < jSt_c σ → U3 i ≤ 1 + 2 * (jSt_c σ - k)) → sh3 < 2 ^ 62 → jR y A w w3 → ja (jb_mk l (jb_rm 5 140 0 0) 7 "MeasuredTensorsModel" D H0 (jt_all cI cJ cT cX) u) w3 sz 0 0 225 [(6, .int (nI k)), (4, .long (lN sh3)), (2, .long al3), (0, .ref y), (1, .int (nI t))] [] := by
        intro w3 U3 Q3 al3 sh3 g1 g2 g3 g4 g5
        refine ja_iinc C (nI k - 1) [(6, .int (nI k - 1)), (4, .long (lN sh3)), (2, .long al3), (0, .ref y), (1, .int (nI t))] jd_Y_measure_225 0 rfl (jl_dec _) (Nat.le_of_ble_eq_true rfl) rfl ?_
        refine ja_goto C 44 jd_Y_measure_228 (by decide) ?_
        exact ih (by omega) w3 U3 Q3 al3 sh3 g1 g2 g3 g4 g5
      refine ja_iload C jd_Y_measure_44 0 rfl ?_
      refine ja_if_ltN C 231 jd_Y_measure_46 (by decide) (by omega) ?_
      refine ja_lload_n C jd_Y_measure_49 2 rfl ?_
      refine ja_aload_n C jd_Y_measure_50 3 rfl ?_
      refine jN_ga C jfl_cells jd_Y_measure_51 v2.toN (fun _ _ => rfl) ?_
      refine ja_iload C jd_Y_measure_54 0 rfl ?_
      refine jN_ia C (by decide) (fun _ _ => rfl) jd_Y_measure_56 v2.toN htk (fun _ _ q => q.cells) ?_
      refine ja_aload_n C jd_Y_measure_57 3 rfl ?_
      refine jN_ga C jfl_range jd_Y_measure_58 v2.toN (fun _ _ => rfl) ?_
      refine ja_iload C jd_Y_measure_61 0 rfl ?_
      refine jN_ia C (by decide) (fun _ _ => rfl) jd_Y_measure_63 v2.toN htk (fun _ _ q => q.range) ?_
      refine ja_aload_n C jd_Y_measure_64 3 rfl ?_
      refine jN_ga C jfl_depth jd_Y_measure_65 v2.toN (fun _ _ => rfl) ?_
      refine ja_iload C jd_Y_measure_68 0 rfl ?_
      refine jN_ia C (by decide) (fun _ _ => rfl) jd_Y_measure_70 v2.toN htk (fun _ _ q => q.depth) ?_
      refine ja_iaddN C jd_Y_measure_71 ?_
      refine jb_pS 8 C X jk_limbs (jv_limbs) jd_Y_measure_72 rfl rfl ⟨by decide, by decide⟩ (Nat.le_of_ble_eq_true rfl) ?_
      refine ja_ladd C jd_Y_measure_75 ?_
      refine ja_lstore_n C [(2, .long (al + ((nI (jl_cells (jT_S (jSt_T σ k)) (jT_k (jSt_T σ k)))).toInt64 * ((nI (jT_r (jSt_T σ k) + jT_e (jSt_T σ k)) + nI 95) / nI 32).toInt64))), (6, .int (nI k)), (4, .long (lN sh)), (0, .ref y), (1, .int (nI t))] jd_Y_measure_76 rfl (Nat.le_of_ble_eq_true rfl) rfl ?_
      refine ja_aload_n C jd_Y_measure_77 3 rfl ?_
      refine ja_iload C jd_Y_measure_78 1 rfl ?_
      refine jN_pV 8 C X jk_hasSlope v2.toN rfl (jv_hasSlope v2 htk (by omega)) jd_Y_measure_80 rfl rfl ⟨by decide, by decide⟩ (Nat.le_of_ble_eq_true rfl) ?_
      refine ja_if_neB C 97 jd_Y_measure_83 (by decide) (fun c83 => ?_) (fun c83 => ?_)
      · obtain ⟨c1, c2, c3⟩ := c83
        have hqk := hQ2 k htk c1
        refine ja_aload_n C jd_Y_measure_97 3 rfl ?_
        refine jN_ga C jfl_slopeRange jd_Y_measure_98 v2.toN (fun _ _ => rfl) ?_
        refine ja_iload C jd_Y_measure_101 1 rfl ?_
        refine ja_dup2_11 C jd_Y_measure_103 rfl rfl ?_
        refine jV_16 C jd_Y_measure_104 v2 htk (fun v1 => ?_)
        refine ja_aload_n C jd_Y_measure_105 3 rfl ?_
        refine jN_ga C jfl_uses jd_Y_measure_106 v2.toN (fun _ _ => rfl) ?_
        refine ja_iload C jd_Y_measure_109 1 rfl ?_
        refine jV_u C jd_Y_measure_111 v2 htk ?_
        refine ja_i2lN C jd_Y_measure_112 (by omega) ?_
        refine jb_pS 8 C X jk_log (jy_log (by omega)) jd_Y_measure_113 rfl rfl ⟨by decide, by decide⟩ (Nat.le_of_ble_eq_true rfl) ?_
        refine ja_iadd C jd_Y_measure_116 ?_
        refine jV_s16 C jd_Y_measure_117 v2 htk (fun w2 u2 r2 => ?_)
        refine ja_aload_n C jd_Y_measure_118 3 rfl ?_
        refine jN_ga C jfl_slopeRange jd_Y_measure_119 u2.toN (fun _ _ => rfl) ?_
        refine ja_iload C jd_Y_measure_122 1 rfl ?_
        refine jV_16 C jd_Y_measure_124 u2 htk (fun v3 => ?_)
        refine ja_sipush C (nI 4000) jd_Y_measure_125 (by decide) ?_
        refine ja_icmp_gt C 156 jd_Y_measure_128 (by decide) (fun c128 => ng w2 U2 Q2 _ u2 (r0.tr r2)) (fun c128 => ?_)
        refine ja_aload_n C jd_Y_measure_131 3 rfl ?_
        refine jN_ga C jfl_slopeDepth jd_Y_measure_132 u2.toN (fun _ _ => rfl) ?_
        refine ja_iload C jd_Y_measure_135 1 rfl ?_
        refine jV_17 C jd_Y_measure_137 u2 htk (fun v4 => ?_)
        refine ja_sipush C (nI 4000) jd_Y_measure_138 (by decide) ?_
        refine ja_icmp_gt C 156 jd_Y_measure_141 (by decide) (fun c141 => ng w2 U2 Q2 _ u2 (r0.tr r2)) (fun c141 => ?_)
        refine ja_aload_n C jd_Y_measure_144 3 rfl ?_
        refine jN_ga C jfl_slopeOdd jd_Y_measure_145 u2.toN (fun _ _ => rfl) ?_
        refine ja_iload C jd_Y_measure_148 1 rfl ?_
        refine jV_18 C jd_Y_measure_150 u2 htk ?_
        refine ja_lconst C (lN 0) jd_Y_measure_151 (by decide) ?_
        refine ja_lc_ne C 160 jd_Y_measure_152 jd_Y_measure_153 (by decide) (by omega) (by omega) (fun c153 => ?_) (fun c153 => ng w2 U2 Q2 _ u2 (r0.tr r2))
        refine ja_lload_n C jd_Y_measure_160 0 rfl ?_
        refine ja_aload_n C jd_Y_measure_161 3 rfl ?_
        refine jN_ga C jfl_cells jd_Y_measure_162 u2.toN (fun _ _ => rfl) ?_
        refine ja_iload C jd_Y_measure_165 1 rfl ?_
        refine jN_ia C (by decide) (fun _ _ => rfl) jd_Y_measure_167 u2.toN htk (fun _ _ q => q.cells) ?_
        refine ja_aload_n C jd_Y_measure_168 3 rfl ?_
        refine jN_ga C jfl_slopeRange jd_Y_measure_169 u2.toN (fun _ _ => rfl) ?_
        refine ja_iload C jd_Y_measure_172 1 rfl ?_
        refine jV_16 C jd_Y_measure_174 u2 htk (fun v5 => ?_)
        refine ja_aload_n C jd_Y_measure_175 3 rfl ?_
        refine jN_ga C jfl_slopeDepth jd_Y_measure_176 u2.toN (fun _ _ => rfl) ?_
        refine ja_iload C jd_Y_measure_179 1 rfl ?_
        refine jV_17 C jd_Y_measure_181 u2 htk (fun v6 => ?_)
        refine ja_iadd C jd_Y_measure_182 ?_
        refine jb_pS 8 C X jk_limbs (jv_limbs) jd_Y_measure_183 rfl rfl ⟨by decide, by decide⟩ (Nat.le_of_ble_eq_true rfl) ?_
        refine ja_ladd C jd_Y_measure_186 ?_
        refine ja_lstore_n C [(2, .long ((al + ((nI (jl_cells (jT_S (jSt_T σ k)) (jT_k (jSt_T σ k)))).toInt64 * ((nI (jT_r (jSt_T σ k) + jT_e (jSt_T σ k)) + nI 95) / nI 32).toInt64)) + ((nI (jl_cells (jT_S (jSt_T σ k)) (jT_k (jSt_T σ k)))).toInt64 * ((v5 + v6 + nI 95) / nI 32).toInt64))), (6, .int (nI k)), (4, .long (lN sh)), (0, .ref y), (1, .int (nI t))] jd_Y_measure_187 rfl (Nat.le_of_ble_eq_true rfl) rfl ?_
        have k219 : ∀ (sh3 : Nat) (al3 : Int64) (h3 : sh3 < 2 ^ 62), ja (jb_mk l (jb_rm 5 140 0 0) 7 "MeasuredTensorsModel" D H0 (jt_all cI cJ cT cX) u) w2 sz 0 0 219 [(4, .long (lN sh3)), (2, .long al3), (6, .int (nI k)), (0, .ref y), (1, .int (nI t))] [] := by
          intro sh3 al3 h3
          refine ja_aload_n C jd_Y_measure_219 3 rfl ?_
          refine ja_iload C jd_Y_measure_220 2 rfl ?_
          refine jN_vV 8 C X jk_passOn u2.toN rfl (jv_passOn u2 htk c1 hQ2 hU2 (by omega) (hwf k htk)) jd_Y_measure_222 rfl rfl ⟨by decide, by decide⟩ (Nat.le_of_ble_eq_true rfl) (fun w9 hp9 => ?_)
          obtain ⟨U9, Q9, v9, hQ9, hU9, r9⟩ := hp9
          have b9 := back w9 U9 Q9 al3 sh3 v9 hQ9 (fun i hi => by have := hU9 i hi; omega) h3 (r0.tr (r2.tr r9))
          exact ja_pick [2, 0, 1, 3, 4] b9
        refine ja_aload_n C jd_Y_measure_188 3 rfl ?_
        refine jN_ga C jfl_op jd_Y_measure_189 u2.toN (fun _ _ => rfl) ?_
        refine ja_iload C jd_Y_measure_192 1 rfl ?_
        refine jN_ia C (by decide) (fun _ _ => rfl) jd_Y_measure_194 u2.toN htk (fun _ _ q => q.op) ?_
        refine ja_bipush C (nI 32) jd_Y_measure_195 (by decide) ?_
        refine ja_icmp_ne C 215 jd_Y_measure_197 (by decide) (fun c197 => ?_) (fun c197 => ?_)
        · refine ja_lload C jd_Y_measure_215 2 rfl ?_
          refine ja_lstore C [(4, .long (lN sh)), (2, .long ((al + ((nI (jl_cells (jT_S (jSt_T σ k)) (jT_k (jSt_T σ k)))).toInt64 * ((nI (jT_r (jSt_T σ k) + jT_e (jSt_T σ k)) + nI 95) / nI 32).toInt64)) + ((nI (jl_cells (jT_S (jSt_T σ k)) (jT_k (jSt_T σ k)))).toInt64 * ((v5 + v6 + nI 95) / nI 32).toInt64))), (6, .int (nI k)), (0, .ref y), (1, .int (nI t))] jd_Y_measure_217 (Nat.le_of_ble_eq_true rfl) rfl ?_
          exact k219 _ _ hsh
        · refine ja_lload C jd_Y_measure_200 2 rfl ?_
          refine ja_aload_n C jd_Y_measure_202 3 rfl ?_
          refine jN_ga C jfl_slopeOdd jd_Y_measure_203 u2.toN (fun _ _ => rfl) ?_
          refine ja_iload C jd_Y_measure_206 1 rfl ?_
          refine jV_18 C jd_Y_measure_208 u2 htk ?_
          refine jb_pS 8 C X jk_common (jy_common (by omega) (by omega)) jd_Y_measure_209 rfl rfl ⟨by decide, by decide⟩ (Nat.le_of_ble_eq_true rfl) ?_
          refine ja_goto C 217 jd_Y_measure_212 (by decide) ?_
          refine ja_lstore C [(4, .long (lN (jl_comm sh (Q2 k)))), (2, .long ((al + ((nI (jl_cells (jT_S (jSt_T σ k)) (jT_k (jSt_T σ k)))).toInt64 * ((nI (jT_r (jSt_T σ k) + jT_e (jSt_T σ k)) + nI 95) / nI 32).toInt64)) + ((nI (jl_cells (jT_S (jSt_T σ k)) (jT_k (jSt_T σ k)))).toInt64 * ((v5 + v6 + nI 95) / nI 32).toInt64))), (6, .int (nI k)), (0, .ref y), (1, .int (nI t))] jd_Y_measure_217 (Nat.le_of_ble_eq_true rfl) rfl ?_
          exact k219 _ _ (jl_comm_lt _ _)
      · refine ja_aload_n C jd_Y_measure_86 3 rfl ?_
        refine jN_ga C jfl_uses jd_Y_measure_87 v2.toN (fun _ _ => rfl) ?_
        refine ja_iload C jd_Y_measure_90 1 rfl ?_
        refine ja_iconst C (nI 0) jd_Y_measure_92 (by decide) ?_
        refine jV_s15 C jd_Y_measure_93 v2 htk (fun w7 u7 r7 => ?_)
        refine ja_goto C 225 jd_Y_measure_94 (by decide) ?_
        exact ja_pick [1, 2, 0, 3, 4] (back w7 _ Q2 _ sh u7 (fun i hi hu => by by_cases e : i = k; rw [e, va_up_self] at hu; omega; rw [va_up_ne _ _ e] at hu; exact hQ2 i hi hu) (fun i hi => by by_cases e : i = k; rw [e, va_up_self]; omega; rw [va_up_ne _ _ e]; have := hU2 i hi; omega) hsh (r0.tr r7))
  have lp1 : ∀ (f k : Nat) (hk : k + f = jSt_c σ) (w2 : jb_W) (U2 Q2 : Nat → Nat) (v2 : jV cI cJ y A n n2 σ w2 th rk N U2 Q2) (hz : ∀ i, i < k → U2 i = 0) (r0 : jR y A w w2), ja (jb_mk l (jb_rm 5 140 0 0) 7 "MeasuredTensorsModel" D H0 (jt_all cI cJ cT cX) u) w2 sz 0 0 2 [(2, .int (nI k)), (0, .ref y), (1, .int (nI t))] [] := by
    intro f
    induction f with
    | zero =>
      intro k hk w2 U2 Q2 v2 hz r0
      refine ja_iload_n C jd_Y_measure_2 0 rfl ?_
      refine ja_aload_n C jd_Y_measure_3 1 rfl ?_
      refine jN_gc C jd_Y_measure_4 v2.toN ?_
      refine ja_icmp_geN C 23 jd_Y_measure_7 (by decide) (by omega) (by omega) (fun c7 => ?_) (fun c7 => absurd c7 (by omega))
      have hz2 : U2 t = 0 := hz t (by omega)
      refine ja_aload_n C jd_Y_measure_23 1 rfl ?_
      refine ja_iload_n C jd_Y_measure_24 2 rfl ?_
      refine ja_lconst C (lN 1) jd_Y_measure_25 (by decide) ?_
      refine ja_lconst C (lN 0) jd_Y_measure_26 (by decide) ?_
      refine ja_lconst C (lN 1) jd_Y_measure_27 (by decide) ?_
      refine jN_vV 8 C X jk_use v2.toN rfl (jv_use v2 ht (by omega) (by decide) (fun i hi hu => by have := hz i (by omega); omega)) jd_Y_measure_28 rfl rfl ⟨by decide, by decide⟩ (Nat.le_of_ble_eq_true rfl) (fun w9 hp9 => ?_)
      obtain ⟨Q9, v9, hQ9, r9⟩ := hp9
      refine ja_lconst C (lN 0) jd_Y_measure_31 (by decide) ?_
      refine ja_lstore_n C [(2, .long (lN 0)), (0, .ref y), (1, .int (nI t))] jd_Y_measure_32 rfl (Nat.le_of_ble_eq_true rfl) rfl ?_
      refine ja_lconst C (lN 1) jd_Y_measure_33 (by decide) ?_
      refine ja_lstore C [(4, .long (lN 1)), (2, .long (lN 0)), (0, .ref y), (1, .int (nI t))] jd_Y_measure_34 (Nat.le_of_ble_eq_true rfl) rfl ?_
      refine ja_aload_n C jd_Y_measure_36 2 rfl ?_
      refine jN_gc C jd_Y_measure_37 v9.toN ?_
      refine ja_iconst C (nI 1) jd_Y_measure_40 (by decide) ?_
      refine ja_isub C jd_Y_measure_41 ?_
      refine ja_istore C [(6, .int ((nI (jSt_c σ)) - (nI 1))), (4, .long (lN 1)), (2, .long (lN 0)), (0, .ref y), (1, .int (nI t))] jd_Y_measure_42 (Nat.le_of_ble_eq_true rfl) rfl ?_
      have b9 := lp2 (jSt_c σ) (Nat.le_refl _) w9 _ Q9 (lN 0) 1 v9 hQ9 (fun i hi => by by_cases e : i = t; rw [e, va_up_self]; omega; rw [va_up_ne _ _ e, hz i (by omega)]; omega) (by decide) (r0.tr r9)
      exact b9
    | succ f ih =>
      intro k hk w2 U2 Q2 v2 hz r0
      have htk : k < jSt_c σ := by omega
      refine ja_iload_n C jd_Y_measure_2 0 rfl ?_
      refine ja_aload_n C jd_Y_measure_3 1 rfl ?_
      refine jN_gc C jd_Y_measure_4 v2.toN ?_
      refine ja_icmp_geN C 23 jd_Y_measure_7 (by decide) (by omega) (by omega) (fun c7 => absurd c7 (by omega)) (fun c7 => ?_)
      refine ja_aload_n C jd_Y_measure_10 1 rfl ?_
      refine jN_ga C jfl_uses jd_Y_measure_11 v2.toN (fun _ _ => rfl) ?_
      refine ja_iload_n C jd_Y_measure_14 0 rfl ?_
      refine ja_iconst C (nI 0) jd_Y_measure_15 (by decide) ?_
      refine jV_s15 C jd_Y_measure_16 v2 htk (fun w8 u8 r8 => ?_)
      refine ja_iincN (c := 1) C [(2, .int (nI (k + 1))), (0, .ref y), (1, .int (nI t))] jd_Y_measure_17 0 rfl (by decide) (Nat.le_of_ble_eq_true rfl) rfl ?_
      refine ja_goto C 2 jd_Y_measure_20 (by decide) ?_
      exact ih (k + 1) (by omega) w8 _ Q2 u8 (fun i hi => by by_cases e : i = k; rw [e, va_up_self]; rw [va_up_ne _ _ e]; exact hz i (by omega)) (r0.tr r8)
  refine ja_iconst C (nI 0) jd_Y_measure_0 (by decide) ?_
  refine ja_istore_n C [(2, .int (nI 0)), (0, .ref y), (1, .int (nI t))] jd_Y_measure_1 rfl (Nat.le_of_ble_eq_true rfl) rfl ?_
  obtain ⟨U, Qv, hv⟩ := h.v
  exact lp1 (jSt_c σ) 0 (Nat.zero_add _) w U Qv hv (fun i hi => absurd hi (Nat.not_lt_zero i)) jR.rf
theorem jv_loss {t0 : Int32} (h : jN cI cJ y A n n2 σ w th rk N) (hct : jSt_c σ ≤ 512) (hwf : jSt_wf σ) : jb_M l jy_Y_loss jc_Y_loss 5 (some .int) 6 166 0 0 D H0 (jt_all cI cJ cT cX) [.ref y, .int t0] w sz
    (fun v w' sz' => ∃ (x : Int32) (th' : Int32), v = some (.int x) ∧ jP cI cJ y A w sz σ th' w' sz') := by
  refine jb_meth_i (by decide) (Nat.le_of_ble_eq_true rfl) (fun u C X E => ?_)
  have hn := h.cn
  refine ja_aload_n C jd_Y_loss_0 0 rfl ?_
  refine ja_aload_n C jd_Y_loss_1 0 rfl ?_
  refine ja_iload_n C jd_Y_loss_2 1 rfl ?_
  refine jN_pV 8 C X jk_noTensor h rfl (jn_noTensor h) jd_Y_loss_3 rfl rfl ⟨by decide, by decide⟩ (Nat.le_of_ble_eq_true rfl) ?_
  refine ja_if_eqB C 13 jd_Y_loss_6 (by decide) (fun ct => ?_) (fun ct => ?_)
  · obtain ⟨t, htt, ett⟩ : ∃ q9, q9 < jSt_c σ ∧ t0 = nI q9 := (pk_ix t0 (by omega)).elim (fun z => absurd (Or.inl z) ct) (fun z => z.elim (fun z => absurd (Or.inr z) ct) id)
    obtain ⟨ot1, ot2, ot3, ot4, ot5, ot6, ot7, ot8, ot9, ot10⟩ := h.ok htt
    subst ett
    refine ja_aload_n C jd_Y_loss_13 0 rfl ?_
    refine jN_ga C jfl_rank jd_Y_loss_14 h (fun _ _ => rfl) ?_
    refine ja_iload_n C jd_Y_loss_17 1 rfl ?_
    refine jN_ia C (by decide) (fun _ _ => rfl) jd_Y_loss_18 h htt (fun _ _ q => q.rank) ?_
    refine ja_if_leN C 26 jd_Y_loss_19 (by decide) (by omega) (fun c19 => ?_) (fun c19 => ?_)
    · refine ja_iconst C (nI 0) jd_Y_loss_26 (by decide) ?_
      refine jN_p0 C jd_Y_loss_27 h (fun w1 h1 r1 => ?_)
      refine ja_aload_n C jd_Y_loss_30 0 rfl ?_
      refine jN_gt C jd_Y_loss_31 h1 ?_
      refine ja_if_leN C 39 jd_Y_loss_34 (by decide) (by decide) (fun _ => ?_) (fun q => absurd q (by decide))
      refine ja_aload_n C jd_Y_loss_39 0 rfl ?_
      refine ja_iload_n C jd_Y_loss_40 1 rfl ?_
      obtain ⟨fs9, hb9⟩ := h1.obj
      refine jb_callVw (kc := 0) (ks := 0) (mc := 0) (ms := 0) 8 C X jk_measure hb9 rfl (jv_measure h1 hct hwf htt) jd_Y_loss_41 rfl rfl ⟨by decide, by decide⟩ (Nat.le_of_ble_eq_true rfl) (fun v9 w9 z9 hp9 => ?_)
      obtain ⟨al, e1, ⟨U9, Q9, v9, r9⟩, e3⟩ := hp9
      rw [e1, e3]
      show ja (jb_mk l (jb_rm 6 166 0 0) 5 "MeasuredTensorsModel" D H0 (jt_all cI cJ cT cX) u) w9 sz 0 0 44 _ [.long al]
      refine ja_lstore_n C [(2, .long al), (0, .ref y), (1, .int (nI t))] jd_Y_loss_44 rfl (Nat.le_of_ble_eq_true rfl) rfl ?_
      refine ja_aload_n C jd_Y_loss_45 1 rfl ?_
      refine ja_lload_n C jd_Y_loss_46 0 rfl ?_
      refine ja_lconst C (lN 0) jd_Y_loss_47 (by decide) ?_
      have fin : ∀ (k : Nat) (w2 : jb_W) (U2 Q2 : Nat → Nat) (v2 : jV cI cJ y A n n2 σ w2 (nI 0) rk N U2 Q2) (r0 : jR y A w w2), ja (jb_mk l (jb_rm 6 166 0 0) 5 "MeasuredTensorsModel" D H0 (jt_all cI cJ cT cX) u) w2 sz 0 0 92 [(4, .int (nI k)), (2, .long al), (0, .ref y), (1, .int (nI t))] [] := by
        intro k w2 U2 Q2 v2 r0
        refine ja_lload_n C jd_Y_loss_92 1 rfl ?_
        refine ja_lconst C (lN 0) jd_Y_loss_93 (by decide) ?_
        refine ja_lcmp C jd_Y_loss_94 ?_
        refine ja_if_ge C 103 jd_Y_loss_95 (by decide) (fun c95 => ?_) (fun c95 => ?_)
        · refine ja_lload_n C jd_Y_loss_103 1 rfl ?_
          refine ja_l2i C jd_Y_loss_104 ?_
          exact E jd_Y_loss_105 ⟨_, _, rfl, v2.toN.jP r0⟩
        · refine ja_bipush C (-8) jd_Y_loss_98 (by decide) ?_
          refine ja_goto C 105 jd_Y_loss_100 (by decide) ?_
          exact E jd_Y_loss_105 ⟨_, _, rfl, v2.toN.jP r0⟩
      have lp : ∀ (f k : Nat) (hk : k + f = jSt_c σ) (w2 : jb_W) (U2 Q2 : Nat → Nat) (v2 : jV cI cJ y A n n2 σ w2 (nI 0) rk N U2 Q2) (r0 : jR y A w w2), ja (jb_mk l (jb_rm 6 166 0 0) 5 "MeasuredTensorsModel" D H0 (jt_all cI cJ cT cX) u) w2 sz 0 0 63 [(4, .int (nI k)), (2, .long al), (0, .ref y), (1, .int (nI t))] [] := by
        intro f
        induction f with
        | zero =>
          intro k hk w2 U2 Q2 v2 r0
          refine ja_iload C jd_Y_loss_63 0 rfl ?_
          refine ja_aload_n C jd_Y_loss_65 2 rfl ?_
          refine jN_gc C jd_Y_loss_66 v2.toN ?_
          refine ja_icmp_geN C 92 jd_Y_loss_69 (by decide) (by omega) (by omega) (fun c69 => ?_) (fun c69 => absurd c69 (by omega))
          exact fin k w2 U2 Q2 v2 r0
        | succ f ih =>
          intro k hk w2 U2 Q2 v2 r0
          have htk : k < jSt_c σ := by omega
          refine ja_iload C jd_Y_loss_63 0 rfl ?_
          refine ja_aload_n C jd_Y_loss_65 2 rfl ?_
          refine jN_gc C jd_Y_loss_66 v2.toN ?_
          refine ja_icmp_geN C 92 jd_Y_loss_69 (by decide) (by omega) (by omega) (fun c69 => absurd c69 (by omega)) (fun c69 => ?_)
          refine ja_lload_n C jd_Y_loss_72 1 rfl ?_
          refine ja_lconst C (lN 0) jd_Y_loss_73 (by decide) ?_
          refine ja_lcmp C jd_Y_loss_74 ?_
          refine ja_if_ge C 92 jd_Y_loss_75 (by decide) (fun c75 => fin k w2 U2 Q2 v2 r0) (fun c75 => ?_)
          refine ja_aload_n C jd_Y_loss_78 2 rfl ?_
          refine jN_ga C jfl_uses jd_Y_loss_79 v2.toN (fun _ _ => rfl) ?_
          refine ja_iload C jd_Y_loss_82 0 rfl ?_
          refine ja_iconst C (nI 0) jd_Y_loss_84 (by decide) ?_
          refine jV_s15 C jd_Y_loss_85 v2 htk (fun w2 u2 r2 => ?_)
          refine ja_iincN (c := 1) C [(4, .int (nI (k + 1))), (2, .long al), (0, .ref y), (1, .int (nI t))] jd_Y_loss_86 0 rfl (by decide) (Nat.le_of_ble_eq_true rfl) rfl ?_
          refine ja_goto C 63 jd_Y_loss_89 (by decide) ?_
          exact ih (k + 1) (by omega) w2 _ Q2 u2 (r0.tr r2)
      refine ja_lcmp C jd_Y_loss_48 ?_
      refine ja_if_ge C 56 jd_Y_loss_49 (by decide) (fun c49 => ?_) (fun c49 => ?_)
      · refine ja_iload_n C jd_Y_loss_56 2 rfl ?_
        refine jV_p4 C jd_Y_loss_57 v9 (fun wa ua ra => ?_)
        refine ja_iconst C (nI 0) jd_Y_loss_60 (by decide) ?_
        refine ja_istore C [(4, .int (nI 0)), (2, .long al), (0, .ref y), (1, .int (nI t))] jd_Y_loss_61 (Nat.le_of_ble_eq_true rfl) rfl ?_
        exact lp (jSt_c σ) 0 (Nat.zero_add _) wa U9 Q9 ua ((r1.tr r9).tr ra)
      · refine ja_iconst C (-1) jd_Y_loss_52 (by decide) ?_
        refine ja_goto C 57 jd_Y_loss_53 (by decide) ?_
        refine jV_p4 C jd_Y_loss_57 v9 (fun wa ua ra => ?_)
        refine ja_iconst C (nI 0) jd_Y_loss_60 (by decide) ?_
        refine ja_istore C [(4, .int (nI 0)), (2, .long al), (0, .ref y), (1, .int (nI t))] jd_Y_loss_61 (Nat.le_of_ble_eq_true rfl) rfl ?_
        exact lp (jSt_c σ) 0 (Nat.zero_add _) wa U9 Q9 ua ((r1.tr r9).tr ra)
    · refine ja_iconst C (nI 2) jd_Y_loss_22 (by decide) ?_
      refine ja_goto C 27 jd_Y_loss_23 (by decide) ?_
      refine jN_p0 C jd_Y_loss_27 h (fun w3 h3 r3 => ?_)
      refine ja_aload_n C jd_Y_loss_30 0 rfl ?_
      refine jN_gt C jd_Y_loss_31 h3 ?_
      refine ja_if_leN C 39 jd_Y_loss_34 (by decide) (by decide) (fun q => absurd q (by decide)) (fun _ => ?_)
      refine ja_iconst C (nI 0) jd_Y_loss_37 (by decide) ?_
      exact E jd_Y_loss_38 ⟨_, _, rfl, h3.jP r3⟩
  · refine ja_iconst C (nI 1) jd_Y_loss_9 (by decide) ?_
    refine ja_goto C 27 jd_Y_loss_10 (by decide) ?_
    refine jN_p0 C jd_Y_loss_27 h (fun w4 h4 r4 => ?_)
    refine ja_aload_n C jd_Y_loss_30 0 rfl ?_
    refine jN_gt C jd_Y_loss_31 h4 ?_
    refine ja_if_leN C 39 jd_Y_loss_34 (by decide) (by decide) (fun q => absurd q (by decide)) (fun _ => ?_)
    refine ja_iconst C (nI 0) jd_Y_loss_37 (by decide) ?_
    exact E jd_Y_loss_38 ⟨_, _, rfl, h4.jP r4⟩
end Y52
