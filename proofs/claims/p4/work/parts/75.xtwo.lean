/-! THE CLASS: drafts of two -/

theorem jp_X_250 : ja_FP jcl "MeasuredTensors" 250 2 7 .int := ⟨_, jt_T, rfl, by decide, jw_T, jw_in (by decide +kernel) (by decide +kernel), jf_T_ty, jf_T_nm, rfl⟩
theorem jp_X_253 : ja_FP jcl "MeasuredTensors" 253 2 8 .int := ⟨_, jt_T, rfl, by decide, jw_T, jw_in (by decide +kernel) (by decide +kernel), jf_T_ty, jf_T_nm, rfl⟩
theorem jk_X_276 : jb_KV "MeasuredTensors" 276 jy_X_draftProducts jc_X_draftProducts 4 none 3 := ⟨jw_in (by decide +kernel) (by decide +kernel), jw_in (by decide +kernel) (by decide +kernel), jw_in (by decide +kernel) (by decide +kernel), jw_in (by decide +kernel) (by decide +kernel), jw_in (by decide +kernel) (by decide +kernel), by decide +kernel⟩
theorem jk_X_273 : jb_KV "MeasuredTensors" 273 jy_S_append jc_S_append 2 none 1 := ⟨jw_in (by decide +kernel) (by decide +kernel), jw_in (by decide +kernel) (by decide +kernel), jw_in (by decide +kernel) (by decide +kernel), jw_in (by decide +kernel) (by decide +kernel), jw_in (by decide +kernel) (by decide +kernel), by decide +kernel⟩
theorem jk_X_141 : jb_KV "MeasuredTensors" 141 jy_T_resemble jc_T_resemble 2 none 1 := ⟨jw_in (by decide +kernel) (by decide +kernel), jw_in (by decide +kernel) (by decide +kernel), jw_in (by decide +kernel) (by decide +kernel), jw_in (by decide +kernel) (by decide +kernel), jw_in (by decide +kernel) (by decide +kernel), by decide +kernel⟩
theorem jk_X_246 : jb_KS "MeasuredTensors" 246 jy_X_timesIn jc_X_timesIn 2 (some .int) 2 := ⟨jw_in (by decide +kernel) (by decide +kernel), jw_in (by decide +kernel) (by decide +kernel), jw_in (by decide +kernel) (by decide +kernel), jw_in (by decide +kernel) (by decide +kernel), by decide +kernel⟩
theorem jk_X_262 : jb_KV "MeasuredTensors" 262 jy_M_unite jc_M_unite 2 none 1 := ⟨jw_in (by decide +kernel) (by decide +kernel), jw_in (by decide +kernel) (by decide +kernel), jw_in (by decide +kernel) (by decide +kernel), jw_in (by decide +kernel) (by decide +kernel), jw_in (by decide +kernel) (by decide +kernel), by decide +kernel⟩
theorem jk_X_269 : jb_KV "MeasuredTensors" 269 jy_S_endsWith jc_S_endsWith 4 (some .boolean) 1 := ⟨jw_in (by decide +kernel) (by decide +kernel), jw_in (by decide +kernel) (by decide +kernel), jw_in (by decide +kernel) (by decide +kernel), jw_in (by decide +kernel) (by decide +kernel), jw_in (by decide +kernel) (by decide +kernel), by decide +kernel⟩
theorem jg_X_28 : ja_FL jcl "MeasuredTensors" 28 4 3 := ⟨_, rfl, by decide, jw_X, jw_in (by decide +kernel) (by decide +kernel)⟩
theorem jk_X_329 : jb_KV "MeasuredTensors" 329 jy_X_measureDifference jc_X_measureDifference 3 none 2 := ⟨jw_in (by decide +kernel) (by decide +kernel), jw_in (by decide +kernel) (by decide +kernel), jw_in (by decide +kernel) (by decide +kernel), jw_in (by decide +kernel) (by decide +kernel), jw_in (by decide +kernel) (by decide +kernel), by decide +kernel⟩
theorem jg_X_215 : ja_FL jcl "MeasuredTensors" 215 2 4 := ⟨_, rfl, by decide, jw_T, jw_in (by decide +kernel) (by decide +kernel)⟩
theorem jk_X_332 : jb_KV "MeasuredTensors" 332 jy_M_divide jc_M_divide 4 none 2 := ⟨jw_in (by decide +kernel) (by decide +kernel), jw_in (by decide +kernel) (by decide +kernel), jw_in (by decide +kernel) (by decide +kernel), jw_in (by decide +kernel) (by decide +kernel), jw_in (by decide +kernel) (by decide +kernel), by decide +kernel⟩
section X75
variable {l : Launch} {D : va_G} {H0 : Heap} {cI cJ cT cX : ClassId} {w : jb_W} {sz : Nat}
variable {x : Nat} {P : Nat → Prop} {σ : jSt} {dr : Nat} {F G : Nat → Option Nat} {own : Nat → Nat} {fT : Nat → Nat → Int32} {ls : Int32} {k : Nat} {f : Nat → Int32} {m : Int32 × Int32 × Int64} {tm : Int32}
theorem jx_matrix0 {ta oa tb ob : Nat} (h : jXd cI cT cX x P σ dr F G own fT ls w 0 f m tm) (hta : ta < jSt_c σ) (ea : F ta = some oa) (htb : tb < jSt_c σ) (eb : F tb = some ob) (hf : ¬ (((jT_k (jSt_T σ ta) = 1 ∨ jT_k (jSt_T σ ta) = 2) ∧ (jT_k (jSt_T σ tb) = 1 ∨ jT_k (jSt_T σ tb) = 2)) ∧ jT_S (jSt_T σ ta) (jT_k (jSt_T σ ta) - 1) = jT_S (jSt_T σ tb) 0)) : jb_M l jy_X_draftMatrixProduct jc_X_draftMatrixProduct 7 (some .boolean) 3 70 0 0 D H0 (jt_all cI cJ cT cX) [.ref x, .ref oa, .ref ob] w sz
    (fun v w' sz' => v = some (.int (nI 0)) ∧ w' = w ∧ sz' = sz) := by
  refine jb_meth_z (by decide) (Nat.le_of_ble_eq_true rfl) (fun u C X E => ?_)
  have ka := (h.ts hta).1
  have kb := (h.ts htb).1
  have a0 := (h.ts hta).bd 0
  have a1 := (h.ts hta).bd 1
  have a2 := (h.ts hta).bd 2
  have b0 := (h.ts htb).bd 0
  have b1 := (h.ts htb).bd 1
  have b2 := (h.ts htb).bd 2
  have b3 := (h.ts htb).bd 3
  have hxd := h.xd
  have no : ∀ (_ : True), ja (jb_mk l (jb_rm 3 70 0 0) 7 "MeasuredTensors" D H0 (jt_all cI cJ cT cX) u) w sz 0 0 64 [(4, .ref (ob + 1)), (3, .ref (oa + 1)), (0, .ref x), (1, .ref oa), (2, .ref ob)] [] := by
    intro _
    refine ja_iconst C (nI 0) jd_X_draftMatrixProduct_64 (by decide) ?_
    exact E jd_X_draftMatrixProduct_65 (Or.inl rfl) ⟨rfl, rfl, rfl⟩
  refine ja_aload_n C jd_X_draftMatrixProduct_0 1 rfl ?_
  refine jZx_g C jg_X_93 jd_X_draftMatrixProduct_1 (h.tz hta ea) (fun _ _ => rfl) ?_
  refine ja_astore_n C [(3, .ref (oa + 1)), (0, .ref x), (1, .ref oa), (2, .ref ob)] jd_X_draftMatrixProduct_4 rfl (Nat.le_of_ble_eq_true rfl) rfl ?_
  refine ja_aload_n C jd_X_draftMatrixProduct_5 3 rfl ?_
  refine jZx_g C jg_X_93 jd_X_draftMatrixProduct_6 (h.tz htb eb) (fun _ _ => rfl) ?_
  refine ja_astore C [(4, .ref (ob + 1)), (3, .ref (oa + 1)), (0, .ref x), (1, .ref oa), (2, .ref ob)] jd_X_draftMatrixProduct_9 (Nat.le_of_ble_eq_true rfl) rfl ?_
  refine ja_aload_n C jd_X_draftMatrixProduct_11 1 rfl ?_
  refine ja_get C jg_X_187 jd_X_draftMatrixProduct_12 (h.tz hta ea).z1 rfl ?_
  refine ja_iconst C (nI 1) jd_X_draftMatrixProduct_15 (by decide) ?_
  refine ja_icmp_ltN C 64 jd_X_draftMatrixProduct_16 (by decide) (by omega) (by decide) (fun c1 => no trivial) (fun c1 => ?_)
  refine ja_aload_n C jd_X_draftMatrixProduct_19 1 rfl ?_
  refine ja_get C jg_X_187 jd_X_draftMatrixProduct_20 (h.tz hta ea).z1 rfl ?_
  refine ja_iconst C (nI 2) jd_X_draftMatrixProduct_23 (by decide) ?_
  refine ja_icmp_gtN C 64 jd_X_draftMatrixProduct_24 (by decide) (by omega) (by decide) (fun c2 => no trivial) (fun c2 => ?_)
  refine ja_aload C jd_X_draftMatrixProduct_27 0 rfl ?_
  refine ja_get C jg_X_187 jd_X_draftMatrixProduct_29 (h.tz htb eb).z1 rfl ?_
  refine ja_iconst C (nI 1) jd_X_draftMatrixProduct_32 (by decide) ?_
  refine ja_icmp_ltN C 64 jd_X_draftMatrixProduct_33 (by decide) (by omega) (by decide) (fun c3 => no trivial) (fun c3 => ?_)
  refine ja_aload C jd_X_draftMatrixProduct_36 0 rfl ?_
  refine ja_get C jg_X_187 jd_X_draftMatrixProduct_38 (h.tz htb eb).z1 rfl ?_
  refine ja_iconst C (nI 2) jd_X_draftMatrixProduct_41 (by decide) ?_
  refine ja_icmp_gtN C 64 jd_X_draftMatrixProduct_42 (by decide) (by omega) (by decide) (fun c4 => no trivial) (fun c4 => ?_)
  have q1 := (h.ts hta).bd (jT_k (jSt_T σ ta) - 1)
  refine ja_aload_n C jd_X_draftMatrixProduct_45 1 rfl ?_
  refine ja_aload_n C jd_X_draftMatrixProduct_46 1 rfl ?_
  refine ja_get C jg_X_187 jd_X_draftMatrixProduct_47 (h.tz hta ea).z1 rfl ?_
  refine ja_iconst C (nI 1) jd_X_draftMatrixProduct_50 (by decide) ?_
  refine ja_isubN C jd_X_draftMatrixProduct_51 (by omega) ?_
  refine jb_pV 8 C X jk_X_212 (h.tz hta ea).z1 rfl (js_side (h.tz hta ea).z1 (h.tz hta ea).z2 (h.ts hta) (by omega)) jd_X_draftMatrixProduct_52 rfl rfl ⟨by decide, by decide⟩ (Nat.le_of_ble_eq_true rfl) ?_
  refine ja_aload C jd_X_draftMatrixProduct_55 0 rfl ?_
  refine ja_iconst C (nI 0) jd_X_draftMatrixProduct_57 (by decide) ?_
  refine jb_pV 8 C X jk_X_212 (h.tz htb eb).z1 rfl (js_side (h.tz htb eb).z1 (h.tz htb eb).z2 (h.ts htb) (by decide)) jd_X_draftMatrixProduct_58 rfl rfl ⟨by decide, by decide⟩ (Nat.le_of_ble_eq_true rfl) ?_
  refine ja_icmp_eqN C 66 jd_X_draftMatrixProduct_61 (by decide) (by omega) (by omega) (fun c5 => ?_) (fun c5 => ?_)
  · exact absurd ⟨⟨by omega, by omega⟩, c5⟩ hf
  · exact no trivial
theorem jx_matrix {ta oa tb ob : Nat} (h : jXd cI cT cX x P σ dr F G own fT ls w 0 f m tm) (hta : ta < jSt_c σ) (ea : F ta = some oa) (htb : tb < jSt_c σ) (eb : F tb = some ob) (hf : ((jT_k (jSt_T σ ta) = 1 ∨ jT_k (jSt_T σ ta) = 2) ∧ (jT_k (jSt_T σ tb) = 1 ∨ jT_k (jSt_T σ tb) = 2)) ∧ jT_S (jSt_T σ ta) (jT_k (jSt_T σ ta) - 1) = jT_S (jSt_T σ tb) 0) : jb_M l jy_X_draftMatrixProduct jc_X_draftMatrixProduct 7 (some .boolean) 3 70 0 0 D H0 (jt_all cI cJ cT cX) [.ref x, .ref oa, .ref ob] w sz
    (fun v w' sz' => v = some (.int (nI 1)) ∧ (∃ f', (∀ j, j < (jT_k (jSt_T σ ta) - 1) + (jT_k (jSt_T σ tb) - 1) → f' j = nI (if jT_k (jSt_T σ ta) = 2 ∧ j = 0 then jT_S (jSt_T σ ta) 0 else jT_S (jSt_T σ tb) 1)) ∧ jXd cI cT cX x P σ dr F G own fT ls w' ((jT_k (jSt_T σ ta) - 1) + (jT_k (jSt_T σ tb) - 1)) f' (nI (jT_r (jSt_T σ ta)) + nI (jT_r (jSt_T σ tb)) + jx_bits (nI (jT_S (jSt_T σ tb) 0) - 1), nI (jT_e (jSt_T σ ta)) + nI (jT_e (jSt_T σ tb)), jx_pr (lN (jT_q (jSt_T σ ta))) (lN (jT_q (jSt_T σ tb)))) (nI (jT_S (jSt_T σ tb) 0)) ∧ jXF P w w') ∧ sz' = sz) := by
  refine jb_meth_z (by decide) (Nat.le_of_ble_eq_true rfl) (fun u C X E => ?_)
  have ka := (h.ts hta).1
  have kb := (h.ts htb).1
  have a0 := (h.ts hta).bd 0
  have a1 := (h.ts hta).bd 1
  have a2 := (h.ts hta).bd 2
  have b0 := (h.ts htb).bd 0
  have b1 := (h.ts htb).bd 1
  have b2 := (h.ts htb).bd 2
  have b3 := (h.ts htb).bd 3
  have hxd := h.xd
  obtain ⟨⟨hf1, hf2⟩, hf3⟩ := hf
  refine ja_aload_n C jd_X_draftMatrixProduct_0 1 rfl ?_
  refine jZx_g C jg_X_93 jd_X_draftMatrixProduct_1 (h.tz hta ea) (fun _ _ => rfl) ?_
  refine ja_astore_n C [(3, .ref (oa + 1)), (0, .ref x), (1, .ref oa), (2, .ref ob)] jd_X_draftMatrixProduct_4 rfl (Nat.le_of_ble_eq_true rfl) rfl ?_
  refine ja_aload_n C jd_X_draftMatrixProduct_5 3 rfl ?_
  refine jZx_g C jg_X_93 jd_X_draftMatrixProduct_6 (h.tz htb eb) (fun _ _ => rfl) ?_
  refine ja_astore C [(4, .ref (ob + 1)), (3, .ref (oa + 1)), (0, .ref x), (1, .ref oa), (2, .ref ob)] jd_X_draftMatrixProduct_9 (Nat.le_of_ble_eq_true rfl) rfl ?_
  refine ja_aload_n C jd_X_draftMatrixProduct_11 1 rfl ?_
  refine ja_get C jg_X_187 jd_X_draftMatrixProduct_12 (h.tz hta ea).z1 rfl ?_
  refine ja_iconst C (nI 1) jd_X_draftMatrixProduct_15 (by decide) ?_
  refine ja_icmp_ltN C 64 jd_X_draftMatrixProduct_16 (by decide) (by omega) (by decide) (fun c1 => absurd c1 (by omega)) (fun c1 => ?_)
  refine ja_aload_n C jd_X_draftMatrixProduct_19 1 rfl ?_
  refine ja_get C jg_X_187 jd_X_draftMatrixProduct_20 (h.tz hta ea).z1 rfl ?_
  refine ja_iconst C (nI 2) jd_X_draftMatrixProduct_23 (by decide) ?_
  refine ja_icmp_gtN C 64 jd_X_draftMatrixProduct_24 (by decide) (by omega) (by decide) (fun c2 => absurd c2 (by omega)) (fun c2 => ?_)
  refine ja_aload C jd_X_draftMatrixProduct_27 0 rfl ?_
  refine ja_get C jg_X_187 jd_X_draftMatrixProduct_29 (h.tz htb eb).z1 rfl ?_
  refine ja_iconst C (nI 1) jd_X_draftMatrixProduct_32 (by decide) ?_
  refine ja_icmp_ltN C 64 jd_X_draftMatrixProduct_33 (by decide) (by omega) (by decide) (fun c3 => absurd c3 (by omega)) (fun c3 => ?_)
  refine ja_aload C jd_X_draftMatrixProduct_36 0 rfl ?_
  refine ja_get C jg_X_187 jd_X_draftMatrixProduct_38 (h.tz htb eb).z1 rfl ?_
  refine ja_iconst C (nI 2) jd_X_draftMatrixProduct_41 (by decide) ?_
  refine ja_icmp_gtN C 64 jd_X_draftMatrixProduct_42 (by decide) (by omega) (by decide) (fun c4 => absurd c4 (by omega)) (fun c4 => ?_)
  have q1 := (h.ts hta).bd (jT_k (jSt_T σ ta) - 1)
  refine ja_aload_n C jd_X_draftMatrixProduct_45 1 rfl ?_
  refine ja_aload_n C jd_X_draftMatrixProduct_46 1 rfl ?_
  refine ja_get C jg_X_187 jd_X_draftMatrixProduct_47 (h.tz hta ea).z1 rfl ?_
  refine ja_iconst C (nI 1) jd_X_draftMatrixProduct_50 (by decide) ?_
  refine ja_isubN C jd_X_draftMatrixProduct_51 (by omega) ?_
  refine jb_pV 8 C X jk_X_212 (h.tz hta ea).z1 rfl (js_side (h.tz hta ea).z1 (h.tz hta ea).z2 (h.ts hta) (by omega)) jd_X_draftMatrixProduct_52 rfl rfl ⟨by decide, by decide⟩ (Nat.le_of_ble_eq_true rfl) ?_
  refine ja_aload C jd_X_draftMatrixProduct_55 0 rfl ?_
  refine ja_iconst C (nI 0) jd_X_draftMatrixProduct_57 (by decide) ?_
  refine jb_pV 8 C X jk_X_212 (h.tz htb eb).z1 rfl (js_side (h.tz htb eb).z1 (h.tz htb eb).z2 (h.ts htb) (by decide)) jd_X_draftMatrixProduct_58 rfl rfl ⟨by decide, by decide⟩ (Nat.le_of_ble_eq_true rfl) ?_
  refine ja_icmp_eqN C 66 jd_X_draftMatrixProduct_61 (by decide) (by omega) (by omega) (fun c5 => ?_) (fun c5 => absurd hf3 c5)
  refine ja_aload_n C jd_X_draftMatrixProduct_66 1 rfl ?_
  refine ja_get C jg_X_187 jd_X_draftMatrixProduct_67 (h.tz hta ea).z1 rfl ?_
  refine ja_iconst C (nI 2) jd_X_draftMatrixProduct_70 (by decide) ?_
  refine ja_icmp_neN C 82 jd_X_draftMatrixProduct_71 (by decide) (by omega) (by decide) (fun ca => ?_) (fun ca => ?_)
  · refine ja_iconst C (nI 1) jd_X_draftMatrixProduct_82 (by decide) ?_
    refine ja_istore C [(5, .int (nI 1)), (4, .ref (ob + 1)), (3, .ref (oa + 1)), (0, .ref x), (1, .ref oa), (2, .ref ob)] jd_X_draftMatrixProduct_83 (Nat.le_of_ble_eq_true rfl) rfl ?_
    refine ja_aload C jd_X_draftMatrixProduct_85 1 rfl ?_
    refine ja_iconst C (nI 1) jd_X_draftMatrixProduct_87 (by decide) ?_
    refine jb_pV 8 C X jk_X_212 (h.tz htb eb).z1 rfl (js_side (h.tz htb eb).z1 (h.tz htb eb).z2 (h.ts htb) (by decide)) jd_X_draftMatrixProduct_88 rfl rfl ⟨by decide, by decide⟩ (Nat.le_of_ble_eq_true rfl) ?_
    refine ja_istore C [(6, .int (nI (jT_S (jSt_T σ tb) 1))), (5, .int (nI 1)), (4, .ref (ob + 1)), (3, .ref (oa + 1)), (0, .ref x), (1, .ref oa), (2, .ref ob)] jd_X_draftMatrixProduct_91 (Nat.le_of_ble_eq_true rfl) rfl ?_
    refine ja_aload_n C jd_X_draftMatrixProduct_93 3 rfl ?_
    refine ja_get C jg_X_187 jd_X_draftMatrixProduct_94 (h.tz hta ea).z1 rfl ?_
    refine ja_iconst C (nI 2) jd_X_draftMatrixProduct_97 (by decide) ?_
    refine ja_icmp_neN C 113 jd_X_draftMatrixProduct_98 (by decide) (by omega) (by decide) (fun ca2 => ?_) (fun ca2 => absurd ca2 ca)
    refine ja_aload C jd_X_draftMatrixProduct_113 2 rfl ?_
    refine ja_get C jg_X_187 jd_X_draftMatrixProduct_115 (h.tz htb eb).z1 rfl ?_
    refine ja_iconst C (nI 2) jd_X_draftMatrixProduct_118 (by decide) ?_
    refine ja_icmp_neN C 134 jd_X_draftMatrixProduct_119 (by decide) (by omega) (by decide) (fun cb => ?_) (fun cb => ?_)
    · refine ja_aload_n C jd_X_draftMatrixProduct_134 4 rfl ?_
      refine ja_get C jg_X_32 jd_X_draftMatrixProduct_135 h.obj rfl ?_
      refine ja_iload C jd_X_draftMatrixProduct_138 0 rfl ?_
      refine jZx_p C jp_X_250 jnf_T_7 rfl rfl jd_X_draftMatrixProduct_140 h.d tm (by decide) (fun p q => ⟨jp10 (p 0) (p 1) (p 2) (p 3) (nI (jT_S (jSt_T σ tb) 1)) (p 5) (p 6) (p 7) (p 8) (p 9), q, rfl⟩) (fun w1 z1 f1 => ?_)
      obtain ⟨h1, r1⟩ := h.upd h.k4 z1 f1
      refine ja_aload_n C jd_X_draftMatrixProduct_143 4 rfl ?_
      refine ja_get C jg_X_32 jd_X_draftMatrixProduct_144 h1.obj rfl ?_
      refine ja_iload C jd_X_draftMatrixProduct_147 1 rfl ?_
      refine jZx_p C jp_X_253 jnf_T_8 rfl rfl jd_X_draftMatrixProduct_149 h1.d tm (by decide) (fun p q => ⟨jp10 (p 0) (p 1) (p 2) (p 3) (p 4) (nI 1) (p 6) (p 7) (p 8) (p 9), q, rfl⟩) (fun w2 z2 f2 => ?_)
      obtain ⟨h2, r2⟩ := h1.upd h1.k4 z2 f2
      refine ja_aload_n C jd_X_draftMatrixProduct_152 4 rfl ?_
      refine ja_aload C jd_X_draftMatrixProduct_153 2 rfl ?_
      refine ja_iconst C (nI 0) jd_X_draftMatrixProduct_155 (by decide) ?_
      refine jb_pV 8 C X jk_X_212 (h2.tz htb eb).z1 rfl (js_side (h2.tz htb eb).z1 (h2.tz htb eb).z2 (h2.ts htb) (by decide)) jd_X_draftMatrixProduct_156 rfl rfl ⟨by decide, by decide⟩ (Nat.le_of_ble_eq_true rfl) ?_
      refine ja_aload_n C jd_X_draftMatrixProduct_159 5 rfl ?_
      refine ja_aload_n C jd_X_draftMatrixProduct_160 6 rfl ?_
      refine jo_vV 8 C X jk_X_276 h2.obj rfl (jx_draftProducts h2 hta ea htb eb) jd_X_draftMatrixProduct_161 rfl rfl ⟨by decide, by decide⟩ (Nat.le_of_ble_eq_true rfl) (fun w3 hp3 => ?_)
      obtain ⟨h3, r3⟩ := hp3
      refine ja_iconst C (nI 1) jd_X_draftMatrixProduct_164 (by decide) ?_
      exact E jd_X_draftMatrixProduct_165 (Or.inr rfl) ⟨rfl, ⟨f, fun j hj => absurd hj (by omega), by rw [show jT_k (jSt_T σ ta) - 1 + (jT_k (jSt_T σ tb) - 1) = 0 by omega]; exact h3, (r1.tr (r2.tr r3))⟩, rfl⟩
    · refine ja_aload_n C jd_X_draftMatrixProduct_122 4 rfl ?_
      refine ja_get C jg_X_32 jd_X_draftMatrixProduct_123 h.obj rfl ?_
      refine jZx_g C jg_X_93 jd_X_draftMatrixProduct_126 h.d (fun _ _ => rfl) ?_
      refine ja_iload C jd_X_draftMatrixProduct_129 0 rfl ?_
      refine jo_vV 8 C X jk_X_273 h.d.z1 rfl (js_append h.d.z1 h.d.z2 (by decide)) jd_X_draftMatrixProduct_131 rfl rfl ⟨by decide, by decide⟩ (Nat.le_of_ble_eq_true rfl) (fun w4 hp4 => ?_)
      obtain ⟨g4a, g4b, f4⟩ := hp4
      obtain ⟨h4, r4⟩ := h.s12 (by decide) g4a g4b f4
      refine ja_aload_n C jd_X_draftMatrixProduct_134 4 rfl ?_
      refine ja_get C jg_X_32 jd_X_draftMatrixProduct_135 h4.obj rfl ?_
      refine ja_iload C jd_X_draftMatrixProduct_138 0 rfl ?_
      refine jZx_p C jp_X_250 jnf_T_7 rfl rfl jd_X_draftMatrixProduct_140 h4.d tm (by decide) (fun p q => ⟨jp10 (p 0) (p 1) (p 2) (p 3) (nI (jT_S (jSt_T σ tb) 1)) (p 5) (p 6) (p 7) (p 8) (p 9), q, rfl⟩) (fun w5 z5 f5 => ?_)
      obtain ⟨h5, r5⟩ := h4.upd h4.k4 z5 f5
      refine ja_aload_n C jd_X_draftMatrixProduct_143 4 rfl ?_
      refine ja_get C jg_X_32 jd_X_draftMatrixProduct_144 h5.obj rfl ?_
      refine ja_iload C jd_X_draftMatrixProduct_147 1 rfl ?_
      refine jZx_p C jp_X_253 jnf_T_8 rfl rfl jd_X_draftMatrixProduct_149 h5.d tm (by decide) (fun p q => ⟨jp10 (p 0) (p 1) (p 2) (p 3) (p 4) (nI 1) (p 6) (p 7) (p 8) (p 9), q, rfl⟩) (fun w6 z6 f6 => ?_)
      obtain ⟨h6, r6⟩ := h5.upd h5.k4 z6 f6
      refine ja_aload_n C jd_X_draftMatrixProduct_152 4 rfl ?_
      refine ja_aload C jd_X_draftMatrixProduct_153 2 rfl ?_
      refine ja_iconst C (nI 0) jd_X_draftMatrixProduct_155 (by decide) ?_
      refine jb_pV 8 C X jk_X_212 (h6.tz htb eb).z1 rfl (js_side (h6.tz htb eb).z1 (h6.tz htb eb).z2 (h6.ts htb) (by decide)) jd_X_draftMatrixProduct_156 rfl rfl ⟨by decide, by decide⟩ (Nat.le_of_ble_eq_true rfl) ?_
      refine ja_aload_n C jd_X_draftMatrixProduct_159 5 rfl ?_
      refine ja_aload_n C jd_X_draftMatrixProduct_160 6 rfl ?_
      refine jo_vV 8 C X jk_X_276 h6.obj rfl (jx_draftProducts h6 hta ea htb eb) jd_X_draftMatrixProduct_161 rfl rfl ⟨by decide, by decide⟩ (Nat.le_of_ble_eq_true rfl) (fun w7 hp7 => ?_)
      obtain ⟨h7, r7⟩ := hp7
      refine ja_iconst C (nI 1) jd_X_draftMatrixProduct_164 (by decide) ?_
      exact E jd_X_draftMatrixProduct_165 (Or.inr rfl) ⟨rfl, ⟨(upd f 0 (nI (jT_S (jSt_T σ tb) 1))), fun j hj => by rw [show j = 0 by omega, pk_us, if_neg (by omega)], by rw [show jT_k (jSt_T σ ta) - 1 + (jT_k (jSt_T σ tb) - 1) = 1 by omega]; exact h7, (r4.tr (r5.tr (r6.tr r7)))⟩, rfl⟩
  · refine ja_aload_n C jd_X_draftMatrixProduct_74 1 rfl ?_
    refine ja_iconst C (nI 0) jd_X_draftMatrixProduct_75 (by decide) ?_
    refine jb_pV 8 C X jk_X_212 (h.tz hta ea).z1 rfl (js_side (h.tz hta ea).z1 (h.tz hta ea).z2 (h.ts hta) (by decide)) jd_X_draftMatrixProduct_76 rfl rfl ⟨by decide, by decide⟩ (Nat.le_of_ble_eq_true rfl) ?_
    refine ja_goto C 83 jd_X_draftMatrixProduct_79 (by decide) ?_
    refine ja_istore C [(5, .int (nI (jT_S (jSt_T σ ta) 0))), (4, .ref (ob + 1)), (3, .ref (oa + 1)), (0, .ref x), (1, .ref oa), (2, .ref ob)] jd_X_draftMatrixProduct_83 (Nat.le_of_ble_eq_true rfl) rfl ?_
    refine ja_aload C jd_X_draftMatrixProduct_85 1 rfl ?_
    refine ja_iconst C (nI 1) jd_X_draftMatrixProduct_87 (by decide) ?_
    refine jb_pV 8 C X jk_X_212 (h.tz htb eb).z1 rfl (js_side (h.tz htb eb).z1 (h.tz htb eb).z2 (h.ts htb) (by decide)) jd_X_draftMatrixProduct_88 rfl rfl ⟨by decide, by decide⟩ (Nat.le_of_ble_eq_true rfl) ?_
    refine ja_istore C [(6, .int (nI (jT_S (jSt_T σ tb) 1))), (5, .int (nI (jT_S (jSt_T σ ta) 0))), (4, .ref (ob + 1)), (3, .ref (oa + 1)), (0, .ref x), (1, .ref oa), (2, .ref ob)] jd_X_draftMatrixProduct_91 (Nat.le_of_ble_eq_true rfl) rfl ?_
    refine ja_aload_n C jd_X_draftMatrixProduct_93 3 rfl ?_
    refine ja_get C jg_X_187 jd_X_draftMatrixProduct_94 (h.tz hta ea).z1 rfl ?_
    refine ja_iconst C (nI 2) jd_X_draftMatrixProduct_97 (by decide) ?_
    refine ja_icmp_neN C 113 jd_X_draftMatrixProduct_98 (by decide) (by omega) (by decide) (fun ca2 => absurd ca ca2) (fun ca2 => ?_)
    refine ja_aload_n C jd_X_draftMatrixProduct_101 4 rfl ?_
    refine ja_get C jg_X_32 jd_X_draftMatrixProduct_102 h.obj rfl ?_
    refine jZx_g C jg_X_93 jd_X_draftMatrixProduct_105 h.d (fun _ _ => rfl) ?_
    refine ja_iload C jd_X_draftMatrixProduct_108 1 rfl ?_
    refine jo_vV 8 C X jk_X_273 h.d.z1 rfl (js_append h.d.z1 h.d.z2 (by decide)) jd_X_draftMatrixProduct_110 rfl rfl ⟨by decide, by decide⟩ (Nat.le_of_ble_eq_true rfl) (fun w8 hp8 => ?_)
    obtain ⟨g8a, g8b, f8⟩ := hp8
    obtain ⟨h8, r8⟩ := h.s12 (by decide) g8a g8b f8
    refine ja_aload C jd_X_draftMatrixProduct_113 2 rfl ?_
    refine ja_get C jg_X_187 jd_X_draftMatrixProduct_115 (h8.tz htb eb).z1 rfl ?_
    refine ja_iconst C (nI 2) jd_X_draftMatrixProduct_118 (by decide) ?_
    refine ja_icmp_neN C 134 jd_X_draftMatrixProduct_119 (by decide) (by omega) (by decide) (fun cb => ?_) (fun cb => ?_)
    · refine ja_aload_n C jd_X_draftMatrixProduct_134 4 rfl ?_
      refine ja_get C jg_X_32 jd_X_draftMatrixProduct_135 h8.obj rfl ?_
      refine ja_iload C jd_X_draftMatrixProduct_138 0 rfl ?_
      refine jZx_p C jp_X_250 jnf_T_7 rfl rfl jd_X_draftMatrixProduct_140 h8.d tm (by decide) (fun p q => ⟨jp10 (p 0) (p 1) (p 2) (p 3) (nI (jT_S (jSt_T σ tb) 1)) (p 5) (p 6) (p 7) (p 8) (p 9), q, rfl⟩) (fun w9 z9 f9 => ?_)
      obtain ⟨h9, r9⟩ := h8.upd h8.k4 z9 f9
      refine ja_aload_n C jd_X_draftMatrixProduct_143 4 rfl ?_
      refine ja_get C jg_X_32 jd_X_draftMatrixProduct_144 h9.obj rfl ?_
      refine ja_iload C jd_X_draftMatrixProduct_147 1 rfl ?_
      refine jZx_p C jp_X_253 jnf_T_8 rfl rfl jd_X_draftMatrixProduct_149 h9.d tm (by decide) (fun p q => ⟨jp10 (p 0) (p 1) (p 2) (p 3) (p 4) (nI (jT_S (jSt_T σ ta) 0)) (p 6) (p 7) (p 8) (p 9), q, rfl⟩) (fun w10 z10 f10 => ?_)
      obtain ⟨h10, r10⟩ := h9.upd h9.k4 z10 f10
      refine ja_aload_n C jd_X_draftMatrixProduct_152 4 rfl ?_
      refine ja_aload C jd_X_draftMatrixProduct_153 2 rfl ?_
      refine ja_iconst C (nI 0) jd_X_draftMatrixProduct_155 (by decide) ?_
      refine jb_pV 8 C X jk_X_212 (h10.tz htb eb).z1 rfl (js_side (h10.tz htb eb).z1 (h10.tz htb eb).z2 (h10.ts htb) (by decide)) jd_X_draftMatrixProduct_156 rfl rfl ⟨by decide, by decide⟩ (Nat.le_of_ble_eq_true rfl) ?_
      refine ja_aload_n C jd_X_draftMatrixProduct_159 5 rfl ?_
      refine ja_aload_n C jd_X_draftMatrixProduct_160 6 rfl ?_
      refine jo_vV 8 C X jk_X_276 h10.obj rfl (jx_draftProducts h10 hta ea htb eb) jd_X_draftMatrixProduct_161 rfl rfl ⟨by decide, by decide⟩ (Nat.le_of_ble_eq_true rfl) (fun w11 hp11 => ?_)
      obtain ⟨h11, r11⟩ := hp11
      refine ja_iconst C (nI 1) jd_X_draftMatrixProduct_164 (by decide) ?_
      exact E jd_X_draftMatrixProduct_165 (Or.inr rfl) ⟨rfl, ⟨(upd f 0 (nI (jT_S (jSt_T σ ta) 0))), fun j hj => by rw [show j = 0 by omega, pk_us, if_pos ⟨ca, rfl⟩], by rw [show jT_k (jSt_T σ ta) - 1 + (jT_k (jSt_T σ tb) - 1) = 1 by omega]; exact h11, (r8.tr (r9.tr (r10.tr r11)))⟩, rfl⟩
    · refine ja_aload_n C jd_X_draftMatrixProduct_122 4 rfl ?_
      refine ja_get C jg_X_32 jd_X_draftMatrixProduct_123 h8.obj rfl ?_
      refine jZx_g C jg_X_93 jd_X_draftMatrixProduct_126 h8.d (fun _ _ => rfl) ?_
      refine ja_iload C jd_X_draftMatrixProduct_129 0 rfl ?_
      refine jo_vV 8 C X jk_X_273 h8.d.z1 rfl (js_append h8.d.z1 h8.d.z2 (by decide)) jd_X_draftMatrixProduct_131 rfl rfl ⟨by decide, by decide⟩ (Nat.le_of_ble_eq_true rfl) (fun w12 hp12 => ?_)
      obtain ⟨g12a, g12b, f12⟩ := hp12
      obtain ⟨h12, r12⟩ := h8.s12 (by decide) g12a g12b f12
      refine ja_aload_n C jd_X_draftMatrixProduct_134 4 rfl ?_
      refine ja_get C jg_X_32 jd_X_draftMatrixProduct_135 h12.obj rfl ?_
      refine ja_iload C jd_X_draftMatrixProduct_138 0 rfl ?_
      refine jZx_p C jp_X_250 jnf_T_7 rfl rfl jd_X_draftMatrixProduct_140 h12.d tm (by decide) (fun p q => ⟨jp10 (p 0) (p 1) (p 2) (p 3) (nI (jT_S (jSt_T σ tb) 1)) (p 5) (p 6) (p 7) (p 8) (p 9), q, rfl⟩) (fun w13 z13 f13 => ?_)
      obtain ⟨h13, r13⟩ := h12.upd h12.k4 z13 f13
      refine ja_aload_n C jd_X_draftMatrixProduct_143 4 rfl ?_
      refine ja_get C jg_X_32 jd_X_draftMatrixProduct_144 h13.obj rfl ?_
      refine ja_iload C jd_X_draftMatrixProduct_147 1 rfl ?_
      refine jZx_p C jp_X_253 jnf_T_8 rfl rfl jd_X_draftMatrixProduct_149 h13.d tm (by decide) (fun p q => ⟨jp10 (p 0) (p 1) (p 2) (p 3) (p 4) (nI (jT_S (jSt_T σ ta) 0)) (p 6) (p 7) (p 8) (p 9), q, rfl⟩) (fun w14 z14 f14 => ?_)
      obtain ⟨h14, r14⟩ := h13.upd h13.k4 z14 f14
      refine ja_aload_n C jd_X_draftMatrixProduct_152 4 rfl ?_
      refine ja_aload C jd_X_draftMatrixProduct_153 2 rfl ?_
      refine ja_iconst C (nI 0) jd_X_draftMatrixProduct_155 (by decide) ?_
      refine jb_pV 8 C X jk_X_212 (h14.tz htb eb).z1 rfl (js_side (h14.tz htb eb).z1 (h14.tz htb eb).z2 (h14.ts htb) (by decide)) jd_X_draftMatrixProduct_156 rfl rfl ⟨by decide, by decide⟩ (Nat.le_of_ble_eq_true rfl) ?_
      refine ja_aload_n C jd_X_draftMatrixProduct_159 5 rfl ?_
      refine ja_aload_n C jd_X_draftMatrixProduct_160 6 rfl ?_
      refine jo_vV 8 C X jk_X_276 h14.obj rfl (jx_draftProducts h14 hta ea htb eb) jd_X_draftMatrixProduct_161 rfl rfl ⟨by decide, by decide⟩ (Nat.le_of_ble_eq_true rfl) (fun w15 hp15 => ?_)
      obtain ⟨h15, r15⟩ := hp15
      refine ja_iconst C (nI 1) jd_X_draftMatrixProduct_164 (by decide) ?_
      exact E jd_X_draftMatrixProduct_165 (Or.inr rfl) ⟨rfl, ⟨(upd (upd f 0 (nI (jT_S (jSt_T σ ta) 0))) 1 (nI (jT_S (jSt_T σ tb) 1))), fun j hj => by rcases Nat.lt_or_ge j 1 with z | z; rw [show j = 0 by omega, pk_un (by decide), pk_us, if_pos ⟨ca, rfl⟩]; rw [show j = 1 by omega, pk_us, if_neg (by omega)], by rw [show jT_k (jSt_T σ ta) - 1 + (jT_k (jSt_T σ tb) - 1) = 2 by omega]; exact h15, (r8.tr (r12.tr (r13.tr (r14.tr r15))))⟩, rfl⟩
theorem jx_cell {hw ta oa tb ob : Nat} (h : jXd cI cT cX x P σ dr F G own fT ls w k f m tm) (hta : ta < jSt_c σ) (ea : F ta = some oa) (htb : tb < jSt_c σ) (eb : F tb = some ob) (hhw : hw < 100) (hc : jT_k (jSt_T σ tb) ≤ jT_k (jSt_T σ ta)) : jb_M l jy_X_draftCellByCell jc_X_draftCellByCell 6 (some .boolean) 3 77 0 0 D H0 (jt_all cI cJ cT cX) [.ref x, .int (nI hw), .ref oa, .ref ob] w sz
    (fun v w' sz' => v = some (.int (if jl_tail (jT_S (jSt_T σ ta)) (jT_k (jSt_T σ ta)) (jT_S (jSt_T σ tb)) (jT_k (jSt_T σ tb)) = true then 1 else 0)) ∧ (∃ f', jSh (jT_k (jSt_T σ ta)) f' (jT_S (jSt_T σ ta)) ∧ (hw = 2 → jXd cI cT cX x P σ dr F G own fT ls w' (jT_k (jSt_T σ ta)) f' (nI (jT_r (jSt_T σ ta)) + nI (jT_r (jSt_T σ tb)), nI (jT_e (jSt_T σ ta)) + nI (jT_e (jSt_T σ tb)), jx_pr (lN (jT_q (jSt_T σ ta))) (lN (jT_q (jSt_T σ tb)))) tm) ∧ (¬ hw = 2 → jXd cI cT cX x P σ dr F G own fT ls w' (jT_k (jSt_T σ ta)) f' ((if nI (jT_r (jSt_T σ ta)) < nI (jT_r (jSt_T σ tb)) then nI (jT_r (jSt_T σ tb)) else nI (jT_r (jSt_T σ ta))) + nI 1, if nI (jT_e (jSt_T σ ta)) < nI (jT_e (jSt_T σ tb)) then nI (jT_e (jSt_T σ tb)) else nI (jT_e (jSt_T σ ta)), jx_lcm (lN (jT_q (jSt_T σ ta))) (lN (jT_q (jSt_T σ tb)))) tm) ∧ jXF P w w') ∧ sz' = sz) := by
  refine jb_meth_z (by decide) (Nat.le_of_ble_eq_true rfl) (fun u C X E => ?_)
  have ka := (h.ts hta).1
  have kb := (h.ts htb).1
  have a0 := (h.ts hta).bd 0
  have a1 := (h.ts hta).bd 1
  have a2 := (h.ts hta).bd 2
  have b0 := (h.ts htb).bd 0
  have b1 := (h.ts htb).bd 1
  have b2 := (h.ts htb).bd 2
  have b3 := (h.ts htb).bd 3
  have hxd := h.xd
  refine ja_aload_n C jd_X_draftCellByCell_0 2 rfl ?_
  refine jZx_g C jg_X_93 jd_X_draftCellByCell_1 (h.tz hta ea) (fun _ _ => rfl) ?_
  refine ja_get C jg_X_187 jd_X_draftCellByCell_4 (h.tz hta ea).z1 rfl ?_
  refine ja_aload_n C jd_X_draftCellByCell_7 3 rfl ?_
  refine jZx_g C jg_X_93 jd_X_draftCellByCell_8 (h.tz htb eb) (fun _ _ => rfl) ?_
  refine ja_get C jg_X_187 jd_X_draftCellByCell_11 (h.tz htb eb).z1 rfl ?_
  refine ja_icmp_geN C 21 jd_X_draftCellByCell_14 (by decide) (by omega) (by omega) (fun c1 => ?_) (fun c1 => absurd c1 (by omega))
  refine ja_aload_n C jd_X_draftCellByCell_21 2 rfl ?_
  refine ja_astore C [(4, .ref oa), (0, .ref x), (1, .int (nI hw)), (2, .ref oa), (3, .ref ob)] jd_X_draftCellByCell_22 (Nat.le_of_ble_eq_true rfl) rfl ?_
  refine ja_aload_n C jd_X_draftCellByCell_24 3 rfl ?_
  refine jZx_g C jg_X_93 jd_X_draftCellByCell_25 (h.tz hta ea) (fun _ _ => rfl) ?_
  refine ja_get C jg_X_187 jd_X_draftCellByCell_28 (h.tz hta ea).z1 rfl ?_
  refine ja_aload_n C jd_X_draftCellByCell_31 4 rfl ?_
  refine jZx_g C jg_X_93 jd_X_draftCellByCell_32 (h.tz htb eb) (fun _ _ => rfl) ?_
  refine ja_get C jg_X_187 jd_X_draftCellByCell_35 (h.tz htb eb).z1 rfl ?_
  refine ja_icmp_geN C 45 jd_X_draftCellByCell_38 (by decide) (by omega) (by omega) (fun c2 => ?_) (fun c2 => absurd c2 (by omega))
  refine ja_aload_n C jd_X_draftCellByCell_45 4 rfl ?_
  refine ja_astore C [(5, .ref ob), (4, .ref oa), (0, .ref x), (1, .int (nI hw)), (2, .ref oa), (3, .ref ob)] jd_X_draftCellByCell_46 (Nat.le_of_ble_eq_true rfl) rfl ?_
  refine ja_aload_n C jd_X_draftCellByCell_48 2 rfl ?_
  refine ja_get C jg_X_32 jd_X_draftCellByCell_49 h.obj rfl ?_
  refine ja_aload C jd_X_draftCellByCell_52 1 rfl ?_
  obtain ⟨fs1, hb1⟩ := h.d.z0
  refine jo_vV 8 C X jk_X_141 hb1 rfl (jt_resemble h.d (h.tz hta ea) (h.ts hta) (h.ap ea)) jd_X_draftCellByCell_54 rfl rfl ⟨by decide, by decide⟩ (Nat.le_of_ble_eq_true rfl) (fun w1 hp1 => ?_)
  obtain ⟨⟨f9, z1, hf9⟩, f1⟩ := hp1
  obtain ⟨h1, r1⟩ := h.upd (by omega) z1 f1
  refine ja_aload_n C jd_X_draftCellByCell_57 2 rfl ?_
  refine ja_get C jg_X_32 jd_X_draftCellByCell_58 h1.obj rfl ?_
  refine ja_aload C jd_X_draftCellByCell_61 1 rfl ?_
  refine jZx_g C jg_X_93 jd_X_draftCellByCell_63 (h1.tz hta ea) (fun _ _ => rfl) ?_
  refine jb_pV 8 C X jk_X_114 (h1.tz hta ea).z1 rfl (js_cells (h1.tz hta ea).z1 (h1.tz hta ea).z2 (h1.ts hta)) jd_X_draftCellByCell_66 rfl rfl ⟨by decide, by decide⟩ (Nat.le_of_ble_eq_true rfl) ?_
  refine ja_aload_n C jd_X_draftCellByCell_69 4 rfl ?_
  refine jZx_g C jg_X_93 jd_X_draftCellByCell_70 (h1.tz hta ea) (fun _ _ => rfl) ?_
  refine jb_pV 8 C X jk_X_114 (h1.tz hta ea).z1 rfl (js_cells (h1.tz hta ea).z1 (h1.tz hta ea).z2 (h1.ts hta)) jd_X_draftCellByCell_73 rfl rfl ⟨by decide, by decide⟩ (Nat.le_of_ble_eq_true rfl) ?_
  refine jb_pS 8 C X jk_X_246 (jx_timesIn) jd_X_draftCellByCell_76 rfl rfl ⟨by decide, by decide⟩ (Nat.le_of_ble_eq_true rfl) ?_
  refine jZx_p C jp_X_250 jnf_T_7 rfl rfl jd_X_draftCellByCell_79 h1.d tm (by decide) (fun p q => ⟨jp10 (p 0) (p 1) (p 2) (p 3) (jx_times (nI (jl_cl (jT_S (jSt_T σ ta)) (jT_k (jSt_T σ ta)))) (nI (jl_cl (jT_S (jSt_T σ ta)) (jT_k (jSt_T σ ta))))) (p 5) (p 6) (p 7) (p 8) (p 9), q, rfl⟩) (fun w2 z2 f2 => ?_)
  obtain ⟨h2, r2⟩ := h1.upd h1.k4 z2 f2
  refine ja_aload_n C jd_X_draftCellByCell_82 2 rfl ?_
  refine ja_get C jg_X_32 jd_X_draftCellByCell_83 h2.obj rfl ?_
  refine ja_aload C jd_X_draftCellByCell_86 1 rfl ?_
  refine jZx_g C jg_X_93 jd_X_draftCellByCell_88 (h2.tz hta ea) (fun _ _ => rfl) ?_
  refine jb_pV 8 C X jk_X_114 (h2.tz hta ea).z1 rfl (js_cells (h2.tz hta ea).z1 (h2.tz hta ea).z2 (h2.ts hta)) jd_X_draftCellByCell_91 rfl rfl ⟨by decide, by decide⟩ (Nat.le_of_ble_eq_true rfl) ?_
  refine ja_aload_n C jd_X_draftCellByCell_94 5 rfl ?_
  refine jZx_g C jg_X_93 jd_X_draftCellByCell_95 (h2.tz htb eb) (fun _ _ => rfl) ?_
  refine jb_pV 8 C X jk_X_114 (h2.tz htb eb).z1 rfl (js_cells (h2.tz htb eb).z1 (h2.tz htb eb).z2 (h2.ts htb)) jd_X_draftCellByCell_98 rfl rfl ⟨by decide, by decide⟩ (Nat.le_of_ble_eq_true rfl) ?_
  refine jb_pS 8 C X jk_X_246 (jx_timesIn) jd_X_draftCellByCell_101 rfl rfl ⟨by decide, by decide⟩ (Nat.le_of_ble_eq_true rfl) ?_
  refine jZx_p C jp_X_253 jnf_T_8 rfl rfl jd_X_draftCellByCell_104 h2.d tm (by decide) (fun p q => ⟨jp10 (p 0) (p 1) (p 2) (p 3) (p 4) (jx_times (nI (jl_cl (jT_S (jSt_T σ ta)) (jT_k (jSt_T σ ta)))) (nI (jl_cl (jT_S (jSt_T σ tb)) (jT_k (jSt_T σ tb))))) (p 6) (p 7) (p 8) (p 9), q, rfl⟩) (fun w3 z3 f3 => ?_)
  obtain ⟨h3, r3⟩ := h2.upd h2.k4 z3 f3
  refine ja_iload_n C jd_X_draftCellByCell_107 3 rfl ?_
  refine ja_iconst C (nI 2) jd_X_draftCellByCell_108 (by decide) ?_
  refine ja_icmp_neN C 138 jd_X_draftCellByCell_109 (by decide) (by omega) (by decide) (fun c3 => ?_) (fun c3 => ?_)
  · refine ja_aload_n C jd_X_draftCellByCell_138 2 rfl ?_
    refine ja_get C jg_X_32 jd_X_draftCellByCell_139 h3.obj rfl ?_
    refine jZx_g C jg_X_73 jd_X_draftCellByCell_142 h3.d (fun _ _ => rfl) ?_
    refine ja_aload C jd_X_draftCellByCell_145 0 rfl ?_
    refine jZx_g C jg_X_73 jd_X_draftCellByCell_147 (h3.tz htb eb) (fun _ _ => rfl) ?_
    refine jo_vV 8 C X jk_X_262 h3.d.z3 rfl (jm_unite h3.d.z3 (h3.tz htb eb).z3) jd_X_draftCellByCell_150 rfl rfl ⟨by decide, by decide⟩ (Nat.le_of_ble_eq_true rfl) (fun w4 hp4 => ?_)
    obtain ⟨g4, f4⟩ := hp4
    obtain ⟨h4, r4⟩ := h3.m3 g4 f4
    refine ja_aload_n C jd_X_draftCellByCell_153 2 rfl ?_
    refine ja_get C jg_X_32 jd_X_draftCellByCell_154 h4.obj rfl ?_
    refine jZx_g C jg_X_73 jd_X_draftCellByCell_157 h4.d (fun _ _ => rfl) ?_
    refine ja_iconst C (nI 1) jd_X_draftCellByCell_160 (by decide) ?_
    refine jo_vV 8 C X jk_X_265 h4.d.z3 rfl (jm_widen h4.d.z3) jd_X_draftCellByCell_161 rfl rfl ⟨by decide, by decide⟩ (Nat.le_of_ble_eq_true rfl) (fun w5 hp5 => ?_)
    obtain ⟨g5, f5⟩ := hp5
    obtain ⟨h5, r5⟩ := h4.m3 g5 f5
    refine ja_aload C jd_X_draftCellByCell_164 1 rfl ?_
    refine jZx_g C jg_X_93 jd_X_draftCellByCell_166 (h5.tz hta ea) (fun _ _ => rfl) ?_
    refine ja_aload C jd_X_draftCellByCell_169 0 rfl ?_
    refine jZx_g C jg_X_93 jd_X_draftCellByCell_171 (h5.tz htb eb) (fun _ _ => rfl) ?_
    refine jb_pV 8 C X jk_X_269 (h5.tz hta ea).z1 rfl (js_endsWith (h5.tz hta ea).z1 (h5.tz hta ea).z2 (h5.ts hta) (h5.tz htb eb).z1 (h5.tz htb eb).z2 (h5.ts htb)) jd_X_draftCellByCell_174 rfl rfl ⟨by decide, by decide⟩ (Nat.le_of_ble_eq_true rfl) ?_
    exact E jd_X_draftCellByCell_177 (by split; exact Or.inr rfl; exact Or.inl rfl) ⟨rfl, ⟨f9, hf9, fun z => absurd z c3, fun _ => h5, (r1.tr (r2.tr (r3.tr (r4.tr r5))))⟩, rfl⟩
  · refine ja_aload_n C jd_X_draftCellByCell_112 2 rfl ?_
    refine ja_get C jg_X_32 jd_X_draftCellByCell_113 h3.obj rfl ?_
    refine jZx_g C jg_X_73 jd_X_draftCellByCell_116 h3.d (fun _ _ => rfl) ?_
    refine ja_aload C jd_X_draftCellByCell_119 0 rfl ?_
    refine jZx_g C jg_X_73 jd_X_draftCellByCell_121 (h3.tz htb eb) (fun _ _ => rfl) ?_
    refine jo_vV 8 C X jk_X_256 h3.d.z3 rfl (jm_multiply h3.d.z3 (h3.tz htb eb).z3) jd_X_draftCellByCell_124 rfl rfl ⟨by decide, by decide⟩ (Nat.le_of_ble_eq_true rfl) (fun w6 hp6 => ?_)
    obtain ⟨g6, f6⟩ := hp6
    obtain ⟨h6, r6⟩ := h3.m3 g6 f6
    refine ja_aload_n C jd_X_draftCellByCell_127 2 rfl ?_
    refine ja_get C jg_X_32 jd_X_draftCellByCell_128 h6.obj rfl ?_
    refine ja_iconst C (nI 2) jd_X_draftCellByCell_131 (by decide) ?_
    refine jZx_p C jp_X_259 jnf_T_9 rfl rfl jd_X_draftCellByCell_132 h6.d tm (by decide) (fun p q => ⟨jp10 (p 0) (p 1) (p 2) (p 3) (p 4) (p 5) (nI 2) (p 7) (p 8) (p 9), q, rfl⟩) (fun w7 z7 f7 => ?_)
    obtain ⟨h7, r7⟩ := h6.upd h6.k4 z7 f7
    refine ja_goto C 164 jd_X_draftCellByCell_135 (by decide) ?_
    refine ja_aload C jd_X_draftCellByCell_164 1 rfl ?_
    refine jZx_g C jg_X_93 jd_X_draftCellByCell_166 (h7.tz hta ea) (fun _ _ => rfl) ?_
    refine ja_aload C jd_X_draftCellByCell_169 0 rfl ?_
    refine jZx_g C jg_X_93 jd_X_draftCellByCell_171 (h7.tz htb eb) (fun _ _ => rfl) ?_
    refine jb_pV 8 C X jk_X_269 (h7.tz hta ea).z1 rfl (js_endsWith (h7.tz hta ea).z1 (h7.tz hta ea).z2 (h7.ts hta) (h7.tz htb eb).z1 (h7.tz htb eb).z2 (h7.ts htb)) jd_X_draftCellByCell_174 rfl rfl ⟨by decide, by decide⟩ (Nat.le_of_ble_eq_true rfl) ?_
    exact E jd_X_draftCellByCell_177 (by split; exact Or.inr rfl; exact Or.inl rfl) ⟨rfl, ⟨f9, hf9, fun _ => h7, fun z => absurd c3 z, (r1.tr (r2.tr (r3.tr (r6.tr r7))))⟩, rfl⟩
theorem jx_cellL {hw ta oa tb ob : Nat} (h : jXd cI cT cX x P σ dr F G own fT ls w k f m tm) (hta : ta < jSt_c σ) (ea : F ta = some oa) (htb : tb < jSt_c σ) (eb : F tb = some ob) (hhw : hw < 100) (hc : jT_k (jSt_T σ ta) < jT_k (jSt_T σ tb)) : jb_M l jy_X_draftCellByCell jc_X_draftCellByCell 6 (some .boolean) 3 77 0 0 D H0 (jt_all cI cJ cT cX) [.ref x, .int (nI hw), .ref oa, .ref ob] w sz
    (fun v w' sz' => v = some (.int (if jl_tail (jT_S (jSt_T σ tb)) (jT_k (jSt_T σ tb)) (jT_S (jSt_T σ ta)) (jT_k (jSt_T σ ta)) = true then 1 else 0)) ∧ (∃ f', jSh (jT_k (jSt_T σ tb)) f' (jT_S (jSt_T σ tb)) ∧ (hw = 2 → jXd cI cT cX x P σ dr F G own fT ls w' (jT_k (jSt_T σ tb)) f' (nI (jT_r (jSt_T σ tb)) + nI (jT_r (jSt_T σ ta)), nI (jT_e (jSt_T σ tb)) + nI (jT_e (jSt_T σ ta)), jx_pr (lN (jT_q (jSt_T σ tb))) (lN (jT_q (jSt_T σ ta)))) tm) ∧ (¬ hw = 2 → jXd cI cT cX x P σ dr F G own fT ls w' (jT_k (jSt_T σ tb)) f' ((if nI (jT_r (jSt_T σ tb)) < nI (jT_r (jSt_T σ ta)) then nI (jT_r (jSt_T σ ta)) else nI (jT_r (jSt_T σ tb))) + nI 1, if nI (jT_e (jSt_T σ tb)) < nI (jT_e (jSt_T σ ta)) then nI (jT_e (jSt_T σ ta)) else nI (jT_e (jSt_T σ tb)), jx_lcm (lN (jT_q (jSt_T σ tb))) (lN (jT_q (jSt_T σ ta)))) tm) ∧ jXF P w w') ∧ sz' = sz) := by
  refine jb_meth_z (by decide) (Nat.le_of_ble_eq_true rfl) (fun u C X E => ?_)
  have ka := (h.ts hta).1
  have kb := (h.ts htb).1
  have a0 := (h.ts hta).bd 0
  have a1 := (h.ts hta).bd 1
  have a2 := (h.ts hta).bd 2
  have b0 := (h.ts htb).bd 0
  have b1 := (h.ts htb).bd 1
  have b2 := (h.ts htb).bd 2
  have b3 := (h.ts htb).bd 3
  have hxd := h.xd
  refine ja_aload_n C jd_X_draftCellByCell_0 2 rfl ?_
  refine jZx_g C jg_X_93 jd_X_draftCellByCell_1 (h.tz hta ea) (fun _ _ => rfl) ?_
  refine ja_get C jg_X_187 jd_X_draftCellByCell_4 (h.tz hta ea).z1 rfl ?_
  refine ja_aload_n C jd_X_draftCellByCell_7 3 rfl ?_
  refine jZx_g C jg_X_93 jd_X_draftCellByCell_8 (h.tz htb eb) (fun _ _ => rfl) ?_
  refine ja_get C jg_X_187 jd_X_draftCellByCell_11 (h.tz htb eb).z1 rfl ?_
  refine ja_icmp_geN C 21 jd_X_draftCellByCell_14 (by decide) (by omega) (by omega) (fun c1 => absurd c1 (by omega)) (fun c1 => ?_)
  refine ja_aload_n C jd_X_draftCellByCell_17 3 rfl ?_
  refine ja_goto C 22 jd_X_draftCellByCell_18 (by decide) ?_
  refine ja_astore C [(4, .ref ob), (0, .ref x), (1, .int (nI hw)), (2, .ref oa), (3, .ref ob)] jd_X_draftCellByCell_22 (Nat.le_of_ble_eq_true rfl) rfl ?_
  refine ja_aload_n C jd_X_draftCellByCell_24 3 rfl ?_
  refine jZx_g C jg_X_93 jd_X_draftCellByCell_25 (h.tz hta ea) (fun _ _ => rfl) ?_
  refine ja_get C jg_X_187 jd_X_draftCellByCell_28 (h.tz hta ea).z1 rfl ?_
  refine ja_aload_n C jd_X_draftCellByCell_31 4 rfl ?_
  refine jZx_g C jg_X_93 jd_X_draftCellByCell_32 (h.tz htb eb) (fun _ _ => rfl) ?_
  refine ja_get C jg_X_187 jd_X_draftCellByCell_35 (h.tz htb eb).z1 rfl ?_
  refine ja_icmp_geN C 45 jd_X_draftCellByCell_38 (by decide) (by omega) (by omega) (fun c2 => absurd c2 (by omega)) (fun c2 => ?_)
  refine ja_aload_n C jd_X_draftCellByCell_41 3 rfl ?_
  refine ja_goto C 46 jd_X_draftCellByCell_42 (by decide) ?_
  refine ja_astore C [(5, .ref oa), (4, .ref ob), (0, .ref x), (1, .int (nI hw)), (2, .ref oa), (3, .ref ob)] jd_X_draftCellByCell_46 (Nat.le_of_ble_eq_true rfl) rfl ?_
  refine ja_aload_n C jd_X_draftCellByCell_48 2 rfl ?_
  refine ja_get C jg_X_32 jd_X_draftCellByCell_49 h.obj rfl ?_
  refine ja_aload C jd_X_draftCellByCell_52 1 rfl ?_
  obtain ⟨fs1, hb1⟩ := h.d.z0
  refine jo_vV 8 C X jk_X_141 hb1 rfl (jt_resemble h.d (h.tz htb eb) (h.ts htb) (h.ap eb)) jd_X_draftCellByCell_54 rfl rfl ⟨by decide, by decide⟩ (Nat.le_of_ble_eq_true rfl) (fun w1 hp1 => ?_)
  obtain ⟨⟨f9, z1, hf9⟩, f1⟩ := hp1
  obtain ⟨h1, r1⟩ := h.upd (by omega) z1 f1
  refine ja_aload_n C jd_X_draftCellByCell_57 2 rfl ?_
  refine ja_get C jg_X_32 jd_X_draftCellByCell_58 h1.obj rfl ?_
  refine ja_aload C jd_X_draftCellByCell_61 1 rfl ?_
  refine jZx_g C jg_X_93 jd_X_draftCellByCell_63 (h1.tz htb eb) (fun _ _ => rfl) ?_
  refine jb_pV 8 C X jk_X_114 (h1.tz htb eb).z1 rfl (js_cells (h1.tz htb eb).z1 (h1.tz htb eb).z2 (h1.ts htb)) jd_X_draftCellByCell_66 rfl rfl ⟨by decide, by decide⟩ (Nat.le_of_ble_eq_true rfl) ?_
  refine ja_aload_n C jd_X_draftCellByCell_69 4 rfl ?_
  refine jZx_g C jg_X_93 jd_X_draftCellByCell_70 (h1.tz hta ea) (fun _ _ => rfl) ?_
  refine jb_pV 8 C X jk_X_114 (h1.tz hta ea).z1 rfl (js_cells (h1.tz hta ea).z1 (h1.tz hta ea).z2 (h1.ts hta)) jd_X_draftCellByCell_73 rfl rfl ⟨by decide, by decide⟩ (Nat.le_of_ble_eq_true rfl) ?_
  refine jb_pS 8 C X jk_X_246 (jx_timesIn) jd_X_draftCellByCell_76 rfl rfl ⟨by decide, by decide⟩ (Nat.le_of_ble_eq_true rfl) ?_
  refine jZx_p C jp_X_250 jnf_T_7 rfl rfl jd_X_draftCellByCell_79 h1.d tm (by decide) (fun p q => ⟨jp10 (p 0) (p 1) (p 2) (p 3) (jx_times (nI (jl_cl (jT_S (jSt_T σ tb)) (jT_k (jSt_T σ tb)))) (nI (jl_cl (jT_S (jSt_T σ ta)) (jT_k (jSt_T σ ta))))) (p 5) (p 6) (p 7) (p 8) (p 9), q, rfl⟩) (fun w2 z2 f2 => ?_)
  obtain ⟨h2, r2⟩ := h1.upd h1.k4 z2 f2
  refine ja_aload_n C jd_X_draftCellByCell_82 2 rfl ?_
  refine ja_get C jg_X_32 jd_X_draftCellByCell_83 h2.obj rfl ?_
  refine ja_aload C jd_X_draftCellByCell_86 1 rfl ?_
  refine jZx_g C jg_X_93 jd_X_draftCellByCell_88 (h2.tz htb eb) (fun _ _ => rfl) ?_
  refine jb_pV 8 C X jk_X_114 (h2.tz htb eb).z1 rfl (js_cells (h2.tz htb eb).z1 (h2.tz htb eb).z2 (h2.ts htb)) jd_X_draftCellByCell_91 rfl rfl ⟨by decide, by decide⟩ (Nat.le_of_ble_eq_true rfl) ?_
  refine ja_aload_n C jd_X_draftCellByCell_94 5 rfl ?_
  refine jZx_g C jg_X_93 jd_X_draftCellByCell_95 (h2.tz htb eb) (fun _ _ => rfl) ?_
  refine jb_pV 8 C X jk_X_114 (h2.tz htb eb).z1 rfl (js_cells (h2.tz htb eb).z1 (h2.tz htb eb).z2 (h2.ts htb)) jd_X_draftCellByCell_98 rfl rfl ⟨by decide, by decide⟩ (Nat.le_of_ble_eq_true rfl) ?_
  refine jb_pS 8 C X jk_X_246 (jx_timesIn) jd_X_draftCellByCell_101 rfl rfl ⟨by decide, by decide⟩ (Nat.le_of_ble_eq_true rfl) ?_
  refine jZx_p C jp_X_253 jnf_T_8 rfl rfl jd_X_draftCellByCell_104 h2.d tm (by decide) (fun p q => ⟨jp10 (p 0) (p 1) (p 2) (p 3) (p 4) (jx_times (nI (jl_cl (jT_S (jSt_T σ tb)) (jT_k (jSt_T σ tb)))) (nI (jl_cl (jT_S (jSt_T σ tb)) (jT_k (jSt_T σ tb))))) (p 6) (p 7) (p 8) (p 9), q, rfl⟩) (fun w3 z3 f3 => ?_)
  obtain ⟨h3, r3⟩ := h2.upd h2.k4 z3 f3
  refine ja_iload_n C jd_X_draftCellByCell_107 3 rfl ?_
  refine ja_iconst C (nI 2) jd_X_draftCellByCell_108 (by decide) ?_
  refine ja_icmp_neN C 138 jd_X_draftCellByCell_109 (by decide) (by omega) (by decide) (fun c3 => ?_) (fun c3 => ?_)
  · refine ja_aload_n C jd_X_draftCellByCell_138 2 rfl ?_
    refine ja_get C jg_X_32 jd_X_draftCellByCell_139 h3.obj rfl ?_
    refine jZx_g C jg_X_73 jd_X_draftCellByCell_142 h3.d (fun _ _ => rfl) ?_
    refine ja_aload C jd_X_draftCellByCell_145 0 rfl ?_
    refine jZx_g C jg_X_73 jd_X_draftCellByCell_147 (h3.tz hta ea) (fun _ _ => rfl) ?_
    refine jo_vV 8 C X jk_X_262 h3.d.z3 rfl (jm_unite h3.d.z3 (h3.tz hta ea).z3) jd_X_draftCellByCell_150 rfl rfl ⟨by decide, by decide⟩ (Nat.le_of_ble_eq_true rfl) (fun w4 hp4 => ?_)
    obtain ⟨g4, f4⟩ := hp4
    obtain ⟨h4, r4⟩ := h3.m3 g4 f4
    refine ja_aload_n C jd_X_draftCellByCell_153 2 rfl ?_
    refine ja_get C jg_X_32 jd_X_draftCellByCell_154 h4.obj rfl ?_
    refine jZx_g C jg_X_73 jd_X_draftCellByCell_157 h4.d (fun _ _ => rfl) ?_
    refine ja_iconst C (nI 1) jd_X_draftCellByCell_160 (by decide) ?_
    refine jo_vV 8 C X jk_X_265 h4.d.z3 rfl (jm_widen h4.d.z3) jd_X_draftCellByCell_161 rfl rfl ⟨by decide, by decide⟩ (Nat.le_of_ble_eq_true rfl) (fun w5 hp5 => ?_)
    obtain ⟨g5, f5⟩ := hp5
    obtain ⟨h5, r5⟩ := h4.m3 g5 f5
    refine ja_aload C jd_X_draftCellByCell_164 1 rfl ?_
    refine jZx_g C jg_X_93 jd_X_draftCellByCell_166 (h5.tz htb eb) (fun _ _ => rfl) ?_
    refine ja_aload C jd_X_draftCellByCell_169 0 rfl ?_
    refine jZx_g C jg_X_93 jd_X_draftCellByCell_171 (h5.tz hta ea) (fun _ _ => rfl) ?_
    refine jb_pV 8 C X jk_X_269 (h5.tz htb eb).z1 rfl (js_endsWith (h5.tz htb eb).z1 (h5.tz htb eb).z2 (h5.ts htb) (h5.tz hta ea).z1 (h5.tz hta ea).z2 (h5.ts hta)) jd_X_draftCellByCell_174 rfl rfl ⟨by decide, by decide⟩ (Nat.le_of_ble_eq_true rfl) ?_
    exact E jd_X_draftCellByCell_177 (by split; exact Or.inr rfl; exact Or.inl rfl) ⟨rfl, ⟨f9, hf9, fun z => absurd z c3, fun _ => h5, (r1.tr (r2.tr (r3.tr (r4.tr r5))))⟩, rfl⟩
  · refine ja_aload_n C jd_X_draftCellByCell_112 2 rfl ?_
    refine ja_get C jg_X_32 jd_X_draftCellByCell_113 h3.obj rfl ?_
    refine jZx_g C jg_X_73 jd_X_draftCellByCell_116 h3.d (fun _ _ => rfl) ?_
    refine ja_aload C jd_X_draftCellByCell_119 0 rfl ?_
    refine jZx_g C jg_X_73 jd_X_draftCellByCell_121 (h3.tz hta ea) (fun _ _ => rfl) ?_
    refine jo_vV 8 C X jk_X_256 h3.d.z3 rfl (jm_multiply h3.d.z3 (h3.tz hta ea).z3) jd_X_draftCellByCell_124 rfl rfl ⟨by decide, by decide⟩ (Nat.le_of_ble_eq_true rfl) (fun w6 hp6 => ?_)
    obtain ⟨g6, f6⟩ := hp6
    obtain ⟨h6, r6⟩ := h3.m3 g6 f6
    refine ja_aload_n C jd_X_draftCellByCell_127 2 rfl ?_
    refine ja_get C jg_X_32 jd_X_draftCellByCell_128 h6.obj rfl ?_
    refine ja_iconst C (nI 2) jd_X_draftCellByCell_131 (by decide) ?_
    refine jZx_p C jp_X_259 jnf_T_9 rfl rfl jd_X_draftCellByCell_132 h6.d tm (by decide) (fun p q => ⟨jp10 (p 0) (p 1) (p 2) (p 3) (p 4) (p 5) (nI 2) (p 7) (p 8) (p 9), q, rfl⟩) (fun w7 z7 f7 => ?_)
    obtain ⟨h7, r7⟩ := h6.upd h6.k4 z7 f7
    refine ja_goto C 164 jd_X_draftCellByCell_135 (by decide) ?_
    refine ja_aload C jd_X_draftCellByCell_164 1 rfl ?_
    refine jZx_g C jg_X_93 jd_X_draftCellByCell_166 (h7.tz htb eb) (fun _ _ => rfl) ?_
    refine ja_aload C jd_X_draftCellByCell_169 0 rfl ?_
    refine jZx_g C jg_X_93 jd_X_draftCellByCell_171 (h7.tz hta ea) (fun _ _ => rfl) ?_
    refine jb_pV 8 C X jk_X_269 (h7.tz htb eb).z1 rfl (js_endsWith (h7.tz htb eb).z1 (h7.tz htb eb).z2 (h7.ts htb) (h7.tz hta ea).z1 (h7.tz hta ea).z2 (h7.ts hta)) jd_X_draftCellByCell_174 rfl rfl ⟨by decide, by decide⟩ (Nat.le_of_ble_eq_true rfl) ?_
    exact E jd_X_draftCellByCell_177 (by split; exact Or.inr rfl; exact Or.inl rfl) ⟨rfl, ⟨f9, hf9, fun _ => h7, fun z => absurd c3 z, (r1.tr (r2.tr (r3.tr (r6.tr r7))))⟩, rfl⟩
theorem jx_difference {ta oa tb ob : Nat} (h : jXd cI cT cX x P σ dr F G own fT ls w k f m tm) (hta : ta < jSt_c σ) (ea : F ta = some oa) (htb : tb < jSt_c σ) (eb : F tb = some ob) : jb_M l jy_X_measureDifference jc_X_measureDifference 3 none 3 76 0 0 D H0 (jt_all cI cJ cT cX) [.ref x, .ref oa, .ref ob] w sz
    (fun v w' sz' => v = none ∧ (w' (x + 4) = some (.inr (0, [.int ((if nI (jT_r (jSt_T σ ta)) < nI (jT_r (jSt_T σ tb)) then nI (jT_r (jSt_T σ tb)) else nI (jT_r (jSt_T σ ta))) + nI 1), .int (if nI (jT_e (jSt_T σ ta)) < nI (jT_e (jSt_T σ tb)) then nI (jT_e (jSt_T σ tb)) else nI (jT_e (jSt_T σ ta))), .long (jx_lcm (lN (jT_q (jSt_T σ ta))) (lN (jT_q (jSt_T σ tb))))])) ∧ jXd cI cT cX x P σ dr F G own fT ls w' k f m tm ∧ jXF P w w') ∧ sz' = sz) := by
  refine jb_meth_v (by decide) (Nat.le_of_ble_eq_true rfl) (fun u C X hnm E => ?_)
  have ka := (h.ts hta).1
  have kb := (h.ts htb).1
  have a0 := (h.ts hta).bd 0
  have a1 := (h.ts hta).bd 1
  have a2 := (h.ts hta).bd 2
  have b0 := (h.ts htb).bd 0
  have b1 := (h.ts htb).bd 1
  have b2 := (h.ts htb).bd 2
  have b3 := (h.ts htb).bd 3
  have hxd := h.xd
  have xa := h.xb ea
  have xb := h.xb eb
  obtain ⟨r5, e5, q5, h5⟩ := h.2.2.2.2.1
  refine ja_aload_n C jd_X_measureDifference_0 0 rfl ?_
  refine ja_get C jg_X_28 jd_X_measureDifference_1 h.obj rfl ?_
  refine ja_aload_n C jd_X_measureDifference_4 1 rfl ?_
  refine jZx_g C jg_X_73 jd_X_measureDifference_5 (h.tz hta ea) (fun _ _ => rfl) ?_
  refine jo_vV 8 C X jk_X_280 h5 rfl (jm_copy h5 (h.tz hta ea).z3) jd_X_measureDifference_8 rfl rfl ⟨by decide, by decide⟩ (Nat.le_of_ble_eq_true rfl) (fun w1 hp1 => ?_)
  obtain ⟨g1a, f1⟩ := hp1
  obtain ⟨h1, r1⟩ := h.scr (Or.inr rfl) g1a f1
  refine ja_aload_n C jd_X_measureDifference_11 0 rfl ?_
  refine ja_get C jg_X_28 jd_X_measureDifference_12 h1.obj rfl ?_
  refine ja_aload_n C jd_X_measureDifference_15 2 rfl ?_
  refine jZx_g C jg_X_73 jd_X_measureDifference_16 (h1.tz htb eb) (fun _ _ => rfl) ?_
  refine jo_vV 8 C X jk_X_262 g1a rfl (jm_unite g1a (h1.tz htb eb).z3) jd_X_measureDifference_19 rfl rfl ⟨by decide, by decide⟩ (Nat.le_of_ble_eq_true rfl) (fun w2 hp2 => ?_)
  obtain ⟨g2a, f2⟩ := hp2
  obtain ⟨h2, r2⟩ := h1.scr (Or.inr rfl) g2a f2
  refine ja_aload_n C jd_X_measureDifference_22 0 rfl ?_
  refine ja_get C jg_X_28 jd_X_measureDifference_23 h2.obj rfl ?_
  refine ja_iconst C (nI 1) jd_X_measureDifference_26 (by decide) ?_
  refine jo_vV 8 C X jk_X_265 g2a rfl (jm_widen g2a) jd_X_measureDifference_27 rfl rfl ⟨by decide, by decide⟩ (Nat.le_of_ble_eq_true rfl) (fun w3 hp3 => ?_)
  obtain ⟨g3a, f3⟩ := hp3
  obtain ⟨h3, r3⟩ := h2.scr (Or.inr rfl) g3a f3
  exact E jd_X_measureDifference_30 ⟨rfl, ⟨g3a, h3, r1.tr (r2.tr r3)⟩, rfl⟩
theorem jx_gap {ta oa tb ob : Nat} (h : jXd cI cT cX x P σ dr F G own fT ls w k f m tm) (hta : ta < jSt_c σ) (ea : F ta = some oa) (htb : tb < jSt_c σ) (eb : F tb = some ob) : jb_M l jy_X_draftGap jc_X_draftGap 3 none 4 98 0 0 D H0 (jt_all cI cJ cT cX) [.ref x, .ref oa, .ref ob] w sz
    (fun v w' sz' => v = none ∧ (jXd cI cT cX x P σ dr F G own fT ls w' 0 f (((if nI (jT_r (jSt_T σ ta)) < nI (jT_r (jSt_T σ tb)) then nI (jT_r (jSt_T σ tb)) else nI (jT_r (jSt_T σ ta))) + nI 1) + ((if nI (jT_r (jSt_T σ ta)) < nI (jT_r (jSt_T σ tb)) then nI (jT_r (jSt_T σ tb)) else nI (jT_r (jSt_T σ ta))) + nI 1) + jx_bits (nI (jl_cells (jT_S (jSt_T σ ta)) (jT_k (jSt_T σ ta))) - 1) + jx_bits (nI 1), (if nI (jT_e (jSt_T σ ta)) < nI (jT_e (jSt_T σ tb)) then nI (jT_e (jSt_T σ tb)) else nI (jT_e (jSt_T σ ta))) + (if nI (jT_e (jSt_T σ ta)) < nI (jT_e (jSt_T σ tb)) then nI (jT_e (jSt_T σ tb)) else nI (jT_e (jSt_T σ ta))) + jx_twos (nI 2), jx_pr (jx_pr (jx_lcm (lN (jT_q (jSt_T σ ta))) (lN (jT_q (jSt_T σ tb)))) (jx_lcm (lN (jT_q (jSt_T σ ta))) (lN (jT_q (jSt_T σ tb))))) (nI 2 >>> (jx_twos (nI 2) &&& 31)).toInt64) (nI (jl_cells (jT_S (jSt_T σ ta)) (jT_k (jSt_T σ ta)))) ∧ jXF P w w') ∧ sz' = sz) := by
  refine jb_meth_v (by decide) (Nat.le_of_ble_eq_true rfl) (fun u C X hnm E => ?_)
  have ka := (h.ts hta).1
  have kb := (h.ts htb).1
  have a0 := (h.ts hta).bd 0
  have a1 := (h.ts hta).bd 1
  have a2 := (h.ts hta).bd 2
  have b0 := (h.ts htb).bd 0
  have b1 := (h.ts htb).bd 1
  have b2 := (h.ts htb).bd 2
  have b3 := (h.ts htb).bd 3
  have hxd := h.xd
  have oka := h.ok hta
  have ecl : jl_cl (jT_S (jSt_T σ ta)) (jT_k (jSt_T σ ta)) = jl_cells (jT_S (jSt_T σ ta)) (jT_k (jSt_T σ ta)) := by unfold jl_cl; rw [if_pos oka.2.2.2.1]
  refine ja_aload_n C jd_X_draftGap_0 0 rfl ?_
  refine ja_aload_n C jd_X_draftGap_1 1 rfl ?_
  refine ja_aload_n C jd_X_draftGap_2 2 rfl ?_
  refine jo_vV 8 C X jk_X_329 h.obj rfl (jx_difference h hta ea htb eb) jd_X_draftGap_3 rfl rfl ⟨by decide, by decide⟩ (Nat.le_of_ble_eq_true rfl) (fun w1 hp1 => ?_)
  obtain ⟨hd4, h1, r1⟩ := hp1
  refine ja_aload_n C jd_X_draftGap_6 0 rfl ?_
  refine ja_get C jg_X_32 jd_X_draftGap_7 h1.obj rfl ?_
  refine jZx_g C jg_X_93 jd_X_draftGap_10 h1.d (fun _ _ => rfl) ?_
  refine jo_vV 8 C X jk_X_309 h1.d.z1 rfl (js_clear h1.d.z1 h1.d.z2) jd_X_draftGap_13 rfl rfl ⟨by decide, by decide⟩ (Nat.le_of_ble_eq_true rfl) (fun w2 hp2 => ?_)
  obtain ⟨g2, f2⟩ := hp2
  obtain ⟨h2, r2⟩ := h1.s1 (by decide) g2 f2
  refine ja_aload_n C jd_X_draftGap_16 0 rfl ?_
  refine ja_get C jg_X_32 jd_X_draftGap_17 h2.obj rfl ?_
  refine ja_aload_n C jd_X_draftGap_20 1 rfl ?_
  refine jZx_g C jg_X_93 jd_X_draftGap_21 (h2.tz hta ea) (fun _ _ => rfl) ?_
  refine jb_pV 8 C X jk_X_114 (h2.tz hta ea).z1 rfl (js_cells (h2.tz hta ea).z1 (h2.tz hta ea).z2 (h2.ts hta)) jd_X_draftGap_24 rfl rfl ⟨by decide, by decide⟩ (Nat.le_of_ble_eq_true rfl) ?_
  rw [ecl]
  refine jZx_p C jp_X_215 jnf_T_4 rfl rfl jd_X_draftGap_27 h2.d (nI (jl_cells (jT_S (jSt_T σ ta)) (jT_k (jSt_T σ ta)))) (by decide) (fun p q => ⟨jp10 (p 0) (nI (jl_cells (jT_S (jSt_T σ ta)) (jT_k (jSt_T σ ta)))) (p 2) (p 3) (p 4) (p 5) (p 6) (p 7) (p 8) (p 9), rfl, rfl⟩) (fun w3 z3 f3 => ?_)
  obtain ⟨h3, r3⟩ := h2.upd h2.k4 z3 f3
  refine ja_aload_n C jd_X_draftGap_30 0 rfl ?_
  refine ja_get C jg_X_32 jd_X_draftGap_31 h3.obj rfl ?_
  refine jZx_g C jg_X_73 jd_X_draftGap_34 h3.d (fun _ _ => rfl) ?_
  refine ja_aload_n C jd_X_draftGap_37 0 rfl ?_
  refine ja_get C jg_X_28 jd_X_draftGap_38 h3.obj rfl ?_
  refine jo_vV 8 C X jk_X_280 h3.d.z3 rfl (jm_copy h3.d.z3 ((f3 _ (by omega)).trans ((f2 _ (by omega)).trans hd4))) jd_X_draftGap_41 rfl rfl ⟨by decide, by decide⟩ (Nat.le_of_ble_eq_true rfl) (fun w4 hp4 => ?_)
  obtain ⟨g4, f4⟩ := hp4
  obtain ⟨h4, r4⟩ := h3.m3 g4 f4
  refine ja_aload_n C jd_X_draftGap_44 0 rfl ?_
  refine ja_get C jg_X_32 jd_X_draftGap_45 h4.obj rfl ?_
  refine jZx_g C jg_X_73 jd_X_draftGap_48 h4.d (fun _ _ => rfl) ?_
  refine ja_aload_n C jd_X_draftGap_51 0 rfl ?_
  refine ja_get C jg_X_28 jd_X_draftGap_52 h4.obj rfl ?_
  refine jo_vV 8 C X jk_X_256 h4.d.z3 rfl (jm_multiply h4.d.z3 ((f4 _ (by omega)).trans ((f3 _ (by omega)).trans ((f2 _ (by omega)).trans hd4)))) jd_X_draftGap_55 rfl rfl ⟨by decide, by decide⟩ (Nat.le_of_ble_eq_true rfl) (fun w5 hp5 => ?_)
  obtain ⟨g5, f5⟩ := hp5
  obtain ⟨h5, r5⟩ := h4.m3 g5 f5
  refine ja_aload_n C jd_X_draftGap_58 0 rfl ?_
  refine ja_get C jg_X_32 jd_X_draftGap_59 h5.obj rfl ?_
  refine jZx_g C jg_X_73 jd_X_draftGap_62 h5.d (fun _ _ => rfl) ?_
  refine ja_aload_n C jd_X_draftGap_65 0 rfl ?_
  refine ja_get C jg_X_32 jd_X_draftGap_66 h5.obj rfl ?_
  refine jZx_g (v := .int (nI (jl_cells (jT_S (jSt_T σ ta)) (jT_k (jSt_T σ ta))))) C jg_X_215 jd_X_draftGap_69 h5.d (fun _ q => congrArg (fun z => some (Value.int z)) q) ?_
  refine jb_pS 8 C X jk_X_283 (jx_doublingsTo) jd_X_draftGap_72 rfl rfl ⟨by decide, by decide⟩ (Nat.le_of_ble_eq_true rfl) ?_
  refine jo_vV 8 C X jk_X_265 h5.d.z3 rfl (jm_widen h5.d.z3) jd_X_draftGap_75 rfl rfl ⟨by decide, by decide⟩ (Nat.le_of_ble_eq_true rfl) (fun w6 hp6 => ?_)
  obtain ⟨g6, f6⟩ := hp6
  obtain ⟨h6, r6⟩ := h5.m3 g6 f6
  refine ja_aload_n C jd_X_draftGap_78 0 rfl ?_
  refine ja_get C jg_X_32 jd_X_draftGap_79 h6.obj rfl ?_
  refine jZx_g C jg_X_73 jd_X_draftGap_82 h6.d (fun _ _ => rfl) ?_
  refine ja_iconst C (nI 2) jd_X_draftGap_85 (by decide) ?_
  refine ja_iconst C (nI 1) jd_X_draftGap_86 (by decide) ?_
  refine jo_vV 8 C X jk_X_332 h6.d.z3 rfl (jm_divide h6.d.z3) jd_X_draftGap_87 rfl rfl ⟨by decide, by decide⟩ (Nat.le_of_ble_eq_true rfl) (fun w7 hp7 => ?_)
  obtain ⟨g7, f7⟩ := hp7
  obtain ⟨h7, r7⟩ := h6.m3 g7 f7
  refine ja_aload_n C jd_X_draftGap_90 0 rfl ?_
  refine ja_get C jg_X_32 jd_X_draftGap_91 h7.obj rfl ?_
  refine ja_iconst C (nI 4) jd_X_draftGap_94 (by decide) ?_
  refine jZx_p C jp_X_259 jnf_T_9 rfl rfl jd_X_draftGap_95 h7.d (nI (jl_cells (jT_S (jSt_T σ ta)) (jT_k (jSt_T σ ta)))) (by decide) (fun p q => ⟨jp10 (p 0) (p 1) (p 2) (p 3) (p 4) (p 5) (nI 4) (p 7) (p 8) (p 9), q, rfl⟩) (fun w8 z8 f8 => ?_)
  obtain ⟨h8, r8⟩ := h7.upd h7.k4 z8 f8
  exact E jd_X_draftGap_98 ⟨rfl, ⟨h8, (r1.tr (r2.tr (r3.tr (r4.tr (r5.tr (r6.tr (r7.tr r8)))))))⟩, rfl⟩
end X75
