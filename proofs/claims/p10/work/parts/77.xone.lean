/-! THE CLASS: drafts of one, by what they are -/

theorem jk_X_318 : jb_KV "MeasuredTensors" 318 jy_X_draftConvolution jc_X_draftConvolution 9 (some .boolean) 3 := ⟨jw_in (by decide +kernel) (by decide +kernel), jw_in (by decide +kernel) (by decide +kernel), jw_in (by decide +kernel) (by decide +kernel), jw_in (by decide +kernel) (by decide +kernel), jw_in (by decide +kernel) (by decide +kernel), by decide +kernel⟩
theorem jk_X_322 : jb_KV "MeasuredTensors" 322 jy_S_equalsBehindFirst jc_S_equalsBehindFirst 2 (some .boolean) 1 := ⟨jw_in (by decide +kernel) (by decide +kernel), jw_in (by decide +kernel) (by decide +kernel), jw_in (by decide +kernel) (by decide +kernel), jw_in (by decide +kernel) (by decide +kernel), jw_in (by decide +kernel) (by decide +kernel), by decide +kernel⟩
theorem jk_X_325 : jb_KV "MeasuredTensors" 325 jy_X_draftGap jc_X_draftGap 3 none 2 := ⟨jw_in (by decide +kernel) (by decide +kernel), jw_in (by decide +kernel) (by decide +kernel), jw_in (by decide +kernel) (by decide +kernel), jw_in (by decide +kernel) (by decide +kernel), jw_in (by decide +kernel) (by decide +kernel), by decide +kernel⟩
theorem jk_X_79 : jb_KV "MeasuredTensors" 79 jy_M_set jc_M_set 5 none 3 := ⟨jw_in (by decide +kernel) (by decide +kernel), jw_in (by decide +kernel) (by decide +kernel), jw_in (by decide +kernel) (by decide +kernel), jw_in (by decide +kernel) (by decide +kernel), jw_in (by decide +kernel) (by decide +kernel), by decide +kernel⟩
theorem jk_X_286 : jb_KV "MeasuredTensors" 286 jy_X_draftTotal jc_X_draftTotal 3 (some .boolean) 2 := ⟨jw_in (by decide +kernel) (by decide +kernel), jw_in (by decide +kernel) (by decide +kernel), jw_in (by decide +kernel) (by decide +kernel), jw_in (by decide +kernel) (by decide +kernel), jw_in (by decide +kernel) (by decide +kernel), by decide +kernel⟩
theorem jk_X_290 : jb_KV "MeasuredTensors" 290 jy_X_draftTotalAlong jc_X_draftTotalAlong 4 (some .boolean) 3 := ⟨jw_in (by decide +kernel) (by decide +kernel), jw_in (by decide +kernel) (by decide +kernel), jw_in (by decide +kernel) (by decide +kernel), jw_in (by decide +kernel) (by decide +kernel), jw_in (by decide +kernel) (by decide +kernel), by decide +kernel⟩
theorem jk_X_297 : jb_KV "MeasuredTensors" 297 jy_X_draftSquares jc_X_draftSquares 6 (some .boolean) 3 := ⟨jw_in (by decide +kernel) (by decide +kernel), jw_in (by decide +kernel) (by decide +kernel), jw_in (by decide +kernel) (by decide +kernel), jw_in (by decide +kernel) (by decide +kernel), jw_in (by decide +kernel) (by decide +kernel), by decide +kernel⟩
theorem jk_X_301 : jb_KV "MeasuredTensors" 301 jy_X_draftPart jc_X_draftPart 4 (some .boolean) 3 := ⟨jw_in (by decide +kernel) (by decide +kernel), jw_in (by decide +kernel) (by decide +kernel), jw_in (by decide +kernel) (by decide +kernel), jw_in (by decide +kernel) (by decide +kernel), jw_in (by decide +kernel) (by decide +kernel), by decide +kernel⟩
theorem jk_X_305 : jb_KV "MeasuredTensors" 305 jy_X_draftPad jc_X_draftPad 3 (some .boolean) 2 := ⟨jw_in (by decide +kernel) (by decide +kernel), jw_in (by decide +kernel) (by decide +kernel), jw_in (by decide +kernel) (by decide +kernel), jw_in (by decide +kernel) (by decide +kernel), jw_in (by decide +kernel) (by decide +kernel), by decide +kernel⟩
section X77
variable {l : Launch} {D : va_G} {H0 : Heap} {cI cJ cT cX : ClassId} {w : jb_W} {sz : Nat}
variable {x : Nat} {P : Nat → Prop} {σ : jSt} {dr : Nat} {F G : Nat → Option Nat} {own : Nat → Nat} {fT : Nat → Nat → Int32} {ls : Int32} {k : Nat} {f : Nat → Int32} {m : Int32 × Int32 × Int64} {tm : Int32}
theorem jx_two8 {ta oa tb ob s : Nat} (h : jXd cI cT cX x P σ dr F G own fT ls w (jT_k (jSt_T σ ta)) f (nI (jT_r (jSt_T σ ta)), nI (jT_e (jSt_T σ ta)), lN (jT_q (jSt_T σ ta))) (nI 1)) (hS : jSh (jT_k (jSt_T σ ta)) f (jT_S (jSt_T σ ta))) (hta : ta < jSt_c σ) (ea : F ta = some oa) (htb : tb < jSt_c σ) (eb : F tb = some ob) (hs : s < 2 ^ 31) : jb_M l jy_X_draftOfTwo jc_X_draftOfTwo 5 (some .boolean) 5 120 0 0 D H0 (jt_all cI cJ cT cX) [.ref x, .int (nI 8), .ref oa, .ref ob, .int (nI s)] w sz
    (fun v w' sz' => (((((jT_k (jSt_T σ ta) = 3 ∧ jT_k (jSt_T σ tb) = 4) ∧ 1 ≤ s ∧ s ≤ 16) ∧ jT_S (jSt_T σ ta) 0 = jT_S (jSt_T σ tb) 1) ∧ jT_S (jSt_T σ tb) 2 ≤ jT_S (jSt_T σ ta) 1 ∧ jT_S (jSt_T σ tb) 3 ≤ jT_S (jSt_T σ ta) 2) → v = some (.int (nI 1)) ∧ jXd cI cT cX x P σ dr F G own fT ls w' 3 (upd (upd (upd (upd f 0 (nI (jT_S (jSt_T σ tb) 0))) 1 (nI ((jT_S (jSt_T σ ta) 1 - jT_S (jSt_T σ tb) 2) / s + 1))) 2 (nI ((jT_S (jSt_T σ ta) 2 - jT_S (jSt_T σ tb) 3) / s + 1))) 3 (nI 1)) (nI (jT_r (jSt_T σ ta)) + nI (jT_r (jSt_T σ tb)) + jx_bits (nI ((jT_S (jSt_T σ ta) 0 * (jT_S (jSt_T σ tb) 2 * jT_S (jSt_T σ tb) 3))) - 1), nI (jT_e (jSt_T σ ta)) + nI (jT_e (jSt_T σ tb)), jx_pr (lN (jT_q (jSt_T σ ta))) (lN (jT_q (jSt_T σ tb)))) (nI (jT_S (jSt_T σ ta) 0 * (jT_S (jSt_T σ tb) 2 * jT_S (jSt_T σ tb) 3)))) ∧ (¬ ((((jT_k (jSt_T σ ta) = 3 ∧ jT_k (jSt_T σ tb) = 4) ∧ 1 ≤ s ∧ s ≤ 16) ∧ jT_S (jSt_T σ ta) 0 = jT_S (jSt_T σ tb) 1) ∧ jT_S (jSt_T σ tb) 2 ≤ jT_S (jSt_T σ ta) 1 ∧ jT_S (jSt_T σ tb) 3 ≤ jT_S (jSt_T σ ta) 2) → v = some (.int (nI 0)) ∧ (∃ k' f' m' tm', jXd cI cT cX x P σ dr F G own fT ls w' k' f' m' tm')) ∧ jXF P w w' ∧ sz' = sz) := by
  refine jb_meth_z (by decide) (Nat.le_of_ble_eq_true rfl) (fun u C X E => ?_)
  refine ja_aload_n C jd_X_draftOfTwo_0 3 rfl ?_
  refine ja_ifnonnull C 6 jd_X_draftOfTwo_1 (by decide) ?_
  refine ja_iload_n C jd_X_draftOfTwo_6 1 rfl ?_
  refine ja_lookup C 32 jd_X_draftOfTwo_7 (by decide) rfl (by decide) ?_
  refine ja_aload_n C jd_X_draftOfTwo_32 0 rfl ?_
  refine ja_aload_n C jd_X_draftOfTwo_33 2 rfl ?_
  refine ja_aload_n C jd_X_draftOfTwo_34 3 rfl ?_
  refine ja_iload C jd_X_draftOfTwo_35 4 rfl ?_
  rcases Classical.em ((((jT_k (jSt_T σ ta) = 3 ∧ jT_k (jSt_T σ tb) = 4) ∧ 1 ≤ s ∧ s ≤ 16) ∧ jT_S (jSt_T σ ta) 0 = jT_S (jSt_T σ tb) 1) ∧ jT_S (jSt_T σ tb) 2 ≤ jT_S (jSt_T σ ta) 1 ∧ jT_S (jSt_T σ tb) 3 ≤ jT_S (jSt_T σ ta) 2) with hf | hf
  · refine jo_qV 8 C X jk_X_318 h.obj rfl (jx_conv h hta ea htb eb hf) jd_X_draftOfTwo_37 rfl rfl ⟨by decide, by decide⟩ (Nat.le_of_ble_eq_true rfl) (fun w1 hp1 => ?_)
    obtain ⟨h1, r1⟩ := hp1
    exact E jd_X_draftOfTwo_40 (Or.inr rfl) ⟨fun _ => ⟨rfl, h1⟩, fun z => absurd hf z, r1, rfl⟩
  · refine jb_pV 8 C X jk_X_318 h.obj rfl (jx_conv0 h hta ea htb eb hs hf) jd_X_draftOfTwo_37 rfl rfl ⟨by decide, by decide⟩ (Nat.le_of_ble_eq_true rfl) ?_
    exact E jd_X_draftOfTwo_40 (Or.inl rfl) ⟨fun z => absurd z hf, fun _ => ⟨rfl, _, _, _, _, h⟩, jXF.rf, rfl⟩
theorem jx_two14 {ta oa tb ob : Nat} {z0 : Int32} (h : jXd cI cT cX x P σ dr F G own fT ls w (jT_k (jSt_T σ ta)) f (nI (jT_r (jSt_T σ ta)), nI (jT_e (jSt_T σ ta)), lN (jT_q (jSt_T σ ta))) (nI 1)) (hS : jSh (jT_k (jSt_T σ ta)) f (jT_S (jSt_T σ ta))) (hta : ta < jSt_c σ) (ea : F ta = some oa) (htb : tb < jSt_c σ) (eb : F tb = some ob) : jb_M l jy_X_draftOfTwo jc_X_draftOfTwo 5 (some .boolean) 5 120 0 0 D H0 (jt_all cI cJ cT cX) [.ref x, .int (nI 14), .ref oa, .ref ob, .int z0] w sz
    (fun v w' sz' => ((0 < jT_k (jSt_T σ ta) ∧ jT_k (jSt_T σ ta) = jT_k (jSt_T σ tb) ∧ jT_S (jSt_T σ ta) 1 = jT_S (jSt_T σ tb) 1 ∧ jT_S (jSt_T σ ta) 2 = jT_S (jSt_T σ tb) 2 ∧ jT_S (jSt_T σ ta) 3 = jT_S (jSt_T σ tb) 3) → v = some (.int (nI 1)) ∧ jXd cI cT cX x P σ dr F G own fT ls w' (jT_k (jSt_T σ ta)) (upd f 0 (nI (jT_S (jSt_T σ ta) 0 + jT_S (jSt_T σ tb) 0))) (if nI (jT_r (jSt_T σ ta)) < nI (jT_r (jSt_T σ tb)) then nI (jT_r (jSt_T σ tb)) else nI (jT_r (jSt_T σ ta)), if nI (jT_e (jSt_T σ ta)) < nI (jT_e (jSt_T σ tb)) then nI (jT_e (jSt_T σ tb)) else nI (jT_e (jSt_T σ ta)), jx_lcm (lN (jT_q (jSt_T σ ta))) (lN (jT_q (jSt_T σ tb)))) (nI 1)) ∧ (¬ (0 < jT_k (jSt_T σ ta) ∧ jT_k (jSt_T σ ta) = jT_k (jSt_T σ tb) ∧ jT_S (jSt_T σ ta) 1 = jT_S (jSt_T σ tb) 1 ∧ jT_S (jSt_T σ ta) 2 = jT_S (jSt_T σ tb) 2 ∧ jT_S (jSt_T σ ta) 3 = jT_S (jSt_T σ tb) 3) → v = some (.int (nI 0)) ∧ (∃ k' f' m' tm', jXd cI cT cX x P σ dr F G own fT ls w' k' f' m' tm')) ∧ jXF P w w' ∧ sz' = sz) := by
  refine jb_meth_z (by decide) (Nat.le_of_ble_eq_true rfl) (fun u C X E => ?_)
  have k4 := (h.ts hta).1
  have kb4 := (h.ts htb).1
  refine ja_aload_n C jd_X_draftOfTwo_0 3 rfl ?_
  refine ja_ifnonnull C 6 jd_X_draftOfTwo_1 (by decide) ?_
  refine ja_iload_n C jd_X_draftOfTwo_6 1 rfl ?_
  refine ja_lookup C 41 jd_X_draftOfTwo_7 (by decide) rfl (by decide) ?_
  refine ja_aload_n C jd_X_draftOfTwo_41 0 rfl ?_
  refine ja_get C jg_X_32 jd_X_draftOfTwo_42 h.obj rfl ?_
  refine jZx_g C jg_X_93 jd_X_draftOfTwo_45 h.d (fun _ _ => rfl) ?_
  refine ja_aload_n C jd_X_draftOfTwo_48 2 rfl ?_
  refine jZx_g C jg_X_93 jd_X_draftOfTwo_49 (h.tz hta ea) (fun _ _ => rfl) ?_
  refine ja_iconst C (nI 0) jd_X_draftOfTwo_52 (by decide) ?_
  refine jb_pV 8 C X jk_X_212 (h.tz hta ea).z1 rfl (js_side (h.tz hta ea).z1 (h.tz hta ea).z2 (h.ts hta) (by decide)) jd_X_draftOfTwo_53 rfl rfl ⟨by decide, by decide⟩ (Nat.le_of_ble_eq_true rfl) ?_
  refine ja_aload_n C jd_X_draftOfTwo_56 3 rfl ?_
  refine jZx_g C jg_X_93 jd_X_draftOfTwo_57 (h.tz htb eb) (fun _ _ => rfl) ?_
  refine ja_iconst C (nI 0) jd_X_draftOfTwo_60 (by decide) ?_
  refine jb_pV 8 C X jk_X_212 (h.tz htb eb).z1 rfl (js_side (h.tz htb eb).z1 (h.tz htb eb).z2 (h.ts htb) (by decide)) jd_X_draftOfTwo_61 rfl rfl ⟨by decide, by decide⟩ (Nat.le_of_ble_eq_true rfl) ?_
  refine ja_iaddN C jd_X_draftOfTwo_64 ?_
  refine jo_vV 8 C X jk_X_315 h.d.z1 rfl (js_setFirst h.d.z1 h.d.z2) jd_X_draftOfTwo_65 rfl rfl ⟨by decide, by decide⟩ (Nat.le_of_ble_eq_true rfl) (fun w1 hp1 => ?_)
  obtain ⟨g1, f1⟩ := hp1
  obtain ⟨h1, r1⟩ := h.s2 g1 f1
  refine ja_aload_n C jd_X_draftOfTwo_68 0 rfl ?_
  refine ja_get C jg_X_32 jd_X_draftOfTwo_69 h1.obj rfl ?_
  refine jZx_g C jg_X_73 jd_X_draftOfTwo_72 h1.d (fun _ _ => rfl) ?_
  refine ja_aload_n C jd_X_draftOfTwo_75 3 rfl ?_
  refine jZx_g C jg_X_73 jd_X_draftOfTwo_76 (h1.tz htb eb) (fun _ _ => rfl) ?_
  refine jo_vV 8 C X jk_X_262 h1.d.z3 rfl (jm_unite h1.d.z3 (h1.tz htb eb).z3) jd_X_draftOfTwo_79 rfl rfl ⟨by decide, by decide⟩ (Nat.le_of_ble_eq_true rfl) (fun w2 hp2 => ?_)
  obtain ⟨g2, f2⟩ := hp2
  obtain ⟨h2, r2⟩ := h1.m3 g2 f2
  refine ja_aload_n C jd_X_draftOfTwo_82 2 rfl ?_
  refine jZx_g C jg_X_93 jd_X_draftOfTwo_83 (h2.tz hta ea) (fun _ _ => rfl) ?_
  refine ja_get C jg_X_187 jd_X_draftOfTwo_86 (h2.tz hta ea).z1 rfl ?_
  have no : ∀ (hf : ¬ (0 < jT_k (jSt_T σ ta) ∧ jT_k (jSt_T σ ta) = jT_k (jSt_T σ tb) ∧ jT_S (jSt_T σ ta) 1 = jT_S (jSt_T σ tb) 1 ∧ jT_S (jSt_T σ ta) 2 = jT_S (jSt_T σ tb) 2 ∧ jT_S (jSt_T σ ta) 3 = jT_S (jSt_T σ tb) 3)), ja (jb_mk l (jb_rm 5 120 0 0) 5 "MeasuredTensors" D H0 (jt_all cI cJ cT cX) u) w2 sz 0 0 110 [(0, .ref x), (1, .int (nI 14)), (2, .ref oa), (3, .ref ob), (4, .int z0)] [] := by
    intro hf
    refine ja_iconst C (nI 0) jd_X_draftOfTwo_110 (by decide) ?_
    exact E jd_X_draftOfTwo_111 (Or.inl rfl) ⟨fun z => absurd z hf, fun _ => ⟨rfl, _, _, _, _, h2⟩, (r1.tr r2), rfl⟩
  refine ja_if_leN C 110 jd_X_draftOfTwo_89 (by decide) (by omega) (fun c1 => no (fun z => by omega)) (fun c1 => ?_)
  refine ja_aload_n C jd_X_draftOfTwo_92 2 rfl ?_
  refine jZx_g C jg_X_93 jd_X_draftOfTwo_93 (h2.tz hta ea) (fun _ _ => rfl) ?_
  refine ja_aload_n C jd_X_draftOfTwo_96 3 rfl ?_
  refine jZx_g C jg_X_93 jd_X_draftOfTwo_97 (h2.tz htb eb) (fun _ _ => rfl) ?_
  refine jb_pV 8 C X jk_X_322 (h2.tz hta ea).z1 rfl (js_equals (h2.tz hta ea).z1 (h2.tz hta ea).z2 (h2.ts hta) (h2.tz htb eb).z1 (h2.tz htb eb).z2 (h2.ts htb)) jd_X_draftOfTwo_100 rfl rfl ⟨by decide, by decide⟩ (Nat.le_of_ble_eq_true rfl) ?_
  refine ja_if_eqB C 110 jd_X_draftOfTwo_103 (by decide) (fun c2 => no (fun z => c2 z.2)) (fun c2 => ?_)
  refine ja_iconst C (nI 1) jd_X_draftOfTwo_106 (by decide) ?_
  refine ja_goto C 111 jd_X_draftOfTwo_107 (by decide) ?_
  exact E jd_X_draftOfTwo_111 (Or.inr rfl) ⟨fun _ => ⟨rfl, h2⟩, fun z => absurd ⟨c1, c2⟩ z, (r1.tr r2), rfl⟩
theorem jx_two18 {ta oa tb ob : Nat} {z0 : Int32} (h : jXd cI cT cX x P σ dr F G own fT ls w (jT_k (jSt_T σ ta)) f (nI (jT_r (jSt_T σ ta)), nI (jT_e (jSt_T σ ta)), lN (jT_q (jSt_T σ ta))) (nI 1)) (hS : jSh (jT_k (jSt_T σ ta)) f (jT_S (jSt_T σ ta))) (hta : ta < jSt_c σ) (ea : F ta = some oa) (htb : tb < jSt_c σ) (eb : F tb = some ob) : jb_M l jy_X_draftOfTwo jc_X_draftOfTwo 5 (some .boolean) 5 120 0 0 D H0 (jt_all cI cJ cT cX) [.ref x, .int (nI 18), .ref oa, .ref ob, .int z0] w sz
    (fun v w' sz' => ((jT_k (jSt_T σ ta) = jT_k (jSt_T σ tb) ∧ jl_tail (jT_S (jSt_T σ ta)) (jT_k (jSt_T σ ta)) (jT_S (jSt_T σ tb)) (jT_k (jSt_T σ tb)) = true) → v = some (.int (nI 1)) ∧ jXd cI cT cX x P σ dr F G own fT ls w' 0 f (((if nI (jT_r (jSt_T σ ta)) < nI (jT_r (jSt_T σ tb)) then nI (jT_r (jSt_T σ tb)) else nI (jT_r (jSt_T σ ta))) + nI 1) + ((if nI (jT_r (jSt_T σ ta)) < nI (jT_r (jSt_T σ tb)) then nI (jT_r (jSt_T σ tb)) else nI (jT_r (jSt_T σ ta))) + nI 1) + jx_bits (nI (jl_cells (jT_S (jSt_T σ ta)) (jT_k (jSt_T σ ta))) - 1) + jx_bits (nI 1), (if nI (jT_e (jSt_T σ ta)) < nI (jT_e (jSt_T σ tb)) then nI (jT_e (jSt_T σ tb)) else nI (jT_e (jSt_T σ ta))) + (if nI (jT_e (jSt_T σ ta)) < nI (jT_e (jSt_T σ tb)) then nI (jT_e (jSt_T σ tb)) else nI (jT_e (jSt_T σ ta))) + jx_twos (nI 2), jx_pr (jx_pr (jx_lcm (lN (jT_q (jSt_T σ ta))) (lN (jT_q (jSt_T σ tb)))) (jx_lcm (lN (jT_q (jSt_T σ ta))) (lN (jT_q (jSt_T σ tb))))) (nI 2 >>> (jx_twos (nI 2) &&& 31)).toInt64) (nI (jl_cells (jT_S (jSt_T σ ta)) (jT_k (jSt_T σ ta))))) ∧ (¬ (jT_k (jSt_T σ ta) = jT_k (jSt_T σ tb) ∧ jl_tail (jT_S (jSt_T σ ta)) (jT_k (jSt_T σ ta)) (jT_S (jSt_T σ tb)) (jT_k (jSt_T σ tb)) = true) → v = some (.int (nI 0)) ∧ (∃ k' f' m' tm', jXd cI cT cX x P σ dr F G own fT ls w' k' f' m' tm')) ∧ jXF P w w' ∧ sz' = sz) := by
  refine jb_meth_z (by decide) (Nat.le_of_ble_eq_true rfl) (fun u C X E => ?_)
  have k4 := (h.ts hta).1
  have kb4 := (h.ts htb).1
  refine ja_aload_n C jd_X_draftOfTwo_0 3 rfl ?_
  refine ja_ifnonnull C 6 jd_X_draftOfTwo_1 (by decide) ?_
  refine ja_iload_n C jd_X_draftOfTwo_6 1 rfl ?_
  refine ja_lookup C 112 jd_X_draftOfTwo_7 (by decide) rfl (by decide) ?_
  refine ja_aload_n C jd_X_draftOfTwo_112 0 rfl ?_
  refine ja_aload_n C jd_X_draftOfTwo_113 2 rfl ?_
  refine ja_aload_n C jd_X_draftOfTwo_114 3 rfl ?_
  refine jo_vV 8 C X jk_X_325 h.obj rfl (jx_gap h hta ea htb eb) jd_X_draftOfTwo_115 rfl rfl ⟨by decide, by decide⟩ (Nat.le_of_ble_eq_true rfl) (fun w1 hp1 => ?_)
  obtain ⟨h1, r1⟩ := hp1
  refine ja_aload_n C jd_X_draftOfTwo_118 2 rfl ?_
  refine jZx_g C jg_X_93 jd_X_draftOfTwo_119 (h1.tz hta ea) (fun _ _ => rfl) ?_
  refine ja_get C jg_X_187 jd_X_draftOfTwo_122 (h1.tz hta ea).z1 rfl ?_
  refine ja_aload_n C jd_X_draftOfTwo_125 3 rfl ?_
  refine jZx_g C jg_X_93 jd_X_draftOfTwo_126 (h1.tz htb eb) (fun _ _ => rfl) ?_
  refine ja_get C jg_X_187 jd_X_draftOfTwo_129 (h1.tz htb eb).z1 rfl ?_
  have no : ∀ (hf : ¬ (jT_k (jSt_T σ ta) = jT_k (jSt_T σ tb) ∧ jl_tail (jT_S (jSt_T σ ta)) (jT_k (jSt_T σ ta)) (jT_S (jSt_T σ tb)) (jT_k (jSt_T σ tb)) = true)), ja (jb_mk l (jb_rm 5 120 0 0) 5 "MeasuredTensors" D H0 (jt_all cI cJ cT cX) u) w1 sz 0 0 153 [(0, .ref x), (1, .int (nI 18)), (2, .ref oa), (3, .ref ob), (4, .int z0)] [] := by
    intro hf
    refine ja_iconst C (nI 0) jd_X_draftOfTwo_153 (by decide) ?_
    exact E jd_X_draftOfTwo_154 (Or.inl rfl) ⟨fun z => absurd z hf, fun _ => ⟨rfl, _, _, _, _, h1⟩, r1, rfl⟩
  refine ja_icmp_neN C 153 jd_X_draftOfTwo_132 (by decide) (by omega) (by omega) (fun c1 => no (fun z => c1 z.1)) (fun c1 => ?_)
  refine ja_aload_n C jd_X_draftOfTwo_135 2 rfl ?_
  refine jZx_g C jg_X_93 jd_X_draftOfTwo_136 (h1.tz hta ea) (fun _ _ => rfl) ?_
  refine ja_aload_n C jd_X_draftOfTwo_139 3 rfl ?_
  refine jZx_g C jg_X_93 jd_X_draftOfTwo_140 (h1.tz htb eb) (fun _ _ => rfl) ?_
  refine jb_pV 8 C X jk_X_269 (h1.tz hta ea).z1 rfl (js_endsWith (h1.tz hta ea).z1 (h1.tz hta ea).z2 (h1.ts hta) (h1.tz htb eb).z1 (h1.tz htb eb).z2 (h1.ts htb)) jd_X_draftOfTwo_143 rfl rfl ⟨by decide, by decide⟩ (Nat.le_of_ble_eq_true rfl) ?_
  refine ja_if_eqB C 153 jd_X_draftOfTwo_146 (by decide) (fun c2 => no (fun z => c2 z.2)) (fun c2 => ?_)
  refine ja_iconst C (nI 1) jd_X_draftOfTwo_149 (by decide) ?_
  refine ja_goto C 154 jd_X_draftOfTwo_150 (by decide) ?_
  exact E jd_X_draftOfTwo_154 (Or.inr rfl) ⟨fun _ => ⟨rfl, h1⟩, fun z => absurd ⟨c1, c2⟩ z, r1, rfl⟩
theorem jx_one0 {ta oa : Nat} {z1 z2 z3 : Int32} (h : jXd cI cT cX x P σ dr F G own fT ls w (jT_k (jSt_T σ ta)) f (nI (jT_r (jSt_T σ ta)), nI (jT_e (jSt_T σ ta)), lN (jT_q (jSt_T σ ta))) (nI 1)) (hS : jSh (jT_k (jSt_T σ ta)) f (jT_S (jSt_T σ ta))) (hta : ta < jSt_c σ) (ea : F ta = some oa) : jb_M l jy_X_draftOfOne jc_X_draftOfOne 6 (some .boolean) 5 120 0 0 D H0 (jt_all cI cJ cT cX) [.ref x, .int (nI 0), .ref oa, .int z1, .int z2, .int z3] w sz
    (fun v w' sz' => v = some (.int (nI 1)) ∧ (jXd cI cT cX x P σ dr F G own fT ls w' (jT_k (jSt_T σ ta)) f (nI (jT_r (jSt_T σ ta)), nI (jT_e (jSt_T σ ta)), lN (jT_q (jSt_T σ ta))) (nI 1) ∧ jXF P w w') ∧ sz' = sz) := by
  refine jb_meth_z (by decide) (Nat.le_of_ble_eq_true rfl) (fun u C X E => ?_)
  have k4 := hS.1
  refine ja_iload_n C jd_X_draftOfOne_0 1 rfl ?_
  refine ja_tableOut C 246 jd_X_draftOfOne_1 (by decide) (by decide) ?_
  refine ja_iconst C (nI 1) jd_X_draftOfOne_246 (by decide) ?_
  exact E jd_X_draftOfOne_247 (Or.inr rfl) ⟨rfl, ⟨h, jXF.rf⟩, rfl⟩
theorem jx_one1 {ta oa : Nat} {z1 z2 z3 : Int32} (h : jXd cI cT cX x P σ dr F G own fT ls w (jT_k (jSt_T σ ta)) f (nI (jT_r (jSt_T σ ta)), nI (jT_e (jSt_T σ ta)), lN (jT_q (jSt_T σ ta))) (nI 1)) (hS : jSh (jT_k (jSt_T σ ta)) f (jT_S (jSt_T σ ta))) (hta : ta < jSt_c σ) (ea : F ta = some oa) : jb_M l jy_X_draftOfOne jc_X_draftOfOne 6 (some .boolean) 5 120 0 0 D H0 (jt_all cI cJ cT cX) [.ref x, .int (nI 1), .ref oa, .int z1, .int z2, .int z3] w sz
    (fun v w' sz' => v = some (.int (nI 1)) ∧ (jXd cI cT cX x P σ dr F G own fT ls w' (jT_k (jSt_T σ ta)) f (nI (jT_r (jSt_T σ ta)), nI (jT_e (jSt_T σ ta)), lN (jT_q (jSt_T σ ta))) (nI 1) ∧ jXF P w w') ∧ sz' = sz) := by
  refine jb_meth_z (by decide) (Nat.le_of_ble_eq_true rfl) (fun u C X E => ?_)
  have k4 := hS.1
  refine ja_iload_n C jd_X_draftOfOne_0 1 rfl ?_
  refine ja_tableOut C 246 jd_X_draftOfOne_1 (by decide) (by decide) ?_
  refine ja_iconst C (nI 1) jd_X_draftOfOne_246 (by decide) ?_
  exact E jd_X_draftOfOne_247 (Or.inr rfl) ⟨rfl, ⟨h, jXF.rf⟩, rfl⟩
theorem jx_one4 {ta oa : Nat} {z1 z2 z3 : Int32} (h : jXd cI cT cX x P σ dr F G own fT ls w (jT_k (jSt_T σ ta)) f (nI (jT_r (jSt_T σ ta)), nI (jT_e (jSt_T σ ta)), lN (jT_q (jSt_T σ ta))) (nI 1)) (hS : jSh (jT_k (jSt_T σ ta)) f (jT_S (jSt_T σ ta))) (hta : ta < jSt_c σ) (ea : F ta = some oa) : jb_M l jy_X_draftOfOne jc_X_draftOfOne 6 (some .boolean) 5 120 0 0 D H0 (jt_all cI cJ cT cX) [.ref x, .int (nI 4), .ref oa, .int z1, .int z2, .int z3] w sz
    (fun v w' sz' => v = some (.int (nI 1)) ∧ (jXd cI cT cX x P σ dr F G own fT ls w' (jT_k (jSt_T σ ta)) f (nI (jT_r (jSt_T σ ta)), nI (jT_e (jSt_T σ ta)), lN (jT_q (jSt_T σ ta))) (nI 1) ∧ jXF P w w') ∧ sz' = sz) := by
  refine jb_meth_z (by decide) (Nat.le_of_ble_eq_true rfl) (fun u C X E => ?_)
  have k4 := hS.1
  refine ja_iload_n C jd_X_draftOfOne_0 1 rfl ?_
  refine ja_tableIn C 119 jd_X_draftOfOne_1 (by decide) (by decide) rfl (by decide) ?_
  refine ja_aload_n C jd_X_draftOfOne_119 0 rfl ?_
  refine ja_get C jg_X_32 jd_X_draftOfOne_120 h.obj rfl ?_
  refine ja_iconst C (nI 1) jd_X_draftOfOne_123 (by decide) ?_
  refine jZx_p C jp_X_259 jnf_T_9 rfl rfl jd_X_draftOfOne_124 h.d (nI 1) (by decide) (fun p q => ⟨jp10 (p 0) (p 1) (p 2) (p 3) (p 4) (p 5) (nI 1) (p 7) (p 8) (p 9), q, rfl⟩) (fun w1 z1 f1 => ?_)
  obtain ⟨h1, r1⟩ := h.upd h.k4 z1 f1
  refine ja_iconst C (nI 1) jd_X_draftOfOne_127 (by decide) ?_
  exact E jd_X_draftOfOne_128 (Or.inr rfl) ⟨rfl, ⟨h1, r1⟩, rfl⟩
theorem jx_one2 {ta oa : Nat} {z1 z2 z3 : Int32} (h : jXd cI cT cX x P σ dr F G own fT ls w (jT_k (jSt_T σ ta)) f (nI (jT_r (jSt_T σ ta)), nI (jT_e (jSt_T σ ta)), lN (jT_q (jSt_T σ ta))) (nI 1)) (hS : jSh (jT_k (jSt_T σ ta)) f (jT_S (jSt_T σ ta))) (hta : ta < jSt_c σ) (ea : F ta = some oa) : jb_M l jy_X_draftOfOne jc_X_draftOfOne 6 (some .boolean) 5 120 0 0 D H0 (jt_all cI cJ cT cX) [.ref x, .int (nI 2), .ref oa, .int z1, .int z2, .int z3] w sz
    (fun v w' sz' => v = some (.int (nI 1)) ∧ (jXd cI cT cX x P σ dr F G own fT ls w' (jT_k (jSt_T σ ta)) f (nI (jT_r (jSt_T σ ta)) + nI (jT_r (jSt_T σ ta)), nI (jT_e (jSt_T σ ta)) + nI (jT_e (jSt_T σ ta)), jx_pr (lN (jT_q (jSt_T σ ta))) (lN (jT_q (jSt_T σ ta)))) (nI 1) ∧ jXF P w w') ∧ sz' = sz) := by
  refine jb_meth_z (by decide) (Nat.le_of_ble_eq_true rfl) (fun u C X E => ?_)
  have k4 := hS.1
  refine ja_iload_n C jd_X_draftOfOne_0 1 rfl ?_
  refine ja_tableIn C 72 jd_X_draftOfOne_1 (by decide) (by decide) rfl (by decide) ?_
  refine ja_aload_n C jd_X_draftOfOne_72 0 rfl ?_
  refine ja_get C jg_X_32 jd_X_draftOfOne_73 h.obj rfl ?_
  refine jZx_g C jg_X_73 jd_X_draftOfOne_76 h.d (fun _ _ => rfl) ?_
  refine ja_aload_n C jd_X_draftOfOne_79 2 rfl ?_
  refine jZx_g C jg_X_73 jd_X_draftOfOne_80 (h.tz hta ea) (fun _ _ => rfl) ?_
  refine jo_vV 8 C X jk_X_256 h.d.z3 rfl (jm_multiply h.d.z3 (h.tz hta ea).z3) jd_X_draftOfOne_83 rfl rfl ⟨by decide, by decide⟩ (Nat.le_of_ble_eq_true rfl) (fun w1 hp1 => ?_)
  obtain ⟨g1, f1⟩ := hp1
  obtain ⟨h1, r1⟩ := h.m3 g1 f1
  refine ja_aload_n C jd_X_draftOfOne_86 0 rfl ?_
  refine ja_get C jg_X_32 jd_X_draftOfOne_87 h1.obj rfl ?_
  refine ja_iconst C (nI 3) jd_X_draftOfOne_90 (by decide) ?_
  refine jZx_p C jp_X_259 jnf_T_9 rfl rfl jd_X_draftOfOne_91 h1.d (nI 1) (by decide) (fun p q => ⟨jp10 (p 0) (p 1) (p 2) (p 3) (p 4) (p 5) (nI 3) (p 7) (p 8) (p 9), q, rfl⟩) (fun w2 z2 f2 => ?_)
  obtain ⟨h2, r2⟩ := h1.upd h1.k4 z2 f2
  refine ja_iconst C (nI 1) jd_X_draftOfOne_94 (by decide) ?_
  exact E jd_X_draftOfOne_95 (Or.inr rfl) ⟨rfl, ⟨h2, (r1.tr r2)⟩, rfl⟩
theorem jx_one3 {ta oa : Nat} {z1 z2 z3 : Int32} (h : jXd cI cT cX x P σ dr F G own fT ls w (jT_k (jSt_T σ ta)) f (nI (jT_r (jSt_T σ ta)), nI (jT_e (jSt_T σ ta)), lN (jT_q (jSt_T σ ta))) (nI 1)) (hS : jSh (jT_k (jSt_T σ ta)) f (jT_S (jSt_T σ ta))) (hta : ta < jSt_c σ) (ea : F ta = some oa) : jb_M l jy_X_draftOfOne jc_X_draftOfOne 6 (some .boolean) 5 120 0 0 D H0 (jt_all cI cJ cT cX) [.ref x, .int (nI 3), .ref oa, .int z1, .int z2, .int z3] w sz
    (fun v w' sz' => v = some (.int (nI 1)) ∧ (jXd cI cT cX x P σ dr F G own fT ls w' (jT_k (jSt_T σ ta)) f (nI 1, nI 0, lN 1) (nI 1) ∧ jXF P w w') ∧ sz' = sz) := by
  refine jb_meth_z (by decide) (Nat.le_of_ble_eq_true rfl) (fun u C X E => ?_)
  have k4 := hS.1
  refine ja_iload_n C jd_X_draftOfOne_0 1 rfl ?_
  refine ja_tableIn C 96 jd_X_draftOfOne_1 (by decide) (by decide) rfl (by decide) ?_
  refine ja_aload_n C jd_X_draftOfOne_96 0 rfl ?_
  refine ja_get C jg_X_32 jd_X_draftOfOne_97 h.obj rfl ?_
  refine jZx_g C jg_X_73 jd_X_draftOfOne_100 h.d (fun _ _ => rfl) ?_
  refine ja_iconst C (nI 1) jd_X_draftOfOne_103 (by decide) ?_
  refine ja_iconst C (nI 0) jd_X_draftOfOne_104 (by decide) ?_
  refine ja_lconst C (lN 1) jd_X_draftOfOne_105 (by decide) ?_
  refine jo_vV 8 C X jk_X_79 h.d.z3 rfl (jm_set h.d.z3) jd_X_draftOfOne_106 rfl rfl ⟨by decide, by decide⟩ (Nat.le_of_ble_eq_true rfl) (fun w1 hp1 => ?_)
  obtain ⟨g1, f1⟩ := hp1
  obtain ⟨h1, r1⟩ := h.m3 g1 f1
  refine ja_aload_n C jd_X_draftOfOne_109 0 rfl ?_
  refine ja_get C jg_X_32 jd_X_draftOfOne_110 h1.obj rfl ?_
  refine ja_iconst C (nI 1) jd_X_draftOfOne_113 (by decide) ?_
  refine jZx_p C jp_X_259 jnf_T_9 rfl rfl jd_X_draftOfOne_114 h1.d (nI 1) (by decide) (fun p q => ⟨jp10 (p 0) (p 1) (p 2) (p 3) (p 4) (p 5) (nI 1) (p 7) (p 8) (p 9), q, rfl⟩) (fun w2 z2 f2 => ?_)
  obtain ⟨h2, r2⟩ := h1.upd h1.k4 z2 f2
  refine ja_iconst C (nI 1) jd_X_draftOfOne_117 (by decide) ?_
  exact E jd_X_draftOfOne_118 (Or.inr rfl) ⟨rfl, ⟨h2, (r1.tr r2)⟩, rfl⟩
theorem jx_one5n {ta oa : Nat} {z2 z3 : Int32} (h : jXd cI cT cX x P σ dr F G own fT ls w (jT_k (jSt_T σ ta)) f (nI (jT_r (jSt_T σ ta)), nI (jT_e (jSt_T σ ta)), lN (jT_q (jSt_T σ ta))) (nI 1)) (hS : jSh (jT_k (jSt_T σ ta)) f (jT_S (jSt_T σ ta))) (hta : ta < jSt_c σ) (ea : F ta = some oa) : jb_M l jy_X_draftOfOne jc_X_draftOfOne 6 (some .boolean) 5 120 0 0 D H0 (jt_all cI cJ cT cX) [.ref x, .int (nI 5), .ref oa, .int (nI 0), .int z2, .int z3] w sz
    (fun v w' sz' => v = some (.int (nI 1)) ∧ (jXd cI cT cX x P σ dr F G own fT ls w' 0 f (jx_add 5 (jl_cells (jT_S (jSt_T σ ta)) (jT_k (jSt_T σ ta))) (nI (jT_r (jSt_T σ ta)), nI (jT_e (jSt_T σ ta)), lN (jT_q (jSt_T σ ta)))) (nI (jl_cells (jT_S (jSt_T σ ta)) (jT_k (jSt_T σ ta)))) ∧ jXF P w w') ∧ sz' = sz) := by
  refine jb_meth_z (by decide) (Nat.le_of_ble_eq_true rfl) (fun u C X E => ?_)
  have k4 := hS.1
  refine ja_iload_n C jd_X_draftOfOne_0 1 rfl ?_
  refine ja_tableIn C 129 jd_X_draftOfOne_1 (by decide) (by decide) rfl (by decide) ?_
  refine ja_iload_n C jd_X_draftOfOne_129 3 rfl ?_
  refine ja_if_neN C 142 jd_X_draftOfOne_130 (by decide) (by decide) (fun q => absurd q (by decide)) (fun _ => ?_)
  refine ja_aload_n C jd_X_draftOfOne_133 0 rfl ?_
  refine ja_iload_n C jd_X_draftOfOne_134 1 rfl ?_
  refine ja_aload_n C jd_X_draftOfOne_135 2 rfl ?_
  refine jo_qV 8 C X jk_X_286 h.obj rfl (jx_draftTotal h hta ea (by decide)) jd_X_draftOfOne_136 rfl rfl ⟨by decide, by decide⟩ (Nat.le_of_ble_eq_true rfl) (fun w1 hp1 => ?_)
  obtain ⟨h1, r1⟩ := hp1
  refine ja_goto C 150 jd_X_draftOfOne_139 (by decide) ?_
  exact E jd_X_draftOfOne_150 (Or.inr rfl) ⟨rfl, ⟨h1, r1⟩, rfl⟩
theorem jx_one5 {ta oa i : Nat} {z3 : Int32} (h : jXd cI cT cX x P σ dr F G own fT ls w (jT_k (jSt_T σ ta)) f (nI (jT_r (jSt_T σ ta)), nI (jT_e (jSt_T σ ta)), lN (jT_q (jSt_T σ ta))) (nI 1)) (hS : jSh (jT_k (jSt_T σ ta)) f (jT_S (jSt_T σ ta))) (hta : ta < jSt_c σ) (ea : F ta = some oa) (hi : i < 2 ^ 31) : jb_M l jy_X_draftOfOne jc_X_draftOfOne 6 (some .boolean) 5 120 0 0 D H0 (jt_all cI cJ cT cX) [.ref x, .int (nI 5), .ref oa, .int (nI 1), .int (nI i), .int z3] w sz
    (fun v w' sz' => ((i < jT_k (jSt_T σ ta)) → v = some (.int (nI 1)) ∧ ∃ f', (∀ j, j < jT_k (jSt_T σ ta) - 1 → f' j = if j < i then f j else f (j + 1)) ∧ jXd cI cT cX x P σ dr F G own fT ls w' (jT_k (jSt_T σ ta) - 1) f' (jx_add 5 (jT_S (jSt_T σ ta) i) (nI (jT_r (jSt_T σ ta)), nI (jT_e (jSt_T σ ta)), lN (jT_q (jSt_T σ ta)))) (nI (jT_S (jSt_T σ ta) i))) ∧ (¬ (i < jT_k (jSt_T σ ta)) → v = some (.int (nI 0)) ∧ (∃ k' f' m' tm', jXd cI cT cX x P σ dr F G own fT ls w' k' f' m' tm')) ∧ jXF P w w' ∧ sz' = sz) := by
  refine jb_meth_z (by decide) (Nat.le_of_ble_eq_true rfl) (fun u C X E => ?_)
  have k4 := hS.1
  refine ja_iload_n C jd_X_draftOfOne_0 1 rfl ?_
  refine ja_tableIn C 129 jd_X_draftOfOne_1 (by decide) (by decide) rfl (by decide) ?_
  refine ja_iload_n C jd_X_draftOfOne_129 3 rfl ?_
  refine ja_if_neN C 142 jd_X_draftOfOne_130 (by decide) (by decide) (fun _ => ?_) (fun q => absurd q (by decide))
  refine ja_aload_n C jd_X_draftOfOne_142 0 rfl ?_
  refine ja_iload_n C jd_X_draftOfOne_143 1 rfl ?_
  refine ja_aload_n C jd_X_draftOfOne_144 2 rfl ?_
  refine ja_iload C jd_X_draftOfOne_145 4 rfl ?_
  rcases Nat.lt_or_ge i (jT_k (jSt_T σ ta)) with hf | hf
  · refine jo_qV 8 C X jk_X_290 h.obj rfl (jx_draftAlong h hta ea (by decide) hf) jd_X_draftOfOne_147 rfl rfl ⟨by decide, by decide⟩ (Nat.le_of_ble_eq_true rfl) (fun w1 hp1 => ?_)
    obtain ⟨f9, hf9, h1, r1⟩ := hp1
    exact E jd_X_draftOfOne_150 (Or.inr rfl) ⟨fun _ => ⟨rfl, f9, hf9, h1⟩, fun z => absurd hf z, r1, rfl⟩
  · refine jo_qV 8 C X jk_X_290 h.obj rfl (jx_draftAlong0 h hta ea (by decide) hf hi) jd_X_draftOfOne_147 rfl rfl ⟨by decide, by decide⟩ (Nat.le_of_ble_eq_true rfl) (fun w9 hp9 => ?_)
    obtain ⟨⟨m9, t9, h9⟩, r9⟩ := hp9
    exact E jd_X_draftOfOne_150 (Or.inl rfl) ⟨fun z => absurd z (by omega), fun _ => ⟨rfl, _, _, _, _, h9⟩, r9, rfl⟩
theorem jx_one6n {ta oa : Nat} {z2 z3 : Int32} (h : jXd cI cT cX x P σ dr F G own fT ls w (jT_k (jSt_T σ ta)) f (nI (jT_r (jSt_T σ ta)), nI (jT_e (jSt_T σ ta)), lN (jT_q (jSt_T σ ta))) (nI 1)) (hS : jSh (jT_k (jSt_T σ ta)) f (jT_S (jSt_T σ ta))) (hta : ta < jSt_c σ) (ea : F ta = some oa) : jb_M l jy_X_draftOfOne jc_X_draftOfOne 6 (some .boolean) 5 120 0 0 D H0 (jt_all cI cJ cT cX) [.ref x, .int (nI 6), .ref oa, .int (nI 0), .int z2, .int z3] w sz
    (fun v w' sz' => v = some (.int (nI 1)) ∧ (jXd cI cT cX x P σ dr F G own fT ls w' 0 f (jx_add 6 (jl_cells (jT_S (jSt_T σ ta)) (jT_k (jSt_T σ ta))) (nI (jT_r (jSt_T σ ta)), nI (jT_e (jSt_T σ ta)), lN (jT_q (jSt_T σ ta)))) (nI (jl_cells (jT_S (jSt_T σ ta)) (jT_k (jSt_T σ ta)))) ∧ jXF P w w') ∧ sz' = sz) := by
  refine jb_meth_z (by decide) (Nat.le_of_ble_eq_true rfl) (fun u C X E => ?_)
  have k4 := hS.1
  refine ja_iload_n C jd_X_draftOfOne_0 1 rfl ?_
  refine ja_tableIn C 129 jd_X_draftOfOne_1 (by decide) (by decide) rfl (by decide) ?_
  refine ja_iload_n C jd_X_draftOfOne_129 3 rfl ?_
  refine ja_if_neN C 142 jd_X_draftOfOne_130 (by decide) (by decide) (fun q => absurd q (by decide)) (fun _ => ?_)
  refine ja_aload_n C jd_X_draftOfOne_133 0 rfl ?_
  refine ja_iload_n C jd_X_draftOfOne_134 1 rfl ?_
  refine ja_aload_n C jd_X_draftOfOne_135 2 rfl ?_
  refine jo_qV 8 C X jk_X_286 h.obj rfl (jx_draftTotal h hta ea (by decide)) jd_X_draftOfOne_136 rfl rfl ⟨by decide, by decide⟩ (Nat.le_of_ble_eq_true rfl) (fun w1 hp1 => ?_)
  obtain ⟨h1, r1⟩ := hp1
  refine ja_goto C 150 jd_X_draftOfOne_139 (by decide) ?_
  exact E jd_X_draftOfOne_150 (Or.inr rfl) ⟨rfl, ⟨h1, r1⟩, rfl⟩
theorem jx_one6 {ta oa i : Nat} {z3 : Int32} (h : jXd cI cT cX x P σ dr F G own fT ls w (jT_k (jSt_T σ ta)) f (nI (jT_r (jSt_T σ ta)), nI (jT_e (jSt_T σ ta)), lN (jT_q (jSt_T σ ta))) (nI 1)) (hS : jSh (jT_k (jSt_T σ ta)) f (jT_S (jSt_T σ ta))) (hta : ta < jSt_c σ) (ea : F ta = some oa) (hi : i < 2 ^ 31) : jb_M l jy_X_draftOfOne jc_X_draftOfOne 6 (some .boolean) 5 120 0 0 D H0 (jt_all cI cJ cT cX) [.ref x, .int (nI 6), .ref oa, .int (nI 1), .int (nI i), .int z3] w sz
    (fun v w' sz' => ((i < jT_k (jSt_T σ ta)) → v = some (.int (nI 1)) ∧ ∃ f', (∀ j, j < jT_k (jSt_T σ ta) - 1 → f' j = if j < i then f j else f (j + 1)) ∧ jXd cI cT cX x P σ dr F G own fT ls w' (jT_k (jSt_T σ ta) - 1) f' (jx_add 6 (jT_S (jSt_T σ ta) i) (nI (jT_r (jSt_T σ ta)), nI (jT_e (jSt_T σ ta)), lN (jT_q (jSt_T σ ta)))) (nI (jT_S (jSt_T σ ta) i))) ∧ (¬ (i < jT_k (jSt_T σ ta)) → v = some (.int (nI 0)) ∧ (∃ k' f' m' tm', jXd cI cT cX x P σ dr F G own fT ls w' k' f' m' tm')) ∧ jXF P w w' ∧ sz' = sz) := by
  refine jb_meth_z (by decide) (Nat.le_of_ble_eq_true rfl) (fun u C X E => ?_)
  have k4 := hS.1
  refine ja_iload_n C jd_X_draftOfOne_0 1 rfl ?_
  refine ja_tableIn C 129 jd_X_draftOfOne_1 (by decide) (by decide) rfl (by decide) ?_
  refine ja_iload_n C jd_X_draftOfOne_129 3 rfl ?_
  refine ja_if_neN C 142 jd_X_draftOfOne_130 (by decide) (by decide) (fun _ => ?_) (fun q => absurd q (by decide))
  refine ja_aload_n C jd_X_draftOfOne_142 0 rfl ?_
  refine ja_iload_n C jd_X_draftOfOne_143 1 rfl ?_
  refine ja_aload_n C jd_X_draftOfOne_144 2 rfl ?_
  refine ja_iload C jd_X_draftOfOne_145 4 rfl ?_
  rcases Nat.lt_or_ge i (jT_k (jSt_T σ ta)) with hf | hf
  · refine jo_qV 8 C X jk_X_290 h.obj rfl (jx_draftAlong h hta ea (by decide) hf) jd_X_draftOfOne_147 rfl rfl ⟨by decide, by decide⟩ (Nat.le_of_ble_eq_true rfl) (fun w1 hp1 => ?_)
    obtain ⟨f9, hf9, h1, r1⟩ := hp1
    exact E jd_X_draftOfOne_150 (Or.inr rfl) ⟨fun _ => ⟨rfl, f9, hf9, h1⟩, fun z => absurd hf z, r1, rfl⟩
  · refine jo_qV 8 C X jk_X_290 h.obj rfl (jx_draftAlong0 h hta ea (by decide) hf hi) jd_X_draftOfOne_147 rfl rfl ⟨by decide, by decide⟩ (Nat.le_of_ble_eq_true rfl) (fun w9 hp9 => ?_)
    obtain ⟨⟨m9, t9, h9⟩, r9⟩ := hp9
    exact E jd_X_draftOfOne_150 (Or.inl rfl) ⟨fun z => absurd z (by omega), fun _ => ⟨rfl, _, _, _, _, h9⟩, r9, rfl⟩
theorem jx_one7 {ta oa i : Nat} {z1 z3 : Int32} (h : jXd cI cT cX x P σ dr F G own fT ls w (jT_k (jSt_T σ ta)) f (nI (jT_r (jSt_T σ ta)), nI (jT_e (jSt_T σ ta)), lN (jT_q (jSt_T σ ta))) (nI 1)) (hS : jSh (jT_k (jSt_T σ ta)) f (jT_S (jSt_T σ ta))) (hta : ta < jSt_c σ) (ea : F ta = some oa) (hi : i < 2 ^ 31) : jb_M l jy_X_draftOfOne jc_X_draftOfOne 6 (some .boolean) 5 120 0 0 D H0 (jt_all cI cJ cT cX) [.ref x, .int (nI 7), .ref oa, .int z1, .int (nI i), .int z3] w sz
    (fun v w' sz' => ((i < jT_k (jSt_T σ ta)) → v = some (.int (nI 1)) ∧ ∃ f', (∀ j, j < jT_k (jSt_T σ ta) - 1 → f' j = if j < i then f j else f (j + 1)) ∧ jXd cI cT cX x P σ dr F G own fT ls w' (jT_k (jSt_T σ ta) - 1) f' (nI (jT_r (jSt_T σ ta)), nI (jT_e (jSt_T σ ta)), lN (jT_q (jSt_T σ ta))) (nI 1)) ∧ (¬ (i < jT_k (jSt_T σ ta)) → v = some (.int (nI 0)) ∧ (∃ k' f' m' tm', jXd cI cT cX x P σ dr F G own fT ls w' k' f' m' tm')) ∧ jXF P w w' ∧ sz' = sz) := by
  refine jb_meth_z (by decide) (Nat.le_of_ble_eq_true rfl) (fun u C X E => ?_)
  have k4 := hS.1
  refine ja_iload_n C jd_X_draftOfOne_0 1 rfl ?_
  refine ja_tableIn C 151 jd_X_draftOfOne_1 (by decide) (by decide) rfl (by decide) ?_
  refine ja_aload_n C jd_X_draftOfOne_151 0 rfl ?_
  refine ja_get C jg_X_32 jd_X_draftOfOne_152 h.obj rfl ?_
  refine jZx_g C jg_X_93 jd_X_draftOfOne_155 h.d (fun _ _ => rfl) ?_
  refine ja_iload C jd_X_draftOfOne_158 4 rfl ?_
  rcases Nat.lt_or_ge i (jT_k (jSt_T σ ta)) with hf | hf
  · refine jo_qV 8 C X jk_X_294 h.d.z1 rfl (js_remove h.d.z1 h.d.z2 k4 hf) jd_X_draftOfOne_160 rfl rfl ⟨by decide, by decide⟩ (Nat.le_of_ble_eq_true rfl) (fun w9 hp9 => ?_)
    obtain ⟨f9, ga, gb, gc, gd⟩ := hp9
    obtain ⟨h9, r9⟩ := h.s12 (by omega) ga gb gd
    exact E jd_X_draftOfOne_163 (Or.inr rfl) ⟨fun _ => ⟨rfl, f9, gc, h9⟩, fun z => absurd hf z, r9, rfl⟩
  · refine jb_pV 8 C X jk_X_294 h.d.z1 rfl (js_remove0 h.d.z1 h.d.z2 k4 hf hi) jd_X_draftOfOne_160 rfl rfl ⟨by decide, by decide⟩ (Nat.le_of_ble_eq_true rfl) ?_
    exact E jd_X_draftOfOne_163 (Or.inl rfl) ⟨fun z => absurd z (by omega), fun _ => ⟨rfl, _, _, _, _, h⟩, jXF.rf, rfl⟩
theorem jx_one9 {ta oa p : Nat} {z1 z3 : Int32} (h : jXd cI cT cX x P σ dr F G own fT ls w (jT_k (jSt_T σ ta)) f (nI (jT_r (jSt_T σ ta)), nI (jT_e (jSt_T σ ta)), lN (jT_q (jSt_T σ ta))) (nI 1)) (hS : jSh (jT_k (jSt_T σ ta)) f (jT_S (jSt_T σ ta))) (hta : ta < jSt_c σ) (ea : F ta = some oa) (hp : p < 2 ^ 31) : jb_M l jy_X_draftOfOne jc_X_draftOfOne 6 (some .boolean) 5 120 0 0 D H0 (jt_all cI cJ cT cX) [.ref x, .int (nI 9), .ref oa, .int z1, .int (nI p), .int z3] w sz
    (fun v w' sz' => ((jT_k (jSt_T σ ta) = 3 ∧ 0 < p ∧ jT_S (jSt_T σ ta) 1 % p = 0 ∧ jT_S (jSt_T σ ta) 2 % p = 0) → v = some (.int (nI 1)) ∧ jXd cI cT cX x P σ dr F G own fT ls w' 3 (upd (upd (upd (upd f 0 (nI (jT_S (jSt_T σ ta) 0))) 1 (nI (jT_S (jSt_T σ ta) 1 / p))) 2 (nI (jT_S (jSt_T σ ta) 2 / p))) 3 (nI 1)) (jx_add 9 (p * p) (nI (jT_r (jSt_T σ ta)), nI (jT_e (jSt_T σ ta)), lN (jT_q (jSt_T σ ta)))) (nI (p * p))) ∧ (¬ (jT_k (jSt_T σ ta) = 3 ∧ 0 < p ∧ jT_S (jSt_T σ ta) 1 % p = 0 ∧ jT_S (jSt_T σ ta) 2 % p = 0) → v = some (.int (nI 0)) ∧ (∃ k' f' m' tm', jXd cI cT cX x P σ dr F G own fT ls w' k' f' m' tm')) ∧ jXF P w w' ∧ sz' = sz) := by
  refine jb_meth_z (by decide) (Nat.le_of_ble_eq_true rfl) (fun u C X E => ?_)
  have k4 := hS.1
  refine ja_iload_n C jd_X_draftOfOne_0 1 rfl ?_
  refine ja_tableIn C 164 jd_X_draftOfOne_1 (by decide) (by decide) rfl (by decide) ?_
  refine ja_aload_n C jd_X_draftOfOne_164 0 rfl ?_
  refine ja_iload_n C jd_X_draftOfOne_165 1 rfl ?_
  refine ja_aload_n C jd_X_draftOfOne_166 2 rfl ?_
  refine jZx_g C jg_X_93 jd_X_draftOfOne_167 (h.tz hta ea) (fun _ _ => rfl) ?_
  refine ja_iload C jd_X_draftOfOne_170 4 rfl ?_
  rcases Classical.em (jT_k (jSt_T σ ta) = 3 ∧ 0 < p ∧ jT_S (jSt_T σ ta) 1 % p = 0 ∧ jT_S (jSt_T σ ta) 2 % p = 0) with hf | hf
  · have b1 := (h.ts hta).bd 1
    have p1 : p ≤ jT_S (jSt_T σ ta) 1 := Nat.le_of_dvd (by omega) (Nat.dvd_of_mod_eq_zero hf.2.2.1)
    refine jo_qV 8 C X jk_X_297 h.obj rfl (jx_draftSquares h hta ea (by decide) (by omega) hf) jd_X_draftOfOne_172 rfl rfl ⟨by decide, by decide⟩ (Nat.le_of_ble_eq_true rfl) (fun w9 hp9 => ?_)
    obtain ⟨ga, gb, r9⟩ := hp9
    exact E jd_X_draftOfOne_175 (Or.inr rfl) ⟨fun _ => ⟨rfl, ga rfl⟩, fun z => absurd hf z, r9, rfl⟩
  · refine jb_pV 8 C X jk_X_297 h.obj rfl (jx_draftSquares0 h hta ea (by decide) hp hf) jd_X_draftOfOne_172 rfl rfl ⟨by decide, by decide⟩ (Nat.le_of_ble_eq_true rfl) ?_
    exact E jd_X_draftOfOne_175 (Or.inl rfl) ⟨fun z => absurd z hf, fun _ => ⟨rfl, _, _, _, _, h⟩, jXF.rf, rfl⟩
theorem jx_one10 {ta oa p : Nat} {z1 z3 : Int32} (h : jXd cI cT cX x P σ dr F G own fT ls w (jT_k (jSt_T σ ta)) f (nI (jT_r (jSt_T σ ta)), nI (jT_e (jSt_T σ ta)), lN (jT_q (jSt_T σ ta))) (nI 1)) (hS : jSh (jT_k (jSt_T σ ta)) f (jT_S (jSt_T σ ta))) (hta : ta < jSt_c σ) (ea : F ta = some oa) (hp : p < 2 ^ 31) : jb_M l jy_X_draftOfOne jc_X_draftOfOne 6 (some .boolean) 5 120 0 0 D H0 (jt_all cI cJ cT cX) [.ref x, .int (nI 10), .ref oa, .int z1, .int (nI p), .int z3] w sz
    (fun v w' sz' => ((jT_k (jSt_T σ ta) = 3 ∧ 0 < p ∧ jT_S (jSt_T σ ta) 1 % p = 0 ∧ jT_S (jSt_T σ ta) 2 % p = 0) → v = some (.int (nI 1)) ∧ jXd cI cT cX x P σ dr F G own fT ls w' 3 (upd (upd (upd (upd f 0 (nI (jT_S (jSt_T σ ta) 0))) 1 (nI (jT_S (jSt_T σ ta) 1 / p))) 2 (nI (jT_S (jSt_T σ ta) 2 / p))) 3 (nI 1)) (nI (jT_r (jSt_T σ ta)), nI (jT_e (jSt_T σ ta)), lN (jT_q (jSt_T σ ta))) (nI 1)) ∧ (¬ (jT_k (jSt_T σ ta) = 3 ∧ 0 < p ∧ jT_S (jSt_T σ ta) 1 % p = 0 ∧ jT_S (jSt_T σ ta) 2 % p = 0) → v = some (.int (nI 0)) ∧ (∃ k' f' m' tm', jXd cI cT cX x P σ dr F G own fT ls w' k' f' m' tm')) ∧ jXF P w w' ∧ sz' = sz) := by
  refine jb_meth_z (by decide) (Nat.le_of_ble_eq_true rfl) (fun u C X E => ?_)
  have k4 := hS.1
  refine ja_iload_n C jd_X_draftOfOne_0 1 rfl ?_
  refine ja_tableIn C 164 jd_X_draftOfOne_1 (by decide) (by decide) rfl (by decide) ?_
  refine ja_aload_n C jd_X_draftOfOne_164 0 rfl ?_
  refine ja_iload_n C jd_X_draftOfOne_165 1 rfl ?_
  refine ja_aload_n C jd_X_draftOfOne_166 2 rfl ?_
  refine jZx_g C jg_X_93 jd_X_draftOfOne_167 (h.tz hta ea) (fun _ _ => rfl) ?_
  refine ja_iload C jd_X_draftOfOne_170 4 rfl ?_
  rcases Classical.em (jT_k (jSt_T σ ta) = 3 ∧ 0 < p ∧ jT_S (jSt_T σ ta) 1 % p = 0 ∧ jT_S (jSt_T σ ta) 2 % p = 0) with hf | hf
  · have b1 := (h.ts hta).bd 1
    have p1 : p ≤ jT_S (jSt_T σ ta) 1 := Nat.le_of_dvd (by omega) (Nat.dvd_of_mod_eq_zero hf.2.2.1)
    refine jo_qV 8 C X jk_X_297 h.obj rfl (jx_draftSquares h hta ea (by decide) (by omega) hf) jd_X_draftOfOne_172 rfl rfl ⟨by decide, by decide⟩ (Nat.le_of_ble_eq_true rfl) (fun w9 hp9 => ?_)
    obtain ⟨ga, gb, r9⟩ := hp9
    exact E jd_X_draftOfOne_175 (Or.inr rfl) ⟨fun _ => ⟨rfl, gb (by decide)⟩, fun z => absurd hf z, r9, rfl⟩
  · refine jb_pV 8 C X jk_X_297 h.obj rfl (jx_draftSquares0 h hta ea (by decide) hp hf) jd_X_draftOfOne_172 rfl rfl ⟨by decide, by decide⟩ (Nat.le_of_ble_eq_true rfl) ?_
    exact E jd_X_draftOfOne_175 (Or.inl rfl) ⟨fun z => absurd z hf, fun _ => ⟨rfl, _, _, _, _, h⟩, jXF.rf, rfl⟩
theorem jx_one12 {ta oa : Nat} {z1 z2 z3 : Int32} (h : jXd cI cT cX x P σ dr F G own fT ls w (jT_k (jSt_T σ ta)) f (nI (jT_r (jSt_T σ ta)), nI (jT_e (jSt_T σ ta)), lN (jT_q (jSt_T σ ta))) (nI 1)) (hS : jSh (jT_k (jSt_T σ ta)) f (jT_S (jSt_T σ ta))) (hta : ta < jSt_c σ) (ea : F ta = some oa) : jb_M l jy_X_draftOfOne jc_X_draftOfOne 6 (some .boolean) 5 120 0 0 D H0 (jt_all cI cJ cT cX) [.ref x, .int (nI 12), .ref oa, .int z1, .int z2, .int z3] w sz
    (fun v w' sz' => ((jT_k (jSt_T σ ta) = 2) → v = some (.int (nI 1)) ∧ jXd cI cT cX x P σ dr F G own fT ls w' 2 (upd (upd (upd (upd f 0 (nI (jT_S (jSt_T σ ta) 1))) 1 (nI (jT_S (jSt_T σ ta) 0))) 2 (nI 1)) 3 (nI 1)) (nI (jT_r (jSt_T σ ta)), nI (jT_e (jSt_T σ ta)), lN (jT_q (jSt_T σ ta))) (nI 1)) ∧ (¬ (jT_k (jSt_T σ ta) = 2) → v = some (.int (nI 0)) ∧ (∃ k' f' m' tm', jXd cI cT cX x P σ dr F G own fT ls w' k' f' m' tm')) ∧ jXF P w w' ∧ sz' = sz) := by
  refine jb_meth_z (by decide) (Nat.le_of_ble_eq_true rfl) (fun u C X E => ?_)
  have k4 := hS.1
  refine ja_iload_n C jd_X_draftOfOne_0 1 rfl ?_
  refine ja_tableIn C 176 jd_X_draftOfOne_1 (by decide) (by decide) rfl (by decide) ?_
  refine ja_aload_n C jd_X_draftOfOne_176 0 rfl ?_
  refine ja_get C jg_X_32 jd_X_draftOfOne_177 h.obj rfl ?_
  refine jZx_g C jg_X_93 jd_X_draftOfOne_180 h.d (fun _ _ => rfl) ?_
  refine ja_iconst C (nI 2) jd_X_draftOfOne_183 (by decide) ?_
  refine ja_aload_n C jd_X_draftOfOne_184 2 rfl ?_
  refine jZx_g C jg_X_93 jd_X_draftOfOne_185 (h.tz hta ea) (fun _ _ => rfl) ?_
  refine ja_iconst C (nI 1) jd_X_draftOfOne_188 (by decide) ?_
  refine jb_pV 8 C X jk_X_212 (h.tz hta ea).z1 rfl (js_side (h.tz hta ea).z1 (h.tz hta ea).z2 (h.ts hta) (by decide)) jd_X_draftOfOne_189 rfl rfl ⟨by decide, by decide⟩ (Nat.le_of_ble_eq_true rfl) ?_
  refine ja_aload_n C jd_X_draftOfOne_192 2 rfl ?_
  refine jZx_g C jg_X_93 jd_X_draftOfOne_193 (h.tz hta ea) (fun _ _ => rfl) ?_
  refine ja_iconst C (nI 0) jd_X_draftOfOne_196 (by decide) ?_
  refine jb_pV 8 C X jk_X_212 (h.tz hta ea).z1 rfl (js_side (h.tz hta ea).z1 (h.tz hta ea).z2 (h.ts hta) (by decide)) jd_X_draftOfOne_197 rfl rfl ⟨by decide, by decide⟩ (Nat.le_of_ble_eq_true rfl) ?_
  refine ja_iconst C (nI 1) jd_X_draftOfOne_200 (by decide) ?_
  refine ja_iconst C (nI 1) jd_X_draftOfOne_201 (by decide) ?_
  refine jo_vV 8 C X jk_X_97 h.d.z1 rfl (js_set h.d.z1 h.d.z2) jd_X_draftOfOne_202 rfl rfl ⟨by decide, by decide⟩ (Nat.le_of_ble_eq_true rfl) (fun w1 hp1 => ?_)
  obtain ⟨g1a, g1b, f1⟩ := hp1
  obtain ⟨h1, r1⟩ := h.s12 (by decide) g1a g1b f1
  refine ja_aload_n C jd_X_draftOfOne_205 2 rfl ?_
  refine jZx_g C jg_X_93 jd_X_draftOfOne_206 (h1.tz hta ea) (fun _ _ => rfl) ?_
  refine ja_get C jg_X_187 jd_X_draftOfOne_209 (h1.tz hta ea).z1 rfl ?_
  refine ja_iconst C (nI 2) jd_X_draftOfOne_212 (by decide) ?_
  refine ja_icmp_neN C 220 jd_X_draftOfOne_213 (by decide) (by omega) (by decide) (fun hf => ?_) (fun hf => ?_)
  · refine ja_iconst C (nI 0) jd_X_draftOfOne_220 (by decide) ?_
    exact E jd_X_draftOfOne_221 (Or.inl rfl) ⟨fun z => absurd z hf, fun _ => ⟨rfl, _, _, _, _, h1⟩, r1, rfl⟩
  · refine ja_iconst C (nI 1) jd_X_draftOfOne_216 (by decide) ?_
    refine ja_goto C 221 jd_X_draftOfOne_217 (by decide) ?_
    exact E jd_X_draftOfOne_221 (Or.inr rfl) ⟨fun _ => ⟨rfl, h1⟩, fun z => absurd hf z, r1, rfl⟩
theorem jx_one13 {ta oa k1 k2 : Nat} {z1 : Int32} (h : jXd cI cT cX x P σ dr F G own fT ls w (jT_k (jSt_T σ ta)) f (nI (jT_r (jSt_T σ ta)), nI (jT_e (jSt_T σ ta)), lN (jT_q (jSt_T σ ta))) (nI 1)) (hS : jSh (jT_k (jSt_T σ ta)) f (jT_S (jSt_T σ ta))) (hta : ta < jSt_c σ) (ea : F ta = some oa) (h1 : k1 < 2 ^ 31) (h2 : k2 < 2 ^ 31) : jb_M l jy_X_draftOfOne jc_X_draftOfOne 6 (some .boolean) 5 120 0 0 D H0 (jt_all cI cJ cT cX) [.ref x, .int (nI 13), .ref oa, .int z1, .int (nI k1), .int (nI k2)] w sz
    (fun v w' sz' => ((0 < jT_k (jSt_T σ ta) ∧ k1 < k2 ∧ k2 ≤ jT_S (jSt_T σ ta) 0) → v = some (.int (nI 1)) ∧ jXd cI cT cX x P σ dr F G own fT ls w' (jT_k (jSt_T σ ta)) (upd f 0 (nI (k2 - k1))) (nI (jT_r (jSt_T σ ta)), nI (jT_e (jSt_T σ ta)), lN (jT_q (jSt_T σ ta))) (nI 1)) ∧ (¬ (0 < jT_k (jSt_T σ ta) ∧ k1 < k2 ∧ k2 ≤ jT_S (jSt_T σ ta) 0) → v = some (.int (nI 0)) ∧ (∃ k' f' m' tm', jXd cI cT cX x P σ dr F G own fT ls w' k' f' m' tm')) ∧ jXF P w w' ∧ sz' = sz) := by
  refine jb_meth_z (by decide) (Nat.le_of_ble_eq_true rfl) (fun u C X E => ?_)
  have k4 := hS.1
  refine ja_iload_n C jd_X_draftOfOne_0 1 rfl ?_
  refine ja_tableIn C 222 jd_X_draftOfOne_1 (by decide) (by decide) rfl (by decide) ?_
  refine ja_aload_n C jd_X_draftOfOne_222 0 rfl ?_
  refine ja_aload_n C jd_X_draftOfOne_223 2 rfl ?_
  refine jZx_g C jg_X_93 jd_X_draftOfOne_224 (h.tz hta ea) (fun _ _ => rfl) ?_
  refine ja_iload C jd_X_draftOfOne_227 4 rfl ?_
  refine ja_iload C jd_X_draftOfOne_229 5 rfl ?_
  rcases Classical.em (0 < jT_k (jSt_T σ ta) ∧ k1 < k2 ∧ k2 ≤ jT_S (jSt_T σ ta) 0) with hf | hf
  · refine jo_qV 8 C X jk_X_301 h.obj rfl (jx_draftPart h hta ea h1 h2 hf) jd_X_draftOfOne_231 rfl rfl ⟨by decide, by decide⟩ (Nat.le_of_ble_eq_true rfl) (fun w1 hp1 => ?_)
    obtain ⟨h1, r1⟩ := hp1
    exact E jd_X_draftOfOne_234 (Or.inr rfl) ⟨fun _ => ⟨rfl, h1⟩, fun z => absurd hf z, r1, rfl⟩
  · refine jb_pV 8 C X jk_X_301 h.obj rfl (jx_draftPart0 h hta ea h1 h2 hf) jd_X_draftOfOne_231 rfl rfl ⟨by decide, by decide⟩ (Nat.le_of_ble_eq_true rfl) ?_
    exact E jd_X_draftOfOne_234 (Or.inl rfl) ⟨fun z => absurd z hf, fun _ => ⟨rfl, _, _, _, _, h⟩, jXF.rf, rfl⟩
theorem jx_one15 {ta oa i : Nat} {z1 z3 : Int32} (h : jXd cI cT cX x P σ dr F G own fT ls w (jT_k (jSt_T σ ta)) f (nI (jT_r (jSt_T σ ta)), nI (jT_e (jSt_T σ ta)), lN (jT_q (jSt_T σ ta))) (nI 1)) (hS : jSh (jT_k (jSt_T σ ta)) f (jT_S (jSt_T σ ta))) (hta : ta < jSt_c σ) (ea : F ta = some oa) (hi : i < 2 ^ 31) : jb_M l jy_X_draftOfOne jc_X_draftOfOne 6 (some .boolean) 5 120 0 0 D H0 (jt_all cI cJ cT cX) [.ref x, .int (nI 15), .ref oa, .int z1, .int (nI i), .int z3] w sz
    (fun v w' sz' => ((jT_k (jSt_T σ ta) = 3 ∧ 1 ≤ i ∧ i ≤ 16) → v = some (.int (nI 1)) ∧ jXd cI cT cX x P σ dr F G own fT ls w' 3 (upd (upd (upd (upd f 0 (nI (jT_S (jSt_T σ ta) 0))) 1 (nI (jT_S (jSt_T σ ta) 1 + 2 * i))) 2 (nI (jT_S (jSt_T σ ta) 2 + 2 * i))) 3 (nI 1)) (nI (jT_r (jSt_T σ ta)), nI (jT_e (jSt_T σ ta)), lN (jT_q (jSt_T σ ta))) (nI 1)) ∧ (¬ (jT_k (jSt_T σ ta) = 3 ∧ 1 ≤ i ∧ i ≤ 16) → v = some (.int (nI 0)) ∧ (∃ k' f' m' tm', jXd cI cT cX x P σ dr F G own fT ls w' k' f' m' tm')) ∧ jXF P w w' ∧ sz' = sz) := by
  refine jb_meth_z (by decide) (Nat.le_of_ble_eq_true rfl) (fun u C X E => ?_)
  have k4 := hS.1
  refine ja_iload_n C jd_X_draftOfOne_0 1 rfl ?_
  refine ja_tableIn C 235 jd_X_draftOfOne_1 (by decide) (by decide) rfl (by decide) ?_
  refine ja_aload_n C jd_X_draftOfOne_235 0 rfl ?_
  refine ja_aload_n C jd_X_draftOfOne_236 2 rfl ?_
  refine jZx_g C jg_X_93 jd_X_draftOfOne_237 (h.tz hta ea) (fun _ _ => rfl) ?_
  refine ja_iload C jd_X_draftOfOne_240 4 rfl ?_
  rcases Classical.em (jT_k (jSt_T σ ta) = 3 ∧ 1 ≤ i ∧ i ≤ 16) with hf | hf
  · refine jo_qV 8 C X jk_X_305 h.obj rfl (jx_draftPad h hta ea hf) jd_X_draftOfOne_242 rfl rfl ⟨by decide, by decide⟩ (Nat.le_of_ble_eq_true rfl) (fun w1 hp1 => ?_)
    obtain ⟨h1, r1⟩ := hp1
    exact E jd_X_draftOfOne_245 (Or.inr rfl) ⟨fun _ => ⟨rfl, h1⟩, fun z => absurd hf z, r1, rfl⟩
  · refine jb_pV 8 C X jk_X_305 h.obj rfl (jx_draftPad0 h hta ea hi hf) jd_X_draftOfOne_242 rfl rfl ⟨by decide, by decide⟩ (Nat.le_of_ble_eq_true rfl) ?_
    exact E jd_X_draftOfOne_245 (Or.inl rfl) ⟨fun z => absurd z hf, fun _ => ⟨rfl, _, _, _, _, h⟩, jXF.rf, rfl⟩
end X77
