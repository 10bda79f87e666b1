/-! THE CLASS: drafts -/
/-- how a total changes the draft's measure -/
def jx_add (wt n : Nat) (m : Int32 × Int32 × Int64) : Int32 × Int32 × Int64 := if wt = 5 then (m.1 + jx_bits (nI n - 1), m.2.1, m.2.2) else (m.1 + jx_bits (nI n - 1) + jx_bits (nI 1), m.2.1 + jx_twos (nI n), jx_pr m.2.2 (nI n >>> (jx_twos (nI n) &&& 31)).toInt64)
theorem jg_X_32 : ja_FL jcl "MeasuredTensors" 32 4 4 := ⟨_, rfl, by decide, jw_X, jw_in (by decide +kernel) (by decide +kernel)⟩
theorem jp_X_215 : ja_FP jcl "MeasuredTensors" 215 2 4 .int := ⟨_, jt_T, rfl, by decide, jw_T, jw_in (by decide +kernel) (by decide +kernel), jf_T_ty, jf_T_nm, rfl⟩
theorem jg_X_73 : ja_FL jcl "MeasuredTensors" 73 2 1 := ⟨_, rfl, by decide, jw_T, jw_in (by decide +kernel) (by decide +kernel)⟩
theorem jk_X_283 : jb_KS "MeasuredTensors" 283 jy_X_doublingsTo jc_X_doublingsTo 1 (some .int) 1 := ⟨jw_in (by decide +kernel) (by decide +kernel), jw_in (by decide +kernel) (by decide +kernel), jw_in (by decide +kernel) (by decide +kernel), jw_in (by decide +kernel) (by decide +kernel), by decide +kernel⟩
theorem jk_X_265 : jb_KV "MeasuredTensors" 265 jy_M_widen jc_M_widen 2 none 1 := ⟨jw_in (by decide +kernel) (by decide +kernel), jw_in (by decide +kernel) (by decide +kernel), jw_in (by decide +kernel) (by decide +kernel), jw_in (by decide +kernel) (by decide +kernel), jw_in (by decide +kernel) (by decide +kernel), by decide +kernel⟩
theorem jk_X_147 : jb_KV "MeasuredTensors" 147 jy_T_divide jc_T_divide 3 none 2 := ⟨jw_in (by decide +kernel) (by decide +kernel), jw_in (by decide +kernel) (by decide +kernel), jw_in (by decide +kernel) (by decide +kernel), jw_in (by decide +kernel) (by decide +kernel), jw_in (by decide +kernel) (by decide +kernel), by decide +kernel⟩
theorem jg_X_93 : ja_FL jcl "MeasuredTensors" 93 2 0 := ⟨_, rfl, by decide, jw_T, jw_in (by decide +kernel) (by decide +kernel)⟩
theorem jk_X_309 : jb_KV "MeasuredTensors" 309 jy_S_clear jc_S_clear 1 none 0 := ⟨jw_in (by decide +kernel) (by decide +kernel), jw_in (by decide +kernel) (by decide +kernel), jw_in (by decide +kernel) (by decide +kernel), jw_in (by decide +kernel) (by decide +kernel), jw_in (by decide +kernel) (by decide +kernel), by decide +kernel⟩
theorem jk_X_114 : jb_KV "MeasuredTensors" 114 jy_S_cells jc_S_cells 4 (some .int) 0 := ⟨jw_in (by decide +kernel) (by decide +kernel), jw_in (by decide +kernel) (by decide +kernel), jw_in (by decide +kernel) (by decide +kernel), jw_in (by decide +kernel) (by decide +kernel), jw_in (by decide +kernel) (by decide +kernel), by decide +kernel⟩
theorem jk_X_312 : jb_KV "MeasuredTensors" 312 jy_X_addUp jc_X_addUp 3 none 2 := ⟨jw_in (by decide +kernel) (by decide +kernel), jw_in (by decide +kernel) (by decide +kernel), jw_in (by decide +kernel) (by decide +kernel), jw_in (by decide +kernel) (by decide +kernel), jw_in (by decide +kernel) (by decide +kernel), by decide +kernel⟩
theorem jk_X_212 : jb_KV "MeasuredTensors" 212 jy_S_side jc_S_side 2 (some .int) 1 := ⟨jw_in (by decide +kernel) (by decide +kernel), jw_in (by decide +kernel) (by decide +kernel), jw_in (by decide +kernel) (by decide +kernel), jw_in (by decide +kernel) (by decide +kernel), jw_in (by decide +kernel) (by decide +kernel), by decide +kernel⟩
theorem jk_X_294 : jb_KV "MeasuredTensors" 294 jy_S_remove jc_S_remove 3 (some .boolean) 1 := ⟨jw_in (by decide +kernel) (by decide +kernel), jw_in (by decide +kernel) (by decide +kernel), jw_in (by decide +kernel) (by decide +kernel), jw_in (by decide +kernel) (by decide +kernel), jw_in (by decide +kernel) (by decide +kernel), by decide +kernel⟩
theorem jg_X_187 : ja_FL jcl "MeasuredTensors" 187 1 1 := ⟨_, rfl, by decide, jw_S, jw_in (by decide +kernel) (by decide +kernel)⟩
theorem jk_X_97 : jb_KV "MeasuredTensors" 97 jy_S_set jc_S_set 6 none 5 := ⟨jw_in (by decide +kernel) (by decide +kernel), jw_in (by decide +kernel) (by decide +kernel), jw_in (by decide +kernel) (by decide +kernel), jw_in (by decide +kernel) (by decide +kernel), jw_in (by decide +kernel) (by decide +kernel), by decide +kernel⟩
theorem jk_X_315 : jb_KV "MeasuredTensors" 315 jy_S_setFirst jc_S_setFirst 2 none 1 := ⟨jw_in (by decide +kernel) (by decide +kernel), jw_in (by decide +kernel) (by decide +kernel), jw_in (by decide +kernel) (by decide +kernel), jw_in (by decide +kernel) (by decide +kernel), jw_in (by decide +kernel) (by decide +kernel), by decide +kernel⟩
theorem jk_X_280 : jb_KV "MeasuredTensors" 280 jy_M_copy jc_M_copy 2 none 1 := ⟨jw_in (by decide +kernel) (by decide +kernel), jw_in (by decide +kernel) (by decide +kernel), jw_in (by decide +kernel) (by decide +kernel), jw_in (by decide +kernel) (by decide +kernel), jw_in (by decide +kernel) (by decide +kernel), by decide +kernel⟩
theorem jk_X_256 : jb_KV "MeasuredTensors" 256 jy_M_multiply jc_M_multiply 2 none 1 := ⟨jw_in (by decide +kernel) (by decide +kernel), jw_in (by decide +kernel) (by decide +kernel), jw_in (by decide +kernel) (by decide +kernel), jw_in (by decide +kernel) (by decide +kernel), jw_in (by decide +kernel) (by decide +kernel), by decide +kernel⟩
theorem jp_X_259 : ja_FP jcl "MeasuredTensors" 259 2 9 .int := ⟨_, jt_T, rfl, by decide, jw_T, jw_in (by decide +kernel) (by decide +kernel), jf_T_ty, jf_T_nm, rfl⟩
section X74
variable {l : Launch} {D : va_G} {H0 : Heap} {cI cJ cT cX : ClassId} {w : jb_W} {sz : Nat}
variable {x : Nat} {P : Nat → Prop} {σ : jSt} {dr : Nat} {F G : Nat → Option Nat} {own : Nat → Nat} {fT : Nat → Nat → Int32} {ls : Int32} {k : Nat} {f : Nat → Int32} {m : Int32 × Int32 × Int64} {tm : Int32}
theorem jx_addUp {wt n : Nat} (h : jXd cI cT cX x P σ dr F G own fT ls w k f m tm) (hw : wt < 100) : jb_M l jy_X_addUp jc_X_addUp 3 none 3 70 0 0 D H0 (jt_all cI cJ cT cX) [.ref x, .int (nI wt), .int (nI n)] w sz
    (fun v w' sz' => v = none ∧ (jXd cI cT cX x P σ dr F G own fT ls w' k f (jx_add wt n m) (nI n) ∧ jXF P w w') ∧ sz' = sz) := by
  refine jb_meth_v (by decide) (Nat.le_of_ble_eq_true rfl) (fun u C X hnm E => ?_)
  refine ja_aload_n C jd_X_addUp_0 0 rfl ?_
  refine ja_get C jg_X_32 jd_X_addUp_1 h.obj rfl ?_
  refine ja_iload_n C jd_X_addUp_4 2 rfl ?_
  refine jZx_p C jp_X_215 jnf_T_4 rfl rfl jd_X_addUp_5 h.d (nI n) (by decide) (fun p q => ⟨jp10 (p 0) (nI n) (p 2) (p 3) (p 4) (p 5) (p 6) (p 7) (p 8) (p 9), rfl, rfl⟩) (fun w1 z1 f1 => ?_)
  obtain ⟨h1, r1⟩ := h.upd h.k4 z1 f1
  refine ja_aload_n C jd_X_addUp_8 0 rfl ?_
  refine ja_get C jg_X_32 jd_X_addUp_9 h1.obj rfl ?_
  refine jZx_g C jg_X_73 jd_X_addUp_12 h1.d (fun _ _ => rfl) ?_
  refine ja_iload_n C jd_X_addUp_15 2 rfl ?_
  refine jb_pS 8 C X jk_X_283 (jx_doublingsTo) jd_X_addUp_16 rfl rfl ⟨by decide, by decide⟩ (Nat.le_of_ble_eq_true rfl) ?_
  refine jo_vV 8 C X jk_X_265 h1.d.z3 rfl (jm_widen h1.d.z3) jd_X_addUp_19 rfl rfl ⟨by decide, by decide⟩ (Nat.le_of_ble_eq_true rfl) (fun w2 hp2 => ?_)
  obtain ⟨g2, f2⟩ := hp2
  obtain ⟨h2, r2⟩ := h1.m3 g2 f2
  refine ja_iload_n C jd_X_addUp_22 1 rfl ?_
  refine ja_iconst C (nI 5) jd_X_addUp_23 (by decide) ?_
  refine ja_icmp_eqN C 36 jd_X_addUp_24 (by decide) (by omega) (by decide) (fun c => ?_) (fun c => ?_)
  · exact E jd_X_addUp_36 ⟨rfl, ⟨by unfold jx_add; rw [if_pos c]; exact h2, (r1.tr r2)⟩, rfl⟩
  · refine ja_aload_n C jd_X_addUp_27 0 rfl ?_
    refine ja_get C jg_X_32 jd_X_addUp_28 h2.obj rfl ?_
    refine ja_iload_n C jd_X_addUp_31 2 rfl ?_
    refine ja_iconst C (nI 1) jd_X_addUp_32 (by decide) ?_
    obtain ⟨fs3, hb3⟩ := h2.d.z0
    refine jo_vV 8 C X jk_X_147 hb3 rfl (jt_divide h2.d) jd_X_addUp_33 rfl rfl ⟨by decide, by decide⟩ (Nat.le_of_ble_eq_true rfl) (fun w3 hp3 => ?_)
    obtain ⟨z3, f3⟩ := hp3
    obtain ⟨h3, r3⟩ := h2.upd h.k4 z3 f3
    exact E jd_X_addUp_36 ⟨rfl, ⟨by unfold jx_add; rw [if_neg c]; exact h3, (r1.tr (r2.tr r3))⟩, rfl⟩
theorem jx_draftTotal {wt ta oa : Nat} (h : jXd cI cT cX x P σ dr F G own fT ls w k f m tm) (hta : ta < jSt_c σ) (ea : F ta = some oa) (hw : wt < 100) : jb_M l jy_X_draftTotal jc_X_draftTotal 3 (some .boolean) 4 95 0 0 D H0 (jt_all cI cJ cT cX) [.ref x, .int (nI wt), .ref oa] w sz
    (fun v w' sz' => v = some (.int (nI 1)) ∧ (jXd cI cT cX x P σ dr F G own fT ls w' 0 f (jx_add wt (jl_cells (jT_S (jSt_T σ ta)) (jT_k (jSt_T σ ta))) m) (nI (jl_cells (jT_S (jSt_T σ ta)) (jT_k (jSt_T σ ta)))) ∧ jXF P w w') ∧ sz' = sz) := by
  refine jb_meth_z (by decide) (Nat.le_of_ble_eq_true rfl) (fun u C X E => ?_)
  have ok := h.ok hta
  refine ja_aload_n C jd_X_draftTotal_0 0 rfl ?_
  refine ja_get C jg_X_32 jd_X_draftTotal_1 h.obj rfl ?_
  refine jZx_g C jg_X_93 jd_X_draftTotal_4 h.d (fun _ _ => rfl) ?_
  refine jo_vV 8 C X jk_X_309 h.d.z1 rfl (js_clear h.d.z1 h.d.z2) jd_X_draftTotal_7 rfl rfl ⟨by decide, by decide⟩ (Nat.le_of_ble_eq_true rfl) (fun w1 hp1 => ?_)
  obtain ⟨g1, f1⟩ := hp1
  obtain ⟨h1, r1⟩ := h.s1 (by decide) g1 f1
  refine ja_aload_n C jd_X_draftTotal_10 0 rfl ?_
  refine ja_iload_n C jd_X_draftTotal_11 1 rfl ?_
  refine ja_aload_n C jd_X_draftTotal_12 2 rfl ?_
  refine jZx_g C jg_X_93 jd_X_draftTotal_13 (h1.tz hta ea) (fun _ _ => rfl) ?_
  refine jb_pV 8 C X jk_X_114 (h1.tz hta ea).z1 rfl (js_cells (h1.tz hta ea).z1 (h1.tz hta ea).z2 (h1.ts hta)) jd_X_draftTotal_16 rfl rfl ⟨by decide, by decide⟩ (Nat.le_of_ble_eq_true rfl) ?_
  have ecl : jl_cl (jT_S (jSt_T σ ta)) (jT_k (jSt_T σ ta)) = jl_cells (jT_S (jSt_T σ ta)) (jT_k (jSt_T σ ta)) := by unfold jl_cl; rw [if_pos ok.2.2.2.1]
  rw [ecl]
  refine jo_vV 8 C X jk_X_312 h1.obj rfl (jx_addUp h1 hw) jd_X_draftTotal_19 rfl rfl ⟨by decide, by decide⟩ (Nat.le_of_ble_eq_true rfl) (fun w2 hp2 => ?_)
  obtain ⟨h2, r2⟩ := hp2
  refine ja_iconst C (nI 1) jd_X_draftTotal_22 (by decide) ?_
  exact E jd_X_draftTotal_23 (Or.inr rfl) ⟨rfl, ⟨h2, (r1.tr r2)⟩, rfl⟩
theorem jx_draftAlong0 {wt ta oa i : Nat} (h : jXd cI cT cX x P σ dr F G own fT ls w k f m tm) (hta : ta < jSt_c σ) (ea : F ta = some oa) (hw : wt < 100) (hk : k ≤ i) (hi : i < 2 ^ 31) : jb_M l jy_X_draftTotalAlong jc_X_draftTotalAlong 4 (some .boolean) 4 95 0 0 D H0 (jt_all cI cJ cT cX) [.ref x, .int (nI wt), .ref oa, .int (nI i)] w sz
    (fun v w' sz' => v = some (.int (nI 0)) ∧ ((∃ m' tm', jXd cI cT cX x P σ dr F G own fT ls w' k f m' tm') ∧ jXF P w w') ∧ sz' = sz) := by
  refine jb_meth_z (by decide) (Nat.le_of_ble_eq_true rfl) (fun u C X E => ?_)
  have h4 := h.k4
  refine ja_aload_n C jd_X_draftTotalAlong_0 0 rfl ?_
  refine ja_iload_n C jd_X_draftTotalAlong_1 1 rfl ?_
  refine ja_aload_n C jd_X_draftTotalAlong_2 2 rfl ?_
  refine jZx_g C jg_X_93 jd_X_draftTotalAlong_3 (h.tz hta ea) (fun _ _ => rfl) ?_
  refine ja_iload_n C jd_X_draftTotalAlong_6 3 rfl ?_
  refine jb_pV 8 C X jk_X_212 (h.tz hta ea).z1 rfl (js_side (h.tz hta ea).z1 (h.tz hta ea).z2 (h.ts hta) hi) jd_X_draftTotalAlong_7 rfl rfl ⟨by decide, by decide⟩ (Nat.le_of_ble_eq_true rfl) ?_
  refine jo_vV 8 C X jk_X_312 h.obj rfl (jx_addUp h hw) jd_X_draftTotalAlong_10 rfl rfl ⟨by decide, by decide⟩ (Nat.le_of_ble_eq_true rfl) (fun w1 hp1 => ?_)
  obtain ⟨h1, r1⟩ := hp1
  refine ja_aload_n C jd_X_draftTotalAlong_13 0 rfl ?_
  refine ja_get C jg_X_32 jd_X_draftTotalAlong_14 h1.obj rfl ?_
  refine jZx_g C jg_X_93 jd_X_draftTotalAlong_17 h1.d (fun _ _ => rfl) ?_
  refine ja_iload_n C jd_X_draftTotalAlong_20 3 rfl ?_
  refine jb_pV 8 C X jk_X_294 h1.d.z1 rfl (js_remove0 h1.d.z1 h1.d.z2 h4 hk hi) jd_X_draftTotalAlong_21 rfl rfl ⟨by decide, by decide⟩ (Nat.le_of_ble_eq_true rfl) ?_
  exact E jd_X_draftTotalAlong_24 (Or.inl rfl) ⟨rfl, ⟨⟨_, _, h1⟩, r1⟩, rfl⟩
theorem jx_draftAlong {wt ta oa i : Nat} (h : jXd cI cT cX x P σ dr F G own fT ls w k f m tm) (hta : ta < jSt_c σ) (ea : F ta = some oa) (hw : wt < 100) (hi : i < k) : jb_M l jy_X_draftTotalAlong jc_X_draftTotalAlong 4 (some .boolean) 4 95 0 0 D H0 (jt_all cI cJ cT cX) [.ref x, .int (nI wt), .ref oa, .int (nI i)] w sz
    (fun v w' sz' => v = some (.int (nI 1)) ∧ (∃ f', (∀ j, j < k - 1 → f' j = if j < i then f j else f (j + 1)) ∧ jXd cI cT cX x P σ dr F G own fT ls w' (k - 1) f' (jx_add wt (jT_S (jSt_T σ ta) i) m) (nI (jT_S (jSt_T σ ta) i)) ∧ jXF P w w') ∧ sz' = sz) := by
  refine jb_meth_z (by decide) (Nat.le_of_ble_eq_true rfl) (fun u C X E => ?_)
  have h4 := h.k4
  refine ja_aload_n C jd_X_draftTotalAlong_0 0 rfl ?_
  refine ja_iload_n C jd_X_draftTotalAlong_1 1 rfl ?_
  refine ja_aload_n C jd_X_draftTotalAlong_2 2 rfl ?_
  refine jZx_g C jg_X_93 jd_X_draftTotalAlong_3 (h.tz hta ea) (fun _ _ => rfl) ?_
  refine ja_iload_n C jd_X_draftTotalAlong_6 3 rfl ?_
  refine jb_pV 8 C X jk_X_212 (h.tz hta ea).z1 rfl (js_side (h.tz hta ea).z1 (h.tz hta ea).z2 (h.ts hta) (by omega)) jd_X_draftTotalAlong_7 rfl rfl ⟨by decide, by decide⟩ (Nat.le_of_ble_eq_true rfl) ?_
  refine jo_vV 8 C X jk_X_312 h.obj rfl (jx_addUp h hw) jd_X_draftTotalAlong_10 rfl rfl ⟨by decide, by decide⟩ (Nat.le_of_ble_eq_true rfl) (fun w1 hp1 => ?_)
  obtain ⟨h1, r1⟩ := hp1
  refine ja_aload_n C jd_X_draftTotalAlong_13 0 rfl ?_
  refine ja_get C jg_X_32 jd_X_draftTotalAlong_14 h1.obj rfl ?_
  refine jZx_g C jg_X_93 jd_X_draftTotalAlong_17 h1.d (fun _ _ => rfl) ?_
  refine ja_iload_n C jd_X_draftTotalAlong_20 3 rfl ?_
  refine jo_qV 8 C X jk_X_294 h1.d.z1 rfl (js_remove h1.d.z1 h1.d.z2 h4 hi) jd_X_draftTotalAlong_21 rfl rfl ⟨by decide, by decide⟩ (Nat.le_of_ble_eq_true rfl) (fun w9 hp9 => ?_)
  obtain ⟨f9, ga, gb, gc, gd⟩ := hp9
  obtain ⟨h9, r9⟩ := h1.s12 (by omega) ga gb gd
  exact E jd_X_draftTotalAlong_24 (Or.inr rfl) ⟨rfl, ⟨f9, gc, h9, r1.tr r9⟩, rfl⟩
theorem jx_draftSquares0 {wt ta oa p : Nat} (h : jXd cI cT cX x P σ dr F G own fT ls w k f m tm) (hta : ta < jSt_c σ) (ea : F ta = some oa) (hw : wt < 100) (hp : p < 2 ^ 31) (hf : ¬ (jT_k (jSt_T σ ta) = 3 ∧ 0 < p ∧ jT_S (jSt_T σ ta) 1 % p = 0 ∧ jT_S (jSt_T σ ta) 2 % p = 0)) : jb_M l jy_X_draftSquares jc_X_draftSquares 6 (some .boolean) 4 95 0 0 D H0 (jt_all cI cJ cT cX) [.ref x, .int (nI wt), .ref (oa + 1), .int (nI p)] w sz
    (fun v w' sz' => v = some (.int (nI 0)) ∧ w' = w ∧ sz' = sz) := by
  refine jb_meth_z (by decide) (Nat.le_of_ble_eq_true rfl) (fun u C X E => ?_)
  have b0 := (h.ts hta).bd 0
  have b1 := (h.ts hta).bd 1
  have b2 := (h.ts hta).bd 2
  have k4 := (h.ts hta).1
  refine ja_aload_n C jd_X_draftSquares_0 2 rfl ?_
  refine ja_iconst C (nI 1) jd_X_draftSquares_1 (by decide) ?_
  refine jb_pV 8 C X jk_X_212 (h.tz hta ea).z1 rfl (js_side (h.tz hta ea).z1 (h.tz hta ea).z2 (h.ts hta) (by decide)) jd_X_draftSquares_2 rfl rfl ⟨by decide, by decide⟩ (Nat.le_of_ble_eq_true rfl) ?_
  refine ja_istore C [(4, .int (nI (jT_S (jSt_T σ ta) 1))), (0, .ref x), (1, .int (nI wt)), (2, .ref (oa + 1)), (3, .int (nI p))] jd_X_draftSquares_5 (Nat.le_of_ble_eq_true rfl) rfl ?_
  refine ja_aload_n C jd_X_draftSquares_7 3 rfl ?_
  refine ja_iconst C (nI 2) jd_X_draftSquares_8 (by decide) ?_
  refine jb_pV 8 C X jk_X_212 (h.tz hta ea).z1 rfl (js_side (h.tz hta ea).z1 (h.tz hta ea).z2 (h.ts hta) (by decide)) jd_X_draftSquares_9 rfl rfl ⟨by decide, by decide⟩ (Nat.le_of_ble_eq_true rfl) ?_
  refine ja_istore C [(5, .int (nI (jT_S (jSt_T σ ta) 2))), (4, .int (nI (jT_S (jSt_T σ ta) 1))), (0, .ref x), (1, .int (nI wt)), (2, .ref (oa + 1)), (3, .int (nI p))] jd_X_draftSquares_12 (Nat.le_of_ble_eq_true rfl) rfl ?_
  refine ja_aload_n C jd_X_draftSquares_14 4 rfl ?_
  refine ja_get C jg_X_187 jd_X_draftSquares_15 (h.tz hta ea).z1 rfl ?_
  refine ja_iconst C (nI 3) jd_X_draftSquares_18 (by decide) ?_
  have no : ∀ (_ : True), ja (jb_mk l (jb_rm 4 95 0 0) 6 "MeasuredTensors" D H0 (jt_all cI cJ cT cX) u) w sz 0 0 41 [(5, .int (nI (jT_S (jSt_T σ ta) 2))), (4, .int (nI (jT_S (jSt_T σ ta) 1))), (0, .ref x), (1, .int (nI wt)), (2, .ref (oa + 1)), (3, .int (nI p))] [] := by
    intro _
    refine ja_iconst C (nI 0) jd_X_draftSquares_41 (by decide) ?_
    exact E jd_X_draftSquares_42 (Or.inl rfl) ⟨rfl, rfl, rfl⟩
  refine ja_icmp_neN C 41 jd_X_draftSquares_19 (by decide) (by omega) (by decide) (fun c1 => no trivial) (fun c1 => ?_)
  refine ja_iload_n C jd_X_draftSquares_22 5 rfl ?_
  refine ja_iconst C (nI 1) jd_X_draftSquares_23 (by decide) ?_
  refine ja_icmp_ltN C 41 jd_X_draftSquares_24 (by decide) (by omega) (by decide) (fun c2 => no trivial) (fun c2 => ?_)
  refine ja_iload C jd_X_draftSquares_27 1 rfl ?_
  refine ja_iload_n C jd_X_draftSquares_29 5 rfl ?_
  refine ja_iremN C jd_X_draftSquares_30 (by omega) (by omega) (by omega) ?_
  have m1 : jT_S (jSt_T σ ta) 1 % p < p := Nat.mod_lt _ (by omega)
  have m2 : jT_S (jSt_T σ ta) 2 % p < p := Nat.mod_lt _ (by omega)
  refine ja_if_neN C 41 jd_X_draftSquares_31 (by decide) (by omega) (fun c3 => no trivial) (fun c3 => ?_)
  refine ja_iload C jd_X_draftSquares_34 0 rfl ?_
  refine ja_iload_n C jd_X_draftSquares_36 5 rfl ?_
  refine ja_iremN C jd_X_draftSquares_37 (by omega) (by omega) (by omega) ?_
  refine ja_if_eqN C 43 jd_X_draftSquares_38 (by decide) (by omega) (fun c4 => ?_) (fun c4 => no trivial)
  exact absurd ⟨c1, by omega, c3, c4⟩ hf
theorem jx_draftSquares {wt ta oa p : Nat} (h : jXd cI cT cX x P σ dr F G own fT ls w k f m tm) (hta : ta < jSt_c σ) (ea : F ta = some oa) (hw : wt < 100) (hp : p < 2 ^ 15) (hf : jT_k (jSt_T σ ta) = 3 ∧ 0 < p ∧ jT_S (jSt_T σ ta) 1 % p = 0 ∧ jT_S (jSt_T σ ta) 2 % p = 0) : jb_M l jy_X_draftSquares jc_X_draftSquares 6 (some .boolean) 4 95 0 0 D H0 (jt_all cI cJ cT cX) [.ref x, .int (nI wt), .ref (oa + 1), .int (nI p)] w sz
    (fun v w' sz' => v = some (.int (nI 1)) ∧ ((wt = 9 → jXd cI cT cX x P σ dr F G own fT ls w' 3 (upd (upd (upd (upd f 0 (nI (jT_S (jSt_T σ ta) 0))) 1 (nI (jT_S (jSt_T σ ta) 1 / p))) 2 (nI (jT_S (jSt_T σ ta) 2 / p))) 3 (nI 1)) (jx_add wt (p * p) m) (nI (p * p))) ∧ (¬ wt = 9 → jXd cI cT cX x P σ dr F G own fT ls w' 3 (upd (upd (upd (upd f 0 (nI (jT_S (jSt_T σ ta) 0))) 1 (nI (jT_S (jSt_T σ ta) 1 / p))) 2 (nI (jT_S (jSt_T σ ta) 2 / p))) 3 (nI 1)) m tm) ∧ jXF P w w') ∧ sz' = sz) := by
  refine jb_meth_z (by decide) (Nat.le_of_ble_eq_true rfl) (fun u C X E => ?_)
  have b0 := (h.ts hta).bd 0
  have b1 := (h.ts hta).bd 1
  have b2 := (h.ts hta).bd 2
  have k4 := (h.ts hta).1
  obtain ⟨f1', f2', f3', f4'⟩ := hf
  refine ja_aload_n C jd_X_draftSquares_0 2 rfl ?_
  refine ja_iconst C (nI 1) jd_X_draftSquares_1 (by decide) ?_
  refine jb_pV 8 C X jk_X_212 (h.tz hta ea).z1 rfl (js_side (h.tz hta ea).z1 (h.tz hta ea).z2 (h.ts hta) (by decide)) jd_X_draftSquares_2 rfl rfl ⟨by decide, by decide⟩ (Nat.le_of_ble_eq_true rfl) ?_
  refine ja_istore C [(4, .int (nI (jT_S (jSt_T σ ta) 1))), (0, .ref x), (1, .int (nI wt)), (2, .ref (oa + 1)), (3, .int (nI p))] jd_X_draftSquares_5 (Nat.le_of_ble_eq_true rfl) rfl ?_
  refine ja_aload_n C jd_X_draftSquares_7 3 rfl ?_
  refine ja_iconst C (nI 2) jd_X_draftSquares_8 (by decide) ?_
  refine jb_pV 8 C X jk_X_212 (h.tz hta ea).z1 rfl (js_side (h.tz hta ea).z1 (h.tz hta ea).z2 (h.ts hta) (by decide)) jd_X_draftSquares_9 rfl rfl ⟨by decide, by decide⟩ (Nat.le_of_ble_eq_true rfl) ?_
  refine ja_istore C [(5, .int (nI (jT_S (jSt_T σ ta) 2))), (4, .int (nI (jT_S (jSt_T σ ta) 1))), (0, .ref x), (1, .int (nI wt)), (2, .ref (oa + 1)), (3, .int (nI p))] jd_X_draftSquares_12 (Nat.le_of_ble_eq_true rfl) rfl ?_
  refine ja_aload_n C jd_X_draftSquares_14 4 rfl ?_
  refine ja_get C jg_X_187 jd_X_draftSquares_15 (h.tz hta ea).z1 rfl ?_
  refine ja_iconst C (nI 3) jd_X_draftSquares_18 (by decide) ?_
  refine ja_icmp_neN C 41 jd_X_draftSquares_19 (by decide) (by omega) (by decide) (fun c1 => absurd f1' c1) (fun c1 => ?_)
  refine ja_iload_n C jd_X_draftSquares_22 5 rfl ?_
  refine ja_iconst C (nI 1) jd_X_draftSquares_23 (by decide) ?_
  refine ja_icmp_ltN C 41 jd_X_draftSquares_24 (by decide) (by omega) (by decide) (fun c2 => absurd c2 (by omega)) (fun c2 => ?_)
  refine ja_iload C jd_X_draftSquares_27 1 rfl ?_
  refine ja_iload_n C jd_X_draftSquares_29 5 rfl ?_
  refine ja_iremN C jd_X_draftSquares_30 (by omega) (by omega) (by omega) ?_
  have m1 : jT_S (jSt_T σ ta) 1 % p < p := Nat.mod_lt _ (by omega)
  have m2 : jT_S (jSt_T σ ta) 2 % p < p := Nat.mod_lt _ (by omega)
  refine ja_if_neN C 41 jd_X_draftSquares_31 (by decide) (by omega) (fun c3 => absurd c3 (by omega)) (fun c3 => ?_)
  refine ja_iload C jd_X_draftSquares_34 0 rfl ?_
  refine ja_iload_n C jd_X_draftSquares_36 5 rfl ?_
  refine ja_iremN C jd_X_draftSquares_37 (by omega) (by omega) (by omega) ?_
  refine ja_if_eqN C 43 jd_X_draftSquares_38 (by decide) (by omega) (fun c4 => ?_) (fun c4 => absurd c4 (by omega))
  refine ja_aload_n C jd_X_draftSquares_43 2 rfl ?_
  refine ja_get C jg_X_32 jd_X_draftSquares_44 h.obj rfl ?_
  refine jZx_g C jg_X_93 jd_X_draftSquares_47 h.d (fun _ _ => rfl) ?_
  refine ja_iconst C (nI 3) jd_X_draftSquares_50 (by decide) ?_
  refine ja_aload_n C jd_X_draftSquares_51 4 rfl ?_
  refine ja_iconst C (nI 0) jd_X_draftSquares_52 (by decide) ?_
  refine jb_pV 8 C X jk_X_212 (h.tz hta ea).z1 rfl (js_side (h.tz hta ea).z1 (h.tz hta ea).z2 (h.ts hta) (by decide)) jd_X_draftSquares_53 rfl rfl ⟨by decide, by decide⟩ (Nat.le_of_ble_eq_true rfl) ?_
  refine ja_iload C jd_X_draftSquares_56 1 rfl ?_
  refine ja_iload_n C jd_X_draftSquares_58 5 rfl ?_
  refine ja_idivN C jd_X_draftSquares_59 (by omega) (by omega) (by omega) ?_
  refine ja_iload C jd_X_draftSquares_60 0 rfl ?_
  refine ja_iload_n C jd_X_draftSquares_62 5 rfl ?_
  refine ja_idivN C jd_X_draftSquares_63 (by omega) (by omega) (by omega) ?_
  refine ja_iconst C (nI 1) jd_X_draftSquares_64 (by decide) ?_
  refine jo_vV 8 C X jk_X_97 h.d.z1 rfl (js_set h.d.z1 h.d.z2) jd_X_draftSquares_65 rfl rfl ⟨by decide, by decide⟩ (Nat.le_of_ble_eq_true rfl) (fun w1 hp1 => ?_)
  obtain ⟨g1a, g1b, f1⟩ := hp1
  obtain ⟨h1, r1⟩ := h.s12 (by decide) g1a g1b f1
  refine ja_iload_n C jd_X_draftSquares_68 3 rfl ?_
  refine ja_bipush C (nI 9) jd_X_draftSquares_69 (by decide) ?_
  refine ja_icmp_neN C 82 jd_X_draftSquares_71 (by decide) (by omega) (by decide) (fun c5 => ?_) (fun c5 => ?_)
  · refine ja_iconst C (nI 1) jd_X_draftSquares_82 (by decide) ?_
    exact E jd_X_draftSquares_83 (Or.inr rfl) ⟨rfl, ⟨fun z => absurd z c5, fun _ => h1, r1⟩, rfl⟩
  · refine ja_aload_n C jd_X_draftSquares_74 2 rfl ?_
    refine ja_iload_n C jd_X_draftSquares_75 3 rfl ?_
    refine ja_iload_n C jd_X_draftSquares_76 5 rfl ?_
    refine ja_iload_n C jd_X_draftSquares_77 5 rfl ?_
    refine ja_imulN C jd_X_draftSquares_78 ?_
    refine jo_vV 8 C X jk_X_312 h1.obj rfl (jx_addUp h1 hw) jd_X_draftSquares_79 rfl rfl ⟨by decide, by decide⟩ (Nat.le_of_ble_eq_true rfl) (fun w2 hp2 => ?_)
    obtain ⟨h2, r2⟩ := hp2
    refine ja_iconst C (nI 1) jd_X_draftSquares_82 (by decide) ?_
    exact E jd_X_draftSquares_83 (Or.inr rfl) ⟨rfl, ⟨fun _ => h2, fun z => absurd c5 z, (r1.tr r2)⟩, rfl⟩
theorem jx_draftPart0 {ta oa k1 k2 : Nat} (h : jXd cI cT cX x P σ dr F G own fT ls w k f m tm) (hta : ta < jSt_c σ) (ea : F ta = some oa) (h1 : k1 < 2 ^ 31) (h2 : k2 < 2 ^ 31) (hf : ¬ (0 < jT_k (jSt_T σ ta) ∧ k1 < k2 ∧ k2 ≤ jT_S (jSt_T σ ta) 0)) : jb_M l jy_X_draftPart jc_X_draftPart 4 (some .boolean) 1 21 0 0 D H0 (jt_all cI cJ cT cX) [.ref x, .ref (oa + 1), .int (nI k1), .int (nI k2)] w sz
    (fun v w' sz' => v = some (.int (nI 0)) ∧ w' = w ∧ sz' = sz) := by
  refine jb_meth_z (by decide) (Nat.le_of_ble_eq_true rfl) (fun u C X E => ?_)
  have b0 := (h.ts hta).bd 0
  have k4 := (h.ts hta).1
  have no : ∀ (_ : True), ja (jb_mk l (jb_rm 1 21 0 0) 4 "MeasuredTensors" D H0 (jt_all cI cJ cT cX) u) w sz 0 0 22 [(0, .ref x), (1, .ref (oa + 1)), (2, .int (nI k1)), (3, .int (nI k2))] [] := by
    intro _
    refine ja_iconst C (nI 0) jd_X_draftPart_22 (by decide) ?_
    exact E jd_X_draftPart_23 (Or.inl rfl) ⟨rfl, rfl, rfl⟩
  refine ja_aload_n C jd_X_draftPart_0 1 rfl ?_
  refine ja_get C jg_X_187 jd_X_draftPart_1 (h.tz hta ea).z1 rfl ?_
  refine ja_iconst C (nI 1) jd_X_draftPart_4 (by decide) ?_
  refine ja_icmp_ltN C 22 jd_X_draftPart_5 (by decide) (by omega) (by decide) (fun c1 => no trivial) (fun c1 => ?_)
  refine ja_iload_n C jd_X_draftPart_8 2 rfl ?_
  refine ja_iload_n C jd_X_draftPart_9 3 rfl ?_
  refine ja_icmp_geN C 22 jd_X_draftPart_10 (by decide) (by omega) (by omega) (fun c2 => no trivial) (fun c2 => ?_)
  refine ja_iload_n C jd_X_draftPart_13 3 rfl ?_
  refine ja_aload_n C jd_X_draftPart_14 1 rfl ?_
  refine ja_iconst C (nI 0) jd_X_draftPart_15 (by decide) ?_
  refine jb_pV 8 C X jk_X_212 (h.tz hta ea).z1 rfl (js_side (h.tz hta ea).z1 (h.tz hta ea).z2 (h.ts hta) (by decide)) jd_X_draftPart_16 rfl rfl ⟨by decide, by decide⟩ (Nat.le_of_ble_eq_true rfl) ?_
  refine ja_icmp_leN C 24 jd_X_draftPart_19 (by decide) (by omega) (by omega) (fun c3 => ?_) (fun c3 => ?_)
  · exact absurd ⟨by omega, by omega, c3⟩ hf
  · exact no trivial
theorem jx_draftPart {ta oa k1 k2 : Nat} (h : jXd cI cT cX x P σ dr F G own fT ls w k f m tm) (hta : ta < jSt_c σ) (ea : F ta = some oa) (h1 : k1 < 2 ^ 31) (h2 : k2 < 2 ^ 31) (hf : 0 < jT_k (jSt_T σ ta) ∧ k1 < k2 ∧ k2 ≤ jT_S (jSt_T σ ta) 0) : jb_M l jy_X_draftPart jc_X_draftPart 4 (some .boolean) 1 21 0 0 D H0 (jt_all cI cJ cT cX) [.ref x, .ref (oa + 1), .int (nI k1), .int (nI k2)] w sz
    (fun v w' sz' => v = some (.int (nI 1)) ∧ (jXd cI cT cX x P σ dr F G own fT ls w' k (upd f 0 (nI (k2 - k1))) m tm ∧ jXF P w w') ∧ sz' = sz) := by
  refine jb_meth_z (by decide) (Nat.le_of_ble_eq_true rfl) (fun u C X E => ?_)
  have b0 := (h.ts hta).bd 0
  have k4 := (h.ts hta).1
  obtain ⟨f1', f2', f3'⟩ := hf
  refine ja_aload_n C jd_X_draftPart_0 1 rfl ?_
  refine ja_get C jg_X_187 jd_X_draftPart_1 (h.tz hta ea).z1 rfl ?_
  refine ja_iconst C (nI 1) jd_X_draftPart_4 (by decide) ?_
  refine ja_icmp_ltN C 22 jd_X_draftPart_5 (by decide) (by omega) (by decide) (fun c1 => absurd c1 (by omega)) (fun c1 => ?_)
  refine ja_iload_n C jd_X_draftPart_8 2 rfl ?_
  refine ja_iload_n C jd_X_draftPart_9 3 rfl ?_
  refine ja_icmp_geN C 22 jd_X_draftPart_10 (by decide) (by omega) (by omega) (fun c2 => absurd c2 (by omega)) (fun c2 => ?_)
  refine ja_iload_n C jd_X_draftPart_13 3 rfl ?_
  refine ja_aload_n C jd_X_draftPart_14 1 rfl ?_
  refine ja_iconst C (nI 0) jd_X_draftPart_15 (by decide) ?_
  refine jb_pV 8 C X jk_X_212 (h.tz hta ea).z1 rfl (js_side (h.tz hta ea).z1 (h.tz hta ea).z2 (h.ts hta) (by decide)) jd_X_draftPart_16 rfl rfl ⟨by decide, by decide⟩ (Nat.le_of_ble_eq_true rfl) ?_
  refine ja_icmp_leN C 24 jd_X_draftPart_19 (by decide) (by omega) (by omega) (fun c3 => ?_) (fun c3 => absurd c3 (by omega))
  refine ja_aload_n C jd_X_draftPart_24 0 rfl ?_
  refine ja_get C jg_X_32 jd_X_draftPart_25 h.obj rfl ?_
  refine jZx_g C jg_X_93 jd_X_draftPart_28 h.d (fun _ _ => rfl) ?_
  refine ja_iload_n C jd_X_draftPart_31 3 rfl ?_
  refine ja_iload_n C jd_X_draftPart_32 2 rfl ?_
  refine ja_isubN C jd_X_draftPart_33 (by omega) ?_
  refine jo_vV 8 C X jk_X_315 h.d.z1 rfl (js_setFirst h.d.z1 h.d.z2) jd_X_draftPart_34 rfl rfl ⟨by decide, by decide⟩ (Nat.le_of_ble_eq_true rfl) (fun w1 hp1 => ?_)
  obtain ⟨g1, f1⟩ := hp1
  obtain ⟨h1, r1⟩ := h.s2 g1 f1
  refine ja_iconst C (nI 1) jd_X_draftPart_37 (by decide) ?_
  exact E jd_X_draftPart_38 (Or.inr rfl) ⟨rfl, ⟨h1, r1⟩, rfl⟩
theorem jx_draftPad0 {ta oa i : Nat} (h : jXd cI cT cX x P σ dr F G own fT ls w k f m tm) (hta : ta < jSt_c σ) (ea : F ta = some oa) (h1 : i < 2 ^ 31) (hf : ¬ (jT_k (jSt_T σ ta) = 3 ∧ 1 ≤ i ∧ i ≤ 16)) : jb_M l jy_X_draftPad jc_X_draftPad 3 (some .boolean) 1 25 0 0 D H0 (jt_all cI cJ cT cX) [.ref x, .ref (oa + 1), .int (nI i)] w sz
    (fun v w' sz' => v = some (.int (nI 0)) ∧ w' = w ∧ sz' = sz) := by
  refine jb_meth_z (by decide) (Nat.le_of_ble_eq_true rfl) (fun u C X E => ?_)
  have k4 := (h.ts hta).1
  have no : ∀ (_ : True), ja (jb_mk l (jb_rm 1 25 0 0) 3 "MeasuredTensors" D H0 (jt_all cI cJ cT cX) u) w sz 0 0 19 [(0, .ref x), (1, .ref (oa + 1)), (2, .int (nI i))] [] := by
    intro _
    refine ja_iconst C (nI 0) jd_X_draftPad_19 (by decide) ?_
    exact E jd_X_draftPad_20 (Or.inl rfl) ⟨rfl, rfl, rfl⟩
  refine ja_aload_n C jd_X_draftPad_0 1 rfl ?_
  refine ja_get C jg_X_187 jd_X_draftPad_1 (h.tz hta ea).z1 rfl ?_
  refine ja_iconst C (nI 3) jd_X_draftPad_4 (by decide) ?_
  refine ja_icmp_neN C 19 jd_X_draftPad_5 (by decide) (by omega) (by decide) (fun c1 => no trivial) (fun c1 => ?_)
  refine ja_iload_n C jd_X_draftPad_8 2 rfl ?_
  refine ja_iconst C (nI 1) jd_X_draftPad_9 (by decide) ?_
  refine ja_icmp_ltN C 19 jd_X_draftPad_10 (by decide) (by omega) (by decide) (fun c2 => no trivial) (fun c2 => ?_)
  refine ja_iload_n C jd_X_draftPad_13 2 rfl ?_
  refine ja_bipush C (nI 16) jd_X_draftPad_14 (by decide) ?_
  refine ja_icmp_leN C 21 jd_X_draftPad_16 (by decide) (by omega) (by decide) (fun c3 => ?_) (fun c3 => ?_)
  · exact absurd ⟨c1, by omega, c3⟩ hf
  · exact no trivial
theorem jx_draftPad {ta oa i : Nat} (h : jXd cI cT cX x P σ dr F G own fT ls w k f m tm) (hta : ta < jSt_c σ) (ea : F ta = some oa) (hf : jT_k (jSt_T σ ta) = 3 ∧ 1 ≤ i ∧ i ≤ 16) : jb_M l jy_X_draftPad jc_X_draftPad 3 (some .boolean) 1 25 0 0 D H0 (jt_all cI cJ cT cX) [.ref x, .ref (oa + 1), .int (nI i)] w sz
    (fun v w' sz' => v = some (.int (nI 1)) ∧ (jXd cI cT cX x P σ dr F G own fT ls w' 3 (upd (upd (upd (upd f 0 (nI (jT_S (jSt_T σ ta) 0))) 1 (nI (jT_S (jSt_T σ ta) 1 + 2 * i))) 2 (nI (jT_S (jSt_T σ ta) 2 + 2 * i))) 3 (nI 1)) m tm ∧ jXF P w w') ∧ sz' = sz) := by
  refine jb_meth_z (by decide) (Nat.le_of_ble_eq_true rfl) (fun u C X E => ?_)
  have k4 := (h.ts hta).1
  obtain ⟨f1', f2', f3'⟩ := hf
  refine ja_aload_n C jd_X_draftPad_0 1 rfl ?_
  refine ja_get C jg_X_187 jd_X_draftPad_1 (h.tz hta ea).z1 rfl ?_
  refine ja_iconst C (nI 3) jd_X_draftPad_4 (by decide) ?_
  refine ja_icmp_neN C 19 jd_X_draftPad_5 (by decide) (by omega) (by decide) (fun c1 => absurd f1' c1) (fun c1 => ?_)
  refine ja_iload_n C jd_X_draftPad_8 2 rfl ?_
  refine ja_iconst C (nI 1) jd_X_draftPad_9 (by decide) ?_
  refine ja_icmp_ltN C 19 jd_X_draftPad_10 (by decide) (by omega) (by decide) (fun c2 => absurd c2 (by omega)) (fun c2 => ?_)
  refine ja_iload_n C jd_X_draftPad_13 2 rfl ?_
  refine ja_bipush C (nI 16) jd_X_draftPad_14 (by decide) ?_
  refine ja_icmp_leN C 21 jd_X_draftPad_16 (by decide) (by omega) (by decide) (fun c3 => ?_) (fun c3 => absurd c3 (by omega))
  refine ja_aload_n C jd_X_draftPad_21 0 rfl ?_
  refine ja_get C jg_X_32 jd_X_draftPad_22 h.obj rfl ?_
  refine jZx_g C jg_X_93 jd_X_draftPad_25 h.d (fun _ _ => rfl) ?_
  refine ja_iconst C (nI 3) jd_X_draftPad_28 (by decide) ?_
  refine ja_aload_n C jd_X_draftPad_29 1 rfl ?_
  refine ja_iconst C (nI 0) jd_X_draftPad_30 (by decide) ?_
  refine jb_pV 8 C X jk_X_212 (h.tz hta ea).z1 rfl (js_side (h.tz hta ea).z1 (h.tz hta ea).z2 (h.ts hta) (by decide)) jd_X_draftPad_31 rfl rfl ⟨by decide, by decide⟩ (Nat.le_of_ble_eq_true rfl) ?_
  refine ja_aload_n C jd_X_draftPad_34 1 rfl ?_
  refine ja_iconst C (nI 1) jd_X_draftPad_35 (by decide) ?_
  refine jb_pV 8 C X jk_X_212 (h.tz hta ea).z1 rfl (js_side (h.tz hta ea).z1 (h.tz hta ea).z2 (h.ts hta) (by decide)) jd_X_draftPad_36 rfl rfl ⟨by decide, by decide⟩ (Nat.le_of_ble_eq_true rfl) ?_
  refine ja_iconst C (nI 2) jd_X_draftPad_39 (by decide) ?_
  refine ja_iload_n C jd_X_draftPad_40 2 rfl ?_
  refine ja_imulN C jd_X_draftPad_41 ?_
  refine ja_iaddN C jd_X_draftPad_42 ?_
  refine ja_aload_n C jd_X_draftPad_43 1 rfl ?_
  refine ja_iconst C (nI 2) jd_X_draftPad_44 (by decide) ?_
  refine jb_pV 8 C X jk_X_212 (h.tz hta ea).z1 rfl (js_side (h.tz hta ea).z1 (h.tz hta ea).z2 (h.ts hta) (by decide)) jd_X_draftPad_45 rfl rfl ⟨by decide, by decide⟩ (Nat.le_of_ble_eq_true rfl) ?_
  refine ja_iconst C (nI 2) jd_X_draftPad_48 (by decide) ?_
  refine ja_iload_n C jd_X_draftPad_49 2 rfl ?_
  refine ja_imulN C jd_X_draftPad_50 ?_
  refine ja_iaddN C jd_X_draftPad_51 ?_
  refine ja_iconst C (nI 1) jd_X_draftPad_52 (by decide) ?_
  refine jo_vV 8 C X jk_X_97 h.d.z1 rfl (js_set h.d.z1 h.d.z2) jd_X_draftPad_53 rfl rfl ⟨by decide, by decide⟩ (Nat.le_of_ble_eq_true rfl) (fun w1 hp1 => ?_)
  obtain ⟨g1a, g1b, f1⟩ := hp1
  obtain ⟨h1, r1⟩ := h.s12 (by decide) g1a g1b f1
  refine ja_iconst C (nI 1) jd_X_draftPad_56 (by decide) ?_
  exact E jd_X_draftPad_57 (Or.inr rfl) ⟨rfl, ⟨h1, r1⟩, rfl⟩
theorem jx_draftProducts {n ta oa tb ob : Nat} (h : jXd cI cT cX x P σ dr F G own fT ls w k f m tm) (hta : ta < jSt_c σ) (ea : F ta = some oa) (htb : tb < jSt_c σ) (eb : F tb = some ob) : jb_M l jy_X_draftProducts jc_X_draftProducts 4 none 2 45 0 0 D H0 (jt_all cI cJ cT cX) [.ref x, .int (nI n), .ref oa, .ref ob] w sz
    (fun v w' sz' => v = none ∧ (jXd cI cT cX x P σ dr F G own fT ls w' k f (nI (jT_r (jSt_T σ ta)) + nI (jT_r (jSt_T σ tb)) + jx_bits (nI n - 1), nI (jT_e (jSt_T σ ta)) + nI (jT_e (jSt_T σ tb)), jx_pr (lN (jT_q (jSt_T σ ta))) (lN (jT_q (jSt_T σ tb)))) (nI n) ∧ jXF P w w') ∧ sz' = sz) := by
  refine jb_meth_v (by decide) (Nat.le_of_ble_eq_true rfl) (fun u C X hnm E => ?_)
  refine ja_aload_n C jd_X_draftProducts_0 0 rfl ?_
  refine ja_get C jg_X_32 jd_X_draftProducts_1 h.obj rfl ?_
  refine ja_iload_n C jd_X_draftProducts_4 1 rfl ?_
  refine jZx_p C jp_X_215 jnf_T_4 rfl rfl jd_X_draftProducts_5 h.d (nI n) (by decide) (fun p q => ⟨jp10 (p 0) (nI n) (p 2) (p 3) (p 4) (p 5) (p 6) (p 7) (p 8) (p 9), rfl, rfl⟩) (fun w1 z1 f1 => ?_)
  obtain ⟨h1, r1⟩ := h.upd h.k4 z1 f1
  refine ja_aload_n C jd_X_draftProducts_8 0 rfl ?_
  refine ja_get C jg_X_32 jd_X_draftProducts_9 h1.obj rfl ?_
  refine jZx_g C jg_X_73 jd_X_draftProducts_12 h1.d (fun _ _ => rfl) ?_
  refine ja_aload_n C jd_X_draftProducts_15 2 rfl ?_
  refine jZx_g C jg_X_73 jd_X_draftProducts_16 (h1.tz hta ea) (fun _ _ => rfl) ?_
  refine jo_vV 8 C X jk_X_280 h1.d.z3 rfl (jm_copy h1.d.z3 (h1.tz hta ea).z3) jd_X_draftProducts_19 rfl rfl ⟨by decide, by decide⟩ (Nat.le_of_ble_eq_true rfl) (fun w2 hp2 => ?_)
  obtain ⟨g2, f2⟩ := hp2
  obtain ⟨h2, r2⟩ := h1.m3 g2 f2
  refine ja_aload_n C jd_X_draftProducts_22 0 rfl ?_
  refine ja_get C jg_X_32 jd_X_draftProducts_23 h2.obj rfl ?_
  refine jZx_g C jg_X_73 jd_X_draftProducts_26 h2.d (fun _ _ => rfl) ?_
  refine ja_aload_n C jd_X_draftProducts_29 3 rfl ?_
  refine jZx_g C jg_X_73 jd_X_draftProducts_30 (h2.tz htb eb) (fun _ _ => rfl) ?_
  refine jo_vV 8 C X jk_X_256 h2.d.z3 rfl (jm_multiply h2.d.z3 (h2.tz htb eb).z3) jd_X_draftProducts_33 rfl rfl ⟨by decide, by decide⟩ (Nat.le_of_ble_eq_true rfl) (fun w3 hp3 => ?_)
  obtain ⟨g3, f3⟩ := hp3
  obtain ⟨h3, r3⟩ := h2.m3 g3 f3
  refine ja_aload_n C jd_X_draftProducts_36 0 rfl ?_
  refine ja_get C jg_X_32 jd_X_draftProducts_37 h3.obj rfl ?_
  refine jZx_g C jg_X_73 jd_X_draftProducts_40 h3.d (fun _ _ => rfl) ?_
  refine ja_iload_n C jd_X_draftProducts_43 1 rfl ?_
  refine jb_pS 8 C X jk_X_283 (jx_doublingsTo) jd_X_draftProducts_44 rfl rfl ⟨by decide, by decide⟩ (Nat.le_of_ble_eq_true rfl) ?_
  refine jo_vV 8 C X jk_X_265 h3.d.z3 rfl (jm_widen h3.d.z3) jd_X_draftProducts_47 rfl rfl ⟨by decide, by decide⟩ (Nat.le_of_ble_eq_true rfl) (fun w4 hp4 => ?_)
  obtain ⟨g4, f4⟩ := hp4
  obtain ⟨h4, r4⟩ := h3.m3 g4 f4
  refine ja_aload_n C jd_X_draftProducts_50 0 rfl ?_
  refine ja_get C jg_X_32 jd_X_draftProducts_51 h4.obj rfl ?_
  refine ja_iconst C (nI 2) jd_X_draftProducts_54 (by decide) ?_
  refine jZx_p C jp_X_259 jnf_T_9 rfl rfl jd_X_draftProducts_55 h4.d (nI n) (by decide) (fun p q => ⟨jp10 (p 0) (p 1) (p 2) (p 3) (p 4) (p 5) (nI 2) (p 7) (p 8) (p 9), q, rfl⟩) (fun w5 z5 f5 => ?_)
  obtain ⟨h5, r5⟩ := h4.upd h4.k4 z5 f5
  exact E jd_X_draftProducts_58 ⟨rfl, ⟨h5, (r1.tr (r2.tr (r3.tr (r4.tr r5))))⟩, rfl⟩
end X74
