/-! THE CLASS: limbs, the loss -/

theorem jg_X_102 : ja_FL jcl "MeasuredTensors" 102 2 3 := ⟨_, rfl, by decide, jw_T, jw_in (by decide +kernel) (by decide +kernel)⟩
theorem jk_X_349 : jb_KS "MeasuredTensors" 349 jy_X_leastCommonMultiple jc_X_leastCommonMultiple 6 (some .long) 2 := ⟨jw_in (by decide +kernel) (by decide +kernel), jw_in (by decide +kernel) (by decide +kernel), jw_in (by decide +kernel) (by decide +kernel), jw_in (by decide +kernel) (by decide +kernel), by decide +kernel⟩
theorem jk_X_355 : jb_KV "MeasuredTensors" 355 jy_M_limbs jc_M_limbs 1 (some .int) 0 := ⟨jw_in (by decide +kernel) (by decide +kernel), jw_in (by decide +kernel) (by decide +kernel), jw_in (by decide +kernel) (by decide +kernel), jw_in (by decide +kernel) (by decide +kernel), jw_in (by decide +kernel) (by decide +kernel), by decide +kernel⟩
section X98
variable {l : Launch} {D : va_G} {H0 : Heap} {cI cJ cT cX : ClassId} {w : jb_W} {sz : Nat}
variable {x : Nat} {P : Nat → Prop} {σ : jSt} {dr : Nat} {F G : Nat → Option Nat} {own : Nat → Nat} {fT : Nat → Nat → Int32} {ls : Int32} {k : Nat} {f : Nat → Int32} {m : Int32 × Int32 × Int64} {tm : Int32}
theorem jx_fit  (h : jXd cI cT cX x P σ dr F G own fT ls w k f m tm) : jb_M l jy_X_paramSlopesFit jc_X_paramSlopesFit 5 (some .boolean) 2 60 0 0 D H0 (jt_all cI cJ cT cX) [.ref x] w sz
    (fun v w' sz' => (∃ z : Int32, v = some (.int z) ∧ (z = 0 ∨ z = 1)) ∧ w' = w ∧ sz' = sz) := by
  refine jb_meth_z (by decide) (Nat.le_of_ble_eq_true rfl) (fun u C X E => ?_)
  have hcn := h.cn
  refine ja_lconst C (lN 1) jd_X_paramSlopesFit_0 (by decide) ?_
  refine ja_lstore_n C [(1, .long (lN 1)), (0, .ref x)] jd_X_paramSlopesFit_1 rfl (Nat.le_of_ble_eq_true rfl) rfl ?_
  refine ja_iconst C (nI 0) jd_X_paramSlopesFit_2 (by decide) ?_
  refine ja_istore_n C [(3, .int (nI 0)), (1, .long (lN 1)), (0, .ref x)] jd_X_paramSlopesFit_3 rfl (Nat.le_of_ble_eq_true rfl) rfl ?_
  have lp : ∀ (n9 i : Nat) (hi : i + n9 = jSt_c σ) (q9 : Int64), ja (jb_mk l (jb_rm 2 60 0 0) 5 "MeasuredTensors" D H0 (jt_all cI cJ cT cX) u) w sz 0 0 4 [(3, .int (nI i)), (1, .long q9), (0, .ref x)] [] := by
    intro n9
    induction n9 with
    | zero =>
      intro i hi q9
      refine ja_iload_n C jd_X_paramSlopesFit_4 0 rfl ?_
      refine ja_aload_n C jd_X_paramSlopesFit_5 2 rfl ?_
      refine ja_get C jg_X_36 jd_X_paramSlopesFit_6 h.obj rfl ?_
      refine ja_icmp_geN C 59 jd_X_paramSlopesFit_9 (by decide) (by omega) (by omega) (fun c1 => ?_) (fun c1 => absurd c1 (by omega))
      refine ja_lload_n C jd_X_paramSlopesFit_59 1 rfl ?_
      refine ja_ldc2 C (lN 4611686018427387904) jq_X_353 jd_X_paramSlopesFit_60 ?_
      refine ja_lcmp C jd_X_paramSlopesFit_63 ?_
      refine ja_if_ge C 71 jd_X_paramSlopesFit_64 (by decide) (fun c9 => ?_) (fun c9 => ?_)
      · refine ja_iconst C (nI 0) jd_X_paramSlopesFit_71 (by decide) ?_
        exact E jd_X_paramSlopesFit_72 (Or.inl rfl) ⟨⟨_, rfl, Or.inl rfl⟩, rfl, rfl⟩
      · refine ja_iconst C (nI 1) jd_X_paramSlopesFit_67 (by decide) ?_
        refine ja_goto C 72 jd_X_paramSlopesFit_68 (by decide) ?_
        exact E jd_X_paramSlopesFit_72 (Or.inr rfl) ⟨⟨_, rfl, Or.inr rfl⟩, rfl, rfl⟩
    | succ n9 ih =>
      intro i hi q9
      have hti : i < jSt_c σ := by omega
      obtain ⟨tk, oa, ea, -⟩ := h.2.2.2.2.2.2.2.1 i hti
      obtain ⟨rs, es, qs, hs4⟩ := (h.tz hti ea).z4
      refine ja_iload_n C jd_X_paramSlopesFit_4 0 rfl ?_
      refine ja_aload_n C jd_X_paramSlopesFit_5 2 rfl ?_
      refine ja_get C jg_X_36 jd_X_paramSlopesFit_6 h.obj rfl ?_
      refine ja_icmp_geN C 59 jd_X_paramSlopesFit_9 (by decide) (by omega) (by omega) (fun c1 => absurd c1 (by omega)) (fun c1 => ?_)
      refine ja_aload_n C jd_X_paramSlopesFit_12 2 rfl ?_
      refine ja_iload_n C jd_X_paramSlopesFit_13 0 rfl ?_
      refine jb_pV 8 C X jk_X_122 h.obj rfl (jx_tensorAt h hti ea) jd_X_paramSlopesFit_14 rfl rfl ⟨by decide, by decide⟩ (Nat.le_of_ble_eq_true rfl) ?_
      refine ja_astore C [(4, .ref oa), (3, .int (nI i)), (1, .long q9), (0, .ref x)] jd_X_paramSlopesFit_17 (Nat.le_of_ble_eq_true rfl) rfl ?_
      refine ja_aload C jd_X_paramSlopesFit_19 0 rfl ?_
      refine ja_ifnull C jd_X_paramSlopesFit_21 ?_
      have nx : ∀ (q8 : Int64), ja (jb_mk l (jb_rm 2 60 0 0) 5 "MeasuredTensors" D H0 (jt_all cI cJ cT cX) u) w sz 0 0 53 [(4, .ref oa), (3, .int (nI i)), (1, .long q8), (0, .ref x)] [] := by
        intro q8
        refine ja_iincN (c := 1) C [(3, .int (nI (i + 1))), (4, .ref oa), (1, .long q8), (0, .ref x)] jd_X_paramSlopesFit_53 1 rfl (by decide) (Nat.le_of_ble_eq_true rfl) rfl ?_
        refine ja_goto C 4 jd_X_paramSlopesFit_56 (by decide) ?_
        refine ja_lv (lv' := [(3, .int (nI (i + 1))), (1, .long q8), (0, .ref x)]) (fun q hq => by simp only [List.mem_cons, List.not_mem_nil, or_false] at hq ⊢; rcases hq with e | e | e <;> simp [e]) ?_
        exact ih (i + 1) (by omega) q8
      refine ja_aload C jd_X_paramSlopesFit_24 0 rfl ?_
      refine jZx_ga C jg_X_102 jd_X_paramSlopesFit_26 (h.tz hti ea) (fun _ => ⟨_, rfl⟩) (fun v1 => ?_)
      refine ja_if_eq C 53 jd_X_paramSlopesFit_29 (by decide) (fun c2 => ?_) (fun c2 => ?_)
      · exact nx q9
      · refine ja_aload C jd_X_paramSlopesFit_32 0 rfl ?_
        refine jZx_ga C jg_X_224 jd_X_paramSlopesFit_34 (h.tz hti ea) (fun _ => ⟨_, rfl⟩) (fun v2 => ?_)
        refine ja_if_le C 53 jd_X_paramSlopesFit_37 (by decide) (fun c3 => ?_) (fun c3 => ?_)
        · exact nx q9
        · refine ja_lload_n C jd_X_paramSlopesFit_40 2 rfl ?_
          refine ja_aload C jd_X_paramSlopesFit_41 0 rfl ?_
          refine jZx_g C jg_X_227 jd_X_paramSlopesFit_43 (h.tz hti ea) (fun _ _ => rfl) ?_
          refine ja_get C jg_X_234 jd_X_paramSlopesFit_46 hs4 rfl ?_
          refine jb_pS 8 C X jk_X_349 (jx_lcmOf) jd_X_paramSlopesFit_49 rfl rfl ⟨by decide, by decide⟩ (Nat.le_of_ble_eq_true rfl) ?_
          refine ja_lstore_n C [(1, .long (jx_lcm q9 qs)), (4, .ref oa), (3, .int (nI i)), (0, .ref x)] jd_X_paramSlopesFit_52 rfl (Nat.le_of_ble_eq_true rfl) rfl ?_
          refine ja_lv (lv' := [(4, .ref oa), (3, .int (nI i)), (1, .long (jx_lcm q9 qs)), (0, .ref x)]) (fun q hq => by simp only [List.mem_cons, List.not_mem_nil, or_false] at hq ⊢; rcases hq with e | e | e | e <;> simp [e]) ?_
          exact nx _
  exact lp (jSt_c σ) 0 (Nat.zero_add _) _
theorem jx_limbs  (h : jXd cI cT cX x P σ dr F G own fT ls w k f m tm) : jb_M l jy_X_countLimbs jc_X_countLimbs 6 (some .long) 2 60 0 0 D H0 (jt_all cI cJ cT cX) [.ref x] w sz
    (fun v w' sz' => (∃ z : Int64, v = some (.long z)) ∧ w' = w ∧ sz' = sz) := by
  refine jb_meth_l (by decide) (Nat.le_of_ble_eq_true rfl) (fun u C X E => ?_)
  have hcn := h.cn
  refine ja_lconst C (lN 0) jd_X_countLimbs_0 (by decide) ?_
  refine ja_lstore_n C [(1, .long (lN 0)), (0, .ref x)] jd_X_countLimbs_1 rfl (Nat.le_of_ble_eq_true rfl) rfl ?_
  refine ja_iconst C (nI 0) jd_X_countLimbs_2 (by decide) ?_
  refine ja_istore_n C [(3, .int (nI 0)), (1, .long (lN 0)), (0, .ref x)] jd_X_countLimbs_3 rfl (Nat.le_of_ble_eq_true rfl) rfl ?_
  have lp : ∀ (n9 i : Nat) (hi : i + n9 = jSt_c σ) (q9 : Int64), ja (jb_mk l (jb_rm 2 60 0 0) 6 "MeasuredTensors" D H0 (jt_all cI cJ cT cX) u) w sz 0 0 4 [(3, .int (nI i)), (1, .long q9), (0, .ref x)] [] := by
    intro n9
    induction n9 with
    | zero =>
      intro i hi q9
      refine ja_iload_n C jd_X_countLimbs_4 0 rfl ?_
      refine ja_aload_n C jd_X_countLimbs_5 2 rfl ?_
      refine ja_get C jg_X_36 jd_X_countLimbs_6 h.obj rfl ?_
      refine ja_icmp_geN C 77 jd_X_countLimbs_9 (by decide) (by omega) (by omega) (fun c1 => ?_) (fun c1 => absurd c1 (by omega))
      refine ja_lload_n C jd_X_countLimbs_77 1 rfl ?_
      exact E jd_X_countLimbs_78 ⟨⟨_, rfl⟩, rfl, rfl⟩
    | succ n9 ih =>
      intro i hi q9
      have hti : i < jSt_c σ := by omega
      obtain ⟨tk, oa, ea, -⟩ := h.2.2.2.2.2.2.2.1 i hti
      obtain ⟨rs, es, qs, hs4⟩ := (h.tz hti ea).z4
      refine ja_iload_n C jd_X_countLimbs_4 0 rfl ?_
      refine ja_aload_n C jd_X_countLimbs_5 2 rfl ?_
      refine ja_get C jg_X_36 jd_X_countLimbs_6 h.obj rfl ?_
      refine ja_icmp_geN C 77 jd_X_countLimbs_9 (by decide) (by omega) (by omega) (fun c1 => absurd c1 (by omega)) (fun c1 => ?_)
      refine ja_aload_n C jd_X_countLimbs_12 2 rfl ?_
      refine ja_iload_n C jd_X_countLimbs_13 0 rfl ?_
      refine jb_pV 8 C X jk_X_122 h.obj rfl (jx_tensorAt h hti ea) jd_X_countLimbs_14 rfl rfl ⟨by decide, by decide⟩ (Nat.le_of_ble_eq_true rfl) ?_
      refine ja_astore C [(4, .ref oa), (3, .int (nI i)), (1, .long q9), (0, .ref x)] jd_X_countLimbs_17 (Nat.le_of_ble_eq_true rfl) rfl ?_
      refine ja_aload C jd_X_countLimbs_19 0 rfl ?_
      refine ja_ifnull C jd_X_countLimbs_21 ?_
      have ad : ∀ (z8 : Int32), ja (jb_mk l (jb_rm 2 60 0 0) 6 "MeasuredTensors" D H0 (jt_all cI cJ cT cX) u) w sz 0 0 53 [(4, .ref oa), (3, .int (nI i)), (1, .long q9), (0, .ref x)] [.int z8] := by
        intro z8
        have q7 := jl_cl_le (jT_S (jSt_T σ i)) (jT_k (jSt_T σ i))
        refine ja_istore C [(5, .int z8), (4, .ref oa), (3, .int (nI i)), (1, .long q9), (0, .ref x)] jd_X_countLimbs_53 (Nat.le_of_ble_eq_true rfl) rfl ?_
        refine ja_lload_n C jd_X_countLimbs_55 3 rfl ?_
        refine ja_aload C jd_X_countLimbs_56 1 rfl ?_
        refine jZx_g C jg_X_93 jd_X_countLimbs_58 (h.tz hti ea) (fun _ _ => rfl) ?_
        refine jb_pV 8 C X jk_X_114 (h.tz hti ea).z1 rfl (js_cells (h.tz hti ea).z1 (h.tz hti ea).z2 (h.ts hti)) jd_X_countLimbs_61 rfl rfl ⟨by decide, by decide⟩ (Nat.le_of_ble_eq_true rfl) ?_
        refine ja_i2lN C jd_X_countLimbs_64 (by omega) ?_
        refine ja_iload C jd_X_countLimbs_65 0 rfl ?_
        refine ja_i2l C jd_X_countLimbs_67 ?_
        refine ja_lmul C jd_X_countLimbs_68 ?_
        refine ja_ladd C jd_X_countLimbs_69 ?_
        refine ja_lstore_n C [(1, .long (q9 + ((lN (jl_cl (jT_S (jSt_T σ i)) (jT_k (jSt_T σ i)))) * z8.toInt64))), (5, .int z8), (4, .ref oa), (3, .int (nI i)), (0, .ref x)] jd_X_countLimbs_70 rfl (Nat.le_of_ble_eq_true rfl) rfl ?_
        refine ja_iincN (c := 1) C [(3, .int (nI (i + 1))), (1, .long (q9 + ((lN (jl_cl (jT_S (jSt_T σ i)) (jT_k (jSt_T σ i)))) * z8.toInt64))), (5, .int z8), (4, .ref oa), (0, .ref x)] jd_X_countLimbs_71 3 rfl (by decide) (Nat.le_of_ble_eq_true rfl) rfl ?_
        refine ja_goto C 4 jd_X_countLimbs_74 (by decide) ?_
        refine ja_lv (lv' := [(3, .int (nI (i + 1))), (1, .long (q9 + lN (jl_cl (jT_S (jSt_T σ i)) (jT_k (jSt_T σ i))) * z8.toInt64)), (0, .ref x)]) (fun q hq => by simp only [List.mem_cons, List.not_mem_nil, or_false] at hq ⊢; rcases hq with e | e | e <;> simp [e]) ?_
        exact ih (i + 1) (by omega) _
      refine ja_aload C jd_X_countLimbs_24 0 rfl ?_
      refine jZx_g C jg_X_73 jd_X_countLimbs_26 (h.tz hti ea) (fun _ _ => rfl) ?_
      refine jb_pV 8 C X jk_X_355 (h.tz hti ea).z3 rfl (jm_limbs (h.tz hti ea).z3) jd_X_countLimbs_29 rfl rfl ⟨by decide, by decide⟩ (Nat.le_of_ble_eq_true rfl) ?_
      refine ja_aload C jd_X_countLimbs_32 0 rfl ?_
      refine jZx_ga C jg_X_224 jd_X_countLimbs_34 (h.tz hti ea) (fun _ => ⟨_, rfl⟩) (fun v1 => ?_)
      refine ja_if_le C 51 jd_X_countLimbs_37 (by decide) (fun c2 => ?_) (fun c2 => ?_)
      · refine ja_iconst C (nI 0) jd_X_countLimbs_51 (by decide) ?_
        refine ja_iadd C jd_X_countLimbs_52 ?_
        exact ad _
      · refine ja_aload C jd_X_countLimbs_40 0 rfl ?_
        refine jZx_g C jg_X_227 jd_X_countLimbs_42 (h.tz hti ea) (fun _ _ => rfl) ?_
        refine jb_pV 8 C X jk_X_355 hs4 rfl (jm_limbs hs4) jd_X_countLimbs_45 rfl rfl ⟨by decide, by decide⟩ (Nat.le_of_ble_eq_true rfl) ?_
        refine ja_goto C 52 jd_X_countLimbs_48 (by decide) ?_
        refine ja_iadd C jd_X_countLimbs_52 ?_
        exact ad _
  exact lp (jSt_c σ) 0 (Nat.zero_add _) _
end X98
