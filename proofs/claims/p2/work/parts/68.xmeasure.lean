/-! MEASURES -/

theorem jp_M_9 : ja_FP jcl "MeasuredTensors$Measure" 9 0 0 .int := ⟨_, jt_M, rfl, by decide, jw_M, jw_in (by decide +kernel) (by decide +kernel), jf_M_ty, jf_M_nm, rfl⟩
theorem jnf_M_0 : ∀ r, jcl[0]? = some r → (r.2.1 0).2.2.2 = false := fun r h => by cases h; rfl
theorem jp_M_15 : ja_FP jcl "MeasuredTensors$Measure" 15 0 1 .int := ⟨_, jt_M, rfl, by decide, jw_M, jw_in (by decide +kernel) (by decide +kernel), jf_M_ty, jf_M_nm, rfl⟩
theorem jnf_M_1 : ∀ r, jcl[0]? = some r → (r.2.1 1).2.2.2 = false := fun r h => by cases h; rfl
theorem jp_M_18 : ja_FP jcl "MeasuredTensors$Measure" 18 0 2 .long := ⟨_, jt_M, rfl, by decide, jw_M, jw_in (by decide +kernel) (by decide +kernel), jf_M_ty, jf_M_nm, rfl⟩
theorem jnf_M_2 : ∀ r, jcl[0]? = some r → (r.2.1 2).2.2.2 = false := fun r h => by cases h; rfl
theorem jg_M_9 : ja_FL jcl "MeasuredTensors$Measure" 9 0 0 := ⟨_, rfl, by decide, jw_M, jw_in (by decide +kernel) (by decide +kernel)⟩
theorem jg_M_15 : ja_FL jcl "MeasuredTensors$Measure" 15 0 1 := ⟨_, rfl, by decide, jw_M, jw_in (by decide +kernel) (by decide +kernel)⟩
theorem jg_M_18 : ja_FL jcl "MeasuredTensors$Measure" 18 0 2 := ⟨_, rfl, by decide, jw_M, jw_in (by decide +kernel) (by decide +kernel)⟩
theorem jk_M_22 : jb_KV "MeasuredTensors$Measure" 22 jy_M_set jc_M_set 5 none 3 := ⟨jw_in (by decide +kernel) (by decide +kernel), jw_in (by decide +kernel) (by decide +kernel), jw_in (by decide +kernel) (by decide +kernel), jw_in (by decide +kernel) (by decide +kernel), jw_in (by decide +kernel) (by decide +kernel), by decide +kernel⟩
theorem jk_M_26 : jb_KSN "MeasuredTensors$Measure" 26 jy_X_productBelowBound "MeasuredTensors" jc_X_productBelowBound 4 (some .long) 2 := ⟨by decide, jw_in (by decide +kernel) (by decide +kernel), jw_in (by decide +kernel) (by decide +kernel), jw_in (by decide +kernel) (by decide +kernel), by decide +kernel⟩
theorem jk_M_30 : jb_KSN "MeasuredTensors$Measure" 30 jy_X_twosIn "MeasuredTensors" jc_X_twosIn 2 (some .int) 1 := ⟨by decide, jw_in (by decide +kernel) (by decide +kernel), jw_in (by decide +kernel) (by decide +kernel), jw_in (by decide +kernel) (by decide +kernel), by decide +kernel⟩
theorem jk_M_34 : jb_KSN "MeasuredTensors$Measure" 34 jy_X_bitsOf "MeasuredTensors" jc_X_bitsOf 2 (some .int) 1 := ⟨by decide, jw_in (by decide +kernel) (by decide +kernel), jw_in (by decide +kernel) (by decide +kernel), jw_in (by decide +kernel) (by decide +kernel), by decide +kernel⟩
theorem jk_M_43 : jb_KSN "MeasuredTensors$Measure" 43 jy_X_leastCommonMultiple "MeasuredTensors" jc_X_leastCommonMultiple 6 (some .long) 2 := ⟨by decide, jw_in (by decide +kernel) (by decide +kernel), jw_in (by decide +kernel) (by decide +kernel), jw_in (by decide +kernel) (by decide +kernel), by decide +kernel⟩
theorem jq_M_max : Cond.methodLink "MeasuredTensors$Measure" 37 Lib.Math.max.name ∈ jw_all := jw_in (by decide +kernel) (by decide +kernel)
theorem jq_M_46 : Cond.constantLong "MeasuredTensors$Measure" 46 (lN 4611686018427387904) ∈ jw_all := jw_in (by decide +kernel) (by decide +kernel)
section X68
variable {l : Launch} {D : va_G} {H0 : Heap} {cI cJ cT cX : ClassId} {w : jb_W} {sz : Nat}
theorem jm_set {m : Nat} {r0 e0 r e : Int32} {q0 q : Int64} (hm : w m = some (.inr (0, [.int r0, .int e0, .long q0]))) : jb_M l jy_M_set jc_M_set 5 none 0 0 0 0 D H0 (jt_all cI cJ cT cX) [.ref m, .int r, .int e, .long q] w sz
    (fun v w' sz' => v = none ∧ (w' m = some (.inr (0, [.int r, .int e, .long q])) ∧ jF m w w') ∧ sz' = sz) := by
  refine jb_meth_v (by decide) (Nat.le_of_ble_eq_true rfl) (fun u C X hnm E => ?_)
  refine ja_aload_n C jd_M_set_0 0 rfl ?_
  refine ja_iload_n C jd_M_set_1 1 rfl ?_
  refine jo_put C jp_M_9 jnf_M_0 jd_M_set_2 hm rfl rfl (Nat.le_of_ble_eq_true rfl) [.int r, .int e0, .long q0] rfl (fun w1 g1 f1 => ?_)
  refine ja_aload_n C jd_M_set_5 0 rfl ?_
  refine ja_iload_n C jd_M_set_6 2 rfl ?_
  refine jo_put C jp_M_15 jnf_M_1 jd_M_set_7 g1 rfl rfl (Nat.le_of_ble_eq_true rfl) [.int r, .int e, .long q0] rfl (fun w2 g2 f2 => ?_)
  refine ja_aload_n C jd_M_set_10 0 rfl ?_
  refine ja_lload_n C jd_M_set_11 3 rfl ?_
  refine jo_put C jp_M_18 jnf_M_2 jd_M_set_12 g2 rfl rfl (Nat.le_of_ble_eq_true rfl) [.int r, .int e, .long q] rfl (fun w3 g3 f3 => ?_)
  exact E jd_M_set_15 ⟨rfl, ⟨g3, (fun c n0 => ((f3 c n0).trans ((f2 c n0).trans (f1 c n0))))⟩, rfl⟩
theorem jm_copy {m o : Nat} {r e r2 e2 : Int32} {q q2 : Int64} (hm : w m = some (.inr (0, [.int r, .int e, .long q]))) (ho : w o = some (.inr (0, [.int r2, .int e2, .long q2]))) : jb_M l jy_M_copy jc_M_copy 2 none 1 24 0 0 D H0 (jt_all cI cJ cT cX) [.ref m, .ref o] w sz
    (fun v w' sz' => v = none ∧ (w' m = some (.inr (0, [.int r2, .int e2, .long q2])) ∧ jF m w w') ∧ sz' = sz) := by
  refine jb_meth_v (by decide) (Nat.le_of_ble_eq_true rfl) (fun u C X hnm E => ?_)
  refine ja_aload_n C jd_M_copy_0 0 rfl ?_
  refine ja_aload_n C jd_M_copy_1 1 rfl ?_
  refine ja_get C jg_M_9 jd_M_copy_2 ho rfl ?_
  refine ja_aload_n C jd_M_copy_5 1 rfl ?_
  refine ja_get C jg_M_15 jd_M_copy_6 ho rfl ?_
  refine ja_aload_n C jd_M_copy_9 1 rfl ?_
  refine ja_get C jg_M_18 jd_M_copy_10 ho rfl ?_
  refine jo_vV 8 C X jk_M_22 hm rfl (jm_set hm) jd_M_copy_13 rfl rfl ⟨by decide, by decide⟩ (Nat.le_of_ble_eq_true rfl) (fun w1 hp1 => ?_)
  obtain ⟨g1a, f1⟩ := hp1
  exact E jd_M_copy_16 ⟨rfl, ⟨g1a, (fun c n0 => (f1 c n0))⟩, rfl⟩
theorem jm_widen {m : Nat} {r e : Int32} {q : Int64} {x : Int32} (hm : w m = some (.inr (0, [.int r, .int e, .long q]))) : jb_M l jy_M_widen jc_M_widen 2 none 0 0 0 0 D H0 (jt_all cI cJ cT cX) [.ref m, .int x] w sz
    (fun v w' sz' => v = none ∧ (w' m = some (.inr (0, [.int (r + x), .int e, .long q])) ∧ jF m w w') ∧ sz' = sz) := by
  refine jb_meth_v (by decide) (Nat.le_of_ble_eq_true rfl) (fun u C X hnm E => ?_)
  refine ja_aload_n C jd_M_widen_0 0 rfl ?_
  refine ja_dup C jd_M_widen_1 rfl ?_
  refine ja_get C jg_M_9 jd_M_widen_2 hm rfl ?_
  refine ja_iload_n C jd_M_widen_5 1 rfl ?_
  refine ja_iadd C jd_M_widen_6 ?_
  refine jo_put C jp_M_9 jnf_M_0 jd_M_widen_7 hm rfl rfl (Nat.le_of_ble_eq_true rfl) [.int (r + x), .int e, .long q] rfl (fun w1 g1 f1 => ?_)
  exact E jd_M_widen_10 ⟨rfl, ⟨g1, (fun c n0 => (f1 c n0))⟩, rfl⟩
theorem jm_multiply {m o : Nat} {r e r2 e2 : Int32} {q q2 : Int64} (hm : w m = some (.inr (0, [.int r, .int e, .long q]))) (ho : w o = some (.inr (0, [.int r2, .int e2, .long q2]))) : jb_M l jy_M_multiply jc_M_multiply 2 none 1 24 0 0 D H0 (jt_all cI cJ cT cX) [.ref m, .ref o] w sz
    (fun v w' sz' => v = none ∧ (w' m = some (.inr (0, [.int (r + r2), .int (e + e2), .long (jx_pr q q2)])) ∧ jF m w w') ∧ sz' = sz) := by
  refine jb_meth_v (by decide) (Nat.le_of_ble_eq_true rfl) (fun u C X hnm E => ?_)
  refine ja_aload_n C jd_M_multiply_0 0 rfl ?_
  refine ja_aload_n C jd_M_multiply_1 0 rfl ?_
  refine ja_get C jg_M_9 jd_M_multiply_2 hm rfl ?_
  refine ja_aload_n C jd_M_multiply_5 1 rfl ?_
  refine ja_get C jg_M_9 jd_M_multiply_6 ho rfl ?_
  refine ja_iadd C jd_M_multiply_9 ?_
  refine ja_aload_n C jd_M_multiply_10 0 rfl ?_
  refine ja_get C jg_M_15 jd_M_multiply_11 hm rfl ?_
  refine ja_aload_n C jd_M_multiply_14 1 rfl ?_
  refine ja_get C jg_M_15 jd_M_multiply_15 ho rfl ?_
  refine ja_iadd C jd_M_multiply_18 ?_
  refine ja_aload_n C jd_M_multiply_19 0 rfl ?_
  refine ja_get C jg_M_18 jd_M_multiply_20 hm rfl ?_
  refine ja_aload_n C jd_M_multiply_23 1 rfl ?_
  refine ja_get C jg_M_18 jd_M_multiply_24 ho rfl ?_
  refine jb_pSN C X jk_M_26 (jx_prOf) jd_M_multiply_27 rfl rfl ⟨by decide, by decide⟩ (Nat.le_of_ble_eq_true rfl) ?_
  refine jo_vV 8 C X jk_M_22 hm rfl (jm_set hm) jd_M_multiply_30 rfl rfl ⟨by decide, by decide⟩ (Nat.le_of_ble_eq_true rfl) (fun w1 hp1 => ?_)
  obtain ⟨g1a, f1⟩ := hp1
  exact E jd_M_multiply_33 ⟨rfl, ⟨g1a, (fun c n0 => (f1 c n0))⟩, rfl⟩
theorem jm_divide {m : Nat} {r e : Int32} {q : Int64} {x y : Int32} (hm : w m = some (.inr (0, [.int r, .int e, .long q]))) : jb_M l jy_M_divide jc_M_divide 4 none 1 24 0 0 D H0 (jt_all cI cJ cT cX) [.ref m, .int x, .int y] w sz
    (fun v w' sz' => v = none ∧ (w' m = some (.inr (0, [.int (r + jx_bits y), .int (e + jx_twos x), .long (jx_pr q (x >>> (jx_twos x &&& 31)).toInt64)])) ∧ jF m w w') ∧ sz' = sz) := by
  refine jb_meth_v (by decide) (Nat.le_of_ble_eq_true rfl) (fun u C X hnm E => ?_)
  refine ja_iload_n C jd_M_divide_0 1 rfl ?_
  refine jb_pSN C X jk_M_30 (jx_twosIn) jd_M_divide_1 rfl rfl ⟨by decide, by decide⟩ (Nat.le_of_ble_eq_true rfl) ?_
  refine ja_istore_n C [(3, .int (jx_twos x)), (0, .ref m), (1, .int x), (2, .int y)] jd_M_divide_4 rfl (Nat.le_of_ble_eq_true rfl) rfl ?_
  refine ja_aload_n C jd_M_divide_5 1 rfl ?_
  refine ja_aload_n C jd_M_divide_6 1 rfl ?_
  refine ja_get C jg_M_9 jd_M_divide_7 hm rfl ?_
  refine ja_iload_n C jd_M_divide_10 3 rfl ?_
  refine jb_pSN C X jk_M_34 (jx_bitsOf) jd_M_divide_11 rfl rfl ⟨by decide, by decide⟩ (Nat.le_of_ble_eq_true rfl) ?_
  refine ja_iadd C jd_M_divide_14 ?_
  refine ja_aload_n C jd_M_divide_15 1 rfl ?_
  refine ja_get C jg_M_15 jd_M_divide_16 hm rfl ?_
  refine ja_iload_n C jd_M_divide_19 0 rfl ?_
  refine ja_iadd C jd_M_divide_20 ?_
  refine ja_aload_n C jd_M_divide_21 1 rfl ?_
  refine ja_get C jg_M_18 jd_M_divide_22 hm rfl ?_
  refine ja_iload_n C jd_M_divide_25 2 rfl ?_
  refine ja_iload_n C jd_M_divide_26 0 rfl ?_
  refine ja_ishr C jd_M_divide_27 ?_
  refine ja_i2l C jd_M_divide_28 ?_
  refine jb_pSN C X jk_M_26 (jx_prOf) jd_M_divide_29 rfl rfl ⟨by decide, by decide⟩ (Nat.le_of_ble_eq_true rfl) ?_
  refine jo_vV 8 C X jk_M_22 hm rfl (jm_set hm) jd_M_divide_32 rfl rfl ⟨by decide, by decide⟩ (Nat.le_of_ble_eq_true rfl) (fun w1 hp1 => ?_)
  obtain ⟨g1a, f1⟩ := hp1
  exact E jd_M_divide_35 ⟨rfl, ⟨g1a, (fun c n0 => (f1 c n0))⟩, rfl⟩
theorem jm_unite {m o : Nat} {r e r2 e2 : Int32} {q q2 : Int64} (hm : w m = some (.inr (0, [.int r, .int e, .long q]))) (ho : w o = some (.inr (0, [.int r2, .int e2, .long q2]))) : jb_M l jy_M_unite jc_M_unite 2 none 2 55 0 0 D H0 (jt_all cI cJ cT cX) [.ref m, .ref o] w sz
    (fun v w' sz' => v = none ∧ (w' m = some (.inr (0, [.int (if r < r2 then r2 else r), .int (if e < e2 then e2 else e), .long (jx_lcm q q2)])) ∧ jF m w w') ∧ sz' = sz) := by
  refine jb_meth_v (by decide) (Nat.le_of_ble_eq_true rfl) (fun u C X hnm E => ?_)
  refine ja_aload_n C jd_M_unite_0 0 rfl ?_
  refine ja_aload_n C jd_M_unite_1 0 rfl ?_
  refine ja_get C jg_M_9 jd_M_unite_2 hm rfl ?_
  refine ja_aload_n C jd_M_unite_5 1 rfl ?_
  refine ja_get C jg_M_9 jd_M_unite_6 ho rfl ?_
  refine ja_mmax C jq_M_max ⟨Nat.le_of_ble_eq_true rfl, Nat.le_of_ble_eq_true rfl⟩ jd_M_unite_9 ?_
  refine ja_aload_n C jd_M_unite_12 0 rfl ?_
  refine ja_get C jg_M_15 jd_M_unite_13 hm rfl ?_
  refine ja_aload_n C jd_M_unite_16 1 rfl ?_
  refine ja_get C jg_M_15 jd_M_unite_17 ho rfl ?_
  refine ja_mmax C jq_M_max ⟨Nat.le_of_ble_eq_true rfl, Nat.le_of_ble_eq_true rfl⟩ jd_M_unite_20 ?_
  refine ja_aload_n C jd_M_unite_23 0 rfl ?_
  refine ja_get C jg_M_18 jd_M_unite_24 hm rfl ?_
  refine ja_aload_n C jd_M_unite_27 1 rfl ?_
  refine ja_get C jg_M_18 jd_M_unite_28 ho rfl ?_
  refine jb_pSN C X jk_M_43 (jx_lcmOf) jd_M_unite_31 rfl rfl ⟨by decide, by decide⟩ (Nat.le_of_ble_eq_true rfl) ?_
  refine jo_vV 8 C X jk_M_22 hm rfl (jm_set hm) jd_M_unite_34 rfl rfl ⟨by decide, by decide⟩ (Nat.le_of_ble_eq_true rfl) (fun w1 hp1 => ?_)
  obtain ⟨g1a, f1⟩ := hp1
  exact E jd_M_unite_37 ⟨rfl, ⟨g1a, (fun c n0 => (f1 c n0))⟩, rfl⟩
theorem jm_isBeyond {m : Nat} {r e : Int32} {q : Int64} (hm : w m = some (.inr (0, [.int r, .int e, .long q]))) : jb_M l jy_M_isBeyond jc_M_isBeyond 1 (some .boolean) 0 0 0 0 D H0 (jt_all cI cJ cT cX) [.ref m] w sz
    (fun v w' sz' => v = some (.int (if nI 4000 < r ∨ nI 4000 < e ∨ lN 4611686018427387904 ≤ q then 1 else 0)) ∧ w' = w ∧ sz' = sz) := by
  refine jb_meth_z (by decide) (Nat.le_of_ble_eq_true rfl) (fun u C X E => ?_)
  have yes : ∀ (hf : nI 4000 < r ∨ nI 4000 < e ∨ lN 4611686018427387904 ≤ q), ja (jb_mk l (jb_rm 0 0 0 0) 1 "MeasuredTensors$Measure" D H0 (jt_all cI cJ cT cX) u) w sz 0 0 31 [(0, .ref m)] [] := by
    intro hf
    refine ja_iconst C (nI 1) jd_M_isBeyond_31 (by decide) ?_
    refine ja_goto C 36 jd_M_isBeyond_32 (by decide) ?_
    exact E jd_M_isBeyond_36 (Or.inr rfl) ⟨by rw [if_pos hf]; rfl, rfl, rfl⟩
  refine ja_aload_n C jd_M_isBeyond_0 0 rfl ?_
  refine ja_get C jg_M_9 jd_M_isBeyond_1 hm rfl ?_
  refine ja_sipush C (nI 4000) jd_M_isBeyond_4 (by decide) ?_
  refine ja_icmp_gt C 31 jd_M_isBeyond_7 (by decide) (fun c1 => yes (Or.inl c1)) (fun c1 => ?_)
  refine ja_aload_n C jd_M_isBeyond_10 0 rfl ?_
  refine ja_get C jg_M_15 jd_M_isBeyond_11 hm rfl ?_
  refine ja_sipush C (nI 4000) jd_M_isBeyond_14 (by decide) ?_
  refine ja_icmp_gt C 31 jd_M_isBeyond_17 (by decide) (fun c2 => yes (Or.inr (Or.inl c2))) (fun c2 => ?_)
  refine ja_aload_n C jd_M_isBeyond_20 0 rfl ?_
  refine ja_get C jg_M_18 jd_M_isBeyond_21 hm rfl ?_
  refine ja_ldc2 C (lN 4611686018427387904) jq_M_46 jd_M_isBeyond_24 ?_
  refine ja_lcmp C jd_M_isBeyond_27 ?_
  refine ja_if_lt C 35 jd_M_isBeyond_28 (by decide) (fun c3 => ?_) (fun c3 => ?_)
  · refine ja_iconst C (nI 0) jd_M_isBeyond_35 (by decide) ?_
    exact E jd_M_isBeyond_36 (Or.inl rfl) ⟨by rw [if_neg (fun z => z.elim c1 (fun z => z.elim c2 (k3_nle ((lg_cmp_lt _ _).mp c3))))]; rfl, rfl, rfl⟩
  · exact yes (Or.inr (Or.inr (by rcases Classical.em (lN 4611686018427387904 ≤ q) with z | z; exact z; exact absurd ((lg_cmp_lt _ _).mpr (k3_lt z)) c3)))
theorem jm_limbs {m : Nat} {r e : Int32} {q : Int64} (hm : w m = some (.inr (0, [.int r, .int e, .long q]))) : jb_M l jy_M_limbs jc_M_limbs 1 (some .int) 0 0 0 0 D H0 (jt_all cI cJ cT cX) [.ref m] w sz
    (fun v w' sz' => v = some (.int ((r + e + nI 64 + nI 31) / nI 32)) ∧ w' = w ∧ sz' = sz) := by
  refine jb_meth_i (by decide) (Nat.le_of_ble_eq_true rfl) (fun u C X E => ?_)
  refine ja_aload_n C jd_M_limbs_0 0 rfl ?_
  refine ja_get C jg_M_9 jd_M_limbs_1 hm rfl ?_
  refine ja_aload_n C jd_M_limbs_4 0 rfl ?_
  refine ja_get C jg_M_15 jd_M_limbs_5 hm rfl ?_
  refine ja_iadd C jd_M_limbs_8 ?_
  refine ja_bipush C (nI 64) jd_M_limbs_9 (by decide) ?_
  refine ja_iadd C jd_M_limbs_11 ?_
  refine ja_bipush C (nI 31) jd_M_limbs_12 (by decide) ?_
  refine ja_iadd C jd_M_limbs_14 ?_
  refine ja_bipush C (nI 32) jd_M_limbs_15 (by decide) ?_
  refine ja_idiv C jd_M_limbs_17 (by decide) ?_
  exact E jd_M_limbs_18 ⟨rfl, rfl, rfl⟩
end X68
