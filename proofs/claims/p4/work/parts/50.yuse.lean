/-! THE REFERENCE: use, pass, limbs; told, divisor, all (what they answer is any) -/
/-- the odd parts of what is used -/
def jQ (σ : jSt) (U Qv : Nat → Nat) : Prop := ∀ t, t < jSt_c σ → 0 < U t → Qv t < 2 ^ 62
/-- behind a use -/
def jUse (cI cJ : ClassId) (y : Nat) (A : Nat → Nat) (n n2 : Nat) (σ : jSt) (w : jb_W) (th rk : Int32) (N : Nat → Int32) (U' : Nat → Nat) (w' : jb_W) : Prop := ∃ Qv', jV cI cJ y A n n2 σ w' th rk N U' Qv' ∧ jQ σ U' Qv' ∧ jR y A w w' 
theorem jq_Y_lmax : Cond.methodLink "MeasuredTensorsModel" 215 Lib.MathLoose.max_long.x ∈ jw_all := jw_in (by decide +kernel) (by decide +kernel)
theorem jk_use : jb_KV "MeasuredTensorsModel" 217 jy_Y_use jc_Y_use 9 none 4 := ⟨jw_in (by decide +kernel) (by decide +kernel), jw_in (by decide +kernel) (by decide +kernel), jw_in (by decide +kernel) (by decide +kernel), jw_in (by decide +kernel) (by decide +kernel), jw_in (by decide +kernel) (by decide +kernel), by decide +kernel⟩
theorem jq_Y_232 : Cond.constantLong "MeasuredTensorsModel" 232 (-1) ∈ jw_all := jw_in (by decide +kernel) (by decide +kernel)
section Y50
variable {l : Launch} {D : va_G} {H0 : Heap} {cI cJ cT cX : ClassId} {w : jb_W} {sz : Nat}
variable {y : Nat} {A : Nat → Nat} {n n2 : Nat} {σ : jSt} {th rk : Int32} {N : Nat → Int32}
variable {U Qv : Nat → Nat}
theorem jv_use {t : Nat} {r e : Int64} {q : Nat} (h : jV cI cJ y A n n2 σ w th rk N U Qv) (ht : t < jSt_c σ) (hu : U t < 2 ^ 30) (hq : q < 2 ^ 62) (hQ : jQ σ U Qv) : jb_M l jy_Y_use jc_Y_use 9 none 2 60 0 0 D H0 (jt_all cI cJ cT cX) [.ref y, .int (nI t), .long r, .long e, .long (lN q)] w sz
    (fun v w' sz' => v = none ∧ jUse cI cJ y A n n2 σ w th rk N (va_up U t (U t + 1)) w' ∧ sz' = sz) := by
  refine jb_meth_v (by decide) (Nat.le_of_ble_eq_true rfl) (fun u C X hnm E => ?_)
  have hn := h.toN.cn
  have fin : ∀ (w2 w3 : jb_W) (q' : Nat), jV cI cJ y A n n2 σ w3 th rk N (va_up U t (U t + 1)) (va_up Qv t q') → q' < 2 ^ 62 → jR y A w w3 → jUse cI cJ y A n n2 σ w th rk N (va_up U t (U t + 1)) w3 := fun _ w3 q' g1 g2 g3 => ⟨_, g1, fun i hi hu => by
    by_cases e : i = t
    · rw [e, va_up_self]; exact g2
    · rw [va_up_ne _ _ e] at hu ⊢; exact hQ i hi hu, g3⟩
  refine ja_aload_n C jd_Y_use_0 0 rfl ?_
  refine jN_ga C jfl_uses jd_Y_use_1 h.toN (fun _ _ => rfl) ?_
  refine ja_iload_n C jd_Y_use_4 1 rfl ?_
  refine jV_u C jd_Y_use_5 h ht ?_
  refine ja_if_neN C 13 jd_Y_use_6 (by decide) (by omega) (fun c6 => ?_) (fun c6 => ?_)
  · have hq0 := hQ t ht c6
    refine ja_iconst C (nI 0) jd_Y_use_13 (by decide) ?_
    refine ja_istore C [(8, .int (nI 0)), (0, .ref y), (1, .int (nI t)), (2, .long r), (4, .long e), (6, .long (lN q))] jd_Y_use_14 (Nat.le_of_ble_eq_true rfl) rfl ?_
    refine ja_aload_n C jd_Y_use_16 1 rfl ?_
    refine jN_ga C jfl_slopeRange jd_Y_use_17 h.toN (fun _ _ => rfl) ?_
    refine ja_iload_n C jd_Y_use_20 2 rfl ?_
    refine ja_iload C jd_Y_use_21 0 rfl ?_
    refine ja_if_eqN C 30 jd_Y_use_23 (by decide) (by decide) (fun _ => ?_) (fun q => absurd q (by decide))
    refine ja_lload_n C jd_Y_use_30 3 rfl ?_
    refine ja_aload_n C jd_Y_use_31 1 rfl ?_
    refine jN_ga C jfl_slopeRange jd_Y_use_32 h.toN (fun _ _ => rfl) ?_
    refine ja_iload_n C jd_Y_use_35 2 rfl ?_
    refine jV_16 C jd_Y_use_36 h ht (fun v1 => ?_)
    refine ja_i2l C jd_Y_use_37 ?_
    refine ja_lmax C jq_Y_lmax ⟨Nat.le_of_ble_eq_true rfl, Nat.le_of_ble_eq_true rfl⟩ jd_Y_use_38 ?_
    refine ja_l2i C jd_Y_use_41 ?_
    refine jV_s16 C jd_Y_use_42 h ht (fun w2 u2 r2 => ?_)
    refine ja_aload_n C jd_Y_use_43 1 rfl ?_
    refine jN_ga C jfl_slopeDepth jd_Y_use_44 u2.toN (fun _ _ => rfl) ?_
    refine ja_iload_n C jd_Y_use_47 2 rfl ?_
    refine ja_iload C jd_Y_use_48 0 rfl ?_
    refine ja_if_eqN C 58 jd_Y_use_50 (by decide) (by decide) (fun _ => ?_) (fun q => absurd q (by decide))
    refine ja_lload C jd_Y_use_58 4 rfl ?_
    refine ja_aload_n C jd_Y_use_60 1 rfl ?_
    refine jN_ga C jfl_slopeDepth jd_Y_use_61 u2.toN (fun _ _ => rfl) ?_
    refine ja_iload_n C jd_Y_use_64 2 rfl ?_
    refine jV_17 C jd_Y_use_65 u2 ht (fun v3 => ?_)
    refine ja_i2l C jd_Y_use_66 ?_
    refine ja_lmax C jq_Y_lmax ⟨Nat.le_of_ble_eq_true rfl, Nat.le_of_ble_eq_true rfl⟩ jd_Y_use_67 ?_
    refine ja_l2i C jd_Y_use_70 ?_
    refine jV_s17 C jd_Y_use_71 u2 ht (fun w4 u4 r4 => ?_)
    refine ja_aload_n C jd_Y_use_72 1 rfl ?_
    refine jN_ga C jfl_slopeOdd jd_Y_use_73 u4.toN (fun _ _ => rfl) ?_
    refine ja_iload_n C jd_Y_use_76 2 rfl ?_
    refine ja_iload C jd_Y_use_77 0 rfl ?_
    refine ja_if_eqN C 87 jd_Y_use_79 (by decide) (by decide) (fun _ => ?_) (fun q => absurd q (by decide))
    refine ja_lload C jd_Y_use_87 5 rfl ?_
    refine ja_aload_n C jd_Y_use_89 1 rfl ?_
    refine jN_ga C jfl_slopeOdd jd_Y_use_90 u4.toN (fun _ _ => rfl) ?_
    refine ja_iload_n C jd_Y_use_93 2 rfl ?_
    refine jV_18 C jd_Y_use_94 u4 ht ?_
    refine jb_pS 8 C X jk_common (jy_common (by omega) (by omega)) jd_Y_use_95 rfl rfl ⟨by decide, by decide⟩ (Nat.le_of_ble_eq_true rfl) ?_
    refine jV_s18 C jd_Y_use_98 u4 ht (fun w5 u5 r5 => ?_)
    refine ja_aload_n C jd_Y_use_99 1 rfl ?_
    refine jN_ga C jfl_uses jd_Y_use_100 u5.toN (fun _ _ => rfl) ?_
    refine ja_iload_n C jd_Y_use_103 2 rfl ?_
    refine ja_dup2_11 C jd_Y_use_104 rfl rfl ?_
    refine jV_u C jd_Y_use_105 u5 ht ?_
    refine ja_iconst C (nI 1) jd_Y_use_106 (by decide) ?_
    refine ja_iaddN C jd_Y_use_107 ?_
    refine jV_s15 C jd_Y_use_108 u5 ht (fun w6 u6 r6 => ?_)
    exact E jd_Y_use_109 ⟨rfl, fin w6 w6 _ u6 (jl_comm_lt _ _) (r2.tr (r4.tr (r5.tr r6))), rfl⟩
  · refine ja_iconst C (nI 1) jd_Y_use_9 (by decide) ?_
    refine ja_goto C 14 jd_Y_use_10 (by decide) ?_
    refine ja_istore C [(8, .int (nI 1)), (0, .ref y), (1, .int (nI t)), (2, .long r), (4, .long e), (6, .long (lN q))] jd_Y_use_14 (Nat.le_of_ble_eq_true rfl) rfl ?_
    refine ja_aload_n C jd_Y_use_16 1 rfl ?_
    refine jN_ga C jfl_slopeRange jd_Y_use_17 h.toN (fun _ _ => rfl) ?_
    refine ja_iload_n C jd_Y_use_20 2 rfl ?_
    refine ja_iload C jd_Y_use_21 0 rfl ?_
    refine ja_if_eqN C 30 jd_Y_use_23 (by decide) (by decide) (fun q => absurd q (by decide)) (fun _ => ?_)
    refine ja_lload_n C jd_Y_use_26 3 rfl ?_
    refine ja_goto C 41 jd_Y_use_27 (by decide) ?_
    refine ja_l2i C jd_Y_use_41 ?_
    refine jV_s16 C jd_Y_use_42 h ht (fun w7 u7 r7 => ?_)
    refine ja_aload_n C jd_Y_use_43 1 rfl ?_
    refine jN_ga C jfl_slopeDepth jd_Y_use_44 u7.toN (fun _ _ => rfl) ?_
    refine ja_iload_n C jd_Y_use_47 2 rfl ?_
    refine ja_iload C jd_Y_use_48 0 rfl ?_
    refine ja_if_eqN C 58 jd_Y_use_50 (by decide) (by decide) (fun q => absurd q (by decide)) (fun _ => ?_)
    refine ja_lload C jd_Y_use_53 4 rfl ?_
    refine ja_goto C 70 jd_Y_use_55 (by decide) ?_
    refine ja_l2i C jd_Y_use_70 ?_
    refine jV_s17 C jd_Y_use_71 u7 ht (fun w8 u8 r8 => ?_)
    refine ja_aload_n C jd_Y_use_72 1 rfl ?_
    refine jN_ga C jfl_slopeOdd jd_Y_use_73 u8.toN (fun _ _ => rfl) ?_
    refine ja_iload_n C jd_Y_use_76 2 rfl ?_
    refine ja_iload C jd_Y_use_77 0 rfl ?_
    refine ja_if_eqN C 87 jd_Y_use_79 (by decide) (by decide) (fun q => absurd q (by decide)) (fun _ => ?_)
    refine ja_lload C jd_Y_use_82 5 rfl ?_
    refine ja_goto C 98 jd_Y_use_84 (by decide) ?_
    refine jV_s18 C jd_Y_use_98 u8 ht (fun w9 u9 r9 => ?_)
    refine ja_aload_n C jd_Y_use_99 1 rfl ?_
    refine jN_ga C jfl_uses jd_Y_use_100 u9.toN (fun _ _ => rfl) ?_
    refine ja_iload_n C jd_Y_use_103 2 rfl ?_
    refine ja_dup2_11 C jd_Y_use_104 rfl rfl ?_
    refine jV_u C jd_Y_use_105 u9 ht ?_
    refine ja_iconst C (nI 1) jd_Y_use_106 (by decide) ?_
    refine ja_iaddN C jd_Y_use_107 ?_
    refine jV_s15 C jd_Y_use_108 u9 ht (fun w10 u10 r10 => ?_)
    exact E jd_Y_use_109 ⟨rfl, fin w10 w10 _ u10 hq (r7.tr (r8.tr (r9.tr r10))), rfl⟩
theorem jv_pass {s t : Nat} {r e : Int32} {q m : Nat} (h : jV cI cJ y A n n2 σ w th rk N U Qv) (hs : s < jSt_c σ) (ht : t < jSt_c σ) (hu : U t < 2 ^ 30) (hq : q < 2 ^ 62) (hm : m < 2 ^ 31) (hQ : jQ σ U Qv) (hus : 0 < U s) : jb_M l jy_Y_pass jc_Y_pass 8 none 3 88 0 0 D H0 (jt_all cI cJ cT cX) [.ref y, .int (nI s), .int (nI t), .int r, .int e, .long (lN q), .int (nI m)] w sz
    (fun v w' sz' => v = none ∧ jUse cI cJ y A n n2 σ w th rk N (va_up U t (U t + 1)) w' ∧ sz' = sz) := by
  refine jb_meth_v (by decide) (Nat.le_of_ble_eq_true rfl) (fun u C X hnm E => ?_)
  have hn := h.toN.cn
  have hq0 := hQ s hs hus
  refine ja_aload_n C jd_Y_pass_0 0 rfl ?_
  refine ja_iload_n C jd_Y_pass_1 2 rfl ?_
  refine ja_aload_n C jd_Y_pass_2 0 rfl ?_
  refine jN_ga C jfl_slopeRange jd_Y_pass_3 h.toN (fun _ _ => rfl) ?_
  refine ja_iload_n C jd_Y_pass_6 1 rfl ?_
  refine jV_16 C jd_Y_pass_7 h hs (fun v1 => ?_)
  refine ja_iload_n C jd_Y_pass_8 3 rfl ?_
  refine ja_iadd C jd_Y_pass_9 ?_
  refine ja_iload C jd_Y_pass_10 6 rfl ?_
  refine ja_i2lN C jd_Y_pass_12 (by omega) ?_
  refine jb_pS 8 C X jk_log (jy_log (by omega)) jd_Y_pass_13 rfl rfl ⟨by decide, by decide⟩ (Nat.le_of_ble_eq_true rfl) ?_
  refine ja_iadd C jd_Y_pass_16 ?_
  refine ja_i2l C jd_Y_pass_17 ?_
  refine ja_aload_n C jd_Y_pass_18 0 rfl ?_
  refine jN_ga C jfl_slopeDepth jd_Y_pass_19 h.toN (fun _ _ => rfl) ?_
  refine ja_iload_n C jd_Y_pass_22 1 rfl ?_
  refine jV_17 C jd_Y_pass_23 h hs (fun v2 => ?_)
  refine ja_iload C jd_Y_pass_24 4 rfl ?_
  refine ja_iadd C jd_Y_pass_26 ?_
  refine ja_i2l C jd_Y_pass_27 ?_
  refine ja_aload_n C jd_Y_pass_28 0 rfl ?_
  refine jN_ga C jfl_slopeOdd jd_Y_pass_29 h.toN (fun _ _ => rfl) ?_
  refine ja_iload_n C jd_Y_pass_32 1 rfl ?_
  refine jV_18 C jd_Y_pass_33 h hs ?_
  refine ja_lload C jd_Y_pass_34 5 rfl ?_
  refine jb_pS 8 C X jk_product (jy_product (by omega) (by omega)) jd_Y_pass_36 rfl rfl ⟨by decide, by decide⟩ (Nat.le_of_ble_eq_true rfl) ?_
  refine jN_vV 8 C X jk_use h.toN rfl (jv_use h ht hu (jl_prod_lt _ _) hQ) jd_Y_pass_39 rfl rfl ⟨by decide, by decide⟩ (Nat.le_of_ble_eq_true rfl) (fun w9 hp => ?_)
  exact E jd_Y_pass_42 ⟨rfl, hp, rfl⟩
theorem jv_limbs {a b : Int32}  : jb_M l jy_Y_limbs jc_Y_limbs 2 (some .long) 0 0 0 0 D H0 (jt_all cI cJ cT cX) [.int a, .int b] w sz
    (fun v w' sz' => v = some (.long (a.toInt64 * ((b + nI 95) / nI 32).toInt64)) ∧ w' = w ∧ sz' = sz) := by
  refine jb_meth_l (by decide) (Nat.le_of_ble_eq_true rfl) (fun u C X E => ?_)
  refine ja_iload_n C jd_Y_limbs_0 0 rfl ?_
  refine ja_i2l C jd_Y_limbs_1 ?_
  refine ja_iload_n C jd_Y_limbs_2 1 rfl ?_
  refine ja_bipush C (nI 95) jd_Y_limbs_3 (by decide) ?_
  refine ja_iadd C jd_Y_limbs_5 ?_
  refine ja_bipush C (nI 32) jd_Y_limbs_6 (by decide) ?_
  refine ja_idiv C jd_Y_limbs_8 (by decide) ?_
  refine ja_i2l C jd_Y_limbs_9 ?_
  refine ja_lmul C jd_Y_limbs_10 ?_
  exact E jd_Y_limbs_11 ⟨rfl, rfl, rfl⟩
theorem jv_told {t0 q0 : Int32} (h : jN cI cJ y A n n2 σ w th rk N) : jb_M l jy_Y_told jc_Y_told 3 (some .int) 1 22 0 0 D H0 (jt_all cI cJ cT cX) [.ref y, .int t0, .int q0] w sz
    (fun v w' sz' => ∃ (x : Int32) (th' : Int32), v = some (.int x) ∧ jP cI cJ y A w sz σ th' w' sz') := by
  refine jb_meth_i (by decide) (Nat.le_of_ble_eq_true rfl) (fun u C X E => ?_)
  have hn := h.cn
  refine ja_aload_n C jd_Y_told_0 0 rfl ?_
  refine ja_aload_n C jd_Y_told_1 0 rfl ?_
  refine ja_iload_n C jd_Y_told_2 1 rfl ?_
  refine jN_pV 8 C X jk_noTensor h rfl (jn_noTensor h) jd_Y_told_3 rfl rfl ⟨by decide, by decide⟩ (Nat.le_of_ble_eq_true rfl) ?_
  refine ja_if_eqB C 13 jd_Y_told_6 (by decide) (fun ct => ?_) (fun ct => ?_)
  · obtain ⟨t, htt, ett⟩ : ∃ q9, q9 < jSt_c σ ∧ t0 = nI q9 := (pk_ix t0 (by omega)).elim (fun z => absurd (Or.inl z) ct) (fun z => z.elim (fun z => absurd (Or.inr z) ct) id)
    have bad : ∀ (_ : True), ja (jb_mk l (jb_rm 1 22 0 0) 3 "MeasuredTensorsModel" D H0 (jt_all cI cJ cT cX) u) w sz 0 0 23 [(0, .ref y), (1, .int t0), (2, .int q0)] [.ref y] := by
      intro _
      refine ja_iconst C (nI 2) jd_Y_told_23 (by decide) ?_
      refine ja_goto C 28 jd_Y_told_24 (by decide) ?_
      refine jN_p0 C jd_Y_told_28 h (fun w1 h1 r1 => ?_)
      refine ja_aload_n C jd_Y_told_31 0 rfl ?_
      refine jN_gt C jd_Y_told_32 h1 ?_
      refine ja_if_leN C 40 jd_Y_told_35 (by decide) (by decide) (fun q => absurd q (by decide)) (fun _ => ?_)
      refine ja_iconst C (nI 0) jd_Y_told_38 (by decide) ?_
      exact E jd_Y_told_39 ⟨0, 2, rfl, h1.jP r1⟩
    refine ja_iload_n C jd_Y_told_13 2 rfl ?_
    refine ja_if_lt C 23 jd_Y_told_14 (by decide) (fun c14 => bad trivial) (fun c14 => ?_)
    refine ja_iload_n C jd_Y_told_17 2 rfl ?_
    refine ja_bipush C (nI 11) jd_Y_told_18 (by decide) ?_
    refine ja_icmp_le C 27 jd_Y_told_20 (by decide) (fun c20 => ?_) (fun c20 => bad trivial)
    obtain ⟨k, hk, ek⟩ := nI_of2 (M := 11) (n := 11) (by decide) c14 c20
    clear bad
    subst ek ett
    refine ja_iconst C (nI 0) jd_Y_told_27 (by decide) ?_
    refine jN_p0 C jd_Y_told_28 h (fun w2 h2 r2 => ?_)
    refine ja_aload_n C jd_Y_told_31 0 rfl ?_
    refine jN_gt C jd_Y_told_32 h2 ?_
    refine ja_if_leN C 40 jd_Y_told_35 (by decide) (by decide) (fun _ => ?_) (fun q => absurd q (by decide))
    refine ja_iload_n C jd_Y_told_40 2 rfl ?_
    obtain ⟨U, Qv, hv⟩ := h2.v
    match k, hk with
    | 0, _ =>
      refine ja_tableIn C 100 jd_Y_told_41 (by decide) (by decide) rfl (by decide) ?_
      refine ja_aload_n C jd_Y_told_100 0 rfl ?_
      refine jN_ga C jfl_rank jd_Y_told_101 hv.toN (fun _ _ => rfl) ?_
      refine ja_iload_n C jd_Y_told_104 1 rfl ?_
      refine jN_ia C (by decide) (fun _ _ => rfl) jd_Y_told_105 hv.toN htt (fun _ _ q => q.rank) ?_
      exact E jd_Y_told_106 ⟨_, _, rfl, hv.toN.jP r2⟩
    | 1, _ =>
      refine ja_tableIn C 107 jd_Y_told_41 (by decide) (by decide) rfl (by decide) ?_
      refine ja_aload_n C jd_Y_told_107 0 rfl ?_
      refine ja_iload_n C jd_Y_told_108 1 rfl ?_
      refine ja_iload_n C jd_Y_told_109 2 rfl ?_
      refine ja_iconst C (nI 1) jd_Y_told_110 (by decide) ?_
      refine ja_isubN C jd_Y_told_111 (by omega) ?_
      refine jN_pV 8 C X jk_side hv.toN rfl (jn_side hv.toN htt (by decide)) jd_Y_told_112 rfl rfl ⟨by decide, by decide⟩ (Nat.le_of_ble_eq_true rfl) ?_
      exact E jd_Y_told_115 ⟨_, _, rfl, hv.toN.jP r2⟩
    | 2, _ =>
      refine ja_tableIn C 107 jd_Y_told_41 (by decide) (by decide) rfl (by decide) ?_
      refine ja_aload_n C jd_Y_told_107 0 rfl ?_
      refine ja_iload_n C jd_Y_told_108 1 rfl ?_
      refine ja_iload_n C jd_Y_told_109 2 rfl ?_
      refine ja_iconst C (nI 1) jd_Y_told_110 (by decide) ?_
      refine ja_isubN C jd_Y_told_111 (by omega) ?_
      refine jN_pV 8 C X jk_side hv.toN rfl (jn_side hv.toN htt (by decide)) jd_Y_told_112 rfl rfl ⟨by decide, by decide⟩ (Nat.le_of_ble_eq_true rfl) ?_
      exact E jd_Y_told_115 ⟨_, _, rfl, hv.toN.jP r2⟩
    | 3, _ =>
      refine ja_tableIn C 107 jd_Y_told_41 (by decide) (by decide) rfl (by decide) ?_
      refine ja_aload_n C jd_Y_told_107 0 rfl ?_
      refine ja_iload_n C jd_Y_told_108 1 rfl ?_
      refine ja_iload_n C jd_Y_told_109 2 rfl ?_
      refine ja_iconst C (nI 1) jd_Y_told_110 (by decide) ?_
      refine ja_isubN C jd_Y_told_111 (by omega) ?_
      refine jN_pV 8 C X jk_side hv.toN rfl (jn_side hv.toN htt (by decide)) jd_Y_told_112 rfl rfl ⟨by decide, by decide⟩ (Nat.le_of_ble_eq_true rfl) ?_
      exact E jd_Y_told_115 ⟨_, _, rfl, hv.toN.jP r2⟩
    | 4, _ =>
      refine ja_tableIn C 107 jd_Y_told_41 (by decide) (by decide) rfl (by decide) ?_
      refine ja_aload_n C jd_Y_told_107 0 rfl ?_
      refine ja_iload_n C jd_Y_told_108 1 rfl ?_
      refine ja_iload_n C jd_Y_told_109 2 rfl ?_
      refine ja_iconst C (nI 1) jd_Y_told_110 (by decide) ?_
      refine ja_isubN C jd_Y_told_111 (by omega) ?_
      refine jN_pV 8 C X jk_side hv.toN rfl (jn_side hv.toN htt (by decide)) jd_Y_told_112 rfl rfl ⟨by decide, by decide⟩ (Nat.le_of_ble_eq_true rfl) ?_
      exact E jd_Y_told_115 ⟨_, _, rfl, hv.toN.jP r2⟩
    | 5, _ =>
      refine ja_tableIn C 116 jd_Y_told_41 (by decide) (by decide) rfl (by decide) ?_
      refine ja_aload_n C jd_Y_told_116 0 rfl ?_
      refine jN_ga C jfl_cells jd_Y_told_117 hv.toN (fun _ _ => rfl) ?_
      refine ja_iload_n C jd_Y_told_120 1 rfl ?_
      refine jN_ia C (by decide) (fun _ _ => rfl) jd_Y_told_121 hv.toN htt (fun _ _ q => q.cells) ?_
      exact E jd_Y_told_122 ⟨_, _, rfl, hv.toN.jP r2⟩
    | 6, _ =>
      refine ja_tableIn C 123 jd_Y_told_41 (by decide) (by decide) rfl (by decide) ?_
      refine ja_aload_n C jd_Y_told_123 0 rfl ?_
      refine jN_ga C jfl_terms jd_Y_told_124 hv.toN (fun _ _ => rfl) ?_
      refine ja_iload_n C jd_Y_told_127 1 rfl ?_
      refine jN_ia C (by decide) (fun _ _ => rfl) jd_Y_told_128 hv.toN htt (fun _ _ q => q.terms) ?_
      exact E jd_Y_told_129 ⟨_, _, rfl, hv.toN.jP r2⟩
    | 7, _ =>
      refine ja_tableIn C 130 jd_Y_told_41 (by decide) (by decide) rfl (by decide) ?_
      refine ja_aload_n C jd_Y_told_130 0 rfl ?_
      refine jN_ga C jfl_range jd_Y_told_131 hv.toN (fun _ _ => rfl) ?_
      refine ja_iload_n C jd_Y_told_134 1 rfl ?_
      refine jN_ia C (by decide) (fun _ _ => rfl) jd_Y_told_135 hv.toN htt (fun _ _ q => q.range) ?_
      exact E jd_Y_told_136 ⟨_, _, rfl, hv.toN.jP r2⟩
    | 8, _ =>
      refine ja_tableIn C 137 jd_Y_told_41 (by decide) (by decide) rfl (by decide) ?_
      refine ja_aload_n C jd_Y_told_137 0 rfl ?_
      refine jN_ga C jfl_depth jd_Y_told_138 hv.toN (fun _ _ => rfl) ?_
      refine ja_iload_n C jd_Y_told_141 1 rfl ?_
      refine jN_ia C (by decide) (fun _ _ => rfl) jd_Y_told_142 hv.toN htt (fun _ _ q => q.depth) ?_
      exact E jd_Y_told_143 ⟨_, _, rfl, hv.toN.jP r2⟩
    | 9, _ =>
      refine ja_tableIn C 144 jd_Y_told_41 (by decide) (by decide) rfl (by decide) ?_
      refine ja_aload_n C jd_Y_told_144 0 rfl ?_
      refine jN_ga C jfl_uses jd_Y_told_145 hv.toN (fun _ _ => rfl) ?_
      refine ja_iload_n C jd_Y_told_148 1 rfl ?_
      refine jV_u C jd_Y_told_149 hv htt ?_
      exact E jd_Y_told_150 ⟨_, _, rfl, hv.toN.jP r2⟩
    | 10, _ =>
      refine ja_tableIn C 151 jd_Y_told_41 (by decide) (by decide) rfl (by decide) ?_
      refine ja_aload_n C jd_Y_told_151 0 rfl ?_
      refine jN_ga C jfl_uses jd_Y_told_152 hv.toN (fun _ _ => rfl) ?_
      refine ja_iload_n C jd_Y_told_155 1 rfl ?_
      refine jV_u C jd_Y_told_156 hv htt ?_
      refine ja_if_le C 169 jd_Y_told_157 (by decide) (fun c => ?_) (fun c => ?_)
      · refine ja_iconst C (-1) jd_Y_told_169 (by decide) ?_
        exact E jd_Y_told_170 ⟨_, _, rfl, hv.toN.jP r2⟩
      · refine ja_aload_n C jd_Y_told_160 0 rfl ?_
        refine jN_ga C jfl_slopeRange jd_Y_told_161 hv.toN (fun _ _ => rfl) ?_
        refine ja_iload_n C jd_Y_told_164 1 rfl ?_
        refine jV_16 C jd_Y_told_165 hv htt (fun v3 => ?_)
        refine ja_goto C 170 jd_Y_told_166 (by decide) ?_
        exact E jd_Y_told_170 ⟨_, _, rfl, hv.toN.jP r2⟩
    | 11, _ =>
      refine ja_tableOut C 171 jd_Y_told_41 (by decide) (by decide) ?_
      refine ja_aload_n C jd_Y_told_171 0 rfl ?_
      refine jN_ga C jfl_uses jd_Y_told_172 hv.toN (fun _ _ => rfl) ?_
      refine ja_iload_n C jd_Y_told_175 1 rfl ?_
      refine jV_u C jd_Y_told_176 hv htt ?_
      refine ja_if_le C 189 jd_Y_told_177 (by decide) (fun c => ?_) (fun c => ?_)
      · refine ja_iconst C (-1) jd_Y_told_189 (by decide) ?_
        exact E jd_Y_told_190 ⟨_, _, rfl, hv.toN.jP r2⟩
      · refine ja_aload_n C jd_Y_told_180 0 rfl ?_
        refine jN_ga C jfl_slopeDepth jd_Y_told_181 hv.toN (fun _ _ => rfl) ?_
        refine ja_iload_n C jd_Y_told_184 1 rfl ?_
        refine jV_17 C jd_Y_told_185 hv htt (fun v4 => ?_)
        refine ja_goto C 190 jd_Y_told_186 (by decide) ?_
        exact E jd_Y_told_190 ⟨_, _, rfl, hv.toN.jP r2⟩
    | k + 12, z => omega
  · refine ja_iconst C (nI 1) jd_Y_told_9 (by decide) ?_
    refine ja_goto C 28 jd_Y_told_10 (by decide) ?_
    refine jN_p0 C jd_Y_told_28 h (fun w5 h5 r5 => ?_)
    refine ja_aload_n C jd_Y_told_31 0 rfl ?_
    refine jN_gt C jd_Y_told_32 h5 ?_
    refine ja_if_leN C 40 jd_Y_told_35 (by decide) (by decide) (fun q => absurd q (by decide)) (fun _ => ?_)
    refine ja_iconst C (nI 0) jd_Y_told_38 (by decide) ?_
    exact E jd_Y_told_39 ⟨0, 1, rfl, h5.jP r5⟩
theorem jv_divisor {t0 z0 : Int32} (h : jN cI cJ y A n n2 σ w th rk N) : jb_M l jy_Y_divisor jc_Y_divisor 3 (some .long) 1 22 0 0 D H0 (jt_all cI cJ cT cX) [.ref y, .int t0, .int z0] w sz
    (fun v w' sz' => ∃ (x : Int64) (th' : Int32), v = some (.long x) ∧ jP cI cJ y A w sz σ th' w' sz') := by
  refine jb_meth_l (by decide) (Nat.le_of_ble_eq_true rfl) (fun u C X E => ?_)
  have hn := h.cn
  refine ja_aload_n C jd_Y_divisor_0 0 rfl ?_
  refine ja_aload_n C jd_Y_divisor_1 0 rfl ?_
  refine ja_iload_n C jd_Y_divisor_2 1 rfl ?_
  refine jN_pV 8 C X jk_noTensor h rfl (jn_noTensor h) jd_Y_divisor_3 rfl rfl ⟨by decide, by decide⟩ (Nat.le_of_ble_eq_true rfl) ?_
  refine ja_if_eqB C 13 jd_Y_divisor_6 (by decide) (fun ct => ?_) (fun ct => ?_)
  · obtain ⟨t, htt, ett⟩ : ∃ q9, q9 < jSt_c σ ∧ t0 = nI q9 := (pk_ix t0 (by omega)).elim (fun z => absurd (Or.inl z) ct) (fun z => z.elim (fun z => absurd (Or.inr z) ct) id)
    subst ett
    refine ja_iconst C (nI 0) jd_Y_divisor_13 (by decide) ?_
    refine jN_p0 C jd_Y_divisor_14 h (fun w1 h1 r1 => ?_)
    refine ja_aload_n C jd_Y_divisor_17 0 rfl ?_
    refine jN_gt C jd_Y_divisor_18 h1 ?_
    refine ja_if_leN C 26 jd_Y_divisor_21 (by decide) (by decide) (fun _ => ?_) (fun q => absurd q (by decide))
    refine ja_iload_n C jd_Y_divisor_26 2 rfl ?_
    obtain ⟨U, Qv, hv⟩ := h1.v
    refine ja_if_ne C 39 jd_Y_divisor_27 (by decide) (fun c27 => ?_) (fun c27 => ?_)
    · refine ja_aload_n C jd_Y_divisor_39 0 rfl ?_
      refine jN_ga C jfl_uses jd_Y_divisor_40 hv.toN (fun _ _ => rfl) ?_
      refine ja_iload_n C jd_Y_divisor_43 1 rfl ?_
      refine jV_u C jd_Y_divisor_44 hv htt ?_
      refine ja_if_le C 57 jd_Y_divisor_45 (by decide) (fun c => ?_) (fun c => ?_)
      · refine ja_ldc2 C (-1) jq_Y_232 jd_Y_divisor_57 ?_
        exact E jd_Y_divisor_60 ⟨_, _, rfl, hv.toN.jP r1⟩
      · refine ja_aload_n C jd_Y_divisor_48 0 rfl ?_
        refine jN_ga C jfl_slopeOdd jd_Y_divisor_49 hv.toN (fun _ _ => rfl) ?_
        refine ja_iload_n C jd_Y_divisor_52 1 rfl ?_
        refine jV_18 C jd_Y_divisor_53 hv htt ?_
        refine ja_goto C 60 jd_Y_divisor_54 (by decide) ?_
        exact E jd_Y_divisor_60 ⟨_, _, rfl, hv.toN.jP r1⟩
    · refine ja_aload_n C jd_Y_divisor_30 0 rfl ?_
      refine jN_ga C jfl_odd jd_Y_divisor_31 hv.toN (fun _ _ => rfl) ?_
      refine ja_iload_n C jd_Y_divisor_34 1 rfl ?_
      refine jN_la C jd_Y_divisor_35 hv.toN htt ?_
      refine ja_goto C 60 jd_Y_divisor_36 (by decide) ?_
      exact E jd_Y_divisor_60 ⟨_, _, rfl, hv.toN.jP r1⟩
  · refine ja_iconst C (nI 1) jd_Y_divisor_9 (by decide) ?_
    refine ja_goto C 14 jd_Y_divisor_10 (by decide) ?_
    refine jN_p0 C jd_Y_divisor_14 h (fun w2 h2 r2 => ?_)
    refine ja_aload_n C jd_Y_divisor_17 0 rfl ?_
    refine jN_gt C jd_Y_divisor_18 h2 ?_
    refine ja_if_leN C 26 jd_Y_divisor_21 (by decide) (by decide) (fun q => absurd q (by decide)) (fun _ => ?_)
    refine ja_lconst C (lN 0) jd_Y_divisor_24 (by decide) ?_
    exact E jd_Y_divisor_25 ⟨_, 1, rfl, h2.jP r2⟩
theorem jv_all {q0 : Int32} (h : jN cI cJ y A n n2 σ w th rk N) : jb_M l jy_Y_all jc_Y_all 2 (some .int) 0 0 0 0 D H0 (jt_all cI cJ cT cX) [.ref y, .int q0] w sz
    (fun v w' sz' => ∃ (x : Int32) (th' : Int32), v = some (.int x) ∧ jP cI cJ y A w sz σ th' w' sz') := by
  refine jb_meth_i (by decide) (Nat.le_of_ble_eq_true rfl) (fun u C X E => ?_)
  have hn := h.cn
  refine ja_aload_n C jd_Y_all_0 0 rfl ?_
  refine ja_iconst C (nI 0) jd_Y_all_1 (by decide) ?_
  refine jN_p0 C jd_Y_all_2 h (fun w1 h1 r1 => ?_)
  refine ja_iload_n C jd_Y_all_5 1 rfl ?_
  refine ja_if_ne C 16 jd_Y_all_6 (by decide) (fun c1 => ?_) (fun c1 => ?_)
  · refine ja_iload_n C jd_Y_all_16 1 rfl ?_
    refine ja_iconst C (nI 1) jd_Y_all_17 (by decide) ?_
    refine ja_icmp_ne C 28 jd_Y_all_18 (by decide) (fun c2 => ?_) (fun c2 => ?_)
    · refine ja_iload_n C jd_Y_all_28 1 rfl ?_
      refine ja_iconst C (nI 2) jd_Y_all_29 (by decide) ?_
      refine ja_icmp_ne C 41 jd_Y_all_30 (by decide) (fun c3 => ?_) (fun c3 => ?_)
      · refine ja_iload_n C jd_Y_all_41 1 rfl ?_
        refine ja_iconst C (nI 3) jd_Y_all_42 (by decide) ?_
        refine ja_icmp_ne C 53 jd_Y_all_43 (by decide) (fun c4 => ?_) (fun c4 => ?_)
        · refine ja_iconst C (-1) jd_Y_all_53 (by decide) ?_
          exact E jd_Y_all_54 ⟨_, _, rfl, h1.jP r1⟩
        · refine ja_aload_n C jd_Y_all_46 0 rfl ?_
          refine jN_gl C jd_Y_all_47 h1 (fun v9 => ?_)
          refine ja_goto C 54 jd_Y_all_50 (by decide) ?_
          exact E jd_Y_all_54 ⟨_, _, rfl, h1.jP r1⟩
      · refine ja_aload_n C jd_Y_all_33 0 rfl ?_
        refine jN_gw C jd_Y_all_34 h1 ?_
        refine ja_l2iN C jd_Y_all_37 ?_
        refine ja_goto C 54 jd_Y_all_38 (by decide) ?_
        exact E jd_Y_all_54 ⟨_, _, rfl, h1.jP r1⟩
    · refine ja_aload_n C jd_Y_all_21 0 rfl ?_
      refine jN_gi C jd_Y_all_22 h1 ?_
      refine ja_goto C 54 jd_Y_all_25 (by decide) ?_
      exact E jd_Y_all_54 ⟨_, _, rfl, h1.jP r1⟩
  · refine ja_aload_n C jd_Y_all_9 0 rfl ?_
    refine jN_gc C jd_Y_all_10 h1 ?_
    refine ja_goto C 54 jd_Y_all_13 (by decide) ?_
    exact E jd_Y_all_54 ⟨_, _, rfl, h1.jP r1⟩
end Y50
