/-! THE CLASS: turned, over, reshape -/
theorem jl_ten {σ : jSt} {a : Int32} (hc : jSt_c σ ≤ 512) (h : ¬ (a < 0 ∨ nI (jSt_c σ) ≤ a)) : ∃ t, t < jSt_c σ ∧ a = nI t ∧ a.toNatClampNeg = t := by
  obtain ⟨t, h1, h2, h3⟩ := jl_clamp (fun z => h (Or.inl z))
  refine ⟨t, ?_, h2, h3⟩
  have q : nI t < nI (jSt_c σ) := by rw [← h2]; exact k2_lt (fun z => h (Or.inr z))
  exact (nI_ltI h1 (by omega)).mp q
theorem jl_ten0 {σ : jSt} {t : Nat} (hc : jSt_c σ ≤ 512) (h : t < jSt_c σ) : ¬ (nI t < 0 ∨ nI (jSt_c σ) ≤ nI t) := fun z => z.elim (fun z => nI_pos (by omega) z) (fun z => by have := (nI_leI (by omega) (by omega)).mp z; omega)
theorem jl_nI {a b : Nat} (ha : a < 2 ^ 31) (hb : b < 2 ^ 31) (h : nI a = nI b) : a = b := by rw [← nI_clamp ha, h, nI_clamp hb]
theorem jx_divN {r e q u n : Nat} (hq1 : 1 ≤ q) (hq : q < 2 ^ 62) (hu1 : 1 ≤ u) (hu : u < 2 ^ 31) (hn : n < 2 ^ 31) : (nI r + jx_bits (nI n), nI e + jx_twos (nI u), jx_pr (lN q) (nI u >>> (jx_twos (nI u) &&& 31)).toInt64) = (nI (r + jl_log (n + 1)), nI (e + jl_twos 40 u), lN (jq (jl_prod q (jl_odd 40 u)))) := by
  have ho := jl_odd_le 40 u
  have hp := jl_odd_pos 40 u hu1
  rw [(jx_twos_N hu1 hu).2, jx_bits_N hn, (jx_twos_N hu1 hu).1, nI_l (by omega), nI_add, nI_add]
  have e1 := jx_pr_N hq (show jl_odd 40 u < 2 ^ 62 by omega)
  rw [jq_of hq1, jq_of hp] at e1
  rw [e1]
theorem jl_cl_le (S : Nat → Nat) (k : Nat) : jl_cl S k ≤ 65537 := by unfold jl_cl; split <;> omega
theorem jl_cl_iff {S S' : Nat → Nat} {k k' : Nat} (h : jl_cells S' k' ≤ 65536) : jl_cl S k = jl_cl S' k' ↔ jl_cells S k = jl_cells S' k' := by
  unfold jl_cl
  rw [if_pos h]
  split <;> omega
theorem jt9_128_126 : jx_ok "MeasuredTensors" 126 128 130 "java/lang/IndexOutOfBoundsException" "no such tensor" ["java/lang/RuntimeException", "java/lang/Exception"] := ⟨by decide +kernel, by decide +kernel, jw_in (by decide +kernel) (by decide +kernel), jw_in (by decide +kernel) (by decide +kernel), by decide +kernel, by decide +kernel, by decide +kernel⟩
theorem jt9_145_52 : jx_ok "MeasuredTensors" 52 145 56 "java/lang/IllegalArgumentException" "no fraction in least terms" ["java/lang/RuntimeException", "java/lang/Exception"] := ⟨by decide +kernel, by decide +kernel, jw_in (by decide +kernel) (by decide +kernel), jw_in (by decide +kernel) (by decide +kernel), by decide +kernel, by decide +kernel, by decide +kernel⟩
section X82
variable {l : Launch} {D : va_G} {H0 : Heap} {cI cJ cT cX : ClassId} {w : jb_W} {sz : Nat}
variable {x : Nat} {P : Nat → Prop} {σ : jSt} {dr : Nat} {F G : Nat → Option Nat} {own : Nat → Nat} {fT : Nat → Nat → Int32} {ls : Int32} {k : Nat} {f : Nat → Int32} {m : Int32 × Int32 × Int64} {tm : Int32}
theorem jx_turned {a : Int32} (hst : l.stackTraces = false) (h : jXd cI cT cX x P σ dr F G own fT ls w k f m tm) (hct : jSt_c σ < 512) : jb_T l jy_X_turned jc_X_turned 3 (some .int) 6 88 5 25 D H0 (jt_all cI cJ cT cX) [.ref x, .int a] w sz
    (fun v w' sz' => ∃ (y : Int32) (σ' : jSt), v = some (.int y) ∧ jA_turned σ a y 0 σ' ∧ jXP cI cT cX x P w sz σ' w' sz') (fun E w' sz' => ((E = "java/lang/IndexOutOfBoundsException" ∧ ∀ y, jA_turned σ a y 1 σ)) ∧ jXP cI cT cX x P w sz σ w' sz') := by
  refine jb_methT_i hst (by decide) (Nat.le_of_ble_eq_true rfl) (fun u C X E TH => ?_)
  have hxd := h.xd
  have hcn := h.cn
  rcases Classical.em (a < 0 ∨ nI (jSt_c σ) ≤ a) with hf | hf
  · refine ja_aload_n C jd_X_turned_0 0 rfl ?_
    refine ja_iload_n C jd_X_turned_1 1 rfl ?_
    refine jb_pV 8 C X jk_X_122 h.obj rfl (jx_tensorAtN h hf) jd_X_turned_2 rfl rfl ⟨by decide, by decide⟩ (Nat.le_of_ble_eq_true rfl) ?_
    refine ja_astore_nN C [(2, .null), (0, .ref x), (1, .int a)] jd_X_turned_5 rfl (Nat.le_of_ble_eq_true rfl) rfl ?_
    refine ja_aload_nN C jd_X_turned_6 0 rfl ?_
    refine ja_ifnonnullN C jd_X_turned_7 ?_
    exact TH jt9_128_126 jd_X_turned_10 jd_X_turned_13 jd_X_turned_14 jd_X_turned_16 jd_X_turned_19 ⟨Nat.le_of_ble_eq_true rfl, Nat.le_of_ble_eq_true rfl⟩ (fun z9 hz9 => ⟨⟨rfl, fun y => ⟨fun _ => ⟨rfl, rfl⟩, fun t ht et => absurd (by rw [← et]; exact hf) (jl_ten0 hcn.1 ht)⟩⟩, h.jXP jXF.rf hz9⟩)
  · obtain ⟨t, ht, et, ec⟩ := jl_ten hcn.1 hf
    obtain ⟨tk, oa, ea, -⟩ := h.2.2.2.2.2.2.2.1 t ht
    have k4 := (h.ts ht).1
    have hcap := h.ap ea
    obtain ⟨b1, b2, b3, b4, b5, b6, b7, b8, b9, b10⟩ := tk
    subst et
    refine ja_aload_n C jd_X_turned_0 0 rfl ?_
    refine ja_iload_n C jd_X_turned_1 1 rfl ?_
    refine jb_pV 8 C X jk_X_122 h.obj rfl (jx_tensorAt h ht ea) jd_X_turned_2 rfl rfl ⟨by decide, by decide⟩ (Nat.le_of_ble_eq_true rfl) ?_
    refine ja_astore_n C [(2, .ref oa), (0, .ref x), (1, .int (nI t))] jd_X_turned_5 rfl (Nat.le_of_ble_eq_true rfl) rfl ?_
    refine ja_aload_n C jd_X_turned_6 0 rfl ?_
    refine ja_ifnonnull C 20 jd_X_turned_7 (by decide) ?_
    refine ja_aload_n C jd_X_turned_20 1 rfl ?_
    refine ja_get C jg_X_32 jd_X_turned_21 h.obj rfl ?_
    refine ja_iload_n C jd_X_turned_24 2 rfl ?_
    refine ja_iconst C (-1) jd_X_turned_25 (by decide) ?_
    obtain ⟨fs1, hb1⟩ := h.d.z0
    refine jo_vV 8 C X jk_X_65 hb1 rfl (jt_start h.d) jd_X_turned_26 rfl rfl ⟨by decide, by decide⟩ (Nat.le_of_ble_eq_true rfl) (fun w1 hp1 => ?_)
    obtain ⟨z1, f1⟩ := hp1
    obtain ⟨h1, r1⟩ := h.upd (by omega) z1 f1
    refine ja_aload_n C jd_X_turned_29 1 rfl ?_
    refine ja_get C jg_X_32 jd_X_turned_30 h1.obj rfl ?_
    refine ja_aload_n C jd_X_turned_33 0 rfl ?_
    obtain ⟨fs2, hb2⟩ := h1.d.z0
    refine jo_vV 8 C X jk_X_141 hb2 rfl (jt_resemble h1.d (h1.tz ht ea) (h1.ts ht) (h1.ap ea)) jd_X_turned_34 rfl rfl ⟨by decide, by decide⟩ (Nat.le_of_ble_eq_true rfl) (fun w2 hp2 => ?_)
    obtain ⟨⟨f7, z2, hS7⟩, f2⟩ := hp2
    obtain ⟨h2, r2⟩ := h1.upd (by omega) z2 f2
    refine ja_aload_n C jd_X_turned_37 1 rfl ?_
    have hk := h2
    refine jb_callVw (kc := 0) (ks := 0) (mc := 5) (ms := 25) 8 C X jk_X_83 h2.obj rfl (jx_keep (what := 50) (a := nI t) (b := -1) (ul := (0, 0)) (q := jT_q (jSt_T σ t)) (by rw [jq_of b9]; exact hk) hS7 hct (by omega) (by omega) b10 (by decide)) jd_X_turned_38 rfl rfl ⟨by decide, by decide⟩ (Nat.le_of_ble_eq_true rfl) (fun v9 w9 z9 hp9 => ?_)
    obtain ⟨y9, σ9, e9, ha9, hq9⟩ := hp9
    rw [e9]
    exact E jd_X_turned_41 ⟨y9, σ9, rfl, ⟨fun z => absurd z (jl_ten0 hcn.1 ht), fun t2 ht2 et2 => by have e2 := jl_nI (by omega) (by omega) et2; subst e2; exact ⟨rfl, ha9⟩⟩, jXP.from (r1.tr r2) hq9⟩
theorem jx_over {a u0 n : Int32} (hst : l.stackTraces = false) (h : jXd cI cT cX x P σ dr F G own fT ls w k f m tm) (hct : jSt_c σ < 512) : jb_T l jy_X_over jc_X_over 5 (some .int) 6 88 5 25 D H0 (jt_all cI cJ cT cX) [.ref x, .int a, .int u0, .int n] w sz
    (fun v w' sz' => ∃ (y : Int32) (σ' : jSt), v = some (.int y) ∧ jA_over σ a u0 n y 0 σ' ∧ jXP cI cT cX x P w sz σ' w' sz') (fun E w' sz' => ((E = "java/lang/IndexOutOfBoundsException" ∧ ∀ y, jA_over σ a u0 n y 1 σ) ∨ (E = "java/lang/IllegalArgumentException" ∧ ∀ y, jA_over σ a u0 n y 2 σ)) ∧ jXP cI cT cX x P w sz σ w' sz') := by
  refine jb_methT_i hst (by decide) (Nat.le_of_ble_eq_true rfl) (fun u C X E TH => ?_)
  have hxd := h.xd
  have hcn := h.cn
  rcases Classical.em (a < 0 ∨ nI (jSt_c σ) ≤ a) with hf | hf
  · refine ja_aload_n C jd_X_over_0 0 rfl ?_
    refine ja_iload_n C jd_X_over_1 1 rfl ?_
    refine jb_pV 8 C X jk_X_122 h.obj rfl (jx_tensorAtN h hf) jd_X_over_2 rfl rfl ⟨by decide, by decide⟩ (Nat.le_of_ble_eq_true rfl) ?_
    refine ja_astoreN C [(4, .null), (0, .ref x), (1, .int a), (2, .int u0), (3, .int n)] jd_X_over_5 (Nat.le_of_ble_eq_true rfl) rfl ?_
    refine ja_aloadN C jd_X_over_7 0 rfl ?_
    refine ja_ifnonnullN C jd_X_over_9 ?_
    exact TH jt9_128_126 jd_X_over_12 jd_X_over_15 jd_X_over_16 jd_X_over_18 jd_X_over_21 ⟨Nat.le_of_ble_eq_true rfl, Nat.le_of_ble_eq_true rfl⟩ (fun z9 hz9 => ⟨Or.inl ⟨rfl, fun y => by unfold jA_over; rw [if_pos hf]; exact ⟨rfl, rfl⟩⟩, h.jXP jXF.rf hz9⟩)
  · obtain ⟨t, ht, et, ec⟩ := jl_ten hcn.1 hf
    obtain ⟨tk, oa, ea, -⟩ := h.2.2.2.2.2.2.2.1 t ht
    have k4 := (h.ts ht).1
    have hcap := h.ap ea
    obtain ⟨b1, b2, b3, b4, b5, b6, b7, b8, b9, b10⟩ := tk
    subst et
    refine ja_aload_n C jd_X_over_0 0 rfl ?_
    refine ja_iload_n C jd_X_over_1 1 rfl ?_
    refine jb_pV 8 C X jk_X_122 h.obj rfl (jx_tensorAt h ht ea) jd_X_over_2 rfl rfl ⟨by decide, by decide⟩ (Nat.le_of_ble_eq_true rfl) ?_
    refine ja_astore C [(4, .ref oa), (0, .ref x), (1, .int (nI t)), (2, .int u0), (3, .int n)] jd_X_over_5 (Nat.le_of_ble_eq_true rfl) rfl ?_
    refine ja_aload C jd_X_over_7 0 rfl ?_
    refine ja_ifnonnull C 22 jd_X_over_9 (by decide) ?_
    refine ja_iload_n C jd_X_over_22 3 rfl ?_
    refine ja_iconst C (nI 1) jd_X_over_23 (by decide) ?_
    have bad : ∀ (hg : (u0 < 1 ∨ n < 1 ∨ ¬ Nat.gcd u0.toNatClampNeg n.toNatClampNeg = 1)), ja (jb_mk l (jb_rm 6 88 5 25) 5 "MeasuredTensors" D H0 (jt_all cI cJ cT cX) u) w sz 5 25 40 [(4, .ref oa), (0, .ref x), (1, .int (nI t)), (2, .int u0), (3, .int n)] [] := by
      intro hg
      exact TH jt9_145_52 jd_X_over_40 jd_X_over_43 jd_X_over_44 jd_X_over_46 jd_X_over_49 ⟨Nat.le_of_ble_eq_true rfl, Nat.le_of_ble_eq_true rfl⟩ (fun z9 hz9 => ⟨Or.inr ⟨rfl, fun y => by unfold jA_over; rw [if_neg hf, if_pos hg]; exact ⟨rfl, rfl⟩⟩, h.jXP jXF.rf hz9⟩)
    refine ja_icmp_lt C 40 jd_X_over_24 (by decide) (fun c1 => bad (Or.inl c1)) (fun c1 => ?_)
    refine ja_iload_n C jd_X_over_27 4 rfl ?_
    refine ja_iconst C (nI 1) jd_X_over_28 (by decide) ?_
    refine ja_icmp_lt C 40 jd_X_over_29 (by decide) (fun c2 => bad (Or.inr (Or.inl c2))) (fun c2 => ?_)
    obtain ⟨un, hun, eu, eu'⟩ := jl_clamp (x := u0) (fun z => c1 (Int32.lt_iff_toInt_lt.mpr (Int.lt_trans (Int32.lt_iff_toInt_lt.mp z) (by decide))))
    obtain ⟨nn, hnn, en, en'⟩ := jl_clamp (x := n) (fun z => c2 (Int32.lt_iff_toInt_lt.mpr (Int.lt_trans (Int32.lt_iff_toInt_lt.mp z) (by decide))))
    have n1 : 1 ≤ un := by
      rcases Nat.eq_zero_or_pos un with z | z
      · exact absurd (by rw [eu, z]; decide) c1
      · exact z
    refine ja_iload_n C jd_X_over_32 3 rfl ?_
    refine ja_iload_n C jd_X_over_33 4 rfl ?_
    refine jb_pS 8 C X jk_X_59 (jx_least) jd_X_over_34 rfl rfl ⟨by decide, by decide⟩ (Nat.le_of_ble_eq_true rfl) ?_
    refine ja_if_neB C 50 jd_X_over_37 (by decide) (fun c3 => ?_) (fun c3 => bad (Or.inr (Or.inr (by rw [eu', en']; intro z; exact c3 (by rw [eu, en]; exact (jx_gcd_1 hun hnn).mpr z)))))
    have hgg : Nat.gcd un nn = 1 := (jx_gcd_1 hun hnn).mp (by rw [← eu, ← en]; exact c3)
    have hg : ¬ (u0 < 1 ∨ n < 1 ∨ ¬ Nat.gcd u0.toNatClampNeg n.toNatClampNeg = 1) := fun z => z.elim c1 (fun z => z.elim c2 (fun z => z (by rw [eu', en']; exact hgg)))
    refine ja_aload_n C jd_X_over_50 1 rfl ?_
    refine ja_get C jg_X_32 jd_X_over_51 h.obj rfl ?_
    refine ja_iload_n C jd_X_over_54 2 rfl ?_
    refine ja_iconst C (-1) jd_X_over_55 (by decide) ?_
    obtain ⟨fs1, hb1⟩ := h.d.z0
    refine jo_vV 8 C X jk_X_65 hb1 rfl (jt_start h.d) jd_X_over_56 rfl rfl ⟨by decide, by decide⟩ (Nat.le_of_ble_eq_true rfl) (fun w1 hp1 => ?_)
    obtain ⟨z1, f1⟩ := hp1
    obtain ⟨h1, r1⟩ := h.upd (by omega) z1 f1
    refine ja_aload_n C jd_X_over_59 1 rfl ?_
    refine ja_get C jg_X_32 jd_X_over_60 h1.obj rfl ?_
    refine ja_aload C jd_X_over_63 0 rfl ?_
    obtain ⟨fs2, hb2⟩ := h1.d.z0
    refine jo_vV 8 C X jk_X_141 hb2 rfl (jt_resemble h1.d (h1.tz ht ea) (h1.ts ht) (h1.ap ea)) jd_X_over_65 rfl rfl ⟨by decide, by decide⟩ (Nat.le_of_ble_eq_true rfl) (fun w2 hp2 => ?_)
    obtain ⟨⟨f7, z2, hS7⟩, f2⟩ := hp2
    obtain ⟨h2, r2⟩ := h1.upd (by omega) z2 f2
    refine ja_aload_n C jd_X_over_68 1 rfl ?_
    refine ja_get C jg_X_32 jd_X_over_69 h2.obj rfl ?_
    refine ja_iload_n C jd_X_over_72 3 rfl ?_
    refine ja_iload_n C jd_X_over_73 4 rfl ?_
    obtain ⟨fs3, hb3⟩ := h2.d.z0
    refine jo_vV 8 C X jk_X_147 hb3 rfl (jt_divide h2.d) jd_X_over_74 rfl rfl ⟨by decide, by decide⟩ (Nat.le_of_ble_eq_true rfl) (fun w3 hp3 => ?_)
    obtain ⟨z3, f3⟩ := hp3
    obtain ⟨h3, r3⟩ := h2.upd k4 z3 f3
    refine ja_aload_n C jd_X_over_77 1 rfl ?_
    have hk := h3
    have hm := jx_divN (r := jT_r (jSt_T σ t)) (e := jT_e (jSt_T σ t)) (q := jT_q (jSt_T σ t)) b9 b10 n1 hun hnn
    rw [← eu, ← en] at hm
    rw [hm] at hk
    have hlo := jl_log_le (m := nn + 1) (by omega)
    have htw := jl_twos_le 40 un
    refine jb_callVw (kc := 0) (ks := 0) (mc := 5) (ms := 25) 8 C X jk_X_83 h3.obj rfl (jx_keep (what := 51) (a := nI t) (b := -1) (ul := (un, nn)) hk hS7 hct (by omega) (by omega) (jl_prod_lt _ _) (by decide)) jd_X_over_78 rfl rfl ⟨by decide, by decide⟩ (Nat.le_of_ble_eq_true rfl) (fun v9 w9 z9 hp9 => ?_)
    obtain ⟨y9, σ9, e9, ha9, hq9⟩ := hp9
    rw [e9]
    exact E jd_X_over_81 ⟨y9, σ9, rfl, by unfold jA_over; rw [if_neg hf, if_neg hg, ec, eu', en']; exact ⟨rfl, ha9⟩, jXP.from (r1.tr (r2.tr r3)) hq9⟩
theorem jx_reshape {a n b c d e : Int32} (hst : l.stackTraces = false) (h : jXd cI cT cX x P σ dr F G own fT ls w k f m tm) (hct : jSt_c σ < 512) : jb_T l jy_X_reshape jc_X_reshape 8 (some .int) 6 88 5 25 D H0 (jt_all cI cJ cT cX) [.ref x, .int a, .int n, .int b, .int c, .int d, .int e] w sz
    (fun v w' sz' => ∃ (y : Int32) (σ' : jSt), v = some (.int y) ∧ jA_reshape σ a n b c d e y 0 σ' ∧ jXP cI cT cX x P w sz σ' w' sz') (fun E w' sz' => ((E = "java/lang/IndexOutOfBoundsException" ∧ ∀ y, jA_reshape σ a n b c d e y 1 σ) ∨ (E = "java/lang/IllegalArgumentException" ∧ ∀ y, jA_reshape σ a n b c d e y 2 σ)) ∧ jXP cI cT cX x P w sz σ w' sz') := by
  refine jb_methT_i hst (by decide) (Nat.le_of_ble_eq_true rfl) (fun u C X E TH => ?_)
  have hxd := h.xd
  have hcn := h.cn
  rcases Classical.em (a < 0 ∨ nI (jSt_c σ) ≤ a) with hf | hf
  · refine ja_aload_n C jd_X_reshape_0 0 rfl ?_
    refine ja_iload_n C jd_X_reshape_1 1 rfl ?_
    refine jb_pV 8 C X jk_X_122 h.obj rfl (jx_tensorAtN h hf) jd_X_reshape_2 rfl rfl ⟨by decide, by decide⟩ (Nat.le_of_ble_eq_true rfl) ?_
    refine ja_astoreN C [(7, .null), (0, .ref x), (1, .int a), (2, .int n), (3, .int b), (4, .int c), (5, .int d), (6, .int e)] jd_X_reshape_5 (Nat.le_of_ble_eq_true rfl) rfl ?_
    refine ja_aloadN C jd_X_reshape_7 0 rfl ?_
    refine ja_ifnonnullN C jd_X_reshape_9 ?_
    exact TH jt9_128_126 jd_X_reshape_12 jd_X_reshape_15 jd_X_reshape_16 jd_X_reshape_18 jd_X_reshape_21 ⟨Nat.le_of_ble_eq_true rfl, Nat.le_of_ble_eq_true rfl⟩ (fun z9 hz9 => ⟨Or.inl ⟨rfl, fun y => by unfold jA_reshape; rw [if_pos hf]; exact ⟨rfl, rfl⟩⟩, h.jXP jXF.rf hz9⟩)
  · obtain ⟨t, ht, et, ec⟩ := jl_ten hcn.1 hf
    obtain ⟨tk, oa, ea, -⟩ := h.2.2.2.2.2.2.2.1 t ht
    have k4 := (h.ts ht).1
    have hcap := h.ap ea
    obtain ⟨b1, b2, b3, b4, b5, b6, b7, b8, b9, b10⟩ := tk
    subst et
    refine ja_aload_n C jd_X_reshape_0 0 rfl ?_
    refine ja_iload_n C jd_X_reshape_1 1 rfl ?_
    refine jb_pV 8 C X jk_X_122 h.obj rfl (jx_tensorAt h ht ea) jd_X_reshape_2 rfl rfl ⟨by decide, by decide⟩ (Nat.le_of_ble_eq_true rfl) ?_
    refine ja_astore C [(7, .ref oa), (0, .ref x), (1, .int (nI t)), (2, .int n), (3, .int b), (4, .int c), (5, .int d), (6, .int e)] jd_X_reshape_5 (Nat.le_of_ble_eq_true rfl) rfl ?_
    refine ja_aload C jd_X_reshape_7 0 rfl ?_
    refine ja_ifnonnull C 22 jd_X_reshape_9 (by decide) ?_
    refine ja_iload_n C jd_X_reshape_22 3 rfl ?_
    refine ja_iload_n C jd_X_reshape_23 4 rfl ?_
    refine ja_iload C jd_X_reshape_24 5 rfl ?_
    refine ja_iload C jd_X_reshape_26 6 rfl ?_
    refine ja_iload C jd_X_reshape_28 7 rfl ?_
    have bad : ∀ (hg : jl_take n (jl_F b c d e) = 0), ja (jb_mk l (jb_rm 6 88 5 25) 8 "MeasuredTensors" D H0 (jt_all cI cJ cT cX) u) w sz 5 25 36 [(7, .ref oa), (0, .ref x), (1, .int (nI t)), (2, .int n), (3, .int b), (4, .int c), (5, .int d), (6, .int e)] [] := by
      intro hg
      exact TH jt9_91_52 jd_X_reshape_36 jd_X_reshape_39 jd_X_reshape_40 jd_X_reshape_42 jd_X_reshape_45 ⟨Nat.le_of_ble_eq_true rfl, Nat.le_of_ble_eq_true rfl⟩ (fun z9 hz9 => ⟨Or.inr ⟨rfl, fun y => by unfold jA_reshape; rw [if_neg hf, if_pos hg]; exact ⟨rfl, rfl⟩⟩, h.jXP jXF.rf hz9⟩)
    refine jb_pS 8 C X jk_X_87 (jx_areSides) jd_X_reshape_30 rfl rfl ⟨by decide, by decide⟩ (Nat.le_of_ble_eq_true rfl) ?_
    refine ja_if_neB C 46 jd_X_reshape_33 (by decide) (fun c1 => ?_) (fun c1 => bad (jl_take_0 c1))
    have hg : ¬ jl_take n (jl_F b c d e) = 0 := fun z => absurd (z.symm.trans c1) (by decide)
    obtain ⟨r, hr, em⟩ := jl_take_rk c1
    subst em
    clear bad
    refine ja_aload_n C jd_X_reshape_46 1 rfl ?_
    refine ja_get C jg_X_32 jd_X_reshape_47 h.obj rfl ?_
    refine ja_iload_n C jd_X_reshape_50 2 rfl ?_
    refine ja_iconst C (-1) jd_X_reshape_51 (by decide) ?_
    obtain ⟨fs1, hb1⟩ := h.d.z0
    refine jo_vV 8 C X jk_X_65 hb1 rfl (jt_start h.d) jd_X_reshape_52 rfl rfl ⟨by decide, by decide⟩ (Nat.le_of_ble_eq_true rfl) (fun w1 hp1 => ?_)
    obtain ⟨z1, f1⟩ := hp1
    obtain ⟨h1, r1⟩ := h.upd (by omega) z1 f1
    refine ja_aload_n C jd_X_reshape_55 1 rfl ?_
    refine ja_get C jg_X_32 jd_X_reshape_56 h1.obj rfl ?_
    refine ja_aload C jd_X_reshape_59 0 rfl ?_
    obtain ⟨fs2, hb2⟩ := h1.d.z0
    refine jo_vV 8 C X jk_X_141 hb2 rfl (jt_resemble h1.d (h1.tz ht ea) (h1.ts ht) (h1.ap ea)) jd_X_reshape_61 rfl rfl ⟨by decide, by decide⟩ (Nat.le_of_ble_eq_true rfl) (fun w2 hp2 => ?_)
    obtain ⟨⟨f7, z2, hS7⟩, f2⟩ := hp2
    obtain ⟨h2, r2⟩ := h1.upd (by omega) z2 f2
    refine ja_aload_n C jd_X_reshape_64 1 rfl ?_
    refine ja_get C jg_X_32 jd_X_reshape_65 h2.obj rfl ?_
    refine jZx_g C jg_X_93 jd_X_reshape_68 h2.d (fun _ _ => rfl) ?_
    refine ja_iload_n C jd_X_reshape_71 3 rfl ?_
    refine ja_iload_n C jd_X_reshape_72 4 rfl ?_
    refine ja_iload C jd_X_reshape_73 5 rfl ?_
    refine ja_iload C jd_X_reshape_75 6 rfl ?_
    refine ja_iload C jd_X_reshape_77 7 rfl ?_
    refine jo_vV 8 C X jk_X_97 h2.d.z1 rfl (js_set h2.d.z1 h2.d.z2) jd_X_reshape_79 rfl rfl ⟨by decide, by decide⟩ (Nat.le_of_ble_eq_true rfl) (fun w3 hp3 => ?_)
    obtain ⟨g3a, g3b, f3⟩ := hp3
    obtain ⟨h3, r3⟩ := h2.s12 (by omega) g3a g3b f3
    refine ja_aload_n C jd_X_reshape_82 1 rfl ?_
    refine ja_get C jg_X_32 jd_X_reshape_83 h3.obj rfl ?_
    refine jZx_g C jg_X_93 jd_X_reshape_86 h3.d (fun _ _ => rfl) ?_
    have hS8 := jSh_set (f := f7) hr c1
    have hce : jl_cells (fun j => if j < r then (jl_F b c d e j).toNatClampNeg else 1) r = jl_cells (fun k => (jl_F b c d e k).toNatClampNeg) (nI r).toNatClampNeg := by rw [nI_clamp (by omega)]; exact jl_cells_ext (fun j hj => if_pos hj)
    refine jb_pV 8 C X jk_X_114 h3.d.z1 rfl (js_cells h3.d.z1 h3.d.z2 hS8) jd_X_reshape_89 rfl rfl ⟨by decide, by decide⟩ (Nat.le_of_ble_eq_true rfl) ?_
    refine ja_aload C jd_X_reshape_92 0 rfl ?_
    refine jZx_g C jg_X_93 jd_X_reshape_94 (h3.tz ht ea) (fun _ _ => rfl) ?_
    refine jb_pV 8 C X jk_X_114 (h3.tz ht ea).z1 rfl (js_cells (h3.tz ht ea).z1 (h3.tz ht ea).z2 (h3.ts ht)) jd_X_reshape_97 rfl rfl ⟨by decide, by decide⟩ (Nat.le_of_ble_eq_true rfl) ?_
    have q8 := jl_cl_le (fun j => if j < r then (jl_F b c d e j).toNatClampNeg else 1) r
    have q9 := jl_cl_le (jT_S (jSt_T σ t)) (jT_k (jSt_T σ t))
    refine ja_icmp_neN C 110 jd_X_reshape_100 (by decide) (by omega) (by omega) (fun c2 => ?_) (fun c2 => ?_)
    · refine ja_bipush C (-5) jd_X_reshape_110 (by decide) ?_
      exact E jd_X_reshape_112 ⟨_, _, rfl, by unfold jA_reshape; rw [if_neg hf, if_neg hg, ec]; exact ⟨rfl, fun z => absurd ((jl_cl_iff b4).mpr (hce.trans z)) c2, fun _ => ⟨rfl, rfl⟩⟩, h3.jXP (r1.tr (r2.tr r3)) (Nat.le_refl _)⟩
    · have hk := h3
      refine ja_aload_n C jd_X_reshape_103 1 rfl ?_
      refine jb_callVw (kc := 0) (ks := 0) (mc := 5) (ms := 25) 8 C X jk_X_83 h3.obj rfl (jx_keep (what := 11) (a := nI t) (b := -1) (ul := (0, 0)) (q := jT_q (jSt_T σ t)) (by rw [jq_of b9]; exact hk) hS8 hct (by omega) (by omega) b10 (by decide)) jd_X_reshape_104 rfl rfl ⟨by decide, by decide⟩ (Nat.le_of_ble_eq_true rfl) (fun v9 w9 z9 hp9 => ?_)
      obtain ⟨y9, σ9, e9, ha9, hq9⟩ := hp9
      rw [e9]
      refine ja_goto C 112 jd_X_reshape_107 (by decide) ?_
      exact E jd_X_reshape_112 ⟨y9, σ9, rfl, by unfold jA_reshape; rw [if_neg hf, if_neg hg, ec]; exact ⟨rfl, fun _ => by rw [nI_clamp (by omega)]; exact jB.ext ha9 (fun j hj => if_pos hj), fun z => absurd (hce.symm.trans ((jl_cl_iff b4).mp c2)) z⟩, jXP.from (r1.tr (r2.tr r3)) hq9⟩
end X82
