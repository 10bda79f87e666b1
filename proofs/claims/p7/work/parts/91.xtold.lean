/-! THE CLASS: told, divisor, all -/

theorem jt9_230_52 : jx_ok "MeasuredTensors" 52 230 56 "java/lang/IllegalArgumentException" "nothing like that is told" ["java/lang/RuntimeException", "java/lang/Exception"] := ⟨by decide +kernel, by decide +kernel, jw_in (by decide +kernel) (by decide +kernel), jw_in (by decide +kernel) (by decide +kernel), by decide +kernel, by decide +kernel, by decide +kernel⟩
theorem jg_X_218 : ja_FL jcl "MeasuredTensors" 218 0 0 := ⟨_, rfl, by decide, jw_M, jw_in (by decide +kernel) (by decide +kernel)⟩
theorem jg_X_221 : ja_FL jcl "MeasuredTensors" 221 0 1 := ⟨_, rfl, by decide, jw_M, jw_in (by decide +kernel) (by decide +kernel)⟩
theorem jg_X_224 : ja_FL jcl "MeasuredTensors" 224 2 12 := ⟨_, rfl, by decide, jw_T, jw_in (by decide +kernel) (by decide +kernel)⟩
theorem jg_X_227 : ja_FL jcl "MeasuredTensors" 227 2 2 := ⟨_, rfl, by decide, jw_T, jw_in (by decide +kernel) (by decide +kernel)⟩
theorem jg_X_234 : ja_FL jcl "MeasuredTensors" 234 0 2 := ⟨_, rfl, by decide, jw_M, jw_in (by decide +kernel) (by decide +kernel)⟩
theorem jq_X_232 : Cond.constantLong "MeasuredTensors" 232 (-1) ∈ jw_all := jw_in (by decide +kernel) (by decide +kernel)
theorem jg_X_46 : ja_FL jcl "MeasuredTensors" 46 4 8 := ⟨_, rfl, by decide, jw_X, jw_in (by decide +kernel) (by decide +kernel)⟩
section X91
variable {l : Launch} {D : va_G} {H0 : Heap} {cI cJ cT cX : ClassId} {w : jb_W} {sz : Nat}
variable {x : Nat} {P : Nat → Prop} {σ : jSt} {dr : Nat} {F G : Nat → Option Nat} {own : Nat → Nat} {fT : Nat → Nat → Int32} {ls : Int32} {k : Nat} {f : Nat → Int32} {m : Int32 × Int32 × Int64} {tm : Int32}
theorem jx_told {a q0 : Int32} (hst : l.stackTraces = false) (h : jXd cI cT cX x P σ dr F G own fT ls w k f m tm) : jb_T l jy_X_told jc_X_told 4 (some .int) 6 88 5 25 D H0 (jt_all cI cJ cT cX) [.ref x, .int a, .int q0] w sz
    (fun v w' sz' => (∃ y, v = some (.int y)) ∧ jXP cI cT cX x P w sz σ w' sz') (fun E w' sz' => (E = "java/lang/IndexOutOfBoundsException" ∨ E = "java/lang/IllegalArgumentException") ∧ jXP cI cT cX x P w sz σ w' sz') := by
  refine jb_methT_i hst (by decide) (Nat.le_of_ble_eq_true rfl) (fun u C X E TH => ?_)
  have hxd := h.xd
  have hcn := h.cn
  rcases Classical.em (a < 0 ∨ nI (jSt_c σ) ≤ a) with hf | hf
  · refine ja_aload_n C jd_X_told_0 0 rfl ?_
    refine ja_iload_n C jd_X_told_1 1 rfl ?_
    refine jb_pV 8 C X jk_X_122 h.obj rfl (jx_tensorAtN h hf) jd_X_told_2 rfl rfl ⟨by decide, by decide⟩ (Nat.le_of_ble_eq_true rfl) ?_
    refine ja_astore_nN C [(3, .null), (0, .ref x), (1, .int a), (2, .int q0)] jd_X_told_5 rfl (Nat.le_of_ble_eq_true rfl) rfl ?_
    refine ja_aload_nN C jd_X_told_6 0 rfl ?_
    refine ja_ifnonnullN C jd_X_told_7 ?_
    exact TH jt9_128_126 jd_X_told_10 jd_X_told_13 jd_X_told_14 jd_X_told_16 jd_X_told_19 ⟨Nat.le_of_ble_eq_true rfl, Nat.le_of_ble_eq_true rfl⟩ (fun z9 hz9 => ⟨Or.inl rfl, h.jXP jXF.rf hz9⟩)
  · obtain ⟨t, ht, et, ec⟩ := jl_ten hcn.1 hf
    obtain ⟨tk, oa, ea, -⟩ := h.2.2.2.2.2.2.2.1 t ht
    have k4 := (h.ts ht).1
    subst et
    obtain ⟨sl, p, ⟨z0, z1, z2, z3, z4⟩, hp⟩ := h.tz ht ea
    refine ja_aload_n C jd_X_told_0 0 rfl ?_
    refine ja_iload_n C jd_X_told_1 1 rfl ?_
    refine jb_pV 8 C X jk_X_122 h.obj rfl (jx_tensorAt h ht ea) jd_X_told_2 rfl rfl ⟨by decide, by decide⟩ (Nat.le_of_ble_eq_true rfl) ?_
    refine ja_astore_n C [(3, .ref oa), (0, .ref x), (1, .int (nI t)), (2, .int q0)] jd_X_told_5 rfl (Nat.le_of_ble_eq_true rfl) rfl ?_
    refine ja_aload_n C jd_X_told_6 0 rfl ?_
    refine ja_ifnonnull C 20 jd_X_told_7 (by decide) ?_
    refine ja_iload_n C jd_X_told_20 3 rfl ?_
    rcases Classical.em (q0 < 0 ∨ 11 < q0) with hq | hq
    · refine ja_tableOut C 175 jd_X_told_21 (by rcases hq with z | z; exact Or.inl (Int32.lt_iff_toInt_lt.mp z); exact Or.inr (Int32.lt_iff_toInt_lt.mp z)) (by decide) ?_
      exact TH jt9_230_52 jd_X_told_175 jd_X_told_178 jd_X_told_179 jd_X_told_181 jd_X_told_184 ⟨Nat.le_of_ble_eq_true rfl, Nat.le_of_ble_eq_true rfl⟩ (fun z9 hz9 => ⟨Or.inr rfl, h.jXP jXF.rf hz9⟩)
    · obtain ⟨r, hr, en⟩ := nI_of2 (M := 11) (n := 11) (by decide) (fun z => hq (Or.inl z)) (k2_le (fun z => hq (Or.inr z)))
      match r, hr, en with
      | 0, _, en =>
        subst en
        refine ja_tableIn C 84 jd_X_told_21 (by decide) (by decide) rfl (by decide) ?_
        refine ja_aload_n C jd_X_told_84 0 rfl ?_
        refine jZx_g C jg_X_93 jd_X_told_85 (h.tz ht ea) (fun _ _ => rfl) ?_
        refine ja_get C jg_X_187 jd_X_told_88 z1 rfl ?_
        exact E jd_X_told_91 ⟨⟨_, rfl⟩, h.jXP jXF.rf (Nat.le_refl _)⟩
      | 1, _, en =>
        subst en
        refine ja_tableIn C 92 jd_X_told_21 (by decide) (by decide) rfl (by decide) ?_
        refine ja_aload_n C jd_X_told_92 0 rfl ?_
        refine jZx_g C jg_X_93 jd_X_told_93 (h.tz ht ea) (fun _ _ => rfl) ?_
        refine ja_iload_n C jd_X_told_96 3 rfl ?_
        refine ja_iconst C (nI 1) jd_X_told_97 (by decide) ?_
        refine ja_isubN C jd_X_told_98 (by omega) ?_
        refine jb_pV 8 C X jk_X_212 z1 rfl (js_side z1 z2 (h.ts ht) (by decide)) jd_X_told_99 rfl rfl ⟨by decide, by decide⟩ (Nat.le_of_ble_eq_true rfl) ?_
        exact E jd_X_told_102 ⟨⟨_, rfl⟩, h.jXP jXF.rf (Nat.le_refl _)⟩
      | 2, _, en =>
        subst en
        refine ja_tableIn C 92 jd_X_told_21 (by decide) (by decide) rfl (by decide) ?_
        refine ja_aload_n C jd_X_told_92 0 rfl ?_
        refine jZx_g C jg_X_93 jd_X_told_93 (h.tz ht ea) (fun _ _ => rfl) ?_
        refine ja_iload_n C jd_X_told_96 3 rfl ?_
        refine ja_iconst C (nI 1) jd_X_told_97 (by decide) ?_
        refine ja_isubN C jd_X_told_98 (by omega) ?_
        refine jb_pV 8 C X jk_X_212 z1 rfl (js_side z1 z2 (h.ts ht) (by decide)) jd_X_told_99 rfl rfl ⟨by decide, by decide⟩ (Nat.le_of_ble_eq_true rfl) ?_
        exact E jd_X_told_102 ⟨⟨_, rfl⟩, h.jXP jXF.rf (Nat.le_refl _)⟩
      | 3, _, en =>
        subst en
        refine ja_tableIn C 92 jd_X_told_21 (by decide) (by decide) rfl (by decide) ?_
        refine ja_aload_n C jd_X_told_92 0 rfl ?_
        refine jZx_g C jg_X_93 jd_X_told_93 (h.tz ht ea) (fun _ _ => rfl) ?_
        refine ja_iload_n C jd_X_told_96 3 rfl ?_
        refine ja_iconst C (nI 1) jd_X_told_97 (by decide) ?_
        refine ja_isubN C jd_X_told_98 (by omega) ?_
        refine jb_pV 8 C X jk_X_212 z1 rfl (js_side z1 z2 (h.ts ht) (by decide)) jd_X_told_99 rfl rfl ⟨by decide, by decide⟩ (Nat.le_of_ble_eq_true rfl) ?_
        exact E jd_X_told_102 ⟨⟨_, rfl⟩, h.jXP jXF.rf (Nat.le_refl _)⟩
      | 4, _, en =>
        subst en
        refine ja_tableIn C 92 jd_X_told_21 (by decide) (by decide) rfl (by decide) ?_
        refine ja_aload_n C jd_X_told_92 0 rfl ?_
        refine jZx_g C jg_X_93 jd_X_told_93 (h.tz ht ea) (fun _ _ => rfl) ?_
        refine ja_iload_n C jd_X_told_96 3 rfl ?_
        refine ja_iconst C (nI 1) jd_X_told_97 (by decide) ?_
        refine ja_isubN C jd_X_told_98 (by omega) ?_
        refine jb_pV 8 C X jk_X_212 z1 rfl (js_side z1 z2 (h.ts ht) (by decide)) jd_X_told_99 rfl rfl ⟨by decide, by decide⟩ (Nat.le_of_ble_eq_true rfl) ?_
        exact E jd_X_told_102 ⟨⟨_, rfl⟩, h.jXP jXF.rf (Nat.le_refl _)⟩
      | 5, _, en =>
        subst en
        refine ja_tableIn C 103 jd_X_told_21 (by decide) (by decide) rfl (by decide) ?_
        refine ja_aload_n C jd_X_told_103 0 rfl ?_
        refine jZx_g C jg_X_93 jd_X_told_104 (h.tz ht ea) (fun _ _ => rfl) ?_
        refine jb_pV 8 C X jk_X_114 z1 rfl (js_cells z1 z2 (h.ts ht)) jd_X_told_107 rfl rfl ⟨by decide, by decide⟩ (Nat.le_of_ble_eq_true rfl) ?_
        exact E jd_X_told_110 ⟨⟨_, rfl⟩, h.jXP jXF.rf (Nat.le_refl _)⟩
      | 6, _, en =>
        subst en
        refine ja_tableIn C 111 jd_X_told_21 (by decide) (by decide) rfl (by decide) ?_
        refine ja_aload_n C jd_X_told_111 0 rfl ?_
        refine jZx_g (v := .int (nI (jT_t (jSt_T σ t)))) C jg_X_215 jd_X_told_112 (h.tz ht ea) (fun _ q => congrArg (fun z => some (Value.int z)) q) ?_
        exact E jd_X_told_115 ⟨⟨_, rfl⟩, h.jXP jXF.rf (Nat.le_refl _)⟩
      | 7, _, en =>
        subst en
        refine ja_tableIn C 116 jd_X_told_21 (by decide) (by decide) rfl (by decide) ?_
        refine ja_aload_n C jd_X_told_116 0 rfl ?_
        refine jZx_g C jg_X_73 jd_X_told_117 (h.tz ht ea) (fun _ _ => rfl) ?_
        refine ja_get C jg_X_218 jd_X_told_120 z3 rfl ?_
        exact E jd_X_told_123 ⟨⟨_, rfl⟩, h.jXP jXF.rf (Nat.le_refl _)⟩
      | 8, _, en =>
        subst en
        refine ja_tableIn C 124 jd_X_told_21 (by decide) (by decide) rfl (by decide) ?_
        refine ja_aload_n C jd_X_told_124 0 rfl ?_
        refine jZx_g C jg_X_73 jd_X_told_125 (h.tz ht ea) (fun _ _ => rfl) ?_
        refine ja_get C jg_X_221 jd_X_told_128 z3 rfl ?_
        exact E jd_X_told_131 ⟨⟨_, rfl⟩, h.jXP jXF.rf (Nat.le_refl _)⟩
      | 9, _, en =>
        subst en
        refine ja_tableIn C 132 jd_X_told_21 (by decide) (by decide) rfl (by decide) ?_
        refine ja_aload_n C jd_X_told_132 0 rfl ?_
        refine jZx_ga C jg_X_224 jd_X_told_133 (h.tz ht ea) (fun _ => ⟨_, rfl⟩) (fun v1 => ?_)
        exact E jd_X_told_136 ⟨⟨_, rfl⟩, h.jXP jXF.rf (Nat.le_refl _)⟩
      | 10, _, en =>
        subst en
        refine ja_tableIn C 137 jd_X_told_21 (by decide) (by decide) rfl (by decide) ?_
        refine ja_aload_n C jd_X_told_137 0 rfl ?_
        refine jZx_ga C jg_X_224 jd_X_told_138 (h.tz ht ea) (fun _ => ⟨_, rfl⟩) (fun v2 => ?_)
        refine ja_if_ne C 148 jd_X_told_141 (by decide) (fun c10 => ?_) (fun c10 => ?_)
        · refine ja_aload_n C jd_X_told_148 0 rfl ?_
          refine jZx_g C jg_X_227 jd_X_told_149 (h.tz ht ea) (fun _ _ => rfl) ?_
          refine ja_get C jg_X_218 jd_X_told_152 z4 rfl ?_
          exact E jd_X_told_155 ⟨⟨_, rfl⟩, h.jXP jXF.rf (Nat.le_refl _)⟩
        · refine ja_iconst C (-1) jd_X_told_144 (by decide) ?_
          refine ja_goto C 155 jd_X_told_145 (by decide) ?_
          exact E jd_X_told_155 ⟨⟨_, rfl⟩, h.jXP jXF.rf (Nat.le_refl _)⟩
      | 11, _, en =>
        subst en
        refine ja_tableIn C 156 jd_X_told_21 (by decide) (by decide) rfl (by decide) ?_
        refine ja_aload_n C jd_X_told_156 0 rfl ?_
        refine jZx_ga C jg_X_224 jd_X_told_157 (h.tz ht ea) (fun _ => ⟨_, rfl⟩) (fun v3 => ?_)
        refine ja_if_ne C 167 jd_X_told_160 (by decide) (fun c11 => ?_) (fun c11 => ?_)
        · refine ja_aload_n C jd_X_told_167 0 rfl ?_
          refine jZx_g C jg_X_227 jd_X_told_168 (h.tz ht ea) (fun _ _ => rfl) ?_
          refine ja_get C jg_X_221 jd_X_told_171 z4 rfl ?_
          exact E jd_X_told_174 ⟨⟨_, rfl⟩, h.jXP jXF.rf (Nat.le_refl _)⟩
        · refine ja_iconst C (-1) jd_X_told_163 (by decide) ?_
          refine ja_goto C 174 jd_X_told_164 (by decide) ?_
          exact E jd_X_told_174 ⟨⟨_, rfl⟩, h.jXP jXF.rf (Nat.le_refl _)⟩
      | r + 12, z, _ => omega
theorem jx_divisor {a z9 : Int32} (hst : l.stackTraces = false) (h : jXd cI cT cX x P σ dr F G own fT ls w k f m tm) : jb_T l jy_X_divisor jc_X_divisor 4 (some .long) 6 88 5 25 D H0 (jt_all cI cJ cT cX) [.ref x, .int a, .int z9] w sz
    (fun v w' sz' => (∃ y, v = some (.long y)) ∧ jXP cI cT cX x P w sz σ w' sz') (fun E w' sz' => (E = "java/lang/IndexOutOfBoundsException") ∧ jXP cI cT cX x P w sz σ w' sz') := by
  refine jb_methT_l hst (by decide) (Nat.le_of_ble_eq_true rfl) (fun u C X E TH => ?_)
  have hxd := h.xd
  have hcn := h.cn
  rcases Classical.em (a < 0 ∨ nI (jSt_c σ) ≤ a) with hf | hf
  · refine ja_aload_n C jd_X_divisor_0 0 rfl ?_
    refine ja_iload_n C jd_X_divisor_1 1 rfl ?_
    refine jb_pV 8 C X jk_X_122 h.obj rfl (jx_tensorAtN h hf) jd_X_divisor_2 rfl rfl ⟨by decide, by decide⟩ (Nat.le_of_ble_eq_true rfl) ?_
    refine ja_astore_nN C [(3, .null), (0, .ref x), (1, .int a), (2, .int z9)] jd_X_divisor_5 rfl (Nat.le_of_ble_eq_true rfl) rfl ?_
    refine ja_aload_nN C jd_X_divisor_6 0 rfl ?_
    refine ja_ifnonnullN C jd_X_divisor_7 ?_
    exact TH jt9_128_126 jd_X_divisor_10 jd_X_divisor_13 jd_X_divisor_14 jd_X_divisor_16 jd_X_divisor_19 ⟨Nat.le_of_ble_eq_true rfl, Nat.le_of_ble_eq_true rfl⟩ (fun z9 hz9 => ⟨rfl, h.jXP jXF.rf hz9⟩)
  · obtain ⟨t, ht, et, ec⟩ := jl_ten hcn.1 hf
    obtain ⟨tk, oa, ea, -⟩ := h.2.2.2.2.2.2.2.1 t ht
    have k4 := (h.ts ht).1
    subst et
    obtain ⟨sl, p, ⟨z0, z1, z2, z3, z4⟩, hp⟩ := h.tz ht ea
    refine ja_aload_n C jd_X_divisor_0 0 rfl ?_
    refine ja_iload_n C jd_X_divisor_1 1 rfl ?_
    refine jb_pV 8 C X jk_X_122 h.obj rfl (jx_tensorAt h ht ea) jd_X_divisor_2 rfl rfl ⟨by decide, by decide⟩ (Nat.le_of_ble_eq_true rfl) ?_
    refine ja_astore_n C [(3, .ref oa), (0, .ref x), (1, .int (nI t)), (2, .int z9)] jd_X_divisor_5 rfl (Nat.le_of_ble_eq_true rfl) rfl ?_
    refine ja_aload_n C jd_X_divisor_6 0 rfl ?_
    refine ja_ifnonnull C 20 jd_X_divisor_7 (by decide) ?_
    refine ja_iload_n C jd_X_divisor_20 3 rfl ?_
    refine ja_if_eq C 45 jd_X_divisor_21 (by decide) (fun c1 => ?_) (fun c1 => ?_)
    · refine ja_aload_n C jd_X_divisor_45 0 rfl ?_
      refine jZx_g C jg_X_73 jd_X_divisor_46 (h.tz ht ea) (fun _ _ => rfl) ?_
      refine ja_get C jg_X_234 jd_X_divisor_49 z3 rfl ?_
      exact E jd_X_divisor_52 ⟨⟨_, rfl⟩, h.jXP jXF.rf (Nat.le_refl _)⟩
    · refine ja_aload_n C jd_X_divisor_24 0 rfl ?_
      refine jZx_ga C jg_X_224 jd_X_divisor_25 (h.tz ht ea) (fun _ => ⟨_, rfl⟩) (fun v1 => ?_)
      refine ja_if_ne C 37 jd_X_divisor_28 (by decide) (fun c2 => ?_) (fun c2 => ?_)
      · refine ja_aload_n C jd_X_divisor_37 0 rfl ?_
        refine jZx_g C jg_X_227 jd_X_divisor_38 (h.tz ht ea) (fun _ _ => rfl) ?_
        refine ja_get C jg_X_234 jd_X_divisor_41 z4 rfl ?_
        exact E jd_X_divisor_44 ⟨⟨_, rfl⟩, h.jXP jXF.rf (Nat.le_refl _)⟩
      · refine ja_ldc2 C (-1) jq_X_232 jd_X_divisor_31 ?_
        refine ja_goto C 44 jd_X_divisor_34 (by decide) ?_
        exact E jd_X_divisor_44 ⟨⟨_, rfl⟩, h.jXP jXF.rf (Nat.le_refl _)⟩
theorem jx_all {q0 : Int32} (h : jXd cI cT cX x P σ dr F G own fT ls w k f m tm) : jb_M l jy_X_all jc_X_all 2 (some .int) 0 0 0 0 D H0 (jt_all cI cJ cT cX) [.ref x, .int q0] w sz
    (fun v w' sz' => (∃ y, v = some (.int y)) ∧ jXP cI cT cX x P w sz σ w' sz') := by
  refine jb_meth_i (by decide) (Nat.le_of_ble_eq_true rfl) (fun u C X E => ?_)
  have hcn := h.cn
  refine ja_iload_n C jd_X_all_0 1 rfl ?_
  rcases Classical.em (q0 < 0 ∨ 3 < q0) with hq | hq
  · refine ja_tableOut C 52 jd_X_all_1 (by rcases hq with z | z; exact Or.inl (Int32.lt_iff_toInt_lt.mp z); exact Or.inr (Int32.lt_iff_toInt_lt.mp z)) (by decide) ?_
    refine ja_iconst C (-1) jd_X_all_52 (by decide) ?_
    exact E jd_X_all_53 ⟨⟨_, rfl⟩, h.jXP jXF.rf (Nat.le_refl _)⟩
  · obtain ⟨r, hr, en⟩ := nI_of2 (M := 3) (n := 3) (by decide) (fun z => hq (Or.inl z)) (k2_le (fun z => hq (Or.inr z)))
    match r, hr, en with
    | 0, _, en =>
      subst en
      refine ja_tableIn C 32 jd_X_all_1 (by decide) (by decide) rfl (by decide) ?_
      refine ja_aload_n C jd_X_all_32 0 rfl ?_
      refine ja_get C jg_X_36 jd_X_all_33 h.obj rfl ?_
      exact E jd_X_all_36 ⟨⟨_, rfl⟩, h.jXP jXF.rf (Nat.le_refl _)⟩
    | 1, _, en =>
      subst en
      refine ja_tableIn C 37 jd_X_all_1 (by decide) (by decide) rfl (by decide) ?_
      refine ja_aload_n C jd_X_all_37 0 rfl ?_
      refine ja_get C jg_X_40 jd_X_all_38 h.obj rfl ?_
      exact E jd_X_all_41 ⟨⟨_, rfl⟩, h.jXP jXF.rf (Nat.le_refl _)⟩
    | 2, _, en =>
      subst en
      refine ja_tableIn C 42 jd_X_all_1 (by decide) (by decide) rfl (by decide) ?_
      refine ja_aload_n C jd_X_all_42 0 rfl ?_
      refine ja_get C jg_X_43 jd_X_all_43 h.obj rfl ?_
      exact E jd_X_all_46 ⟨⟨_, rfl⟩, h.jXP jXF.rf (Nat.le_refl _)⟩
    | 3, _, en =>
      subst en
      refine ja_tableIn C 47 jd_X_all_1 (by decide) (by decide) rfl (by decide) ?_
      refine ja_aload_n C jd_X_all_47 0 rfl ?_
      refine ja_get C jg_X_46 jd_X_all_48 h.obj rfl ?_
      exact E jd_X_all_51 ⟨⟨_, rfl⟩, h.jXP jXF.rf (Nat.le_refl _)⟩
    | r + 4, z, _ => omega
end X91
