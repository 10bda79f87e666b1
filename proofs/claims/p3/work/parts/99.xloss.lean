/-! THE CLASS: the loss -/

theorem jq_X_210 : Cond.constantLong "MeasuredTensors" 210 (lN 200000) ∈ jw_all := jw_in (by decide +kernel) (by decide +kernel)
theorem jt9_190_52 : jx_ok "MeasuredTensors" 52 190 56 "java/lang/IllegalArgumentException" "it has sides" ["java/lang/RuntimeException", "java/lang/Exception"] := ⟨by decide +kernel, by decide +kernel, jw_in (by decide +kernel) (by decide +kernel), jw_in (by decide +kernel) (by decide +kernel), by decide +kernel, by decide +kernel, by decide +kernel⟩
theorem jk_X_192 : jb_KV "MeasuredTensors" 192 jy_X_forgetSlopes jc_X_forgetSlopes 3 none 0 := ⟨jw_in (by decide +kernel) (by decide +kernel), jw_in (by decide +kernel) (by decide +kernel), jw_in (by decide +kernel) (by decide +kernel), jw_in (by decide +kernel) (by decide +kernel), jw_in (by decide +kernel) (by decide +kernel), by decide +kernel⟩
theorem jk_X_199 : jb_KV "MeasuredTensors" 199 jy_X_measureSlopes jc_X_measureSlopes 6 (some .boolean) 1 := ⟨jw_in (by decide +kernel) (by decide +kernel), jw_in (by decide +kernel) (by decide +kernel), jw_in (by decide +kernel) (by decide +kernel), jw_in (by decide +kernel) (by decide +kernel), jw_in (by decide +kernel) (by decide +kernel), by decide +kernel⟩
theorem jk_X_202 : jb_KV "MeasuredTensors" 202 jy_X_paramSlopesFit jc_X_paramSlopesFit 5 (some .boolean) 0 := ⟨jw_in (by decide +kernel) (by decide +kernel), jw_in (by decide +kernel) (by decide +kernel), jw_in (by decide +kernel) (by decide +kernel), jw_in (by decide +kernel) (by decide +kernel), jw_in (by decide +kernel) (by decide +kernel), by decide +kernel⟩
theorem jk_X_206 : jb_KV "MeasuredTensors" 206 jy_X_countLimbs jc_X_countLimbs 6 (some .long) 0 := ⟨jw_in (by decide +kernel) (by decide +kernel), jw_in (by decide +kernel) (by decide +kernel), jw_in (by decide +kernel) (by decide +kernel), jw_in (by decide +kernel) (by decide +kernel), jw_in (by decide +kernel) (by decide +kernel), by decide +kernel⟩
section X99
variable {l : Launch} {D : va_G} {H0 : Heap} {cI cJ cT cX : ClassId} {w : jb_W} {sz : Nat}
variable {x : Nat} {P : Nat → Prop} {σ : jSt} {dr : Nat} {F G : Nat → Option Nat} {own : Nat → Nat} {fT : Nat → Nat → Int32} {ls : Int32} {k : Nat} {f : Nat → Int32} {m : Int32 × Int32 × Int64} {tm : Int32}
theorem jx_loss {a : Int32} (hst : l.stackTraces = false) (h : jXd cI cT cX x P σ dr F G own fT ls w k f m tm) : jb_T l jy_X_loss jc_X_loss 6 (some .int) 6 152 5 25 D H0 (jt_all cI cJ cT cX) [.ref x, .int a] w sz
    (fun v w' sz' => (∃ y, v = some (.int y)) ∧ jXP cI cT cX x P w sz σ w' sz') (fun E w' sz' => (E = "java/lang/IndexOutOfBoundsException" ∨ E = "java/lang/IllegalArgumentException") ∧ jXP cI cT cX x P w sz σ w' sz') := by
  refine jb_methT_i hst (by decide) (Nat.le_of_ble_eq_true rfl) (fun u C X E TH => ?_)
  have hxd := h.xd
  have hcn := h.cn
  rcases Classical.em (a < 0 ∨ nI (jSt_c σ) ≤ a) with hf | hf
  · refine ja_aload_n C jd_X_loss_0 0 rfl ?_
    refine ja_iload_n C jd_X_loss_1 1 rfl ?_
    refine jb_pV 8 C X jk_X_122 h.obj rfl (jx_tensorAtN h hf) jd_X_loss_2 rfl rfl ⟨by decide, by decide⟩ (Nat.le_of_ble_eq_true rfl) ?_
    refine ja_astore_nN C [(2, .null), (0, .ref x), (1, .int a)] jd_X_loss_5 rfl (Nat.le_of_ble_eq_true rfl) rfl ?_
    refine ja_aload_nN C jd_X_loss_6 0 rfl ?_
    refine ja_ifnonnullN C jd_X_loss_7 ?_
    exact TH jt9_128_126 jd_X_loss_10 jd_X_loss_13 jd_X_loss_14 jd_X_loss_16 jd_X_loss_19 ⟨Nat.le_of_ble_eq_true rfl, Nat.le_of_ble_eq_true rfl⟩ (fun z9 hz9 => ⟨Or.inl rfl, h.jXP jXF.rf hz9⟩)
  · obtain ⟨t, ht, et, ec⟩ := jl_ten hcn.1 hf
    obtain ⟨tk, oa, ea, -⟩ := h.2.2.2.2.2.2.2.1 t ht
    have hxo := h.xb ea
    have k4 := (h.ts ht).1
    subst et
    refine ja_aload_n C jd_X_loss_0 0 rfl ?_
    refine ja_iload_n C jd_X_loss_1 1 rfl ?_
    refine jb_pV 8 C X jk_X_122 h.obj rfl (jx_tensorAt h ht ea) jd_X_loss_2 rfl rfl ⟨by decide, by decide⟩ (Nat.le_of_ble_eq_true rfl) ?_
    refine ja_astore_n C [(2, .ref oa), (0, .ref x), (1, .int (nI t))] jd_X_loss_5 rfl (Nat.le_of_ble_eq_true rfl) rfl ?_
    refine ja_aload_n C jd_X_loss_6 0 rfl ?_
    refine ja_ifnonnull C 20 jd_X_loss_7 (by decide) ?_
    refine ja_aload_n C jd_X_loss_20 0 rfl ?_
    refine jZx_g C jg_X_93 jd_X_loss_21 (h.tz ht ea) (fun _ _ => rfl) ?_
    refine ja_get C jg_X_187 jd_X_loss_24 (h.tz ht ea).z1 rfl ?_
    refine ja_if_eqN C 40 jd_X_loss_27 (by decide) (by omega) (fun c1 => ?_) (fun c1 => ?_)
    · refine ja_aload_n C jd_X_loss_40 1 rfl ?_
      refine jo_vV 8 C X jk_X_192 h.obj rfl (jx_forget h) jd_X_loss_41 rfl rfl ⟨by decide, by decide⟩ (Nat.le_of_ble_eq_true rfl) (fun wA hpA => ?_)
      obtain ⟨hA, rA⟩ := hpA
      obtain ⟨ra, es, qa, hs⟩ := hA.2.2.2.1
      refine ja_aload_n C jd_X_loss_44 1 rfl ?_
      refine ja_get C jg_X_24 jd_X_loss_45 hA.obj rfl ?_
      refine ja_iconst C (nI 1) jd_X_loss_48 (by decide) ?_
      refine ja_iconst C (nI 0) jd_X_loss_49 (by decide) ?_
      refine ja_lconst C (lN 1) jd_X_loss_50 (by decide) ?_
      refine jo_vV 8 C X jk_X_79 hs rfl (jm_set hs) jd_X_loss_51 rfl rfl ⟨by decide, by decide⟩ (Nat.le_of_ble_eq_true rfl) (fun wB hpB => ?_)
      obtain ⟨gB, fB⟩ := hpB
      obtain ⟨hB, rB⟩ := hA.scr (Or.inl rfl) gB fB
      refine ja_aload_n C jd_X_loss_54 0 rfl ?_
      refine ja_aload_n C jd_X_loss_55 1 rfl ?_
      refine ja_get C jg_X_24 jd_X_loss_56 hB.obj rfl ?_
      obtain ⟨fs9, hb9⟩ := (hB.tz ht ea).z0
      refine jo_vV 8 C X jk_X_195 hb9 rfl (jt_takeShare (hB.tz ht ea) gB (Or.inl (by omega))) jd_X_loss_59 rfl rfl ⟨by decide, by decide⟩ (Nat.le_of_ble_eq_true rfl) (fun wC hpC => ?_)
      obtain ⟨zC, fC⟩ := hpC
      obtain ⟨hC, rC⟩ := hB.updT ht ea zC fC
      refine ja_aload_n C jd_X_loss_62 1 rfl ?_
      refine ja_iload_n C jd_X_loss_63 2 rfl ?_
      refine jo_put C jp_X_46 jnf_X_8 jd_X_loss_64 hC.obj rfl rfl (Nat.le_of_ble_eq_true rfl) [.ref (x + 1), .ref (x + 2), .ref (x + 3), .ref (x + 4), .ref dr, .int (nI (jSt_c σ)), .int (nI (jSt_i σ)), .int (nI (jSt_w σ)), .int (nI t), .int (nI (jSt_p σ))] rfl (fun w1 g1 f1 => ?_)
      obtain ⟨hD, rD⟩ := hC.ls' g1 f1
      refine ja_aload_n C jd_X_loss_67 1 rfl ?_
      refine ja_iload_n C jd_X_loss_68 2 rfl ?_
      refine jb_callVw (kc := 5) (ks := 25) (mc := 0) (ms := 0) 8 C X jk_X_199 hD.obj rfl (jx_slopes hD ht) jd_X_loss_69 rfl rfl ⟨by decide, by decide⟩ (Nat.le_of_ble_eq_true rfl) (fun vE wE zE hpE => ?_)
      obtain ⟨⟨z1, e1, o1⟩, ⟨hE, rE⟩, e3⟩ := hpE
      rw [e1, e3]
      have no : ∀ (_ : True), ja (jb_mk l (jb_rm 6 152 5 25) 6 "MeasuredTensors" D H0 (jt_all cI cJ cT cX) u) wE sz 5 25 86 [(2, .ref oa), (0, .ref x), (1, .int (nI t))] [] := by
        intro _
        refine ja_iconst C (nI 0) jd_X_loss_86 (by decide) ?_
        refine ja_istore_n C [(3, .int (nI 0)), (2, .ref oa), (0, .ref x), (1, .int (nI t))] jd_X_loss_87 rfl (Nat.le_of_ble_eq_true rfl) rfl ?_
        refine ja_iload_n C jd_X_loss_88 0 rfl ?_
        refine ja_if_eqN C 99 jd_X_loss_89 (by decide) (by decide) (fun _ => ?_) (fun q => absurd q (by decide))
        refine ja_lconst C (lN 0) jd_X_loss_99 (by decide) ?_
        refine ja_lstore C [(4, .long (lN 0)), (3, .int (nI 0)), (2, .ref oa), (0, .ref x), (1, .int (nI t))] jd_X_loss_100 (Nat.le_of_ble_eq_true rfl) rfl ?_
        refine ja_iload_n C jd_X_loss_102 1 rfl ?_
        refine ja_if_eqN C 115 jd_X_loss_103 (by decide) (by decide) (fun _ => ?_) (fun q => absurd q (by decide))
        refine ja_aload_n C jd_X_loss_115 3 rfl ?_
        refine jo_vV 8 C X jk_X_192 hE.obj rfl (jx_forget hE) jd_X_loss_116 rfl rfl ⟨by decide, by decide⟩ (Nat.le_of_ble_eq_true rfl) (fun wF hpF => ?_)
        obtain ⟨hF, rF⟩ := hpF
        refine ja_aload_n C jd_X_loss_119 3 rfl ?_
        refine ja_iconst C (-1) jd_X_loss_120 (by decide) ?_
        refine jo_put C jp_X_46 jnf_X_8 jd_X_loss_121 hF.obj rfl rfl (Nat.le_of_ble_eq_true rfl) [.ref (x + 1), .ref (x + 2), .ref (x + 3), .ref (x + 4), .ref dr, .int (nI (jSt_c σ)), .int (nI (jSt_i σ)), .int (nI (jSt_w σ)), .int (-1), .int (nI (jSt_p σ))] rfl (fun w2 g2 f2 => ?_)
        obtain ⟨hF', rF'⟩ := hF.ls' g2 f2
        refine ja_bipush C (-8) jd_X_loss_124 (by decide) ?_
        exact E jd_X_loss_126 ⟨⟨_, rfl⟩, hF'.jXP ((((((rA.tr rB).tr rC).tr rD).tr rE).tr rF).tr rF') (Nat.le_refl _)⟩
      refine ja_if_eq C 86 jd_X_loss_72 (by decide) (fun c2 => ?_) (fun c2 => ?_)
      · exact no trivial
      · refine ja_aload_n C jd_X_loss_75 1 rfl ?_
        refine jb_callVw (kc := 5) (ks := 25) (mc := 0) (ms := 0) 8 C X jk_X_202 hE.obj rfl (jx_fit hE) jd_X_loss_76 rfl rfl ⟨by decide, by decide⟩ (Nat.le_of_ble_eq_true rfl) (fun vG wG zG hpG => ?_)
        obtain ⟨⟨z2, e4, o2⟩, e5, e6⟩ := hpG
        rw [e4, e5, e6]
        refine ja_if_eq C 86 jd_X_loss_79 (by decide) (fun c3 => ?_) (fun c3 => ?_)
        · exact no trivial
        · refine ja_iconst C (nI 1) jd_X_loss_82 (by decide) ?_
          refine ja_goto C 87 jd_X_loss_83 (by decide) ?_
          refine ja_istore_n C [(3, .int (nI 1)), (2, .ref oa), (0, .ref x), (1, .int (nI t))] jd_X_loss_87 rfl (Nat.le_of_ble_eq_true rfl) rfl ?_
          refine ja_iload_n C jd_X_loss_88 0 rfl ?_
          refine ja_if_eqN C 99 jd_X_loss_89 (by decide) (by decide) (fun q => absurd q (by decide)) (fun _ => ?_)
          refine ja_aload_n C jd_X_loss_92 2 rfl ?_
          refine jb_callVw (kc := 5) (ks := 25) (mc := 0) (ms := 0) 8 C X jk_X_206 hE.obj rfl (jx_limbs hE) jd_X_loss_93 rfl rfl ⟨by decide, by decide⟩ (Nat.le_of_ble_eq_true rfl) (fun vH wH zH hpH => ?_)
          obtain ⟨⟨z3, e7⟩, e8, e9⟩ := hpH
          rw [e7, e8, e9]
          refine ja_goto C 100 jd_X_loss_96 (by decide) ?_
          refine ja_lstore C [(4, .long z3), (3, .int (nI 1)), (2, .ref oa), (0, .ref x), (1, .int (nI t))] jd_X_loss_100 (Nat.le_of_ble_eq_true rfl) rfl ?_
          refine ja_iload_n C jd_X_loss_102 1 rfl ?_
          refine ja_if_eqN C 115 jd_X_loss_103 (by decide) (by decide) (fun q => absurd q (by decide)) (fun _ => ?_)
          refine ja_lload C jd_X_loss_106 0 rfl ?_
          refine ja_ldc2 C (lN 200000) jq_X_210 jd_X_loss_108 ?_
          refine ja_lcmp C jd_X_loss_111 ?_
          refine ja_if_le C 127 jd_X_loss_112 (by decide) (fun c4 => ?_) (fun c4 => ?_)
          · refine ja_lload C jd_X_loss_127 0 rfl ?_
            refine ja_l2i C jd_X_loss_129 ?_
            exact E jd_X_loss_130 ⟨⟨_, rfl⟩, hE.jXP ((((rA.tr rB).tr rC).tr rD).tr rE) (Nat.le_refl _)⟩
          · refine ja_aload_n C jd_X_loss_115 3 rfl ?_
            refine jo_vV 8 C X jk_X_192 hE.obj rfl (jx_forget hE) jd_X_loss_116 rfl rfl ⟨by decide, by decide⟩ (Nat.le_of_ble_eq_true rfl) (fun wI hpI => ?_)
            obtain ⟨hI, rI⟩ := hpI
            refine ja_aload_n C jd_X_loss_119 3 rfl ?_
            refine ja_iconst C (-1) jd_X_loss_120 (by decide) ?_
            refine jo_put C jp_X_46 jnf_X_8 jd_X_loss_121 hI.obj rfl rfl (Nat.le_of_ble_eq_true rfl) [.ref (x + 1), .ref (x + 2), .ref (x + 3), .ref (x + 4), .ref dr, .int (nI (jSt_c σ)), .int (nI (jSt_i σ)), .int (nI (jSt_w σ)), .int (-1), .int (nI (jSt_p σ))] rfl (fun w3 g3 f3 => ?_)
            obtain ⟨hI', rI'⟩ := hI.ls' g3 f3
            refine ja_bipush C (-8) jd_X_loss_124 (by decide) ?_
            exact E jd_X_loss_126 ⟨⟨_, rfl⟩, hI'.jXP ((((((rA.tr rB).tr rC).tr rD).tr rE).tr rI).tr rI') (Nat.le_refl _)⟩
    · exact TH jt9_190_52 jd_X_loss_30 jd_X_loss_33 jd_X_loss_34 jd_X_loss_36 jd_X_loss_39 ⟨Nat.le_of_ble_eq_true rfl, Nat.le_of_ble_eq_true rfl⟩ (fun z9 hz9 => ⟨Or.inr rfl, h.jXP jXF.rf hz9⟩)
end X99
