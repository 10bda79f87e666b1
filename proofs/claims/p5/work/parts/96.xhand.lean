/-! THE CLASS: a share is handed -/
theorem jk_X_195 : jb_KV "MeasuredTensors" 195 jy_T_takeShare jc_T_takeShare 2 none 1 := ⟨jw_in (by decide +kernel) (by decide +kernel), jw_in (by decide +kernel) (by decide +kernel), jw_in (by decide +kernel) (by decide +kernel), jw_in (by decide +kernel) (by decide +kernel), jw_in (by decide +kernel) (by decide +kernel), by decide +kernel⟩
theorem jg_X_24 : ja_FL jcl "MeasuredTensors" 24 4 2 := ⟨_, rfl, by decide, jw_X, jw_in (by decide +kernel) (by decide +kernel)⟩
theorem jg_X_259 : ja_FL jcl "MeasuredTensors" 259 2 9 := ⟨_, rfl, by decide, jw_T, jw_in (by decide +kernel) (by decide +kernel)⟩
theorem jg_X_343 : ja_FL jcl "MeasuredTensors" 343 2 10 := ⟨_, rfl, by decide, jw_T, jw_in (by decide +kernel) (by decide +kernel)⟩
theorem jg_X_346 : ja_FL jcl "MeasuredTensors" 346 2 11 := ⟨_, rfl, by decide, jw_T, jw_in (by decide +kernel) (by decide +kernel)⟩
section X96
variable {l : Launch} {D : va_G} {H0 : Heap} {cI cJ cT cX : ClassId} {w : jb_W} {sz : Nat}
variable {x : Nat} {P : Nat → Prop} {σ : jSt} {dr : Nat} {F G : Nat → Option Nat} {own : Nat → Nat} {fT : Nat → Nat → Int32} {ls : Int32} {k : Nat} {f : Nat → Int32} {m : Int32 × Int32 × Int64} {tm : Int32}
theorem jx_handN {t1 o1 t2 o2 : Nat} {z9 : Int32} (h : jXd cI cT cX x P σ dr F G own fT ls w k f m tm) (ht1 : t1 < jSt_c σ) (e1 : F t1 = some o1) (ht2 : t2 < jSt_c σ) (e2 : F t2 = some o2) : jb_M l jy_X_handShare jc_X_handShare 5 none 4 100 0 0 D H0 (jt_all cI cJ cT cX) [.ref x, .ref o1, .ref o2, .null, .int z9] w sz
    (fun v w' sz' => v = none ∧ (jXd cI cT cX x P σ dr F G own fT ls w' k f m tm ∧ jXF P w w') ∧ sz' = sz) := by
  refine jb_meth_v (by decide) (Nat.le_of_ble_eq_true rfl) (fun u C X hnm E => ?_)
  have hcn := h.cn
  have hxd := h.xd
  have hx1 := h.xb e1
  have hx2 := h.xb e2
  have tl : ∀ (w2 : jb_W) (h2 : jXd cI cT cX x P σ dr F G own fT ls w2 k f m tm) (r0 : jXF P w w2), ja (jb_mk l (jb_rm 4 100 0 0) 5 "MeasuredTensors" D H0 (jt_all cI cJ cT cX) u) w2 sz 0 0 151 [(0, .ref x), (1, .ref o1), (2, .ref o2), (3, .null), (4, .int z9)] [] := by
    intro w2 h2 r0
    obtain ⟨ra, ea, qa, hs⟩ := h2.2.2.2.1
    refine ja_aload_n C jd_X_handShare_151 0 rfl ?_
    refine ja_get C jg_X_24 jd_X_handShare_152 h2.obj rfl ?_
    refine ja_iload C jd_X_handShare_155 4 rfl ?_
    refine jb_pS 8 C X jk_X_283 (jx_doublingsTo) jd_X_handShare_157 rfl rfl ⟨by decide, by decide⟩ (Nat.le_of_ble_eq_true rfl) ?_
    refine jo_vV 8 C X jk_X_265 hs rfl (jm_widen hs) jd_X_handShare_160 rfl rfl ⟨by decide, by decide⟩ (Nat.le_of_ble_eq_true rfl) (fun wI hpI => ?_)
    obtain ⟨gI, fI⟩ := hpI
    obtain ⟨hI, rI⟩ := h2.scr (Or.inl rfl) gI fI
    refine ja_aload_n C jd_X_handShare_163 2 rfl ?_
    refine ja_aload_n C jd_X_handShare_164 0 rfl ?_
    refine ja_get C jg_X_24 jd_X_handShare_165 hI.obj rfl ?_
    obtain ⟨fs9, hb9⟩ := (hI.tz ht2 e2).z0
    refine jo_vV 8 C X jk_X_195 hb9 rfl (jt_takeShare (hI.tz ht2 e2) gI (Or.inl (by omega))) jd_X_handShare_168 rfl rfl ⟨by decide, by decide⟩ (Nat.le_of_ble_eq_true rfl) (fun wJ hpJ => ?_)
    obtain ⟨zJ, fJ⟩ := hpJ
    obtain ⟨hJ, rJ⟩ := hI.updT ht2 e2 zJ fJ
    exact E jd_X_handShare_171 ⟨rfl, ⟨hJ, (r0.tr rI).tr rJ⟩, rfl⟩
  obtain ⟨r4, e4, q4, hs0⟩ := h.2.2.2.1
  obtain ⟨r5, e5, q5, hz4⟩ := (h.tz ht1 e1).z4
  refine ja_aload_n C jd_X_handShare_0 2 rfl ?_
  refine ja_ifnull C jd_X_handShare_1 ?_
  refine ja_aload_n C jd_X_handShare_4 1 rfl ?_
  refine jZx_ga C jg_X_259 jd_X_handShare_5 (h.tz ht1 e1) (fun _ => ⟨_, rfl⟩) (fun v1 => ?_)
  refine ja_iconst C (nI 1) jd_X_handShare_8 (by decide) ?_
  refine ja_icmp_eq C 20 jd_X_handShare_9 (by decide) (fun c1 => ?_) (fun c1 => ?_)
  · exact E jd_X_handShare_20 ⟨rfl, ⟨h, jXF.rf⟩, rfl⟩
  · refine ja_aload_n C jd_X_handShare_12 2 rfl ?_
    refine jZx_ga C jg_X_259 jd_X_handShare_13 (h.tz ht2 e2) (fun _ => ⟨_, rfl⟩) (fun v2 => ?_)
    refine ja_iconst C (nI 1) jd_X_handShare_16 (by decide) ?_
    refine ja_icmp_ne C 21 jd_X_handShare_17 (by decide) (fun c2 => ?_) (fun c2 => ?_)
    · refine ja_aload_n C jd_X_handShare_21 0 rfl ?_
      refine ja_get C jg_X_24 jd_X_handShare_22 h.obj rfl ?_
      refine ja_aload_n C jd_X_handShare_25 1 rfl ?_
      refine jZx_g C jg_X_227 jd_X_handShare_26 (h.tz ht1 e1) (fun _ _ => rfl) ?_
      refine jo_vV 8 C X jk_X_280 hs0 rfl (jm_copy hs0 hz4) jd_X_handShare_29 rfl rfl ⟨by decide, by decide⟩ (Nat.le_of_ble_eq_true rfl) (fun wA hpA => ?_)
      obtain ⟨gA, fA⟩ := hpA
      obtain ⟨hA, rA⟩ := h.scr (Or.inl rfl) gA fA
      refine ja_aload_n C jd_X_handShare_32 1 rfl ?_
      refine jZx_ga C jg_X_259 jd_X_handShare_33 (hA.tz ht1 e1) (fun _ => ⟨_, rfl⟩) (fun v3 => ?_)
      refine ja_iconst C (nI 3) jd_X_handShare_36 (by decide) ?_
      refine ja_icmp_ne C 62 jd_X_handShare_37 (by decide) (fun c3 => ?_) (fun c3 => ?_)
      · refine ja_aload_n C jd_X_handShare_62 1 rfl ?_
        refine jZx_ga C jg_X_259 jd_X_handShare_63 (hA.tz ht1 e1) (fun _ => ⟨_, rfl⟩) (fun v4 => ?_)
        refine ja_iconst C (nI 5) jd_X_handShare_66 (by decide) ?_
        refine ja_icmp_ne C 88 jd_X_handShare_67 (by decide) (fun c4 => ?_) (fun c4 => ?_)
        · refine ja_aload_n C jd_X_handShare_88 1 rfl ?_
          refine jZx_ga C jg_X_259 jd_X_handShare_89 (hA.tz ht1 e1) (fun _ => ⟨_, rfl⟩) (fun v5 => ?_)
          refine ja_iconst C (nI 2) jd_X_handShare_92 (by decide) ?_
          refine ja_icmp_ne C 114 jd_X_handShare_93 (by decide) (fun c5 => ?_) (fun c5 => ?_)
          · refine ja_aload_n C jd_X_handShare_114 1 rfl ?_
            refine jZx_ga C jg_X_259 jd_X_handShare_115 (hA.tz ht1 e1) (fun _ => ⟨_, rfl⟩) (fun v6 => ?_)
            refine ja_iconst C (nI 4) jd_X_handShare_118 (by decide) ?_
            refine ja_icmp_ne C 151 jd_X_handShare_119 (by decide) (fun c6 => ?_) (fun c6 => ?_)
            · exact tl _ hA rA
            · refine ja_aload_nN C jd_X_handShare_122 3 rfl ?_
              refine ja_ifnullN C 151 jd_X_handShare_123 (by decide) ?_
              exact tl _ hA rA
          · refine ja_aload_nN C jd_X_handShare_96 3 rfl ?_
            refine ja_ifnullN C 114 jd_X_handShare_97 (by decide) ?_
            refine ja_aload_n C jd_X_handShare_114 1 rfl ?_
            refine jZx_ga C jg_X_259 jd_X_handShare_115 (hA.tz ht1 e1) (fun _ => ⟨_, rfl⟩) (fun v7 => ?_)
            refine ja_iconst C (nI 4) jd_X_handShare_118 (by decide) ?_
            refine ja_icmp_ne C 151 jd_X_handShare_119 (by decide) (fun c6 => ?_) (fun c6 => ?_)
            · exact tl _ hA rA
            · refine ja_aload_nN C jd_X_handShare_122 3 rfl ?_
              refine ja_ifnullN C 151 jd_X_handShare_123 (by decide) ?_
              exact tl _ hA rA
        · refine ja_aload_n C jd_X_handShare_70 0 rfl ?_
          refine ja_get C jg_X_24 jd_X_handShare_71 hA.obj rfl ?_
          refine ja_aload_n C jd_X_handShare_74 1 rfl ?_
          refine jZx_ga C jg_X_343 jd_X_handShare_75 (hA.tz ht1 e1) (fun _ => ⟨_, rfl⟩) (fun v8 => ?_)
          refine ja_aload_n C jd_X_handShare_78 1 rfl ?_
          refine jZx_ga C jg_X_346 jd_X_handShare_79 (hA.tz ht1 e1) (fun _ => ⟨_, rfl⟩) (fun v9 => ?_)
          refine jo_vV 8 C X jk_X_332 gA rfl (jm_divide gA) jd_X_handShare_82 rfl rfl ⟨by decide, by decide⟩ (Nat.le_of_ble_eq_true rfl) (fun wK hpK => ?_)
          obtain ⟨gK, fK⟩ := hpK
          obtain ⟨hK, rK⟩ := hA.scr (Or.inl rfl) gK fK
          refine ja_goto C 151 jd_X_handShare_85 (by decide) ?_
          exact tl _ hK (rA.tr rK)
      · refine ja_aload_n C jd_X_handShare_40 0 rfl ?_
        refine ja_get C jg_X_24 jd_X_handShare_41 hA.obj rfl ?_
        refine ja_aload_n C jd_X_handShare_44 2 rfl ?_
        refine jZx_g C jg_X_73 jd_X_handShare_45 (hA.tz ht2 e2) (fun _ _ => rfl) ?_
        refine jo_vV 8 C X jk_X_256 gA rfl (jm_multiply gA (hA.tz ht2 e2).z3) jd_X_handShare_48 rfl rfl ⟨by decide, by decide⟩ (Nat.le_of_ble_eq_true rfl) (fun wL hpL => ?_)
        obtain ⟨gL, fL⟩ := hpL
        obtain ⟨hL, rL⟩ := hA.scr (Or.inl rfl) gL fL
        refine ja_aload_n C jd_X_handShare_51 0 rfl ?_
        refine ja_get C jg_X_24 jd_X_handShare_52 hL.obj rfl ?_
        refine ja_iconst C (nI 1) jd_X_handShare_55 (by decide) ?_
        refine jo_vV 8 C X jk_X_265 gL rfl (jm_widen gL) jd_X_handShare_56 rfl rfl ⟨by decide, by decide⟩ (Nat.le_of_ble_eq_true rfl) (fun wM hpM => ?_)
        obtain ⟨gM, fM⟩ := hpM
        obtain ⟨hM, rM⟩ := hL.scr (Or.inl rfl) gM fM
        refine ja_goto C 151 jd_X_handShare_59 (by decide) ?_
        exact tl _ hM ((rA.tr rL).tr rM)
    · exact E jd_X_handShare_20 ⟨rfl, ⟨h, jXF.rf⟩, rfl⟩
theorem jx_hand {t1 o1 t2 o2 t3 o3 : Nat} {z9 : Int32} (h : jXd cI cT cX x P σ dr F G own fT ls w k f m tm) (ht1 : t1 < jSt_c σ) (e1 : F t1 = some o1) (ht2 : t2 < jSt_c σ) (e2 : F t2 = some o2) (ht3 : t3 < jSt_c σ) (e3 : F t3 = some o3) : jb_M l jy_X_handShare jc_X_handShare 5 none 4 100 0 0 D H0 (jt_all cI cJ cT cX) [.ref x, .ref o1, .ref o2, .ref o3, .int z9] w sz
    (fun v w' sz' => v = none ∧ (jXd cI cT cX x P σ dr F G own fT ls w' k f m tm ∧ jXF P w w') ∧ sz' = sz) := by
  refine jb_meth_v (by decide) (Nat.le_of_ble_eq_true rfl) (fun u C X hnm E => ?_)
  have hcn := h.cn
  have hxd := h.xd
  have hx1 := h.xb e1
  have hx2 := h.xb e2
  have tl : ∀ (w2 : jb_W) (h2 : jXd cI cT cX x P σ dr F G own fT ls w2 k f m tm) (r0 : jXF P w w2), ja (jb_mk l (jb_rm 4 100 0 0) 5 "MeasuredTensors" D H0 (jt_all cI cJ cT cX) u) w2 sz 0 0 151 [(0, .ref x), (1, .ref o1), (2, .ref o2), (3, .ref o3), (4, .int z9)] [] := by
    intro w2 h2 r0
    obtain ⟨ra, ea, qa, hs⟩ := h2.2.2.2.1
    refine ja_aload_n C jd_X_handShare_151 0 rfl ?_
    refine ja_get C jg_X_24 jd_X_handShare_152 h2.obj rfl ?_
    refine ja_iload C jd_X_handShare_155 4 rfl ?_
    refine jb_pS 8 C X jk_X_283 (jx_doublingsTo) jd_X_handShare_157 rfl rfl ⟨by decide, by decide⟩ (Nat.le_of_ble_eq_true rfl) ?_
    refine jo_vV 8 C X jk_X_265 hs rfl (jm_widen hs) jd_X_handShare_160 rfl rfl ⟨by decide, by decide⟩ (Nat.le_of_ble_eq_true rfl) (fun wI hpI => ?_)
    obtain ⟨gI, fI⟩ := hpI
    obtain ⟨hI, rI⟩ := h2.scr (Or.inl rfl) gI fI
    refine ja_aload_n C jd_X_handShare_163 2 rfl ?_
    refine ja_aload_n C jd_X_handShare_164 0 rfl ?_
    refine ja_get C jg_X_24 jd_X_handShare_165 hI.obj rfl ?_
    obtain ⟨fs9, hb9⟩ := (hI.tz ht2 e2).z0
    refine jo_vV 8 C X jk_X_195 hb9 rfl (jt_takeShare (hI.tz ht2 e2) gI (Or.inl (by omega))) jd_X_handShare_168 rfl rfl ⟨by decide, by decide⟩ (Nat.le_of_ble_eq_true rfl) (fun wJ hpJ => ?_)
    obtain ⟨zJ, fJ⟩ := hpJ
    obtain ⟨hJ, rJ⟩ := hI.updT ht2 e2 zJ fJ
    exact E jd_X_handShare_171 ⟨rfl, ⟨hJ, (r0.tr rI).tr rJ⟩, rfl⟩
  obtain ⟨r4, e4, q4, hs0⟩ := h.2.2.2.1
  obtain ⟨r5, e5, q5, hz4⟩ := (h.tz ht1 e1).z4
  refine ja_aload_n C jd_X_handShare_0 2 rfl ?_
  refine ja_ifnull C jd_X_handShare_1 ?_
  refine ja_aload_n C jd_X_handShare_4 1 rfl ?_
  refine jZx_ga C jg_X_259 jd_X_handShare_5 (h.tz ht1 e1) (fun _ => ⟨_, rfl⟩) (fun v1 => ?_)
  refine ja_iconst C (nI 1) jd_X_handShare_8 (by decide) ?_
  refine ja_icmp_eq C 20 jd_X_handShare_9 (by decide) (fun c1 => ?_) (fun c1 => ?_)
  · exact E jd_X_handShare_20 ⟨rfl, ⟨h, jXF.rf⟩, rfl⟩
  · refine ja_aload_n C jd_X_handShare_12 2 rfl ?_
    refine jZx_ga C jg_X_259 jd_X_handShare_13 (h.tz ht2 e2) (fun _ => ⟨_, rfl⟩) (fun v2 => ?_)
    refine ja_iconst C (nI 1) jd_X_handShare_16 (by decide) ?_
    refine ja_icmp_ne C 21 jd_X_handShare_17 (by decide) (fun c2 => ?_) (fun c2 => ?_)
    · refine ja_aload_n C jd_X_handShare_21 0 rfl ?_
      refine ja_get C jg_X_24 jd_X_handShare_22 h.obj rfl ?_
      refine ja_aload_n C jd_X_handShare_25 1 rfl ?_
      refine jZx_g C jg_X_227 jd_X_handShare_26 (h.tz ht1 e1) (fun _ _ => rfl) ?_
      refine jo_vV 8 C X jk_X_280 hs0 rfl (jm_copy hs0 hz4) jd_X_handShare_29 rfl rfl ⟨by decide, by decide⟩ (Nat.le_of_ble_eq_true rfl) (fun wA hpA => ?_)
      obtain ⟨gA, fA⟩ := hpA
      obtain ⟨hA, rA⟩ := h.scr (Or.inl rfl) gA fA
      refine ja_aload_n C jd_X_handShare_32 1 rfl ?_
      refine jZx_ga C jg_X_259 jd_X_handShare_33 (hA.tz ht1 e1) (fun _ => ⟨_, rfl⟩) (fun v3 => ?_)
      refine ja_iconst C (nI 3) jd_X_handShare_36 (by decide) ?_
      refine ja_icmp_ne C 62 jd_X_handShare_37 (by decide) (fun c3 => ?_) (fun c3 => ?_)
      · refine ja_aload_n C jd_X_handShare_62 1 rfl ?_
        refine jZx_ga C jg_X_259 jd_X_handShare_63 (hA.tz ht1 e1) (fun _ => ⟨_, rfl⟩) (fun v4 => ?_)
        refine ja_iconst C (nI 5) jd_X_handShare_66 (by decide) ?_
        refine ja_icmp_ne C 88 jd_X_handShare_67 (by decide) (fun c4 => ?_) (fun c4 => ?_)
        · refine ja_aload_n C jd_X_handShare_88 1 rfl ?_
          refine jZx_ga C jg_X_259 jd_X_handShare_89 (hA.tz ht1 e1) (fun _ => ⟨_, rfl⟩) (fun v5 => ?_)
          refine ja_iconst C (nI 2) jd_X_handShare_92 (by decide) ?_
          refine ja_icmp_ne C 114 jd_X_handShare_93 (by decide) (fun c5 => ?_) (fun c5 => ?_)
          · refine ja_aload_n C jd_X_handShare_114 1 rfl ?_
            refine jZx_ga C jg_X_259 jd_X_handShare_115 (hA.tz ht1 e1) (fun _ => ⟨_, rfl⟩) (fun v6 => ?_)
            refine ja_iconst C (nI 4) jd_X_handShare_118 (by decide) ?_
            refine ja_icmp_ne C 151 jd_X_handShare_119 (by decide) (fun c6 => ?_) (fun c6 => ?_)
            · exact tl _ hA rA
            · refine ja_aload_n C jd_X_handShare_122 3 rfl ?_
              refine ja_ifnull C jd_X_handShare_123 ?_
              refine ja_aload_n C jd_X_handShare_126 0 rfl ?_
              refine ja_aload_n C jd_X_handShare_127 2 rfl ?_
              refine ja_aload_n C jd_X_handShare_128 3 rfl ?_
              refine jo_vV 8 C X jk_X_329 hA.obj rfl (jx_difference hA ht2 e2 ht3 e3) jd_X_handShare_129 rfl rfl ⟨by decide, by decide⟩ (Nat.le_of_ble_eq_true rfl) (fun wD hpD => ?_)
              obtain ⟨gD, hD, rD⟩ := hpD
              obtain ⟨rs, es, qs, hsD⟩ := hD.2.2.2.1
              refine ja_aload_n C jd_X_handShare_132 0 rfl ?_
              refine ja_get C jg_X_24 jd_X_handShare_133 hD.obj rfl ?_
              refine ja_aload_n C jd_X_handShare_136 0 rfl ?_
              refine ja_get C jg_X_28 jd_X_handShare_137 hD.obj rfl ?_
              refine jo_vV 8 C X jk_X_256 hsD rfl (jm_multiply hsD gD) jd_X_handShare_140 rfl rfl ⟨by decide, by decide⟩ (Nat.le_of_ble_eq_true rfl) (fun wE hpE => ?_)
              obtain ⟨gE, fE⟩ := hpE
              obtain ⟨hE, rE⟩ := hD.scr (Or.inl rfl) gE fE
              refine ja_aload_n C jd_X_handShare_143 0 rfl ?_
              refine ja_get C jg_X_24 jd_X_handShare_144 hE.obj rfl ?_
              refine ja_iconst C (nI 1) jd_X_handShare_147 (by decide) ?_
              refine jo_vV 8 C X jk_X_265 gE rfl (jm_widen gE) jd_X_handShare_148 rfl rfl ⟨by decide, by decide⟩ (Nat.le_of_ble_eq_true rfl) (fun wG hpG => ?_)
              obtain ⟨gG, fG⟩ := hpG
              obtain ⟨hG, rG⟩ := hE.scr (Or.inl rfl) gG fG
              exact tl _ hG (((rA.tr rD).tr rE).tr rG)
          · refine ja_aload_n C jd_X_handShare_96 3 rfl ?_
            refine ja_ifnull C jd_X_handShare_97 ?_
            refine ja_aload_n C jd_X_handShare_100 0 rfl ?_
            refine ja_get C jg_X_24 jd_X_handShare_101 hA.obj rfl ?_
            refine ja_aload_n C jd_X_handShare_104 3 rfl ?_
            refine jZx_g C jg_X_73 jd_X_handShare_105 (hA.tz ht3 e3) (fun _ _ => rfl) ?_
            refine jo_vV 8 C X jk_X_256 gA rfl (jm_multiply gA (hA.tz ht3 e3).z3) jd_X_handShare_108 rfl rfl ⟨by decide, by decide⟩ (Nat.le_of_ble_eq_true rfl) (fun wH hpH => ?_)
            obtain ⟨gH, fH⟩ := hpH
            obtain ⟨hH, rH⟩ := hA.scr (Or.inl rfl) gH fH
            refine ja_goto C 151 jd_X_handShare_111 (by decide) ?_
            exact tl _ hH (rA.tr rH)
        · refine ja_aload_n C jd_X_handShare_70 0 rfl ?_
          refine ja_get C jg_X_24 jd_X_handShare_71 hA.obj rfl ?_
          refine ja_aload_n C jd_X_handShare_74 1 rfl ?_
          refine jZx_ga C jg_X_343 jd_X_handShare_75 (hA.tz ht1 e1) (fun _ => ⟨_, rfl⟩) (fun v7 => ?_)
          refine ja_aload_n C jd_X_handShare_78 1 rfl ?_
          refine jZx_ga C jg_X_346 jd_X_handShare_79 (hA.tz ht1 e1) (fun _ => ⟨_, rfl⟩) (fun v8 => ?_)
          refine jo_vV 8 C X jk_X_332 gA rfl (jm_divide gA) jd_X_handShare_82 rfl rfl ⟨by decide, by decide⟩ (Nat.le_of_ble_eq_true rfl) (fun wK hpK => ?_)
          obtain ⟨gK, fK⟩ := hpK
          obtain ⟨hK, rK⟩ := hA.scr (Or.inl rfl) gK fK
          refine ja_goto C 151 jd_X_handShare_85 (by decide) ?_
          exact tl _ hK (rA.tr rK)
      · refine ja_aload_n C jd_X_handShare_40 0 rfl ?_
        refine ja_get C jg_X_24 jd_X_handShare_41 hA.obj rfl ?_
        refine ja_aload_n C jd_X_handShare_44 2 rfl ?_
        refine jZx_g C jg_X_73 jd_X_handShare_45 (hA.tz ht2 e2) (fun _ _ => rfl) ?_
        refine jo_vV 8 C X jk_X_256 gA rfl (jm_multiply gA (hA.tz ht2 e2).z3) jd_X_handShare_48 rfl rfl ⟨by decide, by decide⟩ (Nat.le_of_ble_eq_true rfl) (fun wL hpL => ?_)
        obtain ⟨gL, fL⟩ := hpL
        obtain ⟨hL, rL⟩ := hA.scr (Or.inl rfl) gL fL
        refine ja_aload_n C jd_X_handShare_51 0 rfl ?_
        refine ja_get C jg_X_24 jd_X_handShare_52 hL.obj rfl ?_
        refine ja_iconst C (nI 1) jd_X_handShare_55 (by decide) ?_
        refine jo_vV 8 C X jk_X_265 gL rfl (jm_widen gL) jd_X_handShare_56 rfl rfl ⟨by decide, by decide⟩ (Nat.le_of_ble_eq_true rfl) (fun wM hpM => ?_)
        obtain ⟨gM, fM⟩ := hpM
        obtain ⟨hM, rM⟩ := hL.scr (Or.inl rfl) gM fM
        refine ja_goto C 151 jd_X_handShare_59 (by decide) ?_
        exact tl _ hM ((rA.tr rL).tr rM)
    · exact E jd_X_handShare_20 ⟨rfl, ⟨h, jXF.rf⟩, rfl⟩
end X96
