/-! THE REFERENCE: call, behind its refusals -/

theorem jk_isMany : jb_KS "MeasuredTensorsModel" 189 jy_Y_isMany jc_Y_isMany 2 (some .boolean) 2 := ⟨jw_in (by decide +kernel) (by decide +kernel), jw_in (by decide +kernel) (by decide +kernel), jw_in (by decide +kernel) (by decide +kernel), jw_in (by decide +kernel) (by decide +kernel), by decide +kernel⟩
theorem jk_apply : jb_KV "MeasuredTensorsModel" 192 jy_Y_apply jc_Y_apply 8 (some .int) 6 := ⟨jw_in (by decide +kernel) (by decide +kernel), jw_in (by decide +kernel) (by decide +kernel), jw_in (by decide +kernel) (by decide +kernel), jw_in (by decide +kernel) (by decide +kernel), jw_in (by decide +kernel) (by decide +kernel), by decide +kernel⟩
section Y45
variable {l : Launch} {D : va_G} {H0 : Heap} {cI cJ cT cX : ClassId} {w : jb_W} {sz : Nat}
variable {y : Nat} {A : Nat → Nat} {n n2 : Nat} {σ : jSt} {th rk : Int32} {N : Nat → Int32}
theorem jn_call_0 {u : jb_U} {what n0 a b m0 xx yy : Int32} {nn mm : Nat} {w2 : jb_W} (C : ja_C (jb_mk l (jb_rm 7 221 16 9728) 13 "MeasuredTensorsModel" D H0 (jt_all cI cJ cT cX) u) jc_Y_call) (X : jb_X H0 u.1.2.2) (E : jb_Ei (jb_mk l (jb_rm 7 221 16 9728) 13 "MeasuredTensorsModel" D H0 (jt_all cI cJ cT cX) u) jc_Y_call (fun v w' sz' => ∃ (x th' : Int32) (σ' : jSt), v = some (.int x) ∧ jA_call σ what n0 a b m0 xx yy x th' σ' ∧ jP cI cJ y A w sz σ' th' w' sz')) (h : jN cI cJ y A n n2 σ w2 (nI 0) rk N) (hr : jR y A w w2) (hct : jSt_c σ < 512) (hnn : nn ≤ 2) (hmm : mm ≤ 2) (ew : what = nI 0) (en : n0 = nI nn) (em : m0 = nI mm) (hx : 0 < mm → ¬ xx < 0) (hy : 1 < mm → ¬ yy < 0) (ga : 0 < nn → ¬ jl_none σ a) (gb : 1 < nn → ¬ jl_none σ b) (nw : ¬ jl_wrong what n0 m0 xx yy) (ng : ¬ jl_gone σ n0 a b) :
    ja (jb_mk l (jb_rm 7 221 16 9728) 13 "MeasuredTensorsModel" D H0 (jt_all cI cJ cT cX) u) w2 sz 16 9728 129 [(9, .int (nI 0)), (8, .int (nI 0)), (0, .ref y), (1, .int (nI 0)), (2, .int (nI nn)), (3, .int a), (4, .int b), (5, .int (nI mm)), (6, .int xx), (7, .int yy)] [] := by
  have hn := h.cn
  have hni := h.ci
  have cw : what.toNatClampNeg = 0 := by rw [ew]; exact nI_clamp (by decide)
  have cn : n0.toNatClampNeg = nn := by rw [en]; exact nI_clamp (by omega)
  have cm : m0.toNatClampNeg = mm := by rw [em]; exact nI_clamp (by omega)
  have no : ∀ (hf : ¬ jl_goes 0 nn a b mm), ja (jb_mk l (jb_rm 7 221 16 9728) 13 "MeasuredTensorsModel" D H0 (jt_all cI cJ cT cX) u) w2 sz 16 9728 228 [(11, .int (nI 0)), (10, .int (nI 1)), (9, .int (nI 0)), (8, .int (nI 0)), (0, .ref y), (1, .int (nI 0)), (2, .int (nI nn)), (3, .int a), (4, .int b), (5, .int (nI mm)), (6, .int xx), (7, .int yy)] [] := by
    intro hf
    refine ja_iconst C (nI 0) jd_Y_call_228 (by decide) ?_
    refine ja_istore C [(12, .int (nI 0)), (11, .int (nI 0)), (10, .int (nI 1)), (9, .int (nI 0)), (8, .int (nI 0)), (0, .ref y), (1, .int (nI 0)), (2, .int (nI nn)), (3, .int a), (4, .int b), (5, .int (nI mm)), (6, .int xx), (7, .int yy)] jd_Y_call_229 (Nat.le_of_ble_eq_true rfl) rfl ?_
    refine ja_iload C jd_Y_call_231 0 rfl ?_
    refine ja_if_eqN C 253 jd_Y_call_233 (by decide) (by decide) (fun _ => ?_) (fun q => absurd q (by decide))
    refine ja_bipush C (-5) jd_Y_call_253 (by decide) ?_
    exact E jd_Y_call_255 ⟨-5, 0, σ, rfl, ⟨fun z => absurd z nw, fun _ z => absurd z ng, fun _ _ => ⟨rfl, fun z => absurd (by rw [cw, cn, cm] at z; exact z) hf, fun _ => ⟨rfl, rfl⟩⟩⟩, h.jP hr⟩
  refine ja_iload_n C jd_Y_call_129 3 rfl ?_
  refine ja_bipush C (nI 8) jd_Y_call_130 (by decide) ?_
  refine ja_icmp_eqN C 159 jd_Y_call_132 (by decide) (by decide) (by decide) (fun q => absurd q (by decide)) (fun _ => ?_)
  refine ja_iload_n C jd_Y_call_135 3 rfl ?_
  refine ja_bipush C (nI 14) jd_Y_call_136 (by decide) ?_
  refine ja_icmp_eqN C 159 jd_Y_call_138 (by decide) (by decide) (by decide) (fun q => absurd q (by decide)) (fun _ => ?_)
  refine ja_iload_n C jd_Y_call_141 3 rfl ?_
  refine ja_bipush C (nI 18) jd_Y_call_142 (by decide) ?_
  refine ja_icmp_eqN C 159 jd_Y_call_144 (by decide) (by decide) (by decide) (fun q => absurd q (by decide)) (fun _ => ?_)
  refine ja_iload_n C jd_Y_call_147 3 rfl ?_
  refine ja_bipush C (nI 16) jd_Y_call_148 (by decide) ?_
  refine ja_icmp_eqN C 159 jd_Y_call_150 (by decide) (by decide) (by decide) (fun q => absurd q (by decide)) (fun _ => ?_)
  refine ja_iload_n C jd_Y_call_153 3 rfl ?_
  refine ja_bipush C (nI 17) jd_Y_call_154 (by decide) ?_
  refine ja_icmp_neN C 163 jd_Y_call_156 (by decide) (by decide) (by decide) (fun _ => ?_) (fun q => absurd q (by decide))
  refine ja_iconst C (nI 1) jd_Y_call_163 (by decide) ?_
  refine ja_istore C [(10, .int (nI 1)), (9, .int (nI 0)), (8, .int (nI 0)), (0, .ref y), (1, .int (nI 0)), (2, .int (nI nn)), (3, .int a), (4, .int b), (5, .int (nI mm)), (6, .int xx), (7, .int yy)] jd_Y_call_164 (Nat.le_of_ble_eq_true rfl) rfl ?_
  refine ja_iload_n C jd_Y_call_166 4 rfl ?_
  refine ja_bipush C (nI 16) jd_Y_call_167 (by decide) ?_
  refine ja_icmp_eqN C 178 jd_Y_call_169 (by decide) (by decide) (by decide) (fun q => absurd q (by decide)) (fun _ => ?_)
  refine ja_iload_n C jd_Y_call_172 4 rfl ?_
  refine ja_bipush C (nI 17) jd_Y_call_173 (by decide) ?_
  refine ja_icmp_neN C 182 jd_Y_call_175 (by decide) (by decide) (by decide) (fun _ => ?_) (fun q => absurd q (by decide))
  refine ja_iconst C (nI 0) jd_Y_call_182 (by decide) ?_
  refine ja_istore C [(11, .int (nI 0)), (10, .int (nI 1)), (9, .int (nI 0)), (8, .int (nI 0)), (0, .ref y), (1, .int (nI 0)), (2, .int (nI nn)), (3, .int a), (4, .int b), (5, .int (nI mm)), (6, .int xx), (7, .int yy)] jd_Y_call_183 (Nat.le_of_ble_eq_true rfl) rfl ?_
  refine ja_iload_n C jd_Y_call_185 6 rfl ?_
  refine ja_iload C jd_Y_call_186 1 rfl ?_
  refine ja_icmp_neN C 228 jd_Y_call_188 (by decide) (by omega) (by decide) (fun c188 => no (fun z => c188 z.1)) (fun c188 => ?_)
  refine ja_iload_n C jd_Y_call_191 7 rfl ?_
  refine ja_if_lt C 228 jd_Y_call_192 (by decide) (fun c192 => no (fun z => k2_nle c192 z.2.1)) (fun c192 => ?_)
  obtain ⟨ta, hta, ea⟩ := jl_tens (by omega) c192 (ga (by omega))
  subst c188
  refine ja_iload_n C jd_Y_call_195 6 rfl ?_
  refine ja_iconst C (nI 1) jd_Y_call_196 (by decide) ?_
  refine ja_icmp_eqN C 215 jd_Y_call_197 (by decide) (by decide) (by decide) (fun _ => ?_) (fun q => absurd q (by decide))
  refine ja_iload_n C jd_Y_call_215 5 rfl ?_
  refine ja_iload C jd_Y_call_216 9 rfl ?_
  refine jb_pS 8 C X jk_isMany (jn_isMany_0 (by omega)) jd_Y_call_218 rfl rfl ⟨by decide, by decide⟩ (Nat.le_of_ble_eq_true rfl) ?_
  refine ja_if_eqB C 228 jd_Y_call_221 (by decide) (fun c221 => no (fun z => c221 (of_decide_eq_true z.2.2.2))) (fun c221 => ?_)
  have hg : jl_goes what.toNatClampNeg n0.toNatClampNeg a b m0.toNatClampNeg := by
    rw [cw, cn, cm]
    exact ⟨rfl, k2_le c192, Or.inl rfl, decide_eq_true c221⟩
  subst ea
  refine ja_iconst C (nI 1) jd_Y_call_224 (by decide) ?_
  refine ja_goto C 229 jd_Y_call_225 (by decide) ?_
  refine ja_istore C [(12, .int (nI 1)), (11, .int (nI 0)), (10, .int (nI 1)), (9, .int (nI 0)), (8, .int (nI 0)), (0, .ref y), (1, .int (nI 0)), (2, .int (nI 1)), (3, .int (nI ta)), (4, .int b), (5, .int (nI mm)), (6, .int xx), (7, .int yy)] jd_Y_call_229 (Nat.le_of_ble_eq_true rfl) rfl ?_
  refine ja_iload C jd_Y_call_231 0 rfl ?_
  refine ja_if_eqN C 253 jd_Y_call_233 (by decide) (by decide) (fun q => absurd q (by decide)) (fun _ => ?_)
  refine ja_aload_n C jd_Y_call_236 5 rfl ?_
  refine ja_iload_n C jd_Y_call_237 6 rfl ?_
  refine ja_iload_n C jd_Y_call_238 8 rfl ?_
  refine ja_iload C jd_Y_call_239 9 rfl ?_
  refine ja_iload C jd_Y_call_241 10 rfl ?_
  refine ja_iload C jd_Y_call_243 11 rfl ?_
  refine ja_iload C jd_Y_call_245 12 rfl ?_
  refine jN_mV 8 C X jk_apply h rfl (jn_apply_0 h hct hta) jd_Y_call_247 rfl rfl ⟨by decide, by decide⟩ (Nat.le_of_ble_eq_true rfl) (Nat.le_of_ble_eq_true rfl) (Nat.le_of_ble_eq_true rfl) (fun x1 σ1 w1 z1 hp1 => ?_)
  obtain ⟨ha1, hq1⟩ := hp1
  refine ja_goto C 255 jd_Y_call_250 (by decide) ?_
  exact E jd_Y_call_255 ⟨x1, 0, σ1, rfl, ⟨fun z => absurd z nw, fun _ z => absurd z ng, fun _ _ => ⟨rfl, fun _ => by rw [cw, cm, nI_clamp (show ta < 2 ^ 31 by omega)]; exact ha1, fun z => absurd hg z⟩⟩, jP.from hr hq1⟩
theorem jn_call_1 {u : jb_U} {what n0 a b m0 xx yy : Int32} {nn mm : Nat} {w2 : jb_W} (C : ja_C (jb_mk l (jb_rm 7 221 16 9728) 13 "MeasuredTensorsModel" D H0 (jt_all cI cJ cT cX) u) jc_Y_call) (X : jb_X H0 u.1.2.2) (E : jb_Ei (jb_mk l (jb_rm 7 221 16 9728) 13 "MeasuredTensorsModel" D H0 (jt_all cI cJ cT cX) u) jc_Y_call (fun v w' sz' => ∃ (x th' : Int32) (σ' : jSt), v = some (.int x) ∧ jA_call σ what n0 a b m0 xx yy x th' σ' ∧ jP cI cJ y A w sz σ' th' w' sz')) (h : jN cI cJ y A n n2 σ w2 (nI 0) rk N) (hr : jR y A w w2) (hct : jSt_c σ < 512) (hnn : nn ≤ 2) (hmm : mm ≤ 2) (ew : what = nI 1) (en : n0 = nI nn) (em : m0 = nI mm) (hx : 0 < mm → ¬ xx < 0) (hy : 1 < mm → ¬ yy < 0) (ga : 0 < nn → ¬ jl_none σ a) (gb : 1 < nn → ¬ jl_none σ b) (nw : ¬ jl_wrong what n0 m0 xx yy) (ng : ¬ jl_gone σ n0 a b) :
    ja (jb_mk l (jb_rm 7 221 16 9728) 13 "MeasuredTensorsModel" D H0 (jt_all cI cJ cT cX) u) w2 sz 16 9728 129 [(9, .int (nI 0)), (8, .int (nI 0)), (0, .ref y), (1, .int (nI 1)), (2, .int (nI nn)), (3, .int a), (4, .int b), (5, .int (nI mm)), (6, .int xx), (7, .int yy)] [] := by
  have hn := h.cn
  have hni := h.ci
  have cw : what.toNatClampNeg = 1 := by rw [ew]; exact nI_clamp (by decide)
  have cn : n0.toNatClampNeg = nn := by rw [en]; exact nI_clamp (by omega)
  have cm : m0.toNatClampNeg = mm := by rw [em]; exact nI_clamp (by omega)
  have no : ∀ (hf : ¬ jl_goes 1 nn a b mm), ja (jb_mk l (jb_rm 7 221 16 9728) 13 "MeasuredTensorsModel" D H0 (jt_all cI cJ cT cX) u) w2 sz 16 9728 228 [(11, .int (nI 0)), (10, .int (nI 1)), (9, .int (nI 0)), (8, .int (nI 0)), (0, .ref y), (1, .int (nI 1)), (2, .int (nI nn)), (3, .int a), (4, .int b), (5, .int (nI mm)), (6, .int xx), (7, .int yy)] [] := by
    intro hf
    refine ja_iconst C (nI 0) jd_Y_call_228 (by decide) ?_
    refine ja_istore C [(12, .int (nI 0)), (11, .int (nI 0)), (10, .int (nI 1)), (9, .int (nI 0)), (8, .int (nI 0)), (0, .ref y), (1, .int (nI 1)), (2, .int (nI nn)), (3, .int a), (4, .int b), (5, .int (nI mm)), (6, .int xx), (7, .int yy)] jd_Y_call_229 (Nat.le_of_ble_eq_true rfl) rfl ?_
    refine ja_iload C jd_Y_call_231 0 rfl ?_
    refine ja_if_eqN C 253 jd_Y_call_233 (by decide) (by decide) (fun _ => ?_) (fun q => absurd q (by decide))
    refine ja_bipush C (-5) jd_Y_call_253 (by decide) ?_
    exact E jd_Y_call_255 ⟨-5, 0, σ, rfl, ⟨fun z => absurd z nw, fun _ z => absurd z ng, fun _ _ => ⟨rfl, fun z => absurd (by rw [cw, cn, cm] at z; exact z) hf, fun _ => ⟨rfl, rfl⟩⟩⟩, h.jP hr⟩
  refine ja_iload_n C jd_Y_call_129 3 rfl ?_
  refine ja_bipush C (nI 8) jd_Y_call_130 (by decide) ?_
  refine ja_icmp_eqN C 159 jd_Y_call_132 (by decide) (by decide) (by decide) (fun q => absurd q (by decide)) (fun _ => ?_)
  refine ja_iload_n C jd_Y_call_135 3 rfl ?_
  refine ja_bipush C (nI 14) jd_Y_call_136 (by decide) ?_
  refine ja_icmp_eqN C 159 jd_Y_call_138 (by decide) (by decide) (by decide) (fun q => absurd q (by decide)) (fun _ => ?_)
  refine ja_iload_n C jd_Y_call_141 3 rfl ?_
  refine ja_bipush C (nI 18) jd_Y_call_142 (by decide) ?_
  refine ja_icmp_eqN C 159 jd_Y_call_144 (by decide) (by decide) (by decide) (fun q => absurd q (by decide)) (fun _ => ?_)
  refine ja_iload_n C jd_Y_call_147 3 rfl ?_
  refine ja_bipush C (nI 16) jd_Y_call_148 (by decide) ?_
  refine ja_icmp_eqN C 159 jd_Y_call_150 (by decide) (by decide) (by decide) (fun q => absurd q (by decide)) (fun _ => ?_)
  refine ja_iload_n C jd_Y_call_153 3 rfl ?_
  refine ja_bipush C (nI 17) jd_Y_call_154 (by decide) ?_
  refine ja_icmp_neN C 163 jd_Y_call_156 (by decide) (by decide) (by decide) (fun _ => ?_) (fun q => absurd q (by decide))
  refine ja_iconst C (nI 1) jd_Y_call_163 (by decide) ?_
  refine ja_istore C [(10, .int (nI 1)), (9, .int (nI 0)), (8, .int (nI 0)), (0, .ref y), (1, .int (nI 1)), (2, .int (nI nn)), (3, .int a), (4, .int b), (5, .int (nI mm)), (6, .int xx), (7, .int yy)] jd_Y_call_164 (Nat.le_of_ble_eq_true rfl) rfl ?_
  refine ja_iload_n C jd_Y_call_166 4 rfl ?_
  refine ja_bipush C (nI 16) jd_Y_call_167 (by decide) ?_
  refine ja_icmp_eqN C 178 jd_Y_call_169 (by decide) (by decide) (by decide) (fun q => absurd q (by decide)) (fun _ => ?_)
  refine ja_iload_n C jd_Y_call_172 4 rfl ?_
  refine ja_bipush C (nI 17) jd_Y_call_173 (by decide) ?_
  refine ja_icmp_neN C 182 jd_Y_call_175 (by decide) (by decide) (by decide) (fun _ => ?_) (fun q => absurd q (by decide))
  refine ja_iconst C (nI 0) jd_Y_call_182 (by decide) ?_
  refine ja_istore C [(11, .int (nI 0)), (10, .int (nI 1)), (9, .int (nI 0)), (8, .int (nI 0)), (0, .ref y), (1, .int (nI 1)), (2, .int (nI nn)), (3, .int a), (4, .int b), (5, .int (nI mm)), (6, .int xx), (7, .int yy)] jd_Y_call_183 (Nat.le_of_ble_eq_true rfl) rfl ?_
  refine ja_iload_n C jd_Y_call_185 6 rfl ?_
  refine ja_iload C jd_Y_call_186 1 rfl ?_
  refine ja_icmp_neN C 228 jd_Y_call_188 (by decide) (by omega) (by decide) (fun c188 => no (fun z => c188 z.1)) (fun c188 => ?_)
  refine ja_iload_n C jd_Y_call_191 7 rfl ?_
  refine ja_if_lt C 228 jd_Y_call_192 (by decide) (fun c192 => no (fun z => k2_nle c192 z.2.1)) (fun c192 => ?_)
  obtain ⟨ta, hta, ea⟩ := jl_tens (by omega) c192 (ga (by omega))
  subst c188
  refine ja_iload_n C jd_Y_call_195 6 rfl ?_
  refine ja_iconst C (nI 1) jd_Y_call_196 (by decide) ?_
  refine ja_icmp_eqN C 215 jd_Y_call_197 (by decide) (by decide) (by decide) (fun _ => ?_) (fun q => absurd q (by decide))
  refine ja_iload_n C jd_Y_call_215 5 rfl ?_
  refine ja_iload C jd_Y_call_216 9 rfl ?_
  refine jb_pS 8 C X jk_isMany (jn_isMany_1 (by omega)) jd_Y_call_218 rfl rfl ⟨by decide, by decide⟩ (Nat.le_of_ble_eq_true rfl) ?_
  refine ja_if_eqB C 228 jd_Y_call_221 (by decide) (fun c221 => no (fun z => c221 (of_decide_eq_true z.2.2.2))) (fun c221 => ?_)
  have hg : jl_goes what.toNatClampNeg n0.toNatClampNeg a b m0.toNatClampNeg := by
    rw [cw, cn, cm]
    exact ⟨rfl, k2_le c192, Or.inl rfl, decide_eq_true c221⟩
  subst ea
  refine ja_iconst C (nI 1) jd_Y_call_224 (by decide) ?_
  refine ja_goto C 229 jd_Y_call_225 (by decide) ?_
  refine ja_istore C [(12, .int (nI 1)), (11, .int (nI 0)), (10, .int (nI 1)), (9, .int (nI 0)), (8, .int (nI 0)), (0, .ref y), (1, .int (nI 1)), (2, .int (nI 1)), (3, .int (nI ta)), (4, .int b), (5, .int (nI mm)), (6, .int xx), (7, .int yy)] jd_Y_call_229 (Nat.le_of_ble_eq_true rfl) rfl ?_
  refine ja_iload C jd_Y_call_231 0 rfl ?_
  refine ja_if_eqN C 253 jd_Y_call_233 (by decide) (by decide) (fun q => absurd q (by decide)) (fun _ => ?_)
  refine ja_aload_n C jd_Y_call_236 5 rfl ?_
  refine ja_iload_n C jd_Y_call_237 6 rfl ?_
  refine ja_iload_n C jd_Y_call_238 8 rfl ?_
  refine ja_iload C jd_Y_call_239 9 rfl ?_
  refine ja_iload C jd_Y_call_241 10 rfl ?_
  refine ja_iload C jd_Y_call_243 11 rfl ?_
  refine ja_iload C jd_Y_call_245 12 rfl ?_
  refine jN_mV 8 C X jk_apply h rfl (jn_apply_1 h hct hta) jd_Y_call_247 rfl rfl ⟨by decide, by decide⟩ (Nat.le_of_ble_eq_true rfl) (Nat.le_of_ble_eq_true rfl) (Nat.le_of_ble_eq_true rfl) (fun x1 σ1 w1 z1 hp1 => ?_)
  obtain ⟨ha1, hq1⟩ := hp1
  refine ja_goto C 255 jd_Y_call_250 (by decide) ?_
  exact E jd_Y_call_255 ⟨x1, 0, σ1, rfl, ⟨fun z => absurd z nw, fun _ z => absurd z ng, fun _ _ => ⟨rfl, fun _ => by rw [cw, cm, nI_clamp (show ta < 2 ^ 31 by omega)]; exact ha1, fun z => absurd hg z⟩⟩, jP.from hr hq1⟩
theorem jn_call_2 {u : jb_U} {what n0 a b m0 xx yy : Int32} {nn mm : Nat} {w2 : jb_W} (C : ja_C (jb_mk l (jb_rm 7 221 16 9728) 13 "MeasuredTensorsModel" D H0 (jt_all cI cJ cT cX) u) jc_Y_call) (X : jb_X H0 u.1.2.2) (E : jb_Ei (jb_mk l (jb_rm 7 221 16 9728) 13 "MeasuredTensorsModel" D H0 (jt_all cI cJ cT cX) u) jc_Y_call (fun v w' sz' => ∃ (x th' : Int32) (σ' : jSt), v = some (.int x) ∧ jA_call σ what n0 a b m0 xx yy x th' σ' ∧ jP cI cJ y A w sz σ' th' w' sz')) (h : jN cI cJ y A n n2 σ w2 (nI 0) rk N) (hr : jR y A w w2) (hct : jSt_c σ < 512) (hnn : nn ≤ 2) (hmm : mm ≤ 2) (ew : what = nI 2) (en : n0 = nI nn) (em : m0 = nI mm) (hx : 0 < mm → ¬ xx < 0) (hy : 1 < mm → ¬ yy < 0) (ga : 0 < nn → ¬ jl_none σ a) (gb : 1 < nn → ¬ jl_none σ b) (nw : ¬ jl_wrong what n0 m0 xx yy) (ng : ¬ jl_gone σ n0 a b) :
    ja (jb_mk l (jb_rm 7 221 16 9728) 13 "MeasuredTensorsModel" D H0 (jt_all cI cJ cT cX) u) w2 sz 16 9728 129 [(9, .int (nI 0)), (8, .int (nI 0)), (0, .ref y), (1, .int (nI 2)), (2, .int (nI nn)), (3, .int a), (4, .int b), (5, .int (nI mm)), (6, .int xx), (7, .int yy)] [] := by
  have hn := h.cn
  have hni := h.ci
  have cw : what.toNatClampNeg = 2 := by rw [ew]; exact nI_clamp (by decide)
  have cn : n0.toNatClampNeg = nn := by rw [en]; exact nI_clamp (by omega)
  have cm : m0.toNatClampNeg = mm := by rw [em]; exact nI_clamp (by omega)
  have no : ∀ (hf : ¬ jl_goes 2 nn a b mm), ja (jb_mk l (jb_rm 7 221 16 9728) 13 "MeasuredTensorsModel" D H0 (jt_all cI cJ cT cX) u) w2 sz 16 9728 228 [(11, .int (nI 0)), (10, .int (nI 1)), (9, .int (nI 0)), (8, .int (nI 0)), (0, .ref y), (1, .int (nI 2)), (2, .int (nI nn)), (3, .int a), (4, .int b), (5, .int (nI mm)), (6, .int xx), (7, .int yy)] [] := by
    intro hf
    refine ja_iconst C (nI 0) jd_Y_call_228 (by decide) ?_
    refine ja_istore C [(12, .int (nI 0)), (11, .int (nI 0)), (10, .int (nI 1)), (9, .int (nI 0)), (8, .int (nI 0)), (0, .ref y), (1, .int (nI 2)), (2, .int (nI nn)), (3, .int a), (4, .int b), (5, .int (nI mm)), (6, .int xx), (7, .int yy)] jd_Y_call_229 (Nat.le_of_ble_eq_true rfl) rfl ?_
    refine ja_iload C jd_Y_call_231 0 rfl ?_
    refine ja_if_eqN C 253 jd_Y_call_233 (by decide) (by decide) (fun _ => ?_) (fun q => absurd q (by decide))
    refine ja_bipush C (-5) jd_Y_call_253 (by decide) ?_
    exact E jd_Y_call_255 ⟨-5, 0, σ, rfl, ⟨fun z => absurd z nw, fun _ z => absurd z ng, fun _ _ => ⟨rfl, fun z => absurd (by rw [cw, cn, cm] at z; exact z) hf, fun _ => ⟨rfl, rfl⟩⟩⟩, h.jP hr⟩
  refine ja_iload_n C jd_Y_call_129 3 rfl ?_
  refine ja_bipush C (nI 8) jd_Y_call_130 (by decide) ?_
  refine ja_icmp_eqN C 159 jd_Y_call_132 (by decide) (by decide) (by decide) (fun q => absurd q (by decide)) (fun _ => ?_)
  refine ja_iload_n C jd_Y_call_135 3 rfl ?_
  refine ja_bipush C (nI 14) jd_Y_call_136 (by decide) ?_
  refine ja_icmp_eqN C 159 jd_Y_call_138 (by decide) (by decide) (by decide) (fun q => absurd q (by decide)) (fun _ => ?_)
  refine ja_iload_n C jd_Y_call_141 3 rfl ?_
  refine ja_bipush C (nI 18) jd_Y_call_142 (by decide) ?_
  refine ja_icmp_eqN C 159 jd_Y_call_144 (by decide) (by decide) (by decide) (fun q => absurd q (by decide)) (fun _ => ?_)
  refine ja_iload_n C jd_Y_call_147 3 rfl ?_
  refine ja_bipush C (nI 16) jd_Y_call_148 (by decide) ?_
  refine ja_icmp_eqN C 159 jd_Y_call_150 (by decide) (by decide) (by decide) (fun q => absurd q (by decide)) (fun _ => ?_)
  refine ja_iload_n C jd_Y_call_153 3 rfl ?_
  refine ja_bipush C (nI 17) jd_Y_call_154 (by decide) ?_
  refine ja_icmp_neN C 163 jd_Y_call_156 (by decide) (by decide) (by decide) (fun _ => ?_) (fun q => absurd q (by decide))
  refine ja_iconst C (nI 1) jd_Y_call_163 (by decide) ?_
  refine ja_istore C [(10, .int (nI 1)), (9, .int (nI 0)), (8, .int (nI 0)), (0, .ref y), (1, .int (nI 2)), (2, .int (nI nn)), (3, .int a), (4, .int b), (5, .int (nI mm)), (6, .int xx), (7, .int yy)] jd_Y_call_164 (Nat.le_of_ble_eq_true rfl) rfl ?_
  refine ja_iload_n C jd_Y_call_166 4 rfl ?_
  refine ja_bipush C (nI 16) jd_Y_call_167 (by decide) ?_
  refine ja_icmp_eqN C 178 jd_Y_call_169 (by decide) (by decide) (by decide) (fun q => absurd q (by decide)) (fun _ => ?_)
  refine ja_iload_n C jd_Y_call_172 4 rfl ?_
  refine ja_bipush C (nI 17) jd_Y_call_173 (by decide) ?_
  refine ja_icmp_neN C 182 jd_Y_call_175 (by decide) (by decide) (by decide) (fun _ => ?_) (fun q => absurd q (by decide))
  refine ja_iconst C (nI 0) jd_Y_call_182 (by decide) ?_
  refine ja_istore C [(11, .int (nI 0)), (10, .int (nI 1)), (9, .int (nI 0)), (8, .int (nI 0)), (0, .ref y), (1, .int (nI 2)), (2, .int (nI nn)), (3, .int a), (4, .int b), (5, .int (nI mm)), (6, .int xx), (7, .int yy)] jd_Y_call_183 (Nat.le_of_ble_eq_true rfl) rfl ?_
  refine ja_iload_n C jd_Y_call_185 6 rfl ?_
  refine ja_iload C jd_Y_call_186 1 rfl ?_
  refine ja_icmp_neN C 228 jd_Y_call_188 (by decide) (by omega) (by decide) (fun c188 => no (fun z => c188 z.1)) (fun c188 => ?_)
  refine ja_iload_n C jd_Y_call_191 7 rfl ?_
  refine ja_if_lt C 228 jd_Y_call_192 (by decide) (fun c192 => no (fun z => k2_nle c192 z.2.1)) (fun c192 => ?_)
  obtain ⟨ta, hta, ea⟩ := jl_tens (by omega) c192 (ga (by omega))
  subst c188
  refine ja_iload_n C jd_Y_call_195 6 rfl ?_
  refine ja_iconst C (nI 1) jd_Y_call_196 (by decide) ?_
  refine ja_icmp_eqN C 215 jd_Y_call_197 (by decide) (by decide) (by decide) (fun _ => ?_) (fun q => absurd q (by decide))
  refine ja_iload_n C jd_Y_call_215 5 rfl ?_
  refine ja_iload C jd_Y_call_216 9 rfl ?_
  refine jb_pS 8 C X jk_isMany (jn_isMany_2 (by omega)) jd_Y_call_218 rfl rfl ⟨by decide, by decide⟩ (Nat.le_of_ble_eq_true rfl) ?_
  refine ja_if_eqB C 228 jd_Y_call_221 (by decide) (fun c221 => no (fun z => c221 (of_decide_eq_true z.2.2.2))) (fun c221 => ?_)
  have hg : jl_goes what.toNatClampNeg n0.toNatClampNeg a b m0.toNatClampNeg := by
    rw [cw, cn, cm]
    exact ⟨rfl, k2_le c192, Or.inl rfl, decide_eq_true c221⟩
  subst ea
  refine ja_iconst C (nI 1) jd_Y_call_224 (by decide) ?_
  refine ja_goto C 229 jd_Y_call_225 (by decide) ?_
  refine ja_istore C [(12, .int (nI 1)), (11, .int (nI 0)), (10, .int (nI 1)), (9, .int (nI 0)), (8, .int (nI 0)), (0, .ref y), (1, .int (nI 2)), (2, .int (nI 1)), (3, .int (nI ta)), (4, .int b), (5, .int (nI mm)), (6, .int xx), (7, .int yy)] jd_Y_call_229 (Nat.le_of_ble_eq_true rfl) rfl ?_
  refine ja_iload C jd_Y_call_231 0 rfl ?_
  refine ja_if_eqN C 253 jd_Y_call_233 (by decide) (by decide) (fun q => absurd q (by decide)) (fun _ => ?_)
  refine ja_aload_n C jd_Y_call_236 5 rfl ?_
  refine ja_iload_n C jd_Y_call_237 6 rfl ?_
  refine ja_iload_n C jd_Y_call_238 8 rfl ?_
  refine ja_iload C jd_Y_call_239 9 rfl ?_
  refine ja_iload C jd_Y_call_241 10 rfl ?_
  refine ja_iload C jd_Y_call_243 11 rfl ?_
  refine ja_iload C jd_Y_call_245 12 rfl ?_
  refine jN_mV 8 C X jk_apply h rfl (jn_apply_2 h hct hta) jd_Y_call_247 rfl rfl ⟨by decide, by decide⟩ (Nat.le_of_ble_eq_true rfl) (Nat.le_of_ble_eq_true rfl) (Nat.le_of_ble_eq_true rfl) (fun x1 σ1 w1 z1 hp1 => ?_)
  obtain ⟨ha1, hq1⟩ := hp1
  refine ja_goto C 255 jd_Y_call_250 (by decide) ?_
  exact E jd_Y_call_255 ⟨x1, 0, σ1, rfl, ⟨fun z => absurd z nw, fun _ z => absurd z ng, fun _ _ => ⟨rfl, fun _ => by rw [cw, cm, nI_clamp (show ta < 2 ^ 31 by omega)]; exact ha1, fun z => absurd hg z⟩⟩, jP.from hr hq1⟩
theorem jn_call_3 {u : jb_U} {what n0 a b m0 xx yy : Int32} {nn mm : Nat} {w2 : jb_W} (C : ja_C (jb_mk l (jb_rm 7 221 16 9728) 13 "MeasuredTensorsModel" D H0 (jt_all cI cJ cT cX) u) jc_Y_call) (X : jb_X H0 u.1.2.2) (E : jb_Ei (jb_mk l (jb_rm 7 221 16 9728) 13 "MeasuredTensorsModel" D H0 (jt_all cI cJ cT cX) u) jc_Y_call (fun v w' sz' => ∃ (x th' : Int32) (σ' : jSt), v = some (.int x) ∧ jA_call σ what n0 a b m0 xx yy x th' σ' ∧ jP cI cJ y A w sz σ' th' w' sz')) (h : jN cI cJ y A n n2 σ w2 (nI 0) rk N) (hr : jR y A w w2) (hct : jSt_c σ < 512) (hnn : nn ≤ 2) (hmm : mm ≤ 2) (ew : what = nI 3) (en : n0 = nI nn) (em : m0 = nI mm) (hx : 0 < mm → ¬ xx < 0) (hy : 1 < mm → ¬ yy < 0) (ga : 0 < nn → ¬ jl_none σ a) (gb : 1 < nn → ¬ jl_none σ b) (nw : ¬ jl_wrong what n0 m0 xx yy) (ng : ¬ jl_gone σ n0 a b) :
    ja (jb_mk l (jb_rm 7 221 16 9728) 13 "MeasuredTensorsModel" D H0 (jt_all cI cJ cT cX) u) w2 sz 16 9728 129 [(9, .int (nI 0)), (8, .int (nI 0)), (0, .ref y), (1, .int (nI 3)), (2, .int (nI nn)), (3, .int a), (4, .int b), (5, .int (nI mm)), (6, .int xx), (7, .int yy)] [] := by
  have hn := h.cn
  have hni := h.ci
  have cw : what.toNatClampNeg = 3 := by rw [ew]; exact nI_clamp (by decide)
  have cn : n0.toNatClampNeg = nn := by rw [en]; exact nI_clamp (by omega)
  have cm : m0.toNatClampNeg = mm := by rw [em]; exact nI_clamp (by omega)
  have no : ∀ (hf : ¬ jl_goes 3 nn a b mm), ja (jb_mk l (jb_rm 7 221 16 9728) 13 "MeasuredTensorsModel" D H0 (jt_all cI cJ cT cX) u) w2 sz 16 9728 228 [(11, .int (nI 0)), (10, .int (nI 1)), (9, .int (nI 0)), (8, .int (nI 0)), (0, .ref y), (1, .int (nI 3)), (2, .int (nI nn)), (3, .int a), (4, .int b), (5, .int (nI mm)), (6, .int xx), (7, .int yy)] [] := by
    intro hf
    refine ja_iconst C (nI 0) jd_Y_call_228 (by decide) ?_
    refine ja_istore C [(12, .int (nI 0)), (11, .int (nI 0)), (10, .int (nI 1)), (9, .int (nI 0)), (8, .int (nI 0)), (0, .ref y), (1, .int (nI 3)), (2, .int (nI nn)), (3, .int a), (4, .int b), (5, .int (nI mm)), (6, .int xx), (7, .int yy)] jd_Y_call_229 (Nat.le_of_ble_eq_true rfl) rfl ?_
    refine ja_iload C jd_Y_call_231 0 rfl ?_
    refine ja_if_eqN C 253 jd_Y_call_233 (by decide) (by decide) (fun _ => ?_) (fun q => absurd q (by decide))
    refine ja_bipush C (-5) jd_Y_call_253 (by decide) ?_
    exact E jd_Y_call_255 ⟨-5, 0, σ, rfl, ⟨fun z => absurd z nw, fun _ z => absurd z ng, fun _ _ => ⟨rfl, fun z => absurd (by rw [cw, cn, cm] at z; exact z) hf, fun _ => ⟨rfl, rfl⟩⟩⟩, h.jP hr⟩
  refine ja_iload_n C jd_Y_call_129 3 rfl ?_
  refine ja_bipush C (nI 8) jd_Y_call_130 (by decide) ?_
  refine ja_icmp_eqN C 159 jd_Y_call_132 (by decide) (by decide) (by decide) (fun q => absurd q (by decide)) (fun _ => ?_)
  refine ja_iload_n C jd_Y_call_135 3 rfl ?_
  refine ja_bipush C (nI 14) jd_Y_call_136 (by decide) ?_
  refine ja_icmp_eqN C 159 jd_Y_call_138 (by decide) (by decide) (by decide) (fun q => absurd q (by decide)) (fun _ => ?_)
  refine ja_iload_n C jd_Y_call_141 3 rfl ?_
  refine ja_bipush C (nI 18) jd_Y_call_142 (by decide) ?_
  refine ja_icmp_eqN C 159 jd_Y_call_144 (by decide) (by decide) (by decide) (fun q => absurd q (by decide)) (fun _ => ?_)
  refine ja_iload_n C jd_Y_call_147 3 rfl ?_
  refine ja_bipush C (nI 16) jd_Y_call_148 (by decide) ?_
  refine ja_icmp_eqN C 159 jd_Y_call_150 (by decide) (by decide) (by decide) (fun q => absurd q (by decide)) (fun _ => ?_)
  refine ja_iload_n C jd_Y_call_153 3 rfl ?_
  refine ja_bipush C (nI 17) jd_Y_call_154 (by decide) ?_
  refine ja_icmp_neN C 163 jd_Y_call_156 (by decide) (by decide) (by decide) (fun _ => ?_) (fun q => absurd q (by decide))
  refine ja_iconst C (nI 1) jd_Y_call_163 (by decide) ?_
  refine ja_istore C [(10, .int (nI 1)), (9, .int (nI 0)), (8, .int (nI 0)), (0, .ref y), (1, .int (nI 3)), (2, .int (nI nn)), (3, .int a), (4, .int b), (5, .int (nI mm)), (6, .int xx), (7, .int yy)] jd_Y_call_164 (Nat.le_of_ble_eq_true rfl) rfl ?_
  refine ja_iload_n C jd_Y_call_166 4 rfl ?_
  refine ja_bipush C (nI 16) jd_Y_call_167 (by decide) ?_
  refine ja_icmp_eqN C 178 jd_Y_call_169 (by decide) (by decide) (by decide) (fun q => absurd q (by decide)) (fun _ => ?_)
  refine ja_iload_n C jd_Y_call_172 4 rfl ?_
  refine ja_bipush C (nI 17) jd_Y_call_173 (by decide) ?_
  refine ja_icmp_neN C 182 jd_Y_call_175 (by decide) (by decide) (by decide) (fun _ => ?_) (fun q => absurd q (by decide))
  refine ja_iconst C (nI 0) jd_Y_call_182 (by decide) ?_
  refine ja_istore C [(11, .int (nI 0)), (10, .int (nI 1)), (9, .int (nI 0)), (8, .int (nI 0)), (0, .ref y), (1, .int (nI 3)), (2, .int (nI nn)), (3, .int a), (4, .int b), (5, .int (nI mm)), (6, .int xx), (7, .int yy)] jd_Y_call_183 (Nat.le_of_ble_eq_true rfl) rfl ?_
  refine ja_iload_n C jd_Y_call_185 6 rfl ?_
  refine ja_iload C jd_Y_call_186 1 rfl ?_
  refine ja_icmp_neN C 228 jd_Y_call_188 (by decide) (by omega) (by decide) (fun c188 => no (fun z => c188 z.1)) (fun c188 => ?_)
  refine ja_iload_n C jd_Y_call_191 7 rfl ?_
  refine ja_if_lt C 228 jd_Y_call_192 (by decide) (fun c192 => no (fun z => k2_nle c192 z.2.1)) (fun c192 => ?_)
  obtain ⟨ta, hta, ea⟩ := jl_tens (by omega) c192 (ga (by omega))
  subst c188
  refine ja_iload_n C jd_Y_call_195 6 rfl ?_
  refine ja_iconst C (nI 1) jd_Y_call_196 (by decide) ?_
  refine ja_icmp_eqN C 215 jd_Y_call_197 (by decide) (by decide) (by decide) (fun _ => ?_) (fun q => absurd q (by decide))
  refine ja_iload_n C jd_Y_call_215 5 rfl ?_
  refine ja_iload C jd_Y_call_216 9 rfl ?_
  refine jb_pS 8 C X jk_isMany (jn_isMany_3 (by omega)) jd_Y_call_218 rfl rfl ⟨by decide, by decide⟩ (Nat.le_of_ble_eq_true rfl) ?_
  refine ja_if_eqB C 228 jd_Y_call_221 (by decide) (fun c221 => no (fun z => c221 (of_decide_eq_true z.2.2.2))) (fun c221 => ?_)
  have hg : jl_goes what.toNatClampNeg n0.toNatClampNeg a b m0.toNatClampNeg := by
    rw [cw, cn, cm]
    exact ⟨rfl, k2_le c192, Or.inl rfl, decide_eq_true c221⟩
  subst ea
  refine ja_iconst C (nI 1) jd_Y_call_224 (by decide) ?_
  refine ja_goto C 229 jd_Y_call_225 (by decide) ?_
  refine ja_istore C [(12, .int (nI 1)), (11, .int (nI 0)), (10, .int (nI 1)), (9, .int (nI 0)), (8, .int (nI 0)), (0, .ref y), (1, .int (nI 3)), (2, .int (nI 1)), (3, .int (nI ta)), (4, .int b), (5, .int (nI mm)), (6, .int xx), (7, .int yy)] jd_Y_call_229 (Nat.le_of_ble_eq_true rfl) rfl ?_
  refine ja_iload C jd_Y_call_231 0 rfl ?_
  refine ja_if_eqN C 253 jd_Y_call_233 (by decide) (by decide) (fun q => absurd q (by decide)) (fun _ => ?_)
  refine ja_aload_n C jd_Y_call_236 5 rfl ?_
  refine ja_iload_n C jd_Y_call_237 6 rfl ?_
  refine ja_iload_n C jd_Y_call_238 8 rfl ?_
  refine ja_iload C jd_Y_call_239 9 rfl ?_
  refine ja_iload C jd_Y_call_241 10 rfl ?_
  refine ja_iload C jd_Y_call_243 11 rfl ?_
  refine ja_iload C jd_Y_call_245 12 rfl ?_
  refine jN_mV 8 C X jk_apply h rfl (jn_apply_3 h hct hta) jd_Y_call_247 rfl rfl ⟨by decide, by decide⟩ (Nat.le_of_ble_eq_true rfl) (Nat.le_of_ble_eq_true rfl) (Nat.le_of_ble_eq_true rfl) (fun x1 σ1 w1 z1 hp1 => ?_)
  obtain ⟨ha1, hq1⟩ := hp1
  refine ja_goto C 255 jd_Y_call_250 (by decide) ?_
  exact E jd_Y_call_255 ⟨x1, 0, σ1, rfl, ⟨fun z => absurd z nw, fun _ z => absurd z ng, fun _ _ => ⟨rfl, fun _ => by rw [cw, cm, nI_clamp (show ta < 2 ^ 31 by omega)]; exact ha1, fun z => absurd hg z⟩⟩, jP.from hr hq1⟩
theorem jn_call_4 {u : jb_U} {what n0 a b m0 xx yy : Int32} {nn mm : Nat} {w2 : jb_W} (C : ja_C (jb_mk l (jb_rm 7 221 16 9728) 13 "MeasuredTensorsModel" D H0 (jt_all cI cJ cT cX) u) jc_Y_call) (X : jb_X H0 u.1.2.2) (E : jb_Ei (jb_mk l (jb_rm 7 221 16 9728) 13 "MeasuredTensorsModel" D H0 (jt_all cI cJ cT cX) u) jc_Y_call (fun v w' sz' => ∃ (x th' : Int32) (σ' : jSt), v = some (.int x) ∧ jA_call σ what n0 a b m0 xx yy x th' σ' ∧ jP cI cJ y A w sz σ' th' w' sz')) (h : jN cI cJ y A n n2 σ w2 (nI 0) rk N) (hr : jR y A w w2) (hct : jSt_c σ < 512) (hnn : nn ≤ 2) (hmm : mm ≤ 2) (ew : what = nI 4) (en : n0 = nI nn) (em : m0 = nI mm) (hx : 0 < mm → ¬ xx < 0) (hy : 1 < mm → ¬ yy < 0) (ga : 0 < nn → ¬ jl_none σ a) (gb : 1 < nn → ¬ jl_none σ b) (nw : ¬ jl_wrong what n0 m0 xx yy) (ng : ¬ jl_gone σ n0 a b) :
    ja (jb_mk l (jb_rm 7 221 16 9728) 13 "MeasuredTensorsModel" D H0 (jt_all cI cJ cT cX) u) w2 sz 16 9728 129 [(9, .int (nI 0)), (8, .int (nI 0)), (0, .ref y), (1, .int (nI 4)), (2, .int (nI nn)), (3, .int a), (4, .int b), (5, .int (nI mm)), (6, .int xx), (7, .int yy)] [] := by
  have hn := h.cn
  have hni := h.ci
  have cw : what.toNatClampNeg = 4 := by rw [ew]; exact nI_clamp (by decide)
  have cn : n0.toNatClampNeg = nn := by rw [en]; exact nI_clamp (by omega)
  have cm : m0.toNatClampNeg = mm := by rw [em]; exact nI_clamp (by omega)
  have no : ∀ (hf : ¬ jl_goes 4 nn a b mm), ja (jb_mk l (jb_rm 7 221 16 9728) 13 "MeasuredTensorsModel" D H0 (jt_all cI cJ cT cX) u) w2 sz 16 9728 228 [(11, .int (nI 0)), (10, .int (nI 1)), (9, .int (nI 0)), (8, .int (nI 0)), (0, .ref y), (1, .int (nI 4)), (2, .int (nI nn)), (3, .int a), (4, .int b), (5, .int (nI mm)), (6, .int xx), (7, .int yy)] [] := by
    intro hf
    refine ja_iconst C (nI 0) jd_Y_call_228 (by decide) ?_
    refine ja_istore C [(12, .int (nI 0)), (11, .int (nI 0)), (10, .int (nI 1)), (9, .int (nI 0)), (8, .int (nI 0)), (0, .ref y), (1, .int (nI 4)), (2, .int (nI nn)), (3, .int a), (4, .int b), (5, .int (nI mm)), (6, .int xx), (7, .int yy)] jd_Y_call_229 (Nat.le_of_ble_eq_true rfl) rfl ?_
    refine ja_iload C jd_Y_call_231 0 rfl ?_
    refine ja_if_eqN C 253 jd_Y_call_233 (by decide) (by decide) (fun _ => ?_) (fun q => absurd q (by decide))
    refine ja_bipush C (-5) jd_Y_call_253 (by decide) ?_
    exact E jd_Y_call_255 ⟨-5, 0, σ, rfl, ⟨fun z => absurd z nw, fun _ z => absurd z ng, fun _ _ => ⟨rfl, fun z => absurd (by rw [cw, cn, cm] at z; exact z) hf, fun _ => ⟨rfl, rfl⟩⟩⟩, h.jP hr⟩
  refine ja_iload_n C jd_Y_call_129 3 rfl ?_
  refine ja_bipush C (nI 8) jd_Y_call_130 (by decide) ?_
  refine ja_icmp_eqN C 159 jd_Y_call_132 (by decide) (by decide) (by decide) (fun q => absurd q (by decide)) (fun _ => ?_)
  refine ja_iload_n C jd_Y_call_135 3 rfl ?_
  refine ja_bipush C (nI 14) jd_Y_call_136 (by decide) ?_
  refine ja_icmp_eqN C 159 jd_Y_call_138 (by decide) (by decide) (by decide) (fun q => absurd q (by decide)) (fun _ => ?_)
  refine ja_iload_n C jd_Y_call_141 3 rfl ?_
  refine ja_bipush C (nI 18) jd_Y_call_142 (by decide) ?_
  refine ja_icmp_eqN C 159 jd_Y_call_144 (by decide) (by decide) (by decide) (fun q => absurd q (by decide)) (fun _ => ?_)
  refine ja_iload_n C jd_Y_call_147 3 rfl ?_
  refine ja_bipush C (nI 16) jd_Y_call_148 (by decide) ?_
  refine ja_icmp_eqN C 159 jd_Y_call_150 (by decide) (by decide) (by decide) (fun q => absurd q (by decide)) (fun _ => ?_)
  refine ja_iload_n C jd_Y_call_153 3 rfl ?_
  refine ja_bipush C (nI 17) jd_Y_call_154 (by decide) ?_
  refine ja_icmp_neN C 163 jd_Y_call_156 (by decide) (by decide) (by decide) (fun _ => ?_) (fun q => absurd q (by decide))
  refine ja_iconst C (nI 1) jd_Y_call_163 (by decide) ?_
  refine ja_istore C [(10, .int (nI 1)), (9, .int (nI 0)), (8, .int (nI 0)), (0, .ref y), (1, .int (nI 4)), (2, .int (nI nn)), (3, .int a), (4, .int b), (5, .int (nI mm)), (6, .int xx), (7, .int yy)] jd_Y_call_164 (Nat.le_of_ble_eq_true rfl) rfl ?_
  refine ja_iload_n C jd_Y_call_166 4 rfl ?_
  refine ja_bipush C (nI 16) jd_Y_call_167 (by decide) ?_
  refine ja_icmp_eqN C 178 jd_Y_call_169 (by decide) (by decide) (by decide) (fun q => absurd q (by decide)) (fun _ => ?_)
  refine ja_iload_n C jd_Y_call_172 4 rfl ?_
  refine ja_bipush C (nI 17) jd_Y_call_173 (by decide) ?_
  refine ja_icmp_neN C 182 jd_Y_call_175 (by decide) (by decide) (by decide) (fun _ => ?_) (fun q => absurd q (by decide))
  refine ja_iconst C (nI 0) jd_Y_call_182 (by decide) ?_
  refine ja_istore C [(11, .int (nI 0)), (10, .int (nI 1)), (9, .int (nI 0)), (8, .int (nI 0)), (0, .ref y), (1, .int (nI 4)), (2, .int (nI nn)), (3, .int a), (4, .int b), (5, .int (nI mm)), (6, .int xx), (7, .int yy)] jd_Y_call_183 (Nat.le_of_ble_eq_true rfl) rfl ?_
  refine ja_iload_n C jd_Y_call_185 6 rfl ?_
  refine ja_iload C jd_Y_call_186 1 rfl ?_
  refine ja_icmp_neN C 228 jd_Y_call_188 (by decide) (by omega) (by decide) (fun c188 => no (fun z => c188 z.1)) (fun c188 => ?_)
  refine ja_iload_n C jd_Y_call_191 7 rfl ?_
  refine ja_if_lt C 228 jd_Y_call_192 (by decide) (fun c192 => no (fun z => k2_nle c192 z.2.1)) (fun c192 => ?_)
  obtain ⟨ta, hta, ea⟩ := jl_tens (by omega) c192 (ga (by omega))
  subst c188
  refine ja_iload_n C jd_Y_call_195 6 rfl ?_
  refine ja_iconst C (nI 1) jd_Y_call_196 (by decide) ?_
  refine ja_icmp_eqN C 215 jd_Y_call_197 (by decide) (by decide) (by decide) (fun _ => ?_) (fun q => absurd q (by decide))
  refine ja_iload_n C jd_Y_call_215 5 rfl ?_
  refine ja_iload C jd_Y_call_216 9 rfl ?_
  refine jb_pS 8 C X jk_isMany (jn_isMany_4 (by omega)) jd_Y_call_218 rfl rfl ⟨by decide, by decide⟩ (Nat.le_of_ble_eq_true rfl) ?_
  refine ja_if_eqB C 228 jd_Y_call_221 (by decide) (fun c221 => no (fun z => c221 (of_decide_eq_true z.2.2.2))) (fun c221 => ?_)
  have hg : jl_goes what.toNatClampNeg n0.toNatClampNeg a b m0.toNatClampNeg := by
    rw [cw, cn, cm]
    exact ⟨rfl, k2_le c192, Or.inl rfl, decide_eq_true c221⟩
  subst ea
  refine ja_iconst C (nI 1) jd_Y_call_224 (by decide) ?_
  refine ja_goto C 229 jd_Y_call_225 (by decide) ?_
  refine ja_istore C [(12, .int (nI 1)), (11, .int (nI 0)), (10, .int (nI 1)), (9, .int (nI 0)), (8, .int (nI 0)), (0, .ref y), (1, .int (nI 4)), (2, .int (nI 1)), (3, .int (nI ta)), (4, .int b), (5, .int (nI mm)), (6, .int xx), (7, .int yy)] jd_Y_call_229 (Nat.le_of_ble_eq_true rfl) rfl ?_
  refine ja_iload C jd_Y_call_231 0 rfl ?_
  refine ja_if_eqN C 253 jd_Y_call_233 (by decide) (by decide) (fun q => absurd q (by decide)) (fun _ => ?_)
  refine ja_aload_n C jd_Y_call_236 5 rfl ?_
  refine ja_iload_n C jd_Y_call_237 6 rfl ?_
  refine ja_iload_n C jd_Y_call_238 8 rfl ?_
  refine ja_iload C jd_Y_call_239 9 rfl ?_
  refine ja_iload C jd_Y_call_241 10 rfl ?_
  refine ja_iload C jd_Y_call_243 11 rfl ?_
  refine ja_iload C jd_Y_call_245 12 rfl ?_
  refine jN_mV 8 C X jk_apply h rfl (jn_apply_4 h hct hta) jd_Y_call_247 rfl rfl ⟨by decide, by decide⟩ (Nat.le_of_ble_eq_true rfl) (Nat.le_of_ble_eq_true rfl) (Nat.le_of_ble_eq_true rfl) (fun x1 σ1 w1 z1 hp1 => ?_)
  obtain ⟨ha1, hq1⟩ := hp1
  refine ja_goto C 255 jd_Y_call_250 (by decide) ?_
  exact E jd_Y_call_255 ⟨x1, 0, σ1, rfl, ⟨fun z => absurd z nw, fun _ z => absurd z ng, fun _ _ => ⟨rfl, fun _ => by rw [cw, cm, nI_clamp (show ta < 2 ^ 31 by omega)]; exact ha1, fun z => absurd hg z⟩⟩, jP.from hr hq1⟩
theorem jn_call_5 {u : jb_U} {what n0 a b m0 xx yy : Int32} {nn mm : Nat} {w2 : jb_W} (C : ja_C (jb_mk l (jb_rm 7 221 16 9728) 13 "MeasuredTensorsModel" D H0 (jt_all cI cJ cT cX) u) jc_Y_call) (X : jb_X H0 u.1.2.2) (E : jb_Ei (jb_mk l (jb_rm 7 221 16 9728) 13 "MeasuredTensorsModel" D H0 (jt_all cI cJ cT cX) u) jc_Y_call (fun v w' sz' => ∃ (x th' : Int32) (σ' : jSt), v = some (.int x) ∧ jA_call σ what n0 a b m0 xx yy x th' σ' ∧ jP cI cJ y A w sz σ' th' w' sz')) (h : jN cI cJ y A n n2 σ w2 (nI 0) rk N) (hr : jR y A w w2) (hct : jSt_c σ < 512) (hnn : nn ≤ 2) (hmm : mm ≤ 2) (ew : what = nI 5) (en : n0 = nI nn) (em : m0 = nI mm) (hx : 0 < mm → ¬ xx < 0) (hy : 1 < mm → ¬ yy < 0) (ga : 0 < nn → ¬ jl_none σ a) (gb : 1 < nn → ¬ jl_none σ b) (nw : ¬ jl_wrong what n0 m0 xx yy) (ng : ¬ jl_gone σ n0 a b) :
    ja (jb_mk l (jb_rm 7 221 16 9728) 13 "MeasuredTensorsModel" D H0 (jt_all cI cJ cT cX) u) w2 sz 16 9728 129 [(9, .int (nI 0)), (8, .int (nI 0)), (0, .ref y), (1, .int (nI 5)), (2, .int (nI nn)), (3, .int a), (4, .int b), (5, .int (nI mm)), (6, .int xx), (7, .int yy)] [] := by
  have hn := h.cn
  have hni := h.ci
  have cw : what.toNatClampNeg = 5 := by rw [ew]; exact nI_clamp (by decide)
  have cn : n0.toNatClampNeg = nn := by rw [en]; exact nI_clamp (by omega)
  have cm : m0.toNatClampNeg = mm := by rw [em]; exact nI_clamp (by omega)
  have no : ∀ (hf : ¬ jl_goes 5 nn a b mm), ja (jb_mk l (jb_rm 7 221 16 9728) 13 "MeasuredTensorsModel" D H0 (jt_all cI cJ cT cX) u) w2 sz 16 9728 228 [(11, .int (nI 0)), (10, .int (nI 1)), (9, .int (nI 0)), (8, .int (nI 0)), (0, .ref y), (1, .int (nI 5)), (2, .int (nI nn)), (3, .int a), (4, .int b), (5, .int (nI mm)), (6, .int xx), (7, .int yy)] [] := by
    intro hf
    refine ja_iconst C (nI 0) jd_Y_call_228 (by decide) ?_
    refine ja_istore C [(12, .int (nI 0)), (11, .int (nI 0)), (10, .int (nI 1)), (9, .int (nI 0)), (8, .int (nI 0)), (0, .ref y), (1, .int (nI 5)), (2, .int (nI nn)), (3, .int a), (4, .int b), (5, .int (nI mm)), (6, .int xx), (7, .int yy)] jd_Y_call_229 (Nat.le_of_ble_eq_true rfl) rfl ?_
    refine ja_iload C jd_Y_call_231 0 rfl ?_
    refine ja_if_eqN C 253 jd_Y_call_233 (by decide) (by decide) (fun _ => ?_) (fun q => absurd q (by decide))
    refine ja_bipush C (-5) jd_Y_call_253 (by decide) ?_
    exact E jd_Y_call_255 ⟨-5, 0, σ, rfl, ⟨fun z => absurd z nw, fun _ z => absurd z ng, fun _ _ => ⟨rfl, fun z => absurd (by rw [cw, cn, cm] at z; exact z) hf, fun _ => ⟨rfl, rfl⟩⟩⟩, h.jP hr⟩
  refine ja_iload_n C jd_Y_call_129 3 rfl ?_
  refine ja_bipush C (nI 8) jd_Y_call_130 (by decide) ?_
  refine ja_icmp_eqN C 159 jd_Y_call_132 (by decide) (by decide) (by decide) (fun q => absurd q (by decide)) (fun _ => ?_)
  refine ja_iload_n C jd_Y_call_135 3 rfl ?_
  refine ja_bipush C (nI 14) jd_Y_call_136 (by decide) ?_
  refine ja_icmp_eqN C 159 jd_Y_call_138 (by decide) (by decide) (by decide) (fun q => absurd q (by decide)) (fun _ => ?_)
  refine ja_iload_n C jd_Y_call_141 3 rfl ?_
  refine ja_bipush C (nI 18) jd_Y_call_142 (by decide) ?_
  refine ja_icmp_eqN C 159 jd_Y_call_144 (by decide) (by decide) (by decide) (fun q => absurd q (by decide)) (fun _ => ?_)
  refine ja_iload_n C jd_Y_call_147 3 rfl ?_
  refine ja_bipush C (nI 16) jd_Y_call_148 (by decide) ?_
  refine ja_icmp_eqN C 159 jd_Y_call_150 (by decide) (by decide) (by decide) (fun q => absurd q (by decide)) (fun _ => ?_)
  refine ja_iload_n C jd_Y_call_153 3 rfl ?_
  refine ja_bipush C (nI 17) jd_Y_call_154 (by decide) ?_
  refine ja_icmp_neN C 163 jd_Y_call_156 (by decide) (by decide) (by decide) (fun _ => ?_) (fun q => absurd q (by decide))
  refine ja_iconst C (nI 1) jd_Y_call_163 (by decide) ?_
  refine ja_istore C [(10, .int (nI 1)), (9, .int (nI 0)), (8, .int (nI 0)), (0, .ref y), (1, .int (nI 5)), (2, .int (nI nn)), (3, .int a), (4, .int b), (5, .int (nI mm)), (6, .int xx), (7, .int yy)] jd_Y_call_164 (Nat.le_of_ble_eq_true rfl) rfl ?_
  refine ja_iload_n C jd_Y_call_166 4 rfl ?_
  refine ja_bipush C (nI 16) jd_Y_call_167 (by decide) ?_
  refine ja_icmp_eqN C 178 jd_Y_call_169 (by decide) (by decide) (by decide) (fun q => absurd q (by decide)) (fun _ => ?_)
  refine ja_iload_n C jd_Y_call_172 4 rfl ?_
  refine ja_bipush C (nI 17) jd_Y_call_173 (by decide) ?_
  refine ja_icmp_neN C 182 jd_Y_call_175 (by decide) (by decide) (by decide) (fun _ => ?_) (fun q => absurd q (by decide))
  refine ja_iconst C (nI 0) jd_Y_call_182 (by decide) ?_
  refine ja_istore C [(11, .int (nI 0)), (10, .int (nI 1)), (9, .int (nI 0)), (8, .int (nI 0)), (0, .ref y), (1, .int (nI 5)), (2, .int (nI nn)), (3, .int a), (4, .int b), (5, .int (nI mm)), (6, .int xx), (7, .int yy)] jd_Y_call_183 (Nat.le_of_ble_eq_true rfl) rfl ?_
  refine ja_iload_n C jd_Y_call_185 6 rfl ?_
  refine ja_iload C jd_Y_call_186 1 rfl ?_
  refine ja_icmp_neN C 228 jd_Y_call_188 (by decide) (by omega) (by decide) (fun c188 => no (fun z => c188 z.1)) (fun c188 => ?_)
  refine ja_iload_n C jd_Y_call_191 7 rfl ?_
  refine ja_if_lt C 228 jd_Y_call_192 (by decide) (fun c192 => no (fun z => k2_nle c192 z.2.1)) (fun c192 => ?_)
  obtain ⟨ta, hta, ea⟩ := jl_tens (by omega) c192 (ga (by omega))
  subst c188
  refine ja_iload_n C jd_Y_call_195 6 rfl ?_
  refine ja_iconst C (nI 1) jd_Y_call_196 (by decide) ?_
  refine ja_icmp_eqN C 215 jd_Y_call_197 (by decide) (by decide) (by decide) (fun _ => ?_) (fun q => absurd q (by decide))
  refine ja_iload_n C jd_Y_call_215 5 rfl ?_
  refine ja_iload C jd_Y_call_216 9 rfl ?_
  refine jb_pS 8 C X jk_isMany (jn_isMany_5 (by omega)) jd_Y_call_218 rfl rfl ⟨by decide, by decide⟩ (Nat.le_of_ble_eq_true rfl) ?_
  refine ja_if_eqB C 228 jd_Y_call_221 (by decide) (fun c221 => no (fun z => c221 (of_decide_eq_true z.2.2.2))) (fun c221 => ?_)
  have hg : jl_goes what.toNatClampNeg n0.toNatClampNeg a b m0.toNatClampNeg := by
    rw [cw, cn, cm]
    exact ⟨rfl, k2_le c192, Or.inl rfl, decide_eq_true c221⟩
  subst ea
  refine ja_iconst C (nI 1) jd_Y_call_224 (by decide) ?_
  refine ja_goto C 229 jd_Y_call_225 (by decide) ?_
  refine ja_istore C [(12, .int (nI 1)), (11, .int (nI 0)), (10, .int (nI 1)), (9, .int (nI 0)), (8, .int (nI 0)), (0, .ref y), (1, .int (nI 5)), (2, .int (nI 1)), (3, .int (nI ta)), (4, .int b), (5, .int (nI mm)), (6, .int xx), (7, .int yy)] jd_Y_call_229 (Nat.le_of_ble_eq_true rfl) rfl ?_
  refine ja_iload C jd_Y_call_231 0 rfl ?_
  refine ja_if_eqN C 253 jd_Y_call_233 (by decide) (by decide) (fun q => absurd q (by decide)) (fun _ => ?_)
  refine ja_aload_n C jd_Y_call_236 5 rfl ?_
  refine ja_iload_n C jd_Y_call_237 6 rfl ?_
  refine ja_iload_n C jd_Y_call_238 8 rfl ?_
  refine ja_iload C jd_Y_call_239 9 rfl ?_
  refine ja_iload C jd_Y_call_241 10 rfl ?_
  refine ja_iload C jd_Y_call_243 11 rfl ?_
  refine ja_iload C jd_Y_call_245 12 rfl ?_
  rcases Nat.eq_zero_or_pos mm with e0 | e0
  · subst e0
    refine jN_mV 8 C X jk_apply h rfl (jn_apply_5n h hct hta) jd_Y_call_247 rfl rfl ⟨by decide, by decide⟩ (Nat.le_of_ble_eq_true rfl) (Nat.le_of_ble_eq_true rfl) (Nat.le_of_ble_eq_true rfl) (fun x1 σ1 w1 z1 hp1 => ?_)
    obtain ⟨ha1, hq1⟩ := hp1
    refine ja_goto C 255 jd_Y_call_250 (by decide) ?_
    exact E jd_Y_call_255 ⟨x1, 0, σ1, rfl, ⟨fun z => absurd z nw, fun _ z => absurd z ng, fun _ _ => ⟨rfl, fun _ => by rw [cw, cm, nI_clamp (show ta < 2 ^ 31 by omega)]; exact ha1, fun z => absurd hg z⟩⟩, jP.from hr hq1⟩
  · have e1 : mm = 1 := by omega
    subst e1
    obtain ⟨k, hk9, ek⟩ := nI_of (hx (by omega))
    subst ek
    refine jN_mV 8 C X jk_apply h rfl (jn_apply_5 h hct hta hk9) jd_Y_call_247 rfl rfl ⟨by decide, by decide⟩ (Nat.le_of_ble_eq_true rfl) (Nat.le_of_ble_eq_true rfl) (Nat.le_of_ble_eq_true rfl) (fun x2 σ2 w2 z2 hp2 => ?_)
    obtain ⟨ha2, hq2⟩ := hp2
    refine ja_goto C 255 jd_Y_call_250 (by decide) ?_
    exact E jd_Y_call_255 ⟨x2, 0, σ2, rfl, ⟨fun z => absurd z nw, fun _ z => absurd z ng, fun _ _ => ⟨rfl, fun _ => by rw [cw, cm, nI_clamp (show ta < 2 ^ 31 by omega)]; show jA_s1 σ 5 ta (nI k).toNatClampNeg x2 σ2; rw [nI_clamp hk9]; exact ha2, fun z => absurd hg z⟩⟩, jP.from hr hq2⟩
theorem jn_call_6 {u : jb_U} {what n0 a b m0 xx yy : Int32} {nn mm : Nat} {w2 : jb_W} (C : ja_C (jb_mk l (jb_rm 7 221 16 9728) 13 "MeasuredTensorsModel" D H0 (jt_all cI cJ cT cX) u) jc_Y_call) (X : jb_X H0 u.1.2.2) (E : jb_Ei (jb_mk l (jb_rm 7 221 16 9728) 13 "MeasuredTensorsModel" D H0 (jt_all cI cJ cT cX) u) jc_Y_call (fun v w' sz' => ∃ (x th' : Int32) (σ' : jSt), v = some (.int x) ∧ jA_call σ what n0 a b m0 xx yy x th' σ' ∧ jP cI cJ y A w sz σ' th' w' sz')) (h : jN cI cJ y A n n2 σ w2 (nI 0) rk N) (hr : jR y A w w2) (hct : jSt_c σ < 512) (hnn : nn ≤ 2) (hmm : mm ≤ 2) (ew : what = nI 6) (en : n0 = nI nn) (em : m0 = nI mm) (hx : 0 < mm → ¬ xx < 0) (hy : 1 < mm → ¬ yy < 0) (ga : 0 < nn → ¬ jl_none σ a) (gb : 1 < nn → ¬ jl_none σ b) (nw : ¬ jl_wrong what n0 m0 xx yy) (ng : ¬ jl_gone σ n0 a b) :
    ja (jb_mk l (jb_rm 7 221 16 9728) 13 "MeasuredTensorsModel" D H0 (jt_all cI cJ cT cX) u) w2 sz 16 9728 129 [(9, .int (nI 0)), (8, .int (nI 0)), (0, .ref y), (1, .int (nI 6)), (2, .int (nI nn)), (3, .int a), (4, .int b), (5, .int (nI mm)), (6, .int xx), (7, .int yy)] [] := by
  have hn := h.cn
  have hni := h.ci
  have cw : what.toNatClampNeg = 6 := by rw [ew]; exact nI_clamp (by decide)
  have cn : n0.toNatClampNeg = nn := by rw [en]; exact nI_clamp (by omega)
  have cm : m0.toNatClampNeg = mm := by rw [em]; exact nI_clamp (by omega)
  have no : ∀ (hf : ¬ jl_goes 6 nn a b mm), ja (jb_mk l (jb_rm 7 221 16 9728) 13 "MeasuredTensorsModel" D H0 (jt_all cI cJ cT cX) u) w2 sz 16 9728 228 [(11, .int (nI 0)), (10, .int (nI 1)), (9, .int (nI 0)), (8, .int (nI 0)), (0, .ref y), (1, .int (nI 6)), (2, .int (nI nn)), (3, .int a), (4, .int b), (5, .int (nI mm)), (6, .int xx), (7, .int yy)] [] := by
    intro hf
    refine ja_iconst C (nI 0) jd_Y_call_228 (by decide) ?_
    refine ja_istore C [(12, .int (nI 0)), (11, .int (nI 0)), (10, .int (nI 1)), (9, .int (nI 0)), (8, .int (nI 0)), (0, .ref y), (1, .int (nI 6)), (2, .int (nI nn)), (3, .int a), (4, .int b), (5, .int (nI mm)), (6, .int xx), (7, .int yy)] jd_Y_call_229 (Nat.le_of_ble_eq_true rfl) rfl ?_
    refine ja_iload C jd_Y_call_231 0 rfl ?_
    refine ja_if_eqN C 253 jd_Y_call_233 (by decide) (by decide) (fun _ => ?_) (fun q => absurd q (by decide))
    refine ja_bipush C (-5) jd_Y_call_253 (by decide) ?_
    exact E jd_Y_call_255 ⟨-5, 0, σ, rfl, ⟨fun z => absurd z nw, fun _ z => absurd z ng, fun _ _ => ⟨rfl, fun z => absurd (by rw [cw, cn, cm] at z; exact z) hf, fun _ => ⟨rfl, rfl⟩⟩⟩, h.jP hr⟩
  refine ja_iload_n C jd_Y_call_129 3 rfl ?_
  refine ja_bipush C (nI 8) jd_Y_call_130 (by decide) ?_
  refine ja_icmp_eqN C 159 jd_Y_call_132 (by decide) (by decide) (by decide) (fun q => absurd q (by decide)) (fun _ => ?_)
  refine ja_iload_n C jd_Y_call_135 3 rfl ?_
  refine ja_bipush C (nI 14) jd_Y_call_136 (by decide) ?_
  refine ja_icmp_eqN C 159 jd_Y_call_138 (by decide) (by decide) (by decide) (fun q => absurd q (by decide)) (fun _ => ?_)
  refine ja_iload_n C jd_Y_call_141 3 rfl ?_
  refine ja_bipush C (nI 18) jd_Y_call_142 (by decide) ?_
  refine ja_icmp_eqN C 159 jd_Y_call_144 (by decide) (by decide) (by decide) (fun q => absurd q (by decide)) (fun _ => ?_)
  refine ja_iload_n C jd_Y_call_147 3 rfl ?_
  refine ja_bipush C (nI 16) jd_Y_call_148 (by decide) ?_
  refine ja_icmp_eqN C 159 jd_Y_call_150 (by decide) (by decide) (by decide) (fun q => absurd q (by decide)) (fun _ => ?_)
  refine ja_iload_n C jd_Y_call_153 3 rfl ?_
  refine ja_bipush C (nI 17) jd_Y_call_154 (by decide) ?_
  refine ja_icmp_neN C 163 jd_Y_call_156 (by decide) (by decide) (by decide) (fun _ => ?_) (fun q => absurd q (by decide))
  refine ja_iconst C (nI 1) jd_Y_call_163 (by decide) ?_
  refine ja_istore C [(10, .int (nI 1)), (9, .int (nI 0)), (8, .int (nI 0)), (0, .ref y), (1, .int (nI 6)), (2, .int (nI nn)), (3, .int a), (4, .int b), (5, .int (nI mm)), (6, .int xx), (7, .int yy)] jd_Y_call_164 (Nat.le_of_ble_eq_true rfl) rfl ?_
  refine ja_iload_n C jd_Y_call_166 4 rfl ?_
  refine ja_bipush C (nI 16) jd_Y_call_167 (by decide) ?_
  refine ja_icmp_eqN C 178 jd_Y_call_169 (by decide) (by decide) (by decide) (fun q => absurd q (by decide)) (fun _ => ?_)
  refine ja_iload_n C jd_Y_call_172 4 rfl ?_
  refine ja_bipush C (nI 17) jd_Y_call_173 (by decide) ?_
  refine ja_icmp_neN C 182 jd_Y_call_175 (by decide) (by decide) (by decide) (fun _ => ?_) (fun q => absurd q (by decide))
  refine ja_iconst C (nI 0) jd_Y_call_182 (by decide) ?_
  refine ja_istore C [(11, .int (nI 0)), (10, .int (nI 1)), (9, .int (nI 0)), (8, .int (nI 0)), (0, .ref y), (1, .int (nI 6)), (2, .int (nI nn)), (3, .int a), (4, .int b), (5, .int (nI mm)), (6, .int xx), (7, .int yy)] jd_Y_call_183 (Nat.le_of_ble_eq_true rfl) rfl ?_
  refine ja_iload_n C jd_Y_call_185 6 rfl ?_
  refine ja_iload C jd_Y_call_186 1 rfl ?_
  refine ja_icmp_neN C 228 jd_Y_call_188 (by decide) (by omega) (by decide) (fun c188 => no (fun z => c188 z.1)) (fun c188 => ?_)
  refine ja_iload_n C jd_Y_call_191 7 rfl ?_
  refine ja_if_lt C 228 jd_Y_call_192 (by decide) (fun c192 => no (fun z => k2_nle c192 z.2.1)) (fun c192 => ?_)
  obtain ⟨ta, hta, ea⟩ := jl_tens (by omega) c192 (ga (by omega))
  subst c188
  refine ja_iload_n C jd_Y_call_195 6 rfl ?_
  refine ja_iconst C (nI 1) jd_Y_call_196 (by decide) ?_
  refine ja_icmp_eqN C 215 jd_Y_call_197 (by decide) (by decide) (by decide) (fun _ => ?_) (fun q => absurd q (by decide))
  refine ja_iload_n C jd_Y_call_215 5 rfl ?_
  refine ja_iload C jd_Y_call_216 9 rfl ?_
  refine jb_pS 8 C X jk_isMany (jn_isMany_6 (by omega)) jd_Y_call_218 rfl rfl ⟨by decide, by decide⟩ (Nat.le_of_ble_eq_true rfl) ?_
  refine ja_if_eqB C 228 jd_Y_call_221 (by decide) (fun c221 => no (fun z => c221 (of_decide_eq_true z.2.2.2))) (fun c221 => ?_)
  have hg : jl_goes what.toNatClampNeg n0.toNatClampNeg a b m0.toNatClampNeg := by
    rw [cw, cn, cm]
    exact ⟨rfl, k2_le c192, Or.inl rfl, decide_eq_true c221⟩
  subst ea
  refine ja_iconst C (nI 1) jd_Y_call_224 (by decide) ?_
  refine ja_goto C 229 jd_Y_call_225 (by decide) ?_
  refine ja_istore C [(12, .int (nI 1)), (11, .int (nI 0)), (10, .int (nI 1)), (9, .int (nI 0)), (8, .int (nI 0)), (0, .ref y), (1, .int (nI 6)), (2, .int (nI 1)), (3, .int (nI ta)), (4, .int b), (5, .int (nI mm)), (6, .int xx), (7, .int yy)] jd_Y_call_229 (Nat.le_of_ble_eq_true rfl) rfl ?_
  refine ja_iload C jd_Y_call_231 0 rfl ?_
  refine ja_if_eqN C 253 jd_Y_call_233 (by decide) (by decide) (fun q => absurd q (by decide)) (fun _ => ?_)
  refine ja_aload_n C jd_Y_call_236 5 rfl ?_
  refine ja_iload_n C jd_Y_call_237 6 rfl ?_
  refine ja_iload_n C jd_Y_call_238 8 rfl ?_
  refine ja_iload C jd_Y_call_239 9 rfl ?_
  refine ja_iload C jd_Y_call_241 10 rfl ?_
  refine ja_iload C jd_Y_call_243 11 rfl ?_
  refine ja_iload C jd_Y_call_245 12 rfl ?_
  rcases Nat.eq_zero_or_pos mm with e0 | e0
  · subst e0
    refine jN_mV 8 C X jk_apply h rfl (jn_apply_6n h hct hta) jd_Y_call_247 rfl rfl ⟨by decide, by decide⟩ (Nat.le_of_ble_eq_true rfl) (Nat.le_of_ble_eq_true rfl) (Nat.le_of_ble_eq_true rfl) (fun x1 σ1 w1 z1 hp1 => ?_)
    obtain ⟨ha1, hq1⟩ := hp1
    refine ja_goto C 255 jd_Y_call_250 (by decide) ?_
    exact E jd_Y_call_255 ⟨x1, 0, σ1, rfl, ⟨fun z => absurd z nw, fun _ z => absurd z ng, fun _ _ => ⟨rfl, fun _ => by rw [cw, cm, nI_clamp (show ta < 2 ^ 31 by omega)]; exact ha1, fun z => absurd hg z⟩⟩, jP.from hr hq1⟩
  · have e1 : mm = 1 := by omega
    subst e1
    obtain ⟨k, hk9, ek⟩ := nI_of (hx (by omega))
    subst ek
    refine jN_mV 8 C X jk_apply h rfl (jn_apply_6 h hct hta hk9) jd_Y_call_247 rfl rfl ⟨by decide, by decide⟩ (Nat.le_of_ble_eq_true rfl) (Nat.le_of_ble_eq_true rfl) (Nat.le_of_ble_eq_true rfl) (fun x2 σ2 w2 z2 hp2 => ?_)
    obtain ⟨ha2, hq2⟩ := hp2
    refine ja_goto C 255 jd_Y_call_250 (by decide) ?_
    exact E jd_Y_call_255 ⟨x2, 0, σ2, rfl, ⟨fun z => absurd z nw, fun _ z => absurd z ng, fun _ _ => ⟨rfl, fun _ => by rw [cw, cm, nI_clamp (show ta < 2 ^ 31 by omega)]; show jA_s1 σ 6 ta (nI k).toNatClampNeg x2 σ2; rw [nI_clamp hk9]; exact ha2, fun z => absurd hg z⟩⟩, jP.from hr hq2⟩
theorem jn_call_7 {u : jb_U} {what n0 a b m0 xx yy : Int32} {nn mm : Nat} {w2 : jb_W} (C : ja_C (jb_mk l (jb_rm 7 221 16 9728) 13 "MeasuredTensorsModel" D H0 (jt_all cI cJ cT cX) u) jc_Y_call) (X : jb_X H0 u.1.2.2) (E : jb_Ei (jb_mk l (jb_rm 7 221 16 9728) 13 "MeasuredTensorsModel" D H0 (jt_all cI cJ cT cX) u) jc_Y_call (fun v w' sz' => ∃ (x th' : Int32) (σ' : jSt), v = some (.int x) ∧ jA_call σ what n0 a b m0 xx yy x th' σ' ∧ jP cI cJ y A w sz σ' th' w' sz')) (h : jN cI cJ y A n n2 σ w2 (nI 0) rk N) (hr : jR y A w w2) (hct : jSt_c σ < 512) (hnn : nn ≤ 2) (hmm : mm ≤ 2) (ew : what = nI 7) (en : n0 = nI nn) (em : m0 = nI mm) (hx : 0 < mm → ¬ xx < 0) (hy : 1 < mm → ¬ yy < 0) (ga : 0 < nn → ¬ jl_none σ a) (gb : 1 < nn → ¬ jl_none σ b) (nw : ¬ jl_wrong what n0 m0 xx yy) (ng : ¬ jl_gone σ n0 a b) :
    ja (jb_mk l (jb_rm 7 221 16 9728) 13 "MeasuredTensorsModel" D H0 (jt_all cI cJ cT cX) u) w2 sz 16 9728 129 [(9, .int (nI 0)), (8, .int (nI 0)), (0, .ref y), (1, .int (nI 7)), (2, .int (nI nn)), (3, .int a), (4, .int b), (5, .int (nI mm)), (6, .int xx), (7, .int yy)] [] := by
  have hn := h.cn
  have hni := h.ci
  have cw : what.toNatClampNeg = 7 := by rw [ew]; exact nI_clamp (by decide)
  have cn : n0.toNatClampNeg = nn := by rw [en]; exact nI_clamp (by omega)
  have cm : m0.toNatClampNeg = mm := by rw [em]; exact nI_clamp (by omega)
  have no : ∀ (hf : ¬ jl_goes 7 nn a b mm), ja (jb_mk l (jb_rm 7 221 16 9728) 13 "MeasuredTensorsModel" D H0 (jt_all cI cJ cT cX) u) w2 sz 16 9728 228 [(11, .int (nI 0)), (10, .int (nI 1)), (9, .int (nI 0)), (8, .int (nI 0)), (0, .ref y), (1, .int (nI 7)), (2, .int (nI nn)), (3, .int a), (4, .int b), (5, .int (nI mm)), (6, .int xx), (7, .int yy)] [] := by
    intro hf
    refine ja_iconst C (nI 0) jd_Y_call_228 (by decide) ?_
    refine ja_istore C [(12, .int (nI 0)), (11, .int (nI 0)), (10, .int (nI 1)), (9, .int (nI 0)), (8, .int (nI 0)), (0, .ref y), (1, .int (nI 7)), (2, .int (nI nn)), (3, .int a), (4, .int b), (5, .int (nI mm)), (6, .int xx), (7, .int yy)] jd_Y_call_229 (Nat.le_of_ble_eq_true rfl) rfl ?_
    refine ja_iload C jd_Y_call_231 0 rfl ?_
    refine ja_if_eqN C 253 jd_Y_call_233 (by decide) (by decide) (fun _ => ?_) (fun q => absurd q (by decide))
    refine ja_bipush C (-5) jd_Y_call_253 (by decide) ?_
    exact E jd_Y_call_255 ⟨-5, 0, σ, rfl, ⟨fun z => absurd z nw, fun _ z => absurd z ng, fun _ _ => ⟨rfl, fun z => absurd (by rw [cw, cn, cm] at z; exact z) hf, fun _ => ⟨rfl, rfl⟩⟩⟩, h.jP hr⟩
  refine ja_iload_n C jd_Y_call_129 3 rfl ?_
  refine ja_bipush C (nI 8) jd_Y_call_130 (by decide) ?_
  refine ja_icmp_eqN C 159 jd_Y_call_132 (by decide) (by decide) (by decide) (fun q => absurd q (by decide)) (fun _ => ?_)
  refine ja_iload_n C jd_Y_call_135 3 rfl ?_
  refine ja_bipush C (nI 14) jd_Y_call_136 (by decide) ?_
  refine ja_icmp_eqN C 159 jd_Y_call_138 (by decide) (by decide) (by decide) (fun q => absurd q (by decide)) (fun _ => ?_)
  refine ja_iload_n C jd_Y_call_141 3 rfl ?_
  refine ja_bipush C (nI 18) jd_Y_call_142 (by decide) ?_
  refine ja_icmp_eqN C 159 jd_Y_call_144 (by decide) (by decide) (by decide) (fun q => absurd q (by decide)) (fun _ => ?_)
  refine ja_iload_n C jd_Y_call_147 3 rfl ?_
  refine ja_bipush C (nI 16) jd_Y_call_148 (by decide) ?_
  refine ja_icmp_eqN C 159 jd_Y_call_150 (by decide) (by decide) (by decide) (fun q => absurd q (by decide)) (fun _ => ?_)
  refine ja_iload_n C jd_Y_call_153 3 rfl ?_
  refine ja_bipush C (nI 17) jd_Y_call_154 (by decide) ?_
  refine ja_icmp_neN C 163 jd_Y_call_156 (by decide) (by decide) (by decide) (fun _ => ?_) (fun q => absurd q (by decide))
  refine ja_iconst C (nI 1) jd_Y_call_163 (by decide) ?_
  refine ja_istore C [(10, .int (nI 1)), (9, .int (nI 0)), (8, .int (nI 0)), (0, .ref y), (1, .int (nI 7)), (2, .int (nI nn)), (3, .int a), (4, .int b), (5, .int (nI mm)), (6, .int xx), (7, .int yy)] jd_Y_call_164 (Nat.le_of_ble_eq_true rfl) rfl ?_
  refine ja_iload_n C jd_Y_call_166 4 rfl ?_
  refine ja_bipush C (nI 16) jd_Y_call_167 (by decide) ?_
  refine ja_icmp_eqN C 178 jd_Y_call_169 (by decide) (by decide) (by decide) (fun q => absurd q (by decide)) (fun _ => ?_)
  refine ja_iload_n C jd_Y_call_172 4 rfl ?_
  refine ja_bipush C (nI 17) jd_Y_call_173 (by decide) ?_
  refine ja_icmp_neN C 182 jd_Y_call_175 (by decide) (by decide) (by decide) (fun _ => ?_) (fun q => absurd q (by decide))
  refine ja_iconst C (nI 0) jd_Y_call_182 (by decide) ?_
  refine ja_istore C [(11, .int (nI 0)), (10, .int (nI 1)), (9, .int (nI 0)), (8, .int (nI 0)), (0, .ref y), (1, .int (nI 7)), (2, .int (nI nn)), (3, .int a), (4, .int b), (5, .int (nI mm)), (6, .int xx), (7, .int yy)] jd_Y_call_183 (Nat.le_of_ble_eq_true rfl) rfl ?_
  refine ja_iload_n C jd_Y_call_185 6 rfl ?_
  refine ja_iload C jd_Y_call_186 1 rfl ?_
  refine ja_icmp_neN C 228 jd_Y_call_188 (by decide) (by omega) (by decide) (fun c188 => no (fun z => c188 z.1)) (fun c188 => ?_)
  refine ja_iload_n C jd_Y_call_191 7 rfl ?_
  refine ja_if_lt C 228 jd_Y_call_192 (by decide) (fun c192 => no (fun z => k2_nle c192 z.2.1)) (fun c192 => ?_)
  obtain ⟨ta, hta, ea⟩ := jl_tens (by omega) c192 (ga (by omega))
  subst c188
  refine ja_iload_n C jd_Y_call_195 6 rfl ?_
  refine ja_iconst C (nI 1) jd_Y_call_196 (by decide) ?_
  refine ja_icmp_eqN C 215 jd_Y_call_197 (by decide) (by decide) (by decide) (fun _ => ?_) (fun q => absurd q (by decide))
  refine ja_iload_n C jd_Y_call_215 5 rfl ?_
  refine ja_iload C jd_Y_call_216 9 rfl ?_
  refine jb_pS 8 C X jk_isMany (jn_isMany_7 (by omega)) jd_Y_call_218 rfl rfl ⟨by decide, by decide⟩ (Nat.le_of_ble_eq_true rfl) ?_
  refine ja_if_eqB C 228 jd_Y_call_221 (by decide) (fun c221 => no (fun z => c221 (of_decide_eq_true z.2.2.2))) (fun c221 => ?_)
  have hg : jl_goes what.toNatClampNeg n0.toNatClampNeg a b m0.toNatClampNeg := by
    rw [cw, cn, cm]
    exact ⟨rfl, k2_le c192, Or.inl rfl, decide_eq_true c221⟩
  subst ea
  have hk0 := hx (by omega)
  obtain ⟨k, hk9, ek⟩ := nI_of hk0
  subst ek
  refine ja_iconst C (nI 1) jd_Y_call_224 (by decide) ?_
  refine ja_goto C 229 jd_Y_call_225 (by decide) ?_
  refine ja_istore C [(12, .int (nI 1)), (11, .int (nI 0)), (10, .int (nI 1)), (9, .int (nI 0)), (8, .int (nI 0)), (0, .ref y), (1, .int (nI 7)), (2, .int (nI 1)), (3, .int (nI ta)), (4, .int b), (5, .int (nI mm)), (6, .int (nI k)), (7, .int yy)] jd_Y_call_229 (Nat.le_of_ble_eq_true rfl) rfl ?_
  refine ja_iload C jd_Y_call_231 0 rfl ?_
  refine ja_if_eqN C 253 jd_Y_call_233 (by decide) (by decide) (fun q => absurd q (by decide)) (fun _ => ?_)
  refine ja_aload_n C jd_Y_call_236 5 rfl ?_
  refine ja_iload_n C jd_Y_call_237 6 rfl ?_
  refine ja_iload_n C jd_Y_call_238 8 rfl ?_
  refine ja_iload C jd_Y_call_239 9 rfl ?_
  refine ja_iload C jd_Y_call_241 10 rfl ?_
  refine ja_iload C jd_Y_call_243 11 rfl ?_
  refine ja_iload C jd_Y_call_245 12 rfl ?_
  subst c221
  refine jN_mV 8 C X jk_apply h rfl (jn_apply_7 h hct hta hk9) jd_Y_call_247 rfl rfl ⟨by decide, by decide⟩ (Nat.le_of_ble_eq_true rfl) (Nat.le_of_ble_eq_true rfl) (Nat.le_of_ble_eq_true rfl) (fun x1 σ1 w1 z1 hp1 => ?_)
  obtain ⟨ha1, hq1⟩ := hp1
  refine ja_goto C 255 jd_Y_call_250 (by decide) ?_
  exact E jd_Y_call_255 ⟨x1, 0, σ1, rfl, ⟨fun z => absurd z nw, fun _ z => absurd z ng, fun _ _ => ⟨rfl, fun _ => by rw [cw, cm, nI_clamp (show ta < 2 ^ 31 by omega)]; show jA_s1 σ 7 ta (nI k).toNatClampNeg x1 σ1; rw [nI_clamp hk9]; exact ha1, fun z => absurd hg z⟩⟩, jP.from hr hq1⟩
theorem jn_call_8 {u : jb_U} {what n0 a b m0 xx yy : Int32} {nn mm : Nat} {w2 : jb_W} (C : ja_C (jb_mk l (jb_rm 7 221 16 9728) 13 "MeasuredTensorsModel" D H0 (jt_all cI cJ cT cX) u) jc_Y_call) (X : jb_X H0 u.1.2.2) (E : jb_Ei (jb_mk l (jb_rm 7 221 16 9728) 13 "MeasuredTensorsModel" D H0 (jt_all cI cJ cT cX) u) jc_Y_call (fun v w' sz' => ∃ (x th' : Int32) (σ' : jSt), v = some (.int x) ∧ jA_call σ what n0 a b m0 xx yy x th' σ' ∧ jP cI cJ y A w sz σ' th' w' sz')) (h : jN cI cJ y A n n2 σ w2 (nI 0) rk N) (hr : jR y A w w2) (hct : jSt_c σ < 512) (hnn : nn ≤ 2) (hmm : mm ≤ 2) (ew : what = nI 8) (en : n0 = nI nn) (em : m0 = nI mm) (hx : 0 < mm → ¬ xx < 0) (hy : 1 < mm → ¬ yy < 0) (ga : 0 < nn → ¬ jl_none σ a) (gb : 1 < nn → ¬ jl_none σ b) (nw : ¬ jl_wrong what n0 m0 xx yy) (ng : ¬ jl_gone σ n0 a b) :
    ja (jb_mk l (jb_rm 7 221 16 9728) 13 "MeasuredTensorsModel" D H0 (jt_all cI cJ cT cX) u) w2 sz 16 9728 129 [(9, .int (nI 0)), (8, .int (nI 0)), (0, .ref y), (1, .int (nI 8)), (2, .int (nI nn)), (3, .int a), (4, .int b), (5, .int (nI mm)), (6, .int xx), (7, .int yy)] [] := by
  have hn := h.cn
  have hni := h.ci
  have cw : what.toNatClampNeg = 8 := by rw [ew]; exact nI_clamp (by decide)
  have cn : n0.toNatClampNeg = nn := by rw [en]; exact nI_clamp (by omega)
  have cm : m0.toNatClampNeg = mm := by rw [em]; exact nI_clamp (by omega)
  have no : ∀ (hf : ¬ jl_goes 8 nn a b mm), ja (jb_mk l (jb_rm 7 221 16 9728) 13 "MeasuredTensorsModel" D H0 (jt_all cI cJ cT cX) u) w2 sz 16 9728 228 [(11, .int (nI 0)), (10, .int (nI 2)), (9, .int (nI 0)), (8, .int (nI 0)), (0, .ref y), (1, .int (nI 8)), (2, .int (nI nn)), (3, .int a), (4, .int b), (5, .int (nI mm)), (6, .int xx), (7, .int yy)] [] := by
    intro hf
    refine ja_iconst C (nI 0) jd_Y_call_228 (by decide) ?_
    refine ja_istore C [(12, .int (nI 0)), (11, .int (nI 0)), (10, .int (nI 2)), (9, .int (nI 0)), (8, .int (nI 0)), (0, .ref y), (1, .int (nI 8)), (2, .int (nI nn)), (3, .int a), (4, .int b), (5, .int (nI mm)), (6, .int xx), (7, .int yy)] jd_Y_call_229 (Nat.le_of_ble_eq_true rfl) rfl ?_
    refine ja_iload C jd_Y_call_231 0 rfl ?_
    refine ja_if_eqN C 253 jd_Y_call_233 (by decide) (by decide) (fun _ => ?_) (fun q => absurd q (by decide))
    refine ja_bipush C (-5) jd_Y_call_253 (by decide) ?_
    exact E jd_Y_call_255 ⟨-5, 0, σ, rfl, ⟨fun z => absurd z nw, fun _ z => absurd z ng, fun _ _ => ⟨rfl, fun z => absurd (by rw [cw, cn, cm] at z; exact z) hf, fun _ => ⟨rfl, rfl⟩⟩⟩, h.jP hr⟩
  refine ja_iload_n C jd_Y_call_129 3 rfl ?_
  refine ja_bipush C (nI 8) jd_Y_call_130 (by decide) ?_
  refine ja_icmp_eqN C 159 jd_Y_call_132 (by decide) (by decide) (by decide) (fun _ => ?_) (fun q => absurd q (by decide))
  refine ja_iconst C (nI 2) jd_Y_call_159 (by decide) ?_
  refine ja_goto C 164 jd_Y_call_160 (by decide) ?_
  refine ja_istore C [(10, .int (nI 2)), (9, .int (nI 0)), (8, .int (nI 0)), (0, .ref y), (1, .int (nI 8)), (2, .int (nI nn)), (3, .int a), (4, .int b), (5, .int (nI mm)), (6, .int xx), (7, .int yy)] jd_Y_call_164 (Nat.le_of_ble_eq_true rfl) rfl ?_
  refine ja_iload_n C jd_Y_call_166 4 rfl ?_
  refine ja_bipush C (nI 16) jd_Y_call_167 (by decide) ?_
  refine ja_icmp_eqN C 178 jd_Y_call_169 (by decide) (by decide) (by decide) (fun q => absurd q (by decide)) (fun _ => ?_)
  refine ja_iload_n C jd_Y_call_172 4 rfl ?_
  refine ja_bipush C (nI 17) jd_Y_call_173 (by decide) ?_
  refine ja_icmp_neN C 182 jd_Y_call_175 (by decide) (by decide) (by decide) (fun _ => ?_) (fun q => absurd q (by decide))
  refine ja_iconst C (nI 0) jd_Y_call_182 (by decide) ?_
  refine ja_istore C [(11, .int (nI 0)), (10, .int (nI 2)), (9, .int (nI 0)), (8, .int (nI 0)), (0, .ref y), (1, .int (nI 8)), (2, .int (nI nn)), (3, .int a), (4, .int b), (5, .int (nI mm)), (6, .int xx), (7, .int yy)] jd_Y_call_183 (Nat.le_of_ble_eq_true rfl) rfl ?_
  refine ja_iload_n C jd_Y_call_185 6 rfl ?_
  refine ja_iload C jd_Y_call_186 1 rfl ?_
  refine ja_icmp_neN C 228 jd_Y_call_188 (by decide) (by omega) (by decide) (fun c188 => no (fun z => c188 z.1)) (fun c188 => ?_)
  refine ja_iload_n C jd_Y_call_191 7 rfl ?_
  refine ja_if_lt C 228 jd_Y_call_192 (by decide) (fun c192 => no (fun z => k2_nle c192 z.2.1)) (fun c192 => ?_)
  obtain ⟨ta, hta, ea⟩ := jl_tens (by omega) c192 (ga (by omega))
  subst c188
  refine ja_iload_n C jd_Y_call_195 6 rfl ?_
  refine ja_iconst C (nI 1) jd_Y_call_196 (by decide) ?_
  refine ja_icmp_eqN C 215 jd_Y_call_197 (by decide) (by decide) (by decide) (fun q => absurd q (by decide)) (fun _ => ?_)
  refine ja_iload C jd_Y_call_200 0 rfl ?_
  refine ja_iload C jd_Y_call_202 8 rfl ?_
  have noB : ∀ (hf : ¬ jl_goes 8 2 a b mm), ja (jb_mk l (jb_rm 7 221 16 9728) 13 "MeasuredTensorsModel" D H0 (jt_all cI cJ cT cX) u) w2 sz 16 9728 207 [(11, .int (nI 0)), (10, .int (nI 2)), (9, .int (nI 0)), (8, .int (nI 0)), (0, .ref y), (1, .int (nI 8)), (2, .int (nI 2)), (3, .int a), (4, .int b), (5, .int (nI mm)), (6, .int xx), (7, .int yy)] [.int (nI 0)] := by
    intro hf
    refine ja_iconst C (nI 1) jd_Y_call_207 (by decide) ?_
    refine ja_goto C 212 jd_Y_call_208 (by decide) ?_
    refine ja_icmp_neN C 228 jd_Y_call_212 (by decide) (by decide) (by decide) (fun _ => ?_) (fun q => absurd q (by decide))
    exact no hf
  refine ja_if_ge C 211 jd_Y_call_204 (by decide) (fun c204 => ?_) (fun c204 => noB (fun z => by rcases z.2.2.1 with q | q; omega; exact absurd (q.mpr (k2_lt c204)) (by decide)))
  refine ja_iconst C (nI 0) jd_Y_call_211 (by decide) ?_
  refine ja_icmp_neN C 228 jd_Y_call_212 (by decide) (by decide) (by decide) (fun q => absurd q (by decide)) (fun _ => ?_)
  refine ja_iload_n C jd_Y_call_215 5 rfl ?_
  refine ja_iload C jd_Y_call_216 9 rfl ?_
  have c204 : ¬ b < 0 := k2_nlt c204
  obtain ⟨tb, htb, eb⟩ := jl_tens (by omega) c204 (gb (by omega))
  have hk : 8 = 16 ∨ 8 = 17 ↔ b < 0 := ⟨fun z => absurd z (by decide), fun z => absurd z c204⟩
  refine jb_pS 8 C X jk_isMany (jn_isMany_8 (by omega)) jd_Y_call_218 rfl rfl ⟨by decide, by decide⟩ (Nat.le_of_ble_eq_true rfl) ?_
  refine ja_if_eqB C 228 jd_Y_call_221 (by decide) (fun c221 => no (fun z => c221 (of_decide_eq_true z.2.2.2))) (fun c221 => ?_)
  have hg : jl_goes what.toNatClampNeg n0.toNatClampNeg a b m0.toNatClampNeg := by
    rw [cw, cn, cm]
    exact ⟨rfl, k2_le c192, Or.inr hk, decide_eq_true c221⟩
  subst ea
  subst eb
  have hk0 := hx (by omega)
  obtain ⟨k, hk9, ek⟩ := nI_of hk0
  subst ek
  refine ja_iconst C (nI 1) jd_Y_call_224 (by decide) ?_
  refine ja_goto C 229 jd_Y_call_225 (by decide) ?_
  refine ja_istore C [(12, .int (nI 1)), (11, .int (nI 0)), (10, .int (nI 2)), (9, .int (nI 0)), (8, .int (nI 0)), (0, .ref y), (1, .int (nI 8)), (2, .int (nI 2)), (3, .int (nI ta)), (4, .int (nI tb)), (5, .int (nI mm)), (6, .int (nI k)), (7, .int yy)] jd_Y_call_229 (Nat.le_of_ble_eq_true rfl) rfl ?_
  refine ja_iload C jd_Y_call_231 0 rfl ?_
  refine ja_if_eqN C 253 jd_Y_call_233 (by decide) (by decide) (fun q => absurd q (by decide)) (fun _ => ?_)
  refine ja_aload_n C jd_Y_call_236 5 rfl ?_
  refine ja_iload_n C jd_Y_call_237 6 rfl ?_
  refine ja_iload_n C jd_Y_call_238 8 rfl ?_
  refine ja_iload C jd_Y_call_239 9 rfl ?_
  refine ja_iload C jd_Y_call_241 10 rfl ?_
  refine ja_iload C jd_Y_call_243 11 rfl ?_
  refine ja_iload C jd_Y_call_245 12 rfl ?_
  refine jN_mV 8 C X jk_apply h rfl (jn_apply_8 h hct hta htb hk9) jd_Y_call_247 rfl rfl ⟨by decide, by decide⟩ (Nat.le_of_ble_eq_true rfl) (Nat.le_of_ble_eq_true rfl) (Nat.le_of_ble_eq_true rfl) (fun x1 σ1 w1 z1 hp1 => ?_)
  obtain ⟨ha1, hq1⟩ := hp1
  refine ja_goto C 255 jd_Y_call_250 (by decide) ?_
  exact E jd_Y_call_255 ⟨x1, 0, σ1, rfl, ⟨fun z => absurd z nw, fun _ z => absurd z ng, fun _ _ => ⟨rfl, fun _ => by rw [cw, cm, nI_clamp (show ta < 2 ^ 31 by omega)]; show jA_conv σ ta (nI tb).toNatClampNeg (nI k).toNatClampNeg x1 σ1; rw [nI_clamp hk9, nI_clamp (show tb < 2 ^ 31 by omega)]; exact ha1, fun z => absurd hg z⟩⟩, jP.from hr hq1⟩
theorem jn_call_9 {u : jb_U} {what n0 a b m0 xx yy : Int32} {nn mm : Nat} {w2 : jb_W} (C : ja_C (jb_mk l (jb_rm 7 221 16 9728) 13 "MeasuredTensorsModel" D H0 (jt_all cI cJ cT cX) u) jc_Y_call) (X : jb_X H0 u.1.2.2) (E : jb_Ei (jb_mk l (jb_rm 7 221 16 9728) 13 "MeasuredTensorsModel" D H0 (jt_all cI cJ cT cX) u) jc_Y_call (fun v w' sz' => ∃ (x th' : Int32) (σ' : jSt), v = some (.int x) ∧ jA_call σ what n0 a b m0 xx yy x th' σ' ∧ jP cI cJ y A w sz σ' th' w' sz')) (h : jN cI cJ y A n n2 σ w2 (nI 0) rk N) (hr : jR y A w w2) (hct : jSt_c σ < 512) (hnn : nn ≤ 2) (hmm : mm ≤ 2) (ew : what = nI 9) (en : n0 = nI nn) (em : m0 = nI mm) (hx : 0 < mm → ¬ xx < 0) (hy : 1 < mm → ¬ yy < 0) (ga : 0 < nn → ¬ jl_none σ a) (gb : 1 < nn → ¬ jl_none σ b) (nw : ¬ jl_wrong what n0 m0 xx yy) (ng : ¬ jl_gone σ n0 a b) :
    ja (jb_mk l (jb_rm 7 221 16 9728) 13 "MeasuredTensorsModel" D H0 (jt_all cI cJ cT cX) u) w2 sz 16 9728 129 [(9, .int (nI 0)), (8, .int (nI 0)), (0, .ref y), (1, .int (nI 9)), (2, .int (nI nn)), (3, .int a), (4, .int b), (5, .int (nI mm)), (6, .int xx), (7, .int yy)] [] := by
  have hn := h.cn
  have hni := h.ci
  have cw : what.toNatClampNeg = 9 := by rw [ew]; exact nI_clamp (by decide)
  have cn : n0.toNatClampNeg = nn := by rw [en]; exact nI_clamp (by omega)
  have cm : m0.toNatClampNeg = mm := by rw [em]; exact nI_clamp (by omega)
  have no : ∀ (hf : ¬ jl_goes 9 nn a b mm), ja (jb_mk l (jb_rm 7 221 16 9728) 13 "MeasuredTensorsModel" D H0 (jt_all cI cJ cT cX) u) w2 sz 16 9728 228 [(11, .int (nI 0)), (10, .int (nI 1)), (9, .int (nI 0)), (8, .int (nI 0)), (0, .ref y), (1, .int (nI 9)), (2, .int (nI nn)), (3, .int a), (4, .int b), (5, .int (nI mm)), (6, .int xx), (7, .int yy)] [] := by
    intro hf
    refine ja_iconst C (nI 0) jd_Y_call_228 (by decide) ?_
    refine ja_istore C [(12, .int (nI 0)), (11, .int (nI 0)), (10, .int (nI 1)), (9, .int (nI 0)), (8, .int (nI 0)), (0, .ref y), (1, .int (nI 9)), (2, .int (nI nn)), (3, .int a), (4, .int b), (5, .int (nI mm)), (6, .int xx), (7, .int yy)] jd_Y_call_229 (Nat.le_of_ble_eq_true rfl) rfl ?_
    refine ja_iload C jd_Y_call_231 0 rfl ?_
    refine ja_if_eqN C 253 jd_Y_call_233 (by decide) (by decide) (fun _ => ?_) (fun q => absurd q (by decide))
    refine ja_bipush C (-5) jd_Y_call_253 (by decide) ?_
    exact E jd_Y_call_255 ⟨-5, 0, σ, rfl, ⟨fun z => absurd z nw, fun _ z => absurd z ng, fun _ _ => ⟨rfl, fun z => absurd (by rw [cw, cn, cm] at z; exact z) hf, fun _ => ⟨rfl, rfl⟩⟩⟩, h.jP hr⟩
  refine ja_iload_n C jd_Y_call_129 3 rfl ?_
  refine ja_bipush C (nI 8) jd_Y_call_130 (by decide) ?_
  refine ja_icmp_eqN C 159 jd_Y_call_132 (by decide) (by decide) (by decide) (fun q => absurd q (by decide)) (fun _ => ?_)
  refine ja_iload_n C jd_Y_call_135 3 rfl ?_
  refine ja_bipush C (nI 14) jd_Y_call_136 (by decide) ?_
  refine ja_icmp_eqN C 159 jd_Y_call_138 (by decide) (by decide) (by decide) (fun q => absurd q (by decide)) (fun _ => ?_)
  refine ja_iload_n C jd_Y_call_141 3 rfl ?_
  refine ja_bipush C (nI 18) jd_Y_call_142 (by decide) ?_
  refine ja_icmp_eqN C 159 jd_Y_call_144 (by decide) (by decide) (by decide) (fun q => absurd q (by decide)) (fun _ => ?_)
  refine ja_iload_n C jd_Y_call_147 3 rfl ?_
  refine ja_bipush C (nI 16) jd_Y_call_148 (by decide) ?_
  refine ja_icmp_eqN C 159 jd_Y_call_150 (by decide) (by decide) (by decide) (fun q => absurd q (by decide)) (fun _ => ?_)
  refine ja_iload_n C jd_Y_call_153 3 rfl ?_
  refine ja_bipush C (nI 17) jd_Y_call_154 (by decide) ?_
  refine ja_icmp_neN C 163 jd_Y_call_156 (by decide) (by decide) (by decide) (fun _ => ?_) (fun q => absurd q (by decide))
  refine ja_iconst C (nI 1) jd_Y_call_163 (by decide) ?_
  refine ja_istore C [(10, .int (nI 1)), (9, .int (nI 0)), (8, .int (nI 0)), (0, .ref y), (1, .int (nI 9)), (2, .int (nI nn)), (3, .int a), (4, .int b), (5, .int (nI mm)), (6, .int xx), (7, .int yy)] jd_Y_call_164 (Nat.le_of_ble_eq_true rfl) rfl ?_
  refine ja_iload_n C jd_Y_call_166 4 rfl ?_
  refine ja_bipush C (nI 16) jd_Y_call_167 (by decide) ?_
  refine ja_icmp_eqN C 178 jd_Y_call_169 (by decide) (by decide) (by decide) (fun q => absurd q (by decide)) (fun _ => ?_)
  refine ja_iload_n C jd_Y_call_172 4 rfl ?_
  refine ja_bipush C (nI 17) jd_Y_call_173 (by decide) ?_
  refine ja_icmp_neN C 182 jd_Y_call_175 (by decide) (by decide) (by decide) (fun _ => ?_) (fun q => absurd q (by decide))
  refine ja_iconst C (nI 0) jd_Y_call_182 (by decide) ?_
  refine ja_istore C [(11, .int (nI 0)), (10, .int (nI 1)), (9, .int (nI 0)), (8, .int (nI 0)), (0, .ref y), (1, .int (nI 9)), (2, .int (nI nn)), (3, .int a), (4, .int b), (5, .int (nI mm)), (6, .int xx), (7, .int yy)] jd_Y_call_183 (Nat.le_of_ble_eq_true rfl) rfl ?_
  refine ja_iload_n C jd_Y_call_185 6 rfl ?_
  refine ja_iload C jd_Y_call_186 1 rfl ?_
  refine ja_icmp_neN C 228 jd_Y_call_188 (by decide) (by omega) (by decide) (fun c188 => no (fun z => c188 z.1)) (fun c188 => ?_)
  refine ja_iload_n C jd_Y_call_191 7 rfl ?_
  refine ja_if_lt C 228 jd_Y_call_192 (by decide) (fun c192 => no (fun z => k2_nle c192 z.2.1)) (fun c192 => ?_)
  obtain ⟨ta, hta, ea⟩ := jl_tens (by omega) c192 (ga (by omega))
  subst c188
  refine ja_iload_n C jd_Y_call_195 6 rfl ?_
  refine ja_iconst C (nI 1) jd_Y_call_196 (by decide) ?_
  refine ja_icmp_eqN C 215 jd_Y_call_197 (by decide) (by decide) (by decide) (fun _ => ?_) (fun q => absurd q (by decide))
  refine ja_iload_n C jd_Y_call_215 5 rfl ?_
  refine ja_iload C jd_Y_call_216 9 rfl ?_
  refine jb_pS 8 C X jk_isMany (jn_isMany_9 (by omega)) jd_Y_call_218 rfl rfl ⟨by decide, by decide⟩ (Nat.le_of_ble_eq_true rfl) ?_
  refine ja_if_eqB C 228 jd_Y_call_221 (by decide) (fun c221 => no (fun z => c221 (of_decide_eq_true z.2.2.2))) (fun c221 => ?_)
  have hg : jl_goes what.toNatClampNeg n0.toNatClampNeg a b m0.toNatClampNeg := by
    rw [cw, cn, cm]
    exact ⟨rfl, k2_le c192, Or.inl rfl, decide_eq_true c221⟩
  subst ea
  have hk0 := hx (by omega)
  obtain ⟨k, hk9, ek⟩ := nI_of hk0
  subst ek
  refine ja_iconst C (nI 1) jd_Y_call_224 (by decide) ?_
  refine ja_goto C 229 jd_Y_call_225 (by decide) ?_
  refine ja_istore C [(12, .int (nI 1)), (11, .int (nI 0)), (10, .int (nI 1)), (9, .int (nI 0)), (8, .int (nI 0)), (0, .ref y), (1, .int (nI 9)), (2, .int (nI 1)), (3, .int (nI ta)), (4, .int b), (5, .int (nI mm)), (6, .int (nI k)), (7, .int yy)] jd_Y_call_229 (Nat.le_of_ble_eq_true rfl) rfl ?_
  refine ja_iload C jd_Y_call_231 0 rfl ?_
  refine ja_if_eqN C 253 jd_Y_call_233 (by decide) (by decide) (fun q => absurd q (by decide)) (fun _ => ?_)
  refine ja_aload_n C jd_Y_call_236 5 rfl ?_
  refine ja_iload_n C jd_Y_call_237 6 rfl ?_
  refine ja_iload_n C jd_Y_call_238 8 rfl ?_
  refine ja_iload C jd_Y_call_239 9 rfl ?_
  refine ja_iload C jd_Y_call_241 10 rfl ?_
  refine ja_iload C jd_Y_call_243 11 rfl ?_
  refine ja_iload C jd_Y_call_245 12 rfl ?_
  refine jN_mV 8 C X jk_apply h rfl (jn_apply_9 h hct hta hk9) jd_Y_call_247 rfl rfl ⟨by decide, by decide⟩ (Nat.le_of_ble_eq_true rfl) (Nat.le_of_ble_eq_true rfl) (Nat.le_of_ble_eq_true rfl) (fun x1 σ1 w1 z1 hp1 => ?_)
  obtain ⟨ha1, hq1⟩ := hp1
  refine ja_goto C 255 jd_Y_call_250 (by decide) ?_
  exact E jd_Y_call_255 ⟨x1, 0, σ1, rfl, ⟨fun z => absurd z nw, fun _ z => absurd z ng, fun _ _ => ⟨rfl, fun _ => by rw [cw, cm, nI_clamp (show ta < 2 ^ 31 by omega)]; show jA_pl σ 9 ta (nI k).toNatClampNeg x1 σ1; rw [nI_clamp hk9]; exact ha1, fun z => absurd hg z⟩⟩, jP.from hr hq1⟩
theorem jn_call_10 {u : jb_U} {what n0 a b m0 xx yy : Int32} {nn mm : Nat} {w2 : jb_W} (C : ja_C (jb_mk l (jb_rm 7 221 16 9728) 13 "MeasuredTensorsModel" D H0 (jt_all cI cJ cT cX) u) jc_Y_call) (X : jb_X H0 u.1.2.2) (E : jb_Ei (jb_mk l (jb_rm 7 221 16 9728) 13 "MeasuredTensorsModel" D H0 (jt_all cI cJ cT cX) u) jc_Y_call (fun v w' sz' => ∃ (x th' : Int32) (σ' : jSt), v = some (.int x) ∧ jA_call σ what n0 a b m0 xx yy x th' σ' ∧ jP cI cJ y A w sz σ' th' w' sz')) (h : jN cI cJ y A n n2 σ w2 (nI 0) rk N) (hr : jR y A w w2) (hct : jSt_c σ < 512) (hnn : nn ≤ 2) (hmm : mm ≤ 2) (ew : what = nI 10) (en : n0 = nI nn) (em : m0 = nI mm) (hx : 0 < mm → ¬ xx < 0) (hy : 1 < mm → ¬ yy < 0) (ga : 0 < nn → ¬ jl_none σ a) (gb : 1 < nn → ¬ jl_none σ b) (nw : ¬ jl_wrong what n0 m0 xx yy) (ng : ¬ jl_gone σ n0 a b) :
    ja (jb_mk l (jb_rm 7 221 16 9728) 13 "MeasuredTensorsModel" D H0 (jt_all cI cJ cT cX) u) w2 sz 16 9728 129 [(9, .int (nI 0)), (8, .int (nI 0)), (0, .ref y), (1, .int (nI 10)), (2, .int (nI nn)), (3, .int a), (4, .int b), (5, .int (nI mm)), (6, .int xx), (7, .int yy)] [] := by
  have hn := h.cn
  have hni := h.ci
  have cw : what.toNatClampNeg = 10 := by rw [ew]; exact nI_clamp (by decide)
  have cn : n0.toNatClampNeg = nn := by rw [en]; exact nI_clamp (by omega)
  have cm : m0.toNatClampNeg = mm := by rw [em]; exact nI_clamp (by omega)
  have no : ∀ (hf : ¬ jl_goes 10 nn a b mm), ja (jb_mk l (jb_rm 7 221 16 9728) 13 "MeasuredTensorsModel" D H0 (jt_all cI cJ cT cX) u) w2 sz 16 9728 228 [(11, .int (nI 0)), (10, .int (nI 1)), (9, .int (nI 0)), (8, .int (nI 0)), (0, .ref y), (1, .int (nI 10)), (2, .int (nI nn)), (3, .int a), (4, .int b), (5, .int (nI mm)), (6, .int xx), (7, .int yy)] [] := by
    intro hf
    refine ja_iconst C (nI 0) jd_Y_call_228 (by decide) ?_
    refine ja_istore C [(12, .int (nI 0)), (11, .int (nI 0)), (10, .int (nI 1)), (9, .int (nI 0)), (8, .int (nI 0)), (0, .ref y), (1, .int (nI 10)), (2, .int (nI nn)), (3, .int a), (4, .int b), (5, .int (nI mm)), (6, .int xx), (7, .int yy)] jd_Y_call_229 (Nat.le_of_ble_eq_true rfl) rfl ?_
    refine ja_iload C jd_Y_call_231 0 rfl ?_
    refine ja_if_eqN C 253 jd_Y_call_233 (by decide) (by decide) (fun _ => ?_) (fun q => absurd q (by decide))
    refine ja_bipush C (-5) jd_Y_call_253 (by decide) ?_
    exact E jd_Y_call_255 ⟨-5, 0, σ, rfl, ⟨fun z => absurd z nw, fun _ z => absurd z ng, fun _ _ => ⟨rfl, fun z => absurd (by rw [cw, cn, cm] at z; exact z) hf, fun _ => ⟨rfl, rfl⟩⟩⟩, h.jP hr⟩
  refine ja_iload_n C jd_Y_call_129 3 rfl ?_
  refine ja_bipush C (nI 8) jd_Y_call_130 (by decide) ?_
  refine ja_icmp_eqN C 159 jd_Y_call_132 (by decide) (by decide) (by decide) (fun q => absurd q (by decide)) (fun _ => ?_)
  refine ja_iload_n C jd_Y_call_135 3 rfl ?_
  refine ja_bipush C (nI 14) jd_Y_call_136 (by decide) ?_
  refine ja_icmp_eqN C 159 jd_Y_call_138 (by decide) (by decide) (by decide) (fun q => absurd q (by decide)) (fun _ => ?_)
  refine ja_iload_n C jd_Y_call_141 3 rfl ?_
  refine ja_bipush C (nI 18) jd_Y_call_142 (by decide) ?_
  refine ja_icmp_eqN C 159 jd_Y_call_144 (by decide) (by decide) (by decide) (fun q => absurd q (by decide)) (fun _ => ?_)
  refine ja_iload_n C jd_Y_call_147 3 rfl ?_
  refine ja_bipush C (nI 16) jd_Y_call_148 (by decide) ?_
  refine ja_icmp_eqN C 159 jd_Y_call_150 (by decide) (by decide) (by decide) (fun q => absurd q (by decide)) (fun _ => ?_)
  refine ja_iload_n C jd_Y_call_153 3 rfl ?_
  refine ja_bipush C (nI 17) jd_Y_call_154 (by decide) ?_
  refine ja_icmp_neN C 163 jd_Y_call_156 (by decide) (by decide) (by decide) (fun _ => ?_) (fun q => absurd q (by decide))
  refine ja_iconst C (nI 1) jd_Y_call_163 (by decide) ?_
  refine ja_istore C [(10, .int (nI 1)), (9, .int (nI 0)), (8, .int (nI 0)), (0, .ref y), (1, .int (nI 10)), (2, .int (nI nn)), (3, .int a), (4, .int b), (5, .int (nI mm)), (6, .int xx), (7, .int yy)] jd_Y_call_164 (Nat.le_of_ble_eq_true rfl) rfl ?_
  refine ja_iload_n C jd_Y_call_166 4 rfl ?_
  refine ja_bipush C (nI 16) jd_Y_call_167 (by decide) ?_
  refine ja_icmp_eqN C 178 jd_Y_call_169 (by decide) (by decide) (by decide) (fun q => absurd q (by decide)) (fun _ => ?_)
  refine ja_iload_n C jd_Y_call_172 4 rfl ?_
  refine ja_bipush C (nI 17) jd_Y_call_173 (by decide) ?_
  refine ja_icmp_neN C 182 jd_Y_call_175 (by decide) (by decide) (by decide) (fun _ => ?_) (fun q => absurd q (by decide))
  refine ja_iconst C (nI 0) jd_Y_call_182 (by decide) ?_
  refine ja_istore C [(11, .int (nI 0)), (10, .int (nI 1)), (9, .int (nI 0)), (8, .int (nI 0)), (0, .ref y), (1, .int (nI 10)), (2, .int (nI nn)), (3, .int a), (4, .int b), (5, .int (nI mm)), (6, .int xx), (7, .int yy)] jd_Y_call_183 (Nat.le_of_ble_eq_true rfl) rfl ?_
  refine ja_iload_n C jd_Y_call_185 6 rfl ?_
  refine ja_iload C jd_Y_call_186 1 rfl ?_
  refine ja_icmp_neN C 228 jd_Y_call_188 (by decide) (by omega) (by decide) (fun c188 => no (fun z => c188 z.1)) (fun c188 => ?_)
  refine ja_iload_n C jd_Y_call_191 7 rfl ?_
  refine ja_if_lt C 228 jd_Y_call_192 (by decide) (fun c192 => no (fun z => k2_nle c192 z.2.1)) (fun c192 => ?_)
  obtain ⟨ta, hta, ea⟩ := jl_tens (by omega) c192 (ga (by omega))
  subst c188
  refine ja_iload_n C jd_Y_call_195 6 rfl ?_
  refine ja_iconst C (nI 1) jd_Y_call_196 (by decide) ?_
  refine ja_icmp_eqN C 215 jd_Y_call_197 (by decide) (by decide) (by decide) (fun _ => ?_) (fun q => absurd q (by decide))
  refine ja_iload_n C jd_Y_call_215 5 rfl ?_
  refine ja_iload C jd_Y_call_216 9 rfl ?_
  refine jb_pS 8 C X jk_isMany (jn_isMany_10 (by omega)) jd_Y_call_218 rfl rfl ⟨by decide, by decide⟩ (Nat.le_of_ble_eq_true rfl) ?_
  refine ja_if_eqB C 228 jd_Y_call_221 (by decide) (fun c221 => no (fun z => c221 (of_decide_eq_true z.2.2.2))) (fun c221 => ?_)
  have hg : jl_goes what.toNatClampNeg n0.toNatClampNeg a b m0.toNatClampNeg := by
    rw [cw, cn, cm]
    exact ⟨rfl, k2_le c192, Or.inl rfl, decide_eq_true c221⟩
  subst ea
  have hk0 := hx (by omega)
  obtain ⟨k, hk9, ek⟩ := nI_of hk0
  subst ek
  refine ja_iconst C (nI 1) jd_Y_call_224 (by decide) ?_
  refine ja_goto C 229 jd_Y_call_225 (by decide) ?_
  refine ja_istore C [(12, .int (nI 1)), (11, .int (nI 0)), (10, .int (nI 1)), (9, .int (nI 0)), (8, .int (nI 0)), (0, .ref y), (1, .int (nI 10)), (2, .int (nI 1)), (3, .int (nI ta)), (4, .int b), (5, .int (nI mm)), (6, .int (nI k)), (7, .int yy)] jd_Y_call_229 (Nat.le_of_ble_eq_true rfl) rfl ?_
  refine ja_iload C jd_Y_call_231 0 rfl ?_
  refine ja_if_eqN C 253 jd_Y_call_233 (by decide) (by decide) (fun q => absurd q (by decide)) (fun _ => ?_)
  refine ja_aload_n C jd_Y_call_236 5 rfl ?_
  refine ja_iload_n C jd_Y_call_237 6 rfl ?_
  refine ja_iload_n C jd_Y_call_238 8 rfl ?_
  refine ja_iload C jd_Y_call_239 9 rfl ?_
  refine ja_iload C jd_Y_call_241 10 rfl ?_
  refine ja_iload C jd_Y_call_243 11 rfl ?_
  refine ja_iload C jd_Y_call_245 12 rfl ?_
  refine jN_mV 8 C X jk_apply h rfl (jn_apply_10 h hct hta hk9) jd_Y_call_247 rfl rfl ⟨by decide, by decide⟩ (Nat.le_of_ble_eq_true rfl) (Nat.le_of_ble_eq_true rfl) (Nat.le_of_ble_eq_true rfl) (fun x1 σ1 w1 z1 hp1 => ?_)
  obtain ⟨ha1, hq1⟩ := hp1
  refine ja_goto C 255 jd_Y_call_250 (by decide) ?_
  exact E jd_Y_call_255 ⟨x1, 0, σ1, rfl, ⟨fun z => absurd z nw, fun _ z => absurd z ng, fun _ _ => ⟨rfl, fun _ => by rw [cw, cm, nI_clamp (show ta < 2 ^ 31 by omega)]; show jA_pl σ 10 ta (nI k).toNatClampNeg x1 σ1; rw [nI_clamp hk9]; exact ha1, fun z => absurd hg z⟩⟩, jP.from hr hq1⟩
theorem jn_call_12 {u : jb_U} {what n0 a b m0 xx yy : Int32} {nn mm : Nat} {w2 : jb_W} (C : ja_C (jb_mk l (jb_rm 7 221 16 9728) 13 "MeasuredTensorsModel" D H0 (jt_all cI cJ cT cX) u) jc_Y_call) (X : jb_X H0 u.1.2.2) (E : jb_Ei (jb_mk l (jb_rm 7 221 16 9728) 13 "MeasuredTensorsModel" D H0 (jt_all cI cJ cT cX) u) jc_Y_call (fun v w' sz' => ∃ (x th' : Int32) (σ' : jSt), v = some (.int x) ∧ jA_call σ what n0 a b m0 xx yy x th' σ' ∧ jP cI cJ y A w sz σ' th' w' sz')) (h : jN cI cJ y A n n2 σ w2 (nI 0) rk N) (hr : jR y A w w2) (hct : jSt_c σ < 512) (hnn : nn ≤ 2) (hmm : mm ≤ 2) (ew : what = nI 12) (en : n0 = nI nn) (em : m0 = nI mm) (hx : 0 < mm → ¬ xx < 0) (hy : 1 < mm → ¬ yy < 0) (ga : 0 < nn → ¬ jl_none σ a) (gb : 1 < nn → ¬ jl_none σ b) (nw : ¬ jl_wrong what n0 m0 xx yy) (ng : ¬ jl_gone σ n0 a b) :
    ja (jb_mk l (jb_rm 7 221 16 9728) 13 "MeasuredTensorsModel" D H0 (jt_all cI cJ cT cX) u) w2 sz 16 9728 129 [(9, .int (nI 0)), (8, .int (nI 0)), (0, .ref y), (1, .int (nI 12)), (2, .int (nI nn)), (3, .int a), (4, .int b), (5, .int (nI mm)), (6, .int xx), (7, .int yy)] [] := by
  have hn := h.cn
  have hni := h.ci
  have cw : what.toNatClampNeg = 12 := by rw [ew]; exact nI_clamp (by decide)
  have cn : n0.toNatClampNeg = nn := by rw [en]; exact nI_clamp (by omega)
  have cm : m0.toNatClampNeg = mm := by rw [em]; exact nI_clamp (by omega)
  have no : ∀ (hf : ¬ jl_goes 12 nn a b mm), ja (jb_mk l (jb_rm 7 221 16 9728) 13 "MeasuredTensorsModel" D H0 (jt_all cI cJ cT cX) u) w2 sz 16 9728 228 [(11, .int (nI 0)), (10, .int (nI 1)), (9, .int (nI 0)), (8, .int (nI 0)), (0, .ref y), (1, .int (nI 12)), (2, .int (nI nn)), (3, .int a), (4, .int b), (5, .int (nI mm)), (6, .int xx), (7, .int yy)] [] := by
    intro hf
    refine ja_iconst C (nI 0) jd_Y_call_228 (by decide) ?_
    refine ja_istore C [(12, .int (nI 0)), (11, .int (nI 0)), (10, .int (nI 1)), (9, .int (nI 0)), (8, .int (nI 0)), (0, .ref y), (1, .int (nI 12)), (2, .int (nI nn)), (3, .int a), (4, .int b), (5, .int (nI mm)), (6, .int xx), (7, .int yy)] jd_Y_call_229 (Nat.le_of_ble_eq_true rfl) rfl ?_
    refine ja_iload C jd_Y_call_231 0 rfl ?_
    refine ja_if_eqN C 253 jd_Y_call_233 (by decide) (by decide) (fun _ => ?_) (fun q => absurd q (by decide))
    refine ja_bipush C (-5) jd_Y_call_253 (by decide) ?_
    exact E jd_Y_call_255 ⟨-5, 0, σ, rfl, ⟨fun z => absurd z nw, fun _ z => absurd z ng, fun _ _ => ⟨rfl, fun z => absurd (by rw [cw, cn, cm] at z; exact z) hf, fun _ => ⟨rfl, rfl⟩⟩⟩, h.jP hr⟩
  refine ja_iload_n C jd_Y_call_129 3 rfl ?_
  refine ja_bipush C (nI 8) jd_Y_call_130 (by decide) ?_
  refine ja_icmp_eqN C 159 jd_Y_call_132 (by decide) (by decide) (by decide) (fun q => absurd q (by decide)) (fun _ => ?_)
  refine ja_iload_n C jd_Y_call_135 3 rfl ?_
  refine ja_bipush C (nI 14) jd_Y_call_136 (by decide) ?_
  refine ja_icmp_eqN C 159 jd_Y_call_138 (by decide) (by decide) (by decide) (fun q => absurd q (by decide)) (fun _ => ?_)
  refine ja_iload_n C jd_Y_call_141 3 rfl ?_
  refine ja_bipush C (nI 18) jd_Y_call_142 (by decide) ?_
  refine ja_icmp_eqN C 159 jd_Y_call_144 (by decide) (by decide) (by decide) (fun q => absurd q (by decide)) (fun _ => ?_)
  refine ja_iload_n C jd_Y_call_147 3 rfl ?_
  refine ja_bipush C (nI 16) jd_Y_call_148 (by decide) ?_
  refine ja_icmp_eqN C 159 jd_Y_call_150 (by decide) (by decide) (by decide) (fun q => absurd q (by decide)) (fun _ => ?_)
  refine ja_iload_n C jd_Y_call_153 3 rfl ?_
  refine ja_bipush C (nI 17) jd_Y_call_154 (by decide) ?_
  refine ja_icmp_neN C 163 jd_Y_call_156 (by decide) (by decide) (by decide) (fun _ => ?_) (fun q => absurd q (by decide))
  refine ja_iconst C (nI 1) jd_Y_call_163 (by decide) ?_
  refine ja_istore C [(10, .int (nI 1)), (9, .int (nI 0)), (8, .int (nI 0)), (0, .ref y), (1, .int (nI 12)), (2, .int (nI nn)), (3, .int a), (4, .int b), (5, .int (nI mm)), (6, .int xx), (7, .int yy)] jd_Y_call_164 (Nat.le_of_ble_eq_true rfl) rfl ?_
  refine ja_iload_n C jd_Y_call_166 4 rfl ?_
  refine ja_bipush C (nI 16) jd_Y_call_167 (by decide) ?_
  refine ja_icmp_eqN C 178 jd_Y_call_169 (by decide) (by decide) (by decide) (fun q => absurd q (by decide)) (fun _ => ?_)
  refine ja_iload_n C jd_Y_call_172 4 rfl ?_
  refine ja_bipush C (nI 17) jd_Y_call_173 (by decide) ?_
  refine ja_icmp_neN C 182 jd_Y_call_175 (by decide) (by decide) (by decide) (fun _ => ?_) (fun q => absurd q (by decide))
  refine ja_iconst C (nI 0) jd_Y_call_182 (by decide) ?_
  refine ja_istore C [(11, .int (nI 0)), (10, .int (nI 1)), (9, .int (nI 0)), (8, .int (nI 0)), (0, .ref y), (1, .int (nI 12)), (2, .int (nI nn)), (3, .int a), (4, .int b), (5, .int (nI mm)), (6, .int xx), (7, .int yy)] jd_Y_call_183 (Nat.le_of_ble_eq_true rfl) rfl ?_
  refine ja_iload_n C jd_Y_call_185 6 rfl ?_
  refine ja_iload C jd_Y_call_186 1 rfl ?_
  refine ja_icmp_neN C 228 jd_Y_call_188 (by decide) (by omega) (by decide) (fun c188 => no (fun z => c188 z.1)) (fun c188 => ?_)
  refine ja_iload_n C jd_Y_call_191 7 rfl ?_
  refine ja_if_lt C 228 jd_Y_call_192 (by decide) (fun c192 => no (fun z => k2_nle c192 z.2.1)) (fun c192 => ?_)
  obtain ⟨ta, hta, ea⟩ := jl_tens (by omega) c192 (ga (by omega))
  subst c188
  refine ja_iload_n C jd_Y_call_195 6 rfl ?_
  refine ja_iconst C (nI 1) jd_Y_call_196 (by decide) ?_
  refine ja_icmp_eqN C 215 jd_Y_call_197 (by decide) (by decide) (by decide) (fun _ => ?_) (fun q => absurd q (by decide))
  refine ja_iload_n C jd_Y_call_215 5 rfl ?_
  refine ja_iload C jd_Y_call_216 9 rfl ?_
  refine jb_pS 8 C X jk_isMany (jn_isMany_12 (by omega)) jd_Y_call_218 rfl rfl ⟨by decide, by decide⟩ (Nat.le_of_ble_eq_true rfl) ?_
  refine ja_if_eqB C 228 jd_Y_call_221 (by decide) (fun c221 => no (fun z => c221 (of_decide_eq_true z.2.2.2))) (fun c221 => ?_)
  have hg : jl_goes what.toNatClampNeg n0.toNatClampNeg a b m0.toNatClampNeg := by
    rw [cw, cn, cm]
    exact ⟨rfl, k2_le c192, Or.inl rfl, decide_eq_true c221⟩
  subst ea
  refine ja_iconst C (nI 1) jd_Y_call_224 (by decide) ?_
  refine ja_goto C 229 jd_Y_call_225 (by decide) ?_
  refine ja_istore C [(12, .int (nI 1)), (11, .int (nI 0)), (10, .int (nI 1)), (9, .int (nI 0)), (8, .int (nI 0)), (0, .ref y), (1, .int (nI 12)), (2, .int (nI 1)), (3, .int (nI ta)), (4, .int b), (5, .int (nI mm)), (6, .int xx), (7, .int yy)] jd_Y_call_229 (Nat.le_of_ble_eq_true rfl) rfl ?_
  refine ja_iload C jd_Y_call_231 0 rfl ?_
  refine ja_if_eqN C 253 jd_Y_call_233 (by decide) (by decide) (fun q => absurd q (by decide)) (fun _ => ?_)
  refine ja_aload_n C jd_Y_call_236 5 rfl ?_
  refine ja_iload_n C jd_Y_call_237 6 rfl ?_
  refine ja_iload_n C jd_Y_call_238 8 rfl ?_
  refine ja_iload C jd_Y_call_239 9 rfl ?_
  refine ja_iload C jd_Y_call_241 10 rfl ?_
  refine ja_iload C jd_Y_call_243 11 rfl ?_
  refine ja_iload C jd_Y_call_245 12 rfl ?_
  refine jN_mV 8 C X jk_apply h rfl (jn_apply_12 h hct hta) jd_Y_call_247 rfl rfl ⟨by decide, by decide⟩ (Nat.le_of_ble_eq_true rfl) (Nat.le_of_ble_eq_true rfl) (Nat.le_of_ble_eq_true rfl) (fun x1 σ1 w1 z1 hp1 => ?_)
  obtain ⟨ha1, hq1⟩ := hp1
  refine ja_goto C 255 jd_Y_call_250 (by decide) ?_
  exact E jd_Y_call_255 ⟨x1, 0, σ1, rfl, ⟨fun z => absurd z nw, fun _ z => absurd z ng, fun _ _ => ⟨rfl, fun _ => by rw [cw, cm, nI_clamp (show ta < 2 ^ 31 by omega)]; exact ha1, fun z => absurd hg z⟩⟩, jP.from hr hq1⟩
theorem jn_call_13 {u : jb_U} {what n0 a b m0 xx yy : Int32} {nn mm : Nat} {w2 : jb_W} (C : ja_C (jb_mk l (jb_rm 7 221 16 9728) 13 "MeasuredTensorsModel" D H0 (jt_all cI cJ cT cX) u) jc_Y_call) (X : jb_X H0 u.1.2.2) (E : jb_Ei (jb_mk l (jb_rm 7 221 16 9728) 13 "MeasuredTensorsModel" D H0 (jt_all cI cJ cT cX) u) jc_Y_call (fun v w' sz' => ∃ (x th' : Int32) (σ' : jSt), v = some (.int x) ∧ jA_call σ what n0 a b m0 xx yy x th' σ' ∧ jP cI cJ y A w sz σ' th' w' sz')) (h : jN cI cJ y A n n2 σ w2 (nI 0) rk N) (hr : jR y A w w2) (hct : jSt_c σ < 512) (hnn : nn ≤ 2) (hmm : mm ≤ 2) (ew : what = nI 13) (en : n0 = nI nn) (em : m0 = nI mm) (hx : 0 < mm → ¬ xx < 0) (hy : 1 < mm → ¬ yy < 0) (ga : 0 < nn → ¬ jl_none σ a) (gb : 1 < nn → ¬ jl_none σ b) (nw : ¬ jl_wrong what n0 m0 xx yy) (ng : ¬ jl_gone σ n0 a b) :
    ja (jb_mk l (jb_rm 7 221 16 9728) 13 "MeasuredTensorsModel" D H0 (jt_all cI cJ cT cX) u) w2 sz 16 9728 129 [(9, .int (nI 0)), (8, .int (nI 0)), (0, .ref y), (1, .int (nI 13)), (2, .int (nI nn)), (3, .int a), (4, .int b), (5, .int (nI mm)), (6, .int xx), (7, .int yy)] [] := by
  have hn := h.cn
  have hni := h.ci
  have cw : what.toNatClampNeg = 13 := by rw [ew]; exact nI_clamp (by decide)
  have cn : n0.toNatClampNeg = nn := by rw [en]; exact nI_clamp (by omega)
  have cm : m0.toNatClampNeg = mm := by rw [em]; exact nI_clamp (by omega)
  have no : ∀ (hf : ¬ jl_goes 13 nn a b mm), ja (jb_mk l (jb_rm 7 221 16 9728) 13 "MeasuredTensorsModel" D H0 (jt_all cI cJ cT cX) u) w2 sz 16 9728 228 [(11, .int (nI 0)), (10, .int (nI 1)), (9, .int (nI 0)), (8, .int (nI 0)), (0, .ref y), (1, .int (nI 13)), (2, .int (nI nn)), (3, .int a), (4, .int b), (5, .int (nI mm)), (6, .int xx), (7, .int yy)] [] := by
    intro hf
    refine ja_iconst C (nI 0) jd_Y_call_228 (by decide) ?_
    refine ja_istore C [(12, .int (nI 0)), (11, .int (nI 0)), (10, .int (nI 1)), (9, .int (nI 0)), (8, .int (nI 0)), (0, .ref y), (1, .int (nI 13)), (2, .int (nI nn)), (3, .int a), (4, .int b), (5, .int (nI mm)), (6, .int xx), (7, .int yy)] jd_Y_call_229 (Nat.le_of_ble_eq_true rfl) rfl ?_
    refine ja_iload C jd_Y_call_231 0 rfl ?_
    refine ja_if_eqN C 253 jd_Y_call_233 (by decide) (by decide) (fun _ => ?_) (fun q => absurd q (by decide))
    refine ja_bipush C (-5) jd_Y_call_253 (by decide) ?_
    exact E jd_Y_call_255 ⟨-5, 0, σ, rfl, ⟨fun z => absurd z nw, fun _ z => absurd z ng, fun _ _ => ⟨rfl, fun z => absurd (by rw [cw, cn, cm] at z; exact z) hf, fun _ => ⟨rfl, rfl⟩⟩⟩, h.jP hr⟩
  refine ja_iload_n C jd_Y_call_129 3 rfl ?_
  refine ja_bipush C (nI 8) jd_Y_call_130 (by decide) ?_
  refine ja_icmp_eqN C 159 jd_Y_call_132 (by decide) (by decide) (by decide) (fun q => absurd q (by decide)) (fun _ => ?_)
  refine ja_iload_n C jd_Y_call_135 3 rfl ?_
  refine ja_bipush C (nI 14) jd_Y_call_136 (by decide) ?_
  refine ja_icmp_eqN C 159 jd_Y_call_138 (by decide) (by decide) (by decide) (fun q => absurd q (by decide)) (fun _ => ?_)
  refine ja_iload_n C jd_Y_call_141 3 rfl ?_
  refine ja_bipush C (nI 18) jd_Y_call_142 (by decide) ?_
  refine ja_icmp_eqN C 159 jd_Y_call_144 (by decide) (by decide) (by decide) (fun q => absurd q (by decide)) (fun _ => ?_)
  refine ja_iload_n C jd_Y_call_147 3 rfl ?_
  refine ja_bipush C (nI 16) jd_Y_call_148 (by decide) ?_
  refine ja_icmp_eqN C 159 jd_Y_call_150 (by decide) (by decide) (by decide) (fun q => absurd q (by decide)) (fun _ => ?_)
  refine ja_iload_n C jd_Y_call_153 3 rfl ?_
  refine ja_bipush C (nI 17) jd_Y_call_154 (by decide) ?_
  refine ja_icmp_neN C 163 jd_Y_call_156 (by decide) (by decide) (by decide) (fun _ => ?_) (fun q => absurd q (by decide))
  refine ja_iconst C (nI 1) jd_Y_call_163 (by decide) ?_
  refine ja_istore C [(10, .int (nI 1)), (9, .int (nI 0)), (8, .int (nI 0)), (0, .ref y), (1, .int (nI 13)), (2, .int (nI nn)), (3, .int a), (4, .int b), (5, .int (nI mm)), (6, .int xx), (7, .int yy)] jd_Y_call_164 (Nat.le_of_ble_eq_true rfl) rfl ?_
  refine ja_iload_n C jd_Y_call_166 4 rfl ?_
  refine ja_bipush C (nI 16) jd_Y_call_167 (by decide) ?_
  refine ja_icmp_eqN C 178 jd_Y_call_169 (by decide) (by decide) (by decide) (fun q => absurd q (by decide)) (fun _ => ?_)
  refine ja_iload_n C jd_Y_call_172 4 rfl ?_
  refine ja_bipush C (nI 17) jd_Y_call_173 (by decide) ?_
  refine ja_icmp_neN C 182 jd_Y_call_175 (by decide) (by decide) (by decide) (fun _ => ?_) (fun q => absurd q (by decide))
  refine ja_iconst C (nI 0) jd_Y_call_182 (by decide) ?_
  refine ja_istore C [(11, .int (nI 0)), (10, .int (nI 1)), (9, .int (nI 0)), (8, .int (nI 0)), (0, .ref y), (1, .int (nI 13)), (2, .int (nI nn)), (3, .int a), (4, .int b), (5, .int (nI mm)), (6, .int xx), (7, .int yy)] jd_Y_call_183 (Nat.le_of_ble_eq_true rfl) rfl ?_
  refine ja_iload_n C jd_Y_call_185 6 rfl ?_
  refine ja_iload C jd_Y_call_186 1 rfl ?_
  refine ja_icmp_neN C 228 jd_Y_call_188 (by decide) (by omega) (by decide) (fun c188 => no (fun z => c188 z.1)) (fun c188 => ?_)
  refine ja_iload_n C jd_Y_call_191 7 rfl ?_
  refine ja_if_lt C 228 jd_Y_call_192 (by decide) (fun c192 => no (fun z => k2_nle c192 z.2.1)) (fun c192 => ?_)
  obtain ⟨ta, hta, ea⟩ := jl_tens (by omega) c192 (ga (by omega))
  subst c188
  refine ja_iload_n C jd_Y_call_195 6 rfl ?_
  refine ja_iconst C (nI 1) jd_Y_call_196 (by decide) ?_
  refine ja_icmp_eqN C 215 jd_Y_call_197 (by decide) (by decide) (by decide) (fun _ => ?_) (fun q => absurd q (by decide))
  refine ja_iload_n C jd_Y_call_215 5 rfl ?_
  refine ja_iload C jd_Y_call_216 9 rfl ?_
  refine jb_pS 8 C X jk_isMany (jn_isMany_13 (by omega)) jd_Y_call_218 rfl rfl ⟨by decide, by decide⟩ (Nat.le_of_ble_eq_true rfl) ?_
  refine ja_if_eqB C 228 jd_Y_call_221 (by decide) (fun c221 => no (fun z => c221 (of_decide_eq_true z.2.2.2))) (fun c221 => ?_)
  have hg : jl_goes what.toNatClampNeg n0.toNatClampNeg a b m0.toNatClampNeg := by
    rw [cw, cn, cm]
    exact ⟨rfl, k2_le c192, Or.inl rfl, decide_eq_true c221⟩
  subst ea
  obtain ⟨k1, hk1, ek1⟩ := nI_of (hx (by omega))
  obtain ⟨k2, hk2, ek2⟩ := nI_of (hy (by omega))
  subst ek1 ek2
  refine ja_iconst C (nI 1) jd_Y_call_224 (by decide) ?_
  refine ja_goto C 229 jd_Y_call_225 (by decide) ?_
  refine ja_istore C [(12, .int (nI 1)), (11, .int (nI 0)), (10, .int (nI 1)), (9, .int (nI 0)), (8, .int (nI 0)), (0, .ref y), (1, .int (nI 13)), (2, .int (nI 1)), (3, .int (nI ta)), (4, .int b), (5, .int (nI mm)), (6, .int (nI k1)), (7, .int (nI k2))] jd_Y_call_229 (Nat.le_of_ble_eq_true rfl) rfl ?_
  refine ja_iload C jd_Y_call_231 0 rfl ?_
  refine ja_if_eqN C 253 jd_Y_call_233 (by decide) (by decide) (fun q => absurd q (by decide)) (fun _ => ?_)
  refine ja_aload_n C jd_Y_call_236 5 rfl ?_
  refine ja_iload_n C jd_Y_call_237 6 rfl ?_
  refine ja_iload_n C jd_Y_call_238 8 rfl ?_
  refine ja_iload C jd_Y_call_239 9 rfl ?_
  refine ja_iload C jd_Y_call_241 10 rfl ?_
  refine ja_iload C jd_Y_call_243 11 rfl ?_
  refine ja_iload C jd_Y_call_245 12 rfl ?_
  refine jN_mV 8 C X jk_apply h rfl (jn_apply_13 h hct hta hk1 hk2) jd_Y_call_247 rfl rfl ⟨by decide, by decide⟩ (Nat.le_of_ble_eq_true rfl) (Nat.le_of_ble_eq_true rfl) (Nat.le_of_ble_eq_true rfl) (fun x1 σ1 w1 z1 hp1 => ?_)
  obtain ⟨ha1, hq1⟩ := hp1
  refine ja_goto C 255 jd_Y_call_250 (by decide) ?_
  exact E jd_Y_call_255 ⟨x1, 0, σ1, rfl, ⟨fun z => absurd z nw, fun _ z => absurd z ng, fun _ _ => ⟨rfl, fun _ => by rw [cw, cm, nI_clamp (show ta < 2 ^ 31 by omega)]; show jA_pt σ ta (nI k1).toNatClampNeg (nI k2).toNatClampNeg x1 σ1; rw [nI_clamp hk1, nI_clamp hk2]; exact ha1, fun z => absurd hg z⟩⟩, jP.from hr hq1⟩
theorem jn_call_14 {u : jb_U} {what n0 a b m0 xx yy : Int32} {nn mm : Nat} {w2 : jb_W} (C : ja_C (jb_mk l (jb_rm 7 221 16 9728) 13 "MeasuredTensorsModel" D H0 (jt_all cI cJ cT cX) u) jc_Y_call) (X : jb_X H0 u.1.2.2) (E : jb_Ei (jb_mk l (jb_rm 7 221 16 9728) 13 "MeasuredTensorsModel" D H0 (jt_all cI cJ cT cX) u) jc_Y_call (fun v w' sz' => ∃ (x th' : Int32) (σ' : jSt), v = some (.int x) ∧ jA_call σ what n0 a b m0 xx yy x th' σ' ∧ jP cI cJ y A w sz σ' th' w' sz')) (h : jN cI cJ y A n n2 σ w2 (nI 0) rk N) (hr : jR y A w w2) (hct : jSt_c σ < 512) (hnn : nn ≤ 2) (hmm : mm ≤ 2) (ew : what = nI 14) (en : n0 = nI nn) (em : m0 = nI mm) (hx : 0 < mm → ¬ xx < 0) (hy : 1 < mm → ¬ yy < 0) (ga : 0 < nn → ¬ jl_none σ a) (gb : 1 < nn → ¬ jl_none σ b) (nw : ¬ jl_wrong what n0 m0 xx yy) (ng : ¬ jl_gone σ n0 a b) :
    ja (jb_mk l (jb_rm 7 221 16 9728) 13 "MeasuredTensorsModel" D H0 (jt_all cI cJ cT cX) u) w2 sz 16 9728 129 [(9, .int (nI 0)), (8, .int (nI 0)), (0, .ref y), (1, .int (nI 14)), (2, .int (nI nn)), (3, .int a), (4, .int b), (5, .int (nI mm)), (6, .int xx), (7, .int yy)] [] := by
  have hn := h.cn
  have hni := h.ci
  have cw : what.toNatClampNeg = 14 := by rw [ew]; exact nI_clamp (by decide)
  have cn : n0.toNatClampNeg = nn := by rw [en]; exact nI_clamp (by omega)
  have cm : m0.toNatClampNeg = mm := by rw [em]; exact nI_clamp (by omega)
  have no : ∀ (hf : ¬ jl_goes 14 nn a b mm), ja (jb_mk l (jb_rm 7 221 16 9728) 13 "MeasuredTensorsModel" D H0 (jt_all cI cJ cT cX) u) w2 sz 16 9728 228 [(11, .int (nI 0)), (10, .int (nI 2)), (9, .int (nI 0)), (8, .int (nI 0)), (0, .ref y), (1, .int (nI 14)), (2, .int (nI nn)), (3, .int a), (4, .int b), (5, .int (nI mm)), (6, .int xx), (7, .int yy)] [] := by
    intro hf
    refine ja_iconst C (nI 0) jd_Y_call_228 (by decide) ?_
    refine ja_istore C [(12, .int (nI 0)), (11, .int (nI 0)), (10, .int (nI 2)), (9, .int (nI 0)), (8, .int (nI 0)), (0, .ref y), (1, .int (nI 14)), (2, .int (nI nn)), (3, .int a), (4, .int b), (5, .int (nI mm)), (6, .int xx), (7, .int yy)] jd_Y_call_229 (Nat.le_of_ble_eq_true rfl) rfl ?_
    refine ja_iload C jd_Y_call_231 0 rfl ?_
    refine ja_if_eqN C 253 jd_Y_call_233 (by decide) (by decide) (fun _ => ?_) (fun q => absurd q (by decide))
    refine ja_bipush C (-5) jd_Y_call_253 (by decide) ?_
    exact E jd_Y_call_255 ⟨-5, 0, σ, rfl, ⟨fun z => absurd z nw, fun _ z => absurd z ng, fun _ _ => ⟨rfl, fun z => absurd (by rw [cw, cn, cm] at z; exact z) hf, fun _ => ⟨rfl, rfl⟩⟩⟩, h.jP hr⟩
  refine ja_iload_n C jd_Y_call_129 3 rfl ?_
  refine ja_bipush C (nI 8) jd_Y_call_130 (by decide) ?_
  refine ja_icmp_eqN C 159 jd_Y_call_132 (by decide) (by decide) (by decide) (fun q => absurd q (by decide)) (fun _ => ?_)
  refine ja_iload_n C jd_Y_call_135 3 rfl ?_
  refine ja_bipush C (nI 14) jd_Y_call_136 (by decide) ?_
  refine ja_icmp_eqN C 159 jd_Y_call_138 (by decide) (by decide) (by decide) (fun _ => ?_) (fun q => absurd q (by decide))
  refine ja_iconst C (nI 2) jd_Y_call_159 (by decide) ?_
  refine ja_goto C 164 jd_Y_call_160 (by decide) ?_
  refine ja_istore C [(10, .int (nI 2)), (9, .int (nI 0)), (8, .int (nI 0)), (0, .ref y), (1, .int (nI 14)), (2, .int (nI nn)), (3, .int a), (4, .int b), (5, .int (nI mm)), (6, .int xx), (7, .int yy)] jd_Y_call_164 (Nat.le_of_ble_eq_true rfl) rfl ?_
  refine ja_iload_n C jd_Y_call_166 4 rfl ?_
  refine ja_bipush C (nI 16) jd_Y_call_167 (by decide) ?_
  refine ja_icmp_eqN C 178 jd_Y_call_169 (by decide) (by decide) (by decide) (fun q => absurd q (by decide)) (fun _ => ?_)
  refine ja_iload_n C jd_Y_call_172 4 rfl ?_
  refine ja_bipush C (nI 17) jd_Y_call_173 (by decide) ?_
  refine ja_icmp_neN C 182 jd_Y_call_175 (by decide) (by decide) (by decide) (fun _ => ?_) (fun q => absurd q (by decide))
  refine ja_iconst C (nI 0) jd_Y_call_182 (by decide) ?_
  refine ja_istore C [(11, .int (nI 0)), (10, .int (nI 2)), (9, .int (nI 0)), (8, .int (nI 0)), (0, .ref y), (1, .int (nI 14)), (2, .int (nI nn)), (3, .int a), (4, .int b), (5, .int (nI mm)), (6, .int xx), (7, .int yy)] jd_Y_call_183 (Nat.le_of_ble_eq_true rfl) rfl ?_
  refine ja_iload_n C jd_Y_call_185 6 rfl ?_
  refine ja_iload C jd_Y_call_186 1 rfl ?_
  refine ja_icmp_neN C 228 jd_Y_call_188 (by decide) (by omega) (by decide) (fun c188 => no (fun z => c188 z.1)) (fun c188 => ?_)
  refine ja_iload_n C jd_Y_call_191 7 rfl ?_
  refine ja_if_lt C 228 jd_Y_call_192 (by decide) (fun c192 => no (fun z => k2_nle c192 z.2.1)) (fun c192 => ?_)
  obtain ⟨ta, hta, ea⟩ := jl_tens (by omega) c192 (ga (by omega))
  subst c188
  refine ja_iload_n C jd_Y_call_195 6 rfl ?_
  refine ja_iconst C (nI 1) jd_Y_call_196 (by decide) ?_
  refine ja_icmp_eqN C 215 jd_Y_call_197 (by decide) (by decide) (by decide) (fun q => absurd q (by decide)) (fun _ => ?_)
  refine ja_iload C jd_Y_call_200 0 rfl ?_
  refine ja_iload C jd_Y_call_202 8 rfl ?_
  have noB : ∀ (hf : ¬ jl_goes 14 2 a b mm), ja (jb_mk l (jb_rm 7 221 16 9728) 13 "MeasuredTensorsModel" D H0 (jt_all cI cJ cT cX) u) w2 sz 16 9728 207 [(11, .int (nI 0)), (10, .int (nI 2)), (9, .int (nI 0)), (8, .int (nI 0)), (0, .ref y), (1, .int (nI 14)), (2, .int (nI 2)), (3, .int a), (4, .int b), (5, .int (nI mm)), (6, .int xx), (7, .int yy)] [.int (nI 0)] := by
    intro hf
    refine ja_iconst C (nI 1) jd_Y_call_207 (by decide) ?_
    refine ja_goto C 212 jd_Y_call_208 (by decide) ?_
    refine ja_icmp_neN C 228 jd_Y_call_212 (by decide) (by decide) (by decide) (fun _ => ?_) (fun q => absurd q (by decide))
    exact no hf
  refine ja_if_ge C 211 jd_Y_call_204 (by decide) (fun c204 => ?_) (fun c204 => noB (fun z => by rcases z.2.2.1 with q | q; omega; exact absurd (q.mpr (k2_lt c204)) (by decide)))
  refine ja_iconst C (nI 0) jd_Y_call_211 (by decide) ?_
  refine ja_icmp_neN C 228 jd_Y_call_212 (by decide) (by decide) (by decide) (fun q => absurd q (by decide)) (fun _ => ?_)
  refine ja_iload_n C jd_Y_call_215 5 rfl ?_
  refine ja_iload C jd_Y_call_216 9 rfl ?_
  have c204 : ¬ b < 0 := k2_nlt c204
  obtain ⟨tb, htb, eb⟩ := jl_tens (by omega) c204 (gb (by omega))
  have hk : 14 = 16 ∨ 14 = 17 ↔ b < 0 := ⟨fun z => absurd z (by decide), fun z => absurd z c204⟩
  refine jb_pS 8 C X jk_isMany (jn_isMany_14 (by omega)) jd_Y_call_218 rfl rfl ⟨by decide, by decide⟩ (Nat.le_of_ble_eq_true rfl) ?_
  refine ja_if_eqB C 228 jd_Y_call_221 (by decide) (fun c221 => no (fun z => c221 (of_decide_eq_true z.2.2.2))) (fun c221 => ?_)
  have hg : jl_goes what.toNatClampNeg n0.toNatClampNeg a b m0.toNatClampNeg := by
    rw [cw, cn, cm]
    exact ⟨rfl, k2_le c192, Or.inr hk, decide_eq_true c221⟩
  subst ea
  subst eb
  refine ja_iconst C (nI 1) jd_Y_call_224 (by decide) ?_
  refine ja_goto C 229 jd_Y_call_225 (by decide) ?_
  refine ja_istore C [(12, .int (nI 1)), (11, .int (nI 0)), (10, .int (nI 2)), (9, .int (nI 0)), (8, .int (nI 0)), (0, .ref y), (1, .int (nI 14)), (2, .int (nI 2)), (3, .int (nI ta)), (4, .int (nI tb)), (5, .int (nI mm)), (6, .int xx), (7, .int yy)] jd_Y_call_229 (Nat.le_of_ble_eq_true rfl) rfl ?_
  refine ja_iload C jd_Y_call_231 0 rfl ?_
  refine ja_if_eqN C 253 jd_Y_call_233 (by decide) (by decide) (fun q => absurd q (by decide)) (fun _ => ?_)
  refine ja_aload_n C jd_Y_call_236 5 rfl ?_
  refine ja_iload_n C jd_Y_call_237 6 rfl ?_
  refine ja_iload_n C jd_Y_call_238 8 rfl ?_
  refine ja_iload C jd_Y_call_239 9 rfl ?_
  refine ja_iload C jd_Y_call_241 10 rfl ?_
  refine ja_iload C jd_Y_call_243 11 rfl ?_
  refine ja_iload C jd_Y_call_245 12 rfl ?_
  refine jN_mV 8 C X jk_apply h rfl (jn_apply_14 h hct hta htb) jd_Y_call_247 rfl rfl ⟨by decide, by decide⟩ (Nat.le_of_ble_eq_true rfl) (Nat.le_of_ble_eq_true rfl) (Nat.le_of_ble_eq_true rfl) (fun x1 σ1 w1 z1 hp1 => ?_)
  obtain ⟨ha1, hq1⟩ := hp1
  refine ja_goto C 255 jd_Y_call_250 (by decide) ?_
  exact E jd_Y_call_255 ⟨x1, 0, σ1, rfl, ⟨fun z => absurd z nw, fun _ z => absurd z ng, fun _ _ => ⟨rfl, fun _ => by rw [cw, cm, nI_clamp (show ta < 2 ^ 31 by omega)]; show jA_join σ ta (nI tb).toNatClampNeg x1 σ1; rw [nI_clamp (show tb < 2 ^ 31 by omega)]; exact ha1, fun z => absurd hg z⟩⟩, jP.from hr hq1⟩
theorem jn_call_15 {u : jb_U} {what n0 a b m0 xx yy : Int32} {nn mm : Nat} {w2 : jb_W} (C : ja_C (jb_mk l (jb_rm 7 221 16 9728) 13 "MeasuredTensorsModel" D H0 (jt_all cI cJ cT cX) u) jc_Y_call) (X : jb_X H0 u.1.2.2) (E : jb_Ei (jb_mk l (jb_rm 7 221 16 9728) 13 "MeasuredTensorsModel" D H0 (jt_all cI cJ cT cX) u) jc_Y_call (fun v w' sz' => ∃ (x th' : Int32) (σ' : jSt), v = some (.int x) ∧ jA_call σ what n0 a b m0 xx yy x th' σ' ∧ jP cI cJ y A w sz σ' th' w' sz')) (h : jN cI cJ y A n n2 σ w2 (nI 0) rk N) (hr : jR y A w w2) (hct : jSt_c σ < 512) (hnn : nn ≤ 2) (hmm : mm ≤ 2) (ew : what = nI 15) (en : n0 = nI nn) (em : m0 = nI mm) (hx : 0 < mm → ¬ xx < 0) (hy : 1 < mm → ¬ yy < 0) (ga : 0 < nn → ¬ jl_none σ a) (gb : 1 < nn → ¬ jl_none σ b) (nw : ¬ jl_wrong what n0 m0 xx yy) (ng : ¬ jl_gone σ n0 a b) :
    ja (jb_mk l (jb_rm 7 221 16 9728) 13 "MeasuredTensorsModel" D H0 (jt_all cI cJ cT cX) u) w2 sz 16 9728 129 [(9, .int (nI 0)), (8, .int (nI 0)), (0, .ref y), (1, .int (nI 15)), (2, .int (nI nn)), (3, .int a), (4, .int b), (5, .int (nI mm)), (6, .int xx), (7, .int yy)] [] := by
  have hn := h.cn
  have hni := h.ci
  have cw : what.toNatClampNeg = 15 := by rw [ew]; exact nI_clamp (by decide)
  have cn : n0.toNatClampNeg = nn := by rw [en]; exact nI_clamp (by omega)
  have cm : m0.toNatClampNeg = mm := by rw [em]; exact nI_clamp (by omega)
  have no : ∀ (hf : ¬ jl_goes 15 nn a b mm), ja (jb_mk l (jb_rm 7 221 16 9728) 13 "MeasuredTensorsModel" D H0 (jt_all cI cJ cT cX) u) w2 sz 16 9728 228 [(11, .int (nI 0)), (10, .int (nI 1)), (9, .int (nI 0)), (8, .int (nI 0)), (0, .ref y), (1, .int (nI 15)), (2, .int (nI nn)), (3, .int a), (4, .int b), (5, .int (nI mm)), (6, .int xx), (7, .int yy)] [] := by
    intro hf
    refine ja_iconst C (nI 0) jd_Y_call_228 (by decide) ?_
    refine ja_istore C [(12, .int (nI 0)), (11, .int (nI 0)), (10, .int (nI 1)), (9, .int (nI 0)), (8, .int (nI 0)), (0, .ref y), (1, .int (nI 15)), (2, .int (nI nn)), (3, .int a), (4, .int b), (5, .int (nI mm)), (6, .int xx), (7, .int yy)] jd_Y_call_229 (Nat.le_of_ble_eq_true rfl) rfl ?_
    refine ja_iload C jd_Y_call_231 0 rfl ?_
    refine ja_if_eqN C 253 jd_Y_call_233 (by decide) (by decide) (fun _ => ?_) (fun q => absurd q (by decide))
    refine ja_bipush C (-5) jd_Y_call_253 (by decide) ?_
    exact E jd_Y_call_255 ⟨-5, 0, σ, rfl, ⟨fun z => absurd z nw, fun _ z => absurd z ng, fun _ _ => ⟨rfl, fun z => absurd (by rw [cw, cn, cm] at z; exact z) hf, fun _ => ⟨rfl, rfl⟩⟩⟩, h.jP hr⟩
  refine ja_iload_n C jd_Y_call_129 3 rfl ?_
  refine ja_bipush C (nI 8) jd_Y_call_130 (by decide) ?_
  refine ja_icmp_eqN C 159 jd_Y_call_132 (by decide) (by decide) (by decide) (fun q => absurd q (by decide)) (fun _ => ?_)
  refine ja_iload_n C jd_Y_call_135 3 rfl ?_
  refine ja_bipush C (nI 14) jd_Y_call_136 (by decide) ?_
  refine ja_icmp_eqN C 159 jd_Y_call_138 (by decide) (by decide) (by decide) (fun q => absurd q (by decide)) (fun _ => ?_)
  refine ja_iload_n C jd_Y_call_141 3 rfl ?_
  refine ja_bipush C (nI 18) jd_Y_call_142 (by decide) ?_
  refine ja_icmp_eqN C 159 jd_Y_call_144 (by decide) (by decide) (by decide) (fun q => absurd q (by decide)) (fun _ => ?_)
  refine ja_iload_n C jd_Y_call_147 3 rfl ?_
  refine ja_bipush C (nI 16) jd_Y_call_148 (by decide) ?_
  refine ja_icmp_eqN C 159 jd_Y_call_150 (by decide) (by decide) (by decide) (fun q => absurd q (by decide)) (fun _ => ?_)
  refine ja_iload_n C jd_Y_call_153 3 rfl ?_
  refine ja_bipush C (nI 17) jd_Y_call_154 (by decide) ?_
  refine ja_icmp_neN C 163 jd_Y_call_156 (by decide) (by decide) (by decide) (fun _ => ?_) (fun q => absurd q (by decide))
  refine ja_iconst C (nI 1) jd_Y_call_163 (by decide) ?_
  refine ja_istore C [(10, .int (nI 1)), (9, .int (nI 0)), (8, .int (nI 0)), (0, .ref y), (1, .int (nI 15)), (2, .int (nI nn)), (3, .int a), (4, .int b), (5, .int (nI mm)), (6, .int xx), (7, .int yy)] jd_Y_call_164 (Nat.le_of_ble_eq_true rfl) rfl ?_
  refine ja_iload_n C jd_Y_call_166 4 rfl ?_
  refine ja_bipush C (nI 16) jd_Y_call_167 (by decide) ?_
  refine ja_icmp_eqN C 178 jd_Y_call_169 (by decide) (by decide) (by decide) (fun q => absurd q (by decide)) (fun _ => ?_)
  refine ja_iload_n C jd_Y_call_172 4 rfl ?_
  refine ja_bipush C (nI 17) jd_Y_call_173 (by decide) ?_
  refine ja_icmp_neN C 182 jd_Y_call_175 (by decide) (by decide) (by decide) (fun _ => ?_) (fun q => absurd q (by decide))
  refine ja_iconst C (nI 0) jd_Y_call_182 (by decide) ?_
  refine ja_istore C [(11, .int (nI 0)), (10, .int (nI 1)), (9, .int (nI 0)), (8, .int (nI 0)), (0, .ref y), (1, .int (nI 15)), (2, .int (nI nn)), (3, .int a), (4, .int b), (5, .int (nI mm)), (6, .int xx), (7, .int yy)] jd_Y_call_183 (Nat.le_of_ble_eq_true rfl) rfl ?_
  refine ja_iload_n C jd_Y_call_185 6 rfl ?_
  refine ja_iload C jd_Y_call_186 1 rfl ?_
  refine ja_icmp_neN C 228 jd_Y_call_188 (by decide) (by omega) (by decide) (fun c188 => no (fun z => c188 z.1)) (fun c188 => ?_)
  refine ja_iload_n C jd_Y_call_191 7 rfl ?_
  refine ja_if_lt C 228 jd_Y_call_192 (by decide) (fun c192 => no (fun z => k2_nle c192 z.2.1)) (fun c192 => ?_)
  obtain ⟨ta, hta, ea⟩ := jl_tens (by omega) c192 (ga (by omega))
  subst c188
  refine ja_iload_n C jd_Y_call_195 6 rfl ?_
  refine ja_iconst C (nI 1) jd_Y_call_196 (by decide) ?_
  refine ja_icmp_eqN C 215 jd_Y_call_197 (by decide) (by decide) (by decide) (fun _ => ?_) (fun q => absurd q (by decide))
  refine ja_iload_n C jd_Y_call_215 5 rfl ?_
  refine ja_iload C jd_Y_call_216 9 rfl ?_
  refine jb_pS 8 C X jk_isMany (jn_isMany_15 (by omega)) jd_Y_call_218 rfl rfl ⟨by decide, by decide⟩ (Nat.le_of_ble_eq_true rfl) ?_
  refine ja_if_eqB C 228 jd_Y_call_221 (by decide) (fun c221 => no (fun z => c221 (of_decide_eq_true z.2.2.2))) (fun c221 => ?_)
  have hg : jl_goes what.toNatClampNeg n0.toNatClampNeg a b m0.toNatClampNeg := by
    rw [cw, cn, cm]
    exact ⟨rfl, k2_le c192, Or.inl rfl, decide_eq_true c221⟩
  subst ea
  have hk0 := hx (by omega)
  obtain ⟨k, hk9, ek⟩ := nI_of hk0
  subst ek
  refine ja_iconst C (nI 1) jd_Y_call_224 (by decide) ?_
  refine ja_goto C 229 jd_Y_call_225 (by decide) ?_
  refine ja_istore C [(12, .int (nI 1)), (11, .int (nI 0)), (10, .int (nI 1)), (9, .int (nI 0)), (8, .int (nI 0)), (0, .ref y), (1, .int (nI 15)), (2, .int (nI 1)), (3, .int (nI ta)), (4, .int b), (5, .int (nI mm)), (6, .int (nI k)), (7, .int yy)] jd_Y_call_229 (Nat.le_of_ble_eq_true rfl) rfl ?_
  refine ja_iload C jd_Y_call_231 0 rfl ?_
  refine ja_if_eqN C 253 jd_Y_call_233 (by decide) (by decide) (fun q => absurd q (by decide)) (fun _ => ?_)
  refine ja_aload_n C jd_Y_call_236 5 rfl ?_
  refine ja_iload_n C jd_Y_call_237 6 rfl ?_
  refine ja_iload_n C jd_Y_call_238 8 rfl ?_
  refine ja_iload C jd_Y_call_239 9 rfl ?_
  refine ja_iload C jd_Y_call_241 10 rfl ?_
  refine ja_iload C jd_Y_call_243 11 rfl ?_
  refine ja_iload C jd_Y_call_245 12 rfl ?_
  refine jN_mV 8 C X jk_apply h rfl (jn_apply_15 h hct hta hk9) jd_Y_call_247 rfl rfl ⟨by decide, by decide⟩ (Nat.le_of_ble_eq_true rfl) (Nat.le_of_ble_eq_true rfl) (Nat.le_of_ble_eq_true rfl) (fun x1 σ1 w1 z1 hp1 => ?_)
  obtain ⟨ha1, hq1⟩ := hp1
  refine ja_goto C 255 jd_Y_call_250 (by decide) ?_
  exact E jd_Y_call_255 ⟨x1, 0, σ1, rfl, ⟨fun z => absurd z nw, fun _ z => absurd z ng, fun _ _ => ⟨rfl, fun _ => by rw [cw, cm, nI_clamp (show ta < 2 ^ 31 by omega)]; show jA_pd σ ta (nI k).toNatClampNeg x1 σ1; rw [nI_clamp hk9]; exact ha1, fun z => absurd hg z⟩⟩, jP.from hr hq1⟩
theorem jn_call_16 {u : jb_U} {what n0 a b m0 xx yy : Int32} {nn mm : Nat} {w2 : jb_W} (C : ja_C (jb_mk l (jb_rm 7 221 16 9728) 13 "MeasuredTensorsModel" D H0 (jt_all cI cJ cT cX) u) jc_Y_call) (X : jb_X H0 u.1.2.2) (E : jb_Ei (jb_mk l (jb_rm 7 221 16 9728) 13 "MeasuredTensorsModel" D H0 (jt_all cI cJ cT cX) u) jc_Y_call (fun v w' sz' => ∃ (x th' : Int32) (σ' : jSt), v = some (.int x) ∧ jA_call σ what n0 a b m0 xx yy x th' σ' ∧ jP cI cJ y A w sz σ' th' w' sz')) (h : jN cI cJ y A n n2 σ w2 (nI 0) rk N) (hr : jR y A w w2) (hct : jSt_c σ < 512) (hnn : nn ≤ 2) (hmm : mm ≤ 2) (ew : what = nI 16) (en : n0 = nI nn) (em : m0 = nI mm) (hx : 0 < mm → ¬ xx < 0) (hy : 1 < mm → ¬ yy < 0) (ga : 0 < nn → ¬ jl_none σ a) (gb : 1 < nn → ¬ jl_none σ b) (nw : ¬ jl_wrong what n0 m0 xx yy) (ng : ¬ jl_gone σ n0 a b) :
    ja (jb_mk l (jb_rm 7 221 16 9728) 13 "MeasuredTensorsModel" D H0 (jt_all cI cJ cT cX) u) w2 sz 16 9728 129 [(9, .int (nI 0)), (8, .int (nI 0)), (0, .ref y), (1, .int (nI 16)), (2, .int (nI nn)), (3, .int a), (4, .int b), (5, .int (nI mm)), (6, .int xx), (7, .int yy)] [] := by
  have hn := h.cn
  have hni := h.ci
  have cw : what.toNatClampNeg = 16 := by rw [ew]; exact nI_clamp (by decide)
  have cn : n0.toNatClampNeg = nn := by rw [en]; exact nI_clamp (by omega)
  have cm : m0.toNatClampNeg = mm := by rw [em]; exact nI_clamp (by omega)
  have no : ∀ (hf : ¬ jl_goes 16 nn a b mm), ja (jb_mk l (jb_rm 7 221 16 9728) 13 "MeasuredTensorsModel" D H0 (jt_all cI cJ cT cX) u) w2 sz 16 9728 228 [(11, .int (nI 1)), (10, .int (nI 2)), (9, .int (nI 0)), (8, .int (nI 0)), (0, .ref y), (1, .int (nI 16)), (2, .int (nI nn)), (3, .int a), (4, .int b), (5, .int (nI mm)), (6, .int xx), (7, .int yy)] [] := by
    intro hf
    refine ja_iconst C (nI 0) jd_Y_call_228 (by decide) ?_
    refine ja_istore C [(12, .int (nI 0)), (11, .int (nI 1)), (10, .int (nI 2)), (9, .int (nI 0)), (8, .int (nI 0)), (0, .ref y), (1, .int (nI 16)), (2, .int (nI nn)), (3, .int a), (4, .int b), (5, .int (nI mm)), (6, .int xx), (7, .int yy)] jd_Y_call_229 (Nat.le_of_ble_eq_true rfl) rfl ?_
    refine ja_iload C jd_Y_call_231 0 rfl ?_
    refine ja_if_eqN C 253 jd_Y_call_233 (by decide) (by decide) (fun _ => ?_) (fun q => absurd q (by decide))
    refine ja_bipush C (-5) jd_Y_call_253 (by decide) ?_
    exact E jd_Y_call_255 ⟨-5, 0, σ, rfl, ⟨fun z => absurd z nw, fun _ z => absurd z ng, fun _ _ => ⟨rfl, fun z => absurd (by rw [cw, cn, cm] at z; exact z) hf, fun _ => ⟨rfl, rfl⟩⟩⟩, h.jP hr⟩
  refine ja_iload_n C jd_Y_call_129 3 rfl ?_
  refine ja_bipush C (nI 8) jd_Y_call_130 (by decide) ?_
  refine ja_icmp_eqN C 159 jd_Y_call_132 (by decide) (by decide) (by decide) (fun q => absurd q (by decide)) (fun _ => ?_)
  refine ja_iload_n C jd_Y_call_135 3 rfl ?_
  refine ja_bipush C (nI 14) jd_Y_call_136 (by decide) ?_
  refine ja_icmp_eqN C 159 jd_Y_call_138 (by decide) (by decide) (by decide) (fun q => absurd q (by decide)) (fun _ => ?_)
  refine ja_iload_n C jd_Y_call_141 3 rfl ?_
  refine ja_bipush C (nI 18) jd_Y_call_142 (by decide) ?_
  refine ja_icmp_eqN C 159 jd_Y_call_144 (by decide) (by decide) (by decide) (fun q => absurd q (by decide)) (fun _ => ?_)
  refine ja_iload_n C jd_Y_call_147 3 rfl ?_
  refine ja_bipush C (nI 16) jd_Y_call_148 (by decide) ?_
  refine ja_icmp_eqN C 159 jd_Y_call_150 (by decide) (by decide) (by decide) (fun _ => ?_) (fun q => absurd q (by decide))
  refine ja_iconst C (nI 2) jd_Y_call_159 (by decide) ?_
  refine ja_goto C 164 jd_Y_call_160 (by decide) ?_
  refine ja_istore C [(10, .int (nI 2)), (9, .int (nI 0)), (8, .int (nI 0)), (0, .ref y), (1, .int (nI 16)), (2, .int (nI nn)), (3, .int a), (4, .int b), (5, .int (nI mm)), (6, .int xx), (7, .int yy)] jd_Y_call_164 (Nat.le_of_ble_eq_true rfl) rfl ?_
  refine ja_iload_n C jd_Y_call_166 4 rfl ?_
  refine ja_bipush C (nI 16) jd_Y_call_167 (by decide) ?_
  refine ja_icmp_eqN C 178 jd_Y_call_169 (by decide) (by decide) (by decide) (fun _ => ?_) (fun q => absurd q (by decide))
  refine ja_iconst C (nI 1) jd_Y_call_178 (by decide) ?_
  refine ja_goto C 183 jd_Y_call_179 (by decide) ?_
  refine ja_istore C [(11, .int (nI 1)), (10, .int (nI 2)), (9, .int (nI 0)), (8, .int (nI 0)), (0, .ref y), (1, .int (nI 16)), (2, .int (nI nn)), (3, .int a), (4, .int b), (5, .int (nI mm)), (6, .int xx), (7, .int yy)] jd_Y_call_183 (Nat.le_of_ble_eq_true rfl) rfl ?_
  refine ja_iload_n C jd_Y_call_185 6 rfl ?_
  refine ja_iload C jd_Y_call_186 1 rfl ?_
  refine ja_icmp_neN C 228 jd_Y_call_188 (by decide) (by omega) (by decide) (fun c188 => no (fun z => c188 z.1)) (fun c188 => ?_)
  refine ja_iload_n C jd_Y_call_191 7 rfl ?_
  refine ja_if_lt C 228 jd_Y_call_192 (by decide) (fun c192 => no (fun z => k2_nle c192 z.2.1)) (fun c192 => ?_)
  obtain ⟨ta, hta, ea⟩ := jl_tens (by omega) c192 (ga (by omega))
  subst c188
  refine ja_iload_n C jd_Y_call_195 6 rfl ?_
  refine ja_iconst C (nI 1) jd_Y_call_196 (by decide) ?_
  refine ja_icmp_eqN C 215 jd_Y_call_197 (by decide) (by decide) (by decide) (fun q => absurd q (by decide)) (fun _ => ?_)
  refine ja_iload C jd_Y_call_200 0 rfl ?_
  refine ja_iload C jd_Y_call_202 8 rfl ?_
  have noA : ∀ (hf : ¬ jl_goes 16 2 a b mm), ja (jb_mk l (jb_rm 7 221 16 9728) 13 "MeasuredTensorsModel" D H0 (jt_all cI cJ cT cX) u) w2 sz 16 9728 211 [(11, .int (nI 1)), (10, .int (nI 2)), (9, .int (nI 0)), (8, .int (nI 0)), (0, .ref y), (1, .int (nI 16)), (2, .int (nI 2)), (3, .int a), (4, .int b), (5, .int (nI mm)), (6, .int xx), (7, .int yy)] [.int (nI 1)] := by
    intro hf
    refine ja_iconst C (nI 0) jd_Y_call_211 (by decide) ?_
    refine ja_icmp_neN C 228 jd_Y_call_212 (by decide) (by decide) (by decide) (fun _ => ?_) (fun q => absurd q (by decide))
    exact no hf
  refine ja_if_ge C 211 jd_Y_call_204 (by decide) (fun c204 => noA (fun z => by rcases z.2.2.1 with q | q; omega; exact k2_nlt c204 (q.mp (by decide)))) (fun c204 => ?_)
  refine ja_iconst C (nI 1) jd_Y_call_207 (by decide) ?_
  refine ja_goto C 212 jd_Y_call_208 (by decide) ?_
  refine ja_icmp_neN C 228 jd_Y_call_212 (by decide) (by decide) (by decide) (fun q => absurd q (by decide)) (fun _ => ?_)
  refine ja_iload_n C jd_Y_call_215 5 rfl ?_
  refine ja_iload C jd_Y_call_216 9 rfl ?_
  have c204 : b < 0 := k2_lt c204
  obtain ⟨i, hti, eb⟩ := jl_indx (by omega) c204 (gb (by omega))
  have hk : 16 = 16 ∨ 16 = 17 ↔ b < 0 := ⟨fun _ => c204, fun _ => by decide⟩
  refine jb_pS 8 C X jk_isMany (jn_isMany_16 (by omega)) jd_Y_call_218 rfl rfl ⟨by decide, by decide⟩ (Nat.le_of_ble_eq_true rfl) ?_
  refine ja_if_eqB C 228 jd_Y_call_221 (by decide) (fun c221 => no (fun z => c221 (of_decide_eq_true z.2.2.2))) (fun c221 => ?_)
  have hg : jl_goes what.toNatClampNeg n0.toNatClampNeg a b m0.toNatClampNeg := by
    rw [cw, cn, cm]
    exact ⟨rfl, k2_le c192, Or.inr hk, decide_eq_true c221⟩
  subst ea
  refine ja_iconst C (nI 1) jd_Y_call_224 (by decide) ?_
  refine ja_goto C 229 jd_Y_call_225 (by decide) ?_
  refine ja_istore C [(12, .int (nI 1)), (11, .int (nI 1)), (10, .int (nI 2)), (9, .int (nI 0)), (8, .int (nI 0)), (0, .ref y), (1, .int (nI 16)), (2, .int (nI 2)), (3, .int (nI ta)), (4, .int b), (5, .int (nI mm)), (6, .int xx), (7, .int yy)] jd_Y_call_229 (Nat.le_of_ble_eq_true rfl) rfl ?_
  refine ja_iload C jd_Y_call_231 0 rfl ?_
  refine ja_if_eqN C 253 jd_Y_call_233 (by decide) (by decide) (fun q => absurd q (by decide)) (fun _ => ?_)
  refine ja_aload_n C jd_Y_call_236 5 rfl ?_
  refine ja_iload_n C jd_Y_call_237 6 rfl ?_
  refine ja_iload_n C jd_Y_call_238 8 rfl ?_
  refine ja_iload C jd_Y_call_239 9 rfl ?_
  refine ja_iload C jd_Y_call_241 10 rfl ?_
  refine ja_iload C jd_Y_call_243 11 rfl ?_
  refine ja_iload C jd_Y_call_245 12 rfl ?_
  refine jN_mV 8 C X jk_apply h rfl (jn_apply_16 h hct hta eb hti) jd_Y_call_247 rfl rfl ⟨by decide, by decide⟩ (Nat.le_of_ble_eq_true rfl) (Nat.le_of_ble_eq_true rfl) (Nat.le_of_ble_eq_true rfl) (fun x1 σ1 w1 z1 hp1 => ?_)
  obtain ⟨ha1, hq1⟩ := hp1
  refine ja_goto C 255 jd_Y_call_250 (by decide) ?_
  exact E jd_Y_call_255 ⟨x1, 0, σ1, rfl, ⟨fun z => absurd z nw, fun _ z => absurd z ng, fun _ _ => ⟨rfl, fun _ => by rw [cw, cm, nI_clamp (show ta < 2 ^ 31 by omega)]; show jA_pk σ ta (-1 - b).toNatClampNeg x1 σ1; rw [eb, nI_clamp (show i < 2 ^ 31 by omega)]; exact ha1, fun z => absurd hg z⟩⟩, jP.from hr hq1⟩
theorem jn_call_17 {u : jb_U} {what n0 a b m0 xx yy : Int32} {nn mm : Nat} {w2 : jb_W} (C : ja_C (jb_mk l (jb_rm 7 221 16 9728) 13 "MeasuredTensorsModel" D H0 (jt_all cI cJ cT cX) u) jc_Y_call) (X : jb_X H0 u.1.2.2) (E : jb_Ei (jb_mk l (jb_rm 7 221 16 9728) 13 "MeasuredTensorsModel" D H0 (jt_all cI cJ cT cX) u) jc_Y_call (fun v w' sz' => ∃ (x th' : Int32) (σ' : jSt), v = some (.int x) ∧ jA_call σ what n0 a b m0 xx yy x th' σ' ∧ jP cI cJ y A w sz σ' th' w' sz')) (h : jN cI cJ y A n n2 σ w2 (nI 0) rk N) (hr : jR y A w w2) (hct : jSt_c σ < 512) (hnn : nn ≤ 2) (hmm : mm ≤ 2) (ew : what = nI 17) (en : n0 = nI nn) (em : m0 = nI mm) (hx : 0 < mm → ¬ xx < 0) (hy : 1 < mm → ¬ yy < 0) (ga : 0 < nn → ¬ jl_none σ a) (gb : 1 < nn → ¬ jl_none σ b) (nw : ¬ jl_wrong what n0 m0 xx yy) (ng : ¬ jl_gone σ n0 a b) :
    ja (jb_mk l (jb_rm 7 221 16 9728) 13 "MeasuredTensorsModel" D H0 (jt_all cI cJ cT cX) u) w2 sz 16 9728 129 [(9, .int (nI 0)), (8, .int (nI 0)), (0, .ref y), (1, .int (nI 17)), (2, .int (nI nn)), (3, .int a), (4, .int b), (5, .int (nI mm)), (6, .int xx), (7, .int yy)] [] := by
  have hn := h.cn
  have hni := h.ci
  have cw : what.toNatClampNeg = 17 := by rw [ew]; exact nI_clamp (by decide)
  have cn : n0.toNatClampNeg = nn := by rw [en]; exact nI_clamp (by omega)
  have cm : m0.toNatClampNeg = mm := by rw [em]; exact nI_clamp (by omega)
  have no : ∀ (hf : ¬ jl_goes 17 nn a b mm), ja (jb_mk l (jb_rm 7 221 16 9728) 13 "MeasuredTensorsModel" D H0 (jt_all cI cJ cT cX) u) w2 sz 16 9728 228 [(11, .int (nI 1)), (10, .int (nI 2)), (9, .int (nI 0)), (8, .int (nI 0)), (0, .ref y), (1, .int (nI 17)), (2, .int (nI nn)), (3, .int a), (4, .int b), (5, .int (nI mm)), (6, .int xx), (7, .int yy)] [] := by
    intro hf
    refine ja_iconst C (nI 0) jd_Y_call_228 (by decide) ?_
    refine ja_istore C [(12, .int (nI 0)), (11, .int (nI 1)), (10, .int (nI 2)), (9, .int (nI 0)), (8, .int (nI 0)), (0, .ref y), (1, .int (nI 17)), (2, .int (nI nn)), (3, .int a), (4, .int b), (5, .int (nI mm)), (6, .int xx), (7, .int yy)] jd_Y_call_229 (Nat.le_of_ble_eq_true rfl) rfl ?_
    refine ja_iload C jd_Y_call_231 0 rfl ?_
    refine ja_if_eqN C 253 jd_Y_call_233 (by decide) (by decide) (fun _ => ?_) (fun q => absurd q (by decide))
    refine ja_bipush C (-5) jd_Y_call_253 (by decide) ?_
    exact E jd_Y_call_255 ⟨-5, 0, σ, rfl, ⟨fun z => absurd z nw, fun _ z => absurd z ng, fun _ _ => ⟨rfl, fun z => absurd (by rw [cw, cn, cm] at z; exact z) hf, fun _ => ⟨rfl, rfl⟩⟩⟩, h.jP hr⟩
  refine ja_iload_n C jd_Y_call_129 3 rfl ?_
  refine ja_bipush C (nI 8) jd_Y_call_130 (by decide) ?_
  refine ja_icmp_eqN C 159 jd_Y_call_132 (by decide) (by decide) (by decide) (fun q => absurd q (by decide)) (fun _ => ?_)
  refine ja_iload_n C jd_Y_call_135 3 rfl ?_
  refine ja_bipush C (nI 14) jd_Y_call_136 (by decide) ?_
  refine ja_icmp_eqN C 159 jd_Y_call_138 (by decide) (by decide) (by decide) (fun q => absurd q (by decide)) (fun _ => ?_)
  refine ja_iload_n C jd_Y_call_141 3 rfl ?_
  refine ja_bipush C (nI 18) jd_Y_call_142 (by decide) ?_
  refine ja_icmp_eqN C 159 jd_Y_call_144 (by decide) (by decide) (by decide) (fun q => absurd q (by decide)) (fun _ => ?_)
  refine ja_iload_n C jd_Y_call_147 3 rfl ?_
  refine ja_bipush C (nI 16) jd_Y_call_148 (by decide) ?_
  refine ja_icmp_eqN C 159 jd_Y_call_150 (by decide) (by decide) (by decide) (fun q => absurd q (by decide)) (fun _ => ?_)
  refine ja_iload_n C jd_Y_call_153 3 rfl ?_
  refine ja_bipush C (nI 17) jd_Y_call_154 (by decide) ?_
  refine ja_icmp_neN C 163 jd_Y_call_156 (by decide) (by decide) (by decide) (fun q => absurd q (by decide)) (fun _ => ?_)
  refine ja_iconst C (nI 2) jd_Y_call_159 (by decide) ?_
  refine ja_goto C 164 jd_Y_call_160 (by decide) ?_
  refine ja_istore C [(10, .int (nI 2)), (9, .int (nI 0)), (8, .int (nI 0)), (0, .ref y), (1, .int (nI 17)), (2, .int (nI nn)), (3, .int a), (4, .int b), (5, .int (nI mm)), (6, .int xx), (7, .int yy)] jd_Y_call_164 (Nat.le_of_ble_eq_true rfl) rfl ?_
  refine ja_iload_n C jd_Y_call_166 4 rfl ?_
  refine ja_bipush C (nI 16) jd_Y_call_167 (by decide) ?_
  refine ja_icmp_eqN C 178 jd_Y_call_169 (by decide) (by decide) (by decide) (fun q => absurd q (by decide)) (fun _ => ?_)
  refine ja_iload_n C jd_Y_call_172 4 rfl ?_
  refine ja_bipush C (nI 17) jd_Y_call_173 (by decide) ?_
  refine ja_icmp_neN C 182 jd_Y_call_175 (by decide) (by decide) (by decide) (fun q => absurd q (by decide)) (fun _ => ?_)
  refine ja_iconst C (nI 1) jd_Y_call_178 (by decide) ?_
  refine ja_goto C 183 jd_Y_call_179 (by decide) ?_
  refine ja_istore C [(11, .int (nI 1)), (10, .int (nI 2)), (9, .int (nI 0)), (8, .int (nI 0)), (0, .ref y), (1, .int (nI 17)), (2, .int (nI nn)), (3, .int a), (4, .int b), (5, .int (nI mm)), (6, .int xx), (7, .int yy)] jd_Y_call_183 (Nat.le_of_ble_eq_true rfl) rfl ?_
  refine ja_iload_n C jd_Y_call_185 6 rfl ?_
  refine ja_iload C jd_Y_call_186 1 rfl ?_
  refine ja_icmp_neN C 228 jd_Y_call_188 (by decide) (by omega) (by decide) (fun c188 => no (fun z => c188 z.1)) (fun c188 => ?_)
  refine ja_iload_n C jd_Y_call_191 7 rfl ?_
  refine ja_if_lt C 228 jd_Y_call_192 (by decide) (fun c192 => no (fun z => k2_nle c192 z.2.1)) (fun c192 => ?_)
  obtain ⟨ta, hta, ea⟩ := jl_tens (by omega) c192 (ga (by omega))
  subst c188
  refine ja_iload_n C jd_Y_call_195 6 rfl ?_
  refine ja_iconst C (nI 1) jd_Y_call_196 (by decide) ?_
  refine ja_icmp_eqN C 215 jd_Y_call_197 (by decide) (by decide) (by decide) (fun q => absurd q (by decide)) (fun _ => ?_)
  refine ja_iload C jd_Y_call_200 0 rfl ?_
  refine ja_iload C jd_Y_call_202 8 rfl ?_
  have noA : ∀ (hf : ¬ jl_goes 17 2 a b mm), ja (jb_mk l (jb_rm 7 221 16 9728) 13 "MeasuredTensorsModel" D H0 (jt_all cI cJ cT cX) u) w2 sz 16 9728 211 [(11, .int (nI 1)), (10, .int (nI 2)), (9, .int (nI 0)), (8, .int (nI 0)), (0, .ref y), (1, .int (nI 17)), (2, .int (nI 2)), (3, .int a), (4, .int b), (5, .int (nI mm)), (6, .int xx), (7, .int yy)] [.int (nI 1)] := by
    intro hf
    refine ja_iconst C (nI 0) jd_Y_call_211 (by decide) ?_
    refine ja_icmp_neN C 228 jd_Y_call_212 (by decide) (by decide) (by decide) (fun _ => ?_) (fun q => absurd q (by decide))
    exact no hf
  refine ja_if_ge C 211 jd_Y_call_204 (by decide) (fun c204 => noA (fun z => by rcases z.2.2.1 with q | q; omega; exact k2_nlt c204 (q.mp (by decide)))) (fun c204 => ?_)
  refine ja_iconst C (nI 1) jd_Y_call_207 (by decide) ?_
  refine ja_goto C 212 jd_Y_call_208 (by decide) ?_
  refine ja_icmp_neN C 228 jd_Y_call_212 (by decide) (by decide) (by decide) (fun q => absurd q (by decide)) (fun _ => ?_)
  refine ja_iload_n C jd_Y_call_215 5 rfl ?_
  refine ja_iload C jd_Y_call_216 9 rfl ?_
  have c204 : b < 0 := k2_lt c204
  obtain ⟨i, hti, eb⟩ := jl_indx (by omega) c204 (gb (by omega))
  have hk : 17 = 16 ∨ 17 = 17 ↔ b < 0 := ⟨fun _ => c204, fun _ => by decide⟩
  refine jb_pS 8 C X jk_isMany (jn_isMany_17 (by omega)) jd_Y_call_218 rfl rfl ⟨by decide, by decide⟩ (Nat.le_of_ble_eq_true rfl) ?_
  refine ja_if_eqB C 228 jd_Y_call_221 (by decide) (fun c221 => no (fun z => c221 (of_decide_eq_true z.2.2.2))) (fun c221 => ?_)
  have hg : jl_goes what.toNatClampNeg n0.toNatClampNeg a b m0.toNatClampNeg := by
    rw [cw, cn, cm]
    exact ⟨rfl, k2_le c192, Or.inr hk, decide_eq_true c221⟩
  subst ea
  refine ja_iconst C (nI 1) jd_Y_call_224 (by decide) ?_
  refine ja_goto C 229 jd_Y_call_225 (by decide) ?_
  refine ja_istore C [(12, .int (nI 1)), (11, .int (nI 1)), (10, .int (nI 2)), (9, .int (nI 0)), (8, .int (nI 0)), (0, .ref y), (1, .int (nI 17)), (2, .int (nI 2)), (3, .int (nI ta)), (4, .int b), (5, .int (nI mm)), (6, .int xx), (7, .int yy)] jd_Y_call_229 (Nat.le_of_ble_eq_true rfl) rfl ?_
  refine ja_iload C jd_Y_call_231 0 rfl ?_
  refine ja_if_eqN C 253 jd_Y_call_233 (by decide) (by decide) (fun q => absurd q (by decide)) (fun _ => ?_)
  refine ja_aload_n C jd_Y_call_236 5 rfl ?_
  refine ja_iload_n C jd_Y_call_237 6 rfl ?_
  refine ja_iload_n C jd_Y_call_238 8 rfl ?_
  refine ja_iload C jd_Y_call_239 9 rfl ?_
  refine ja_iload C jd_Y_call_241 10 rfl ?_
  refine ja_iload C jd_Y_call_243 11 rfl ?_
  refine ja_iload C jd_Y_call_245 12 rfl ?_
  refine jN_mV 8 C X jk_apply h rfl (jn_apply_17 h hct hta eb hti) jd_Y_call_247 rfl rfl ⟨by decide, by decide⟩ (Nat.le_of_ble_eq_true rfl) (Nat.le_of_ble_eq_true rfl) (Nat.le_of_ble_eq_true rfl) (fun x1 σ1 w1 z1 hp1 => ?_)
  obtain ⟨ha1, hq1⟩ := hp1
  refine ja_goto C 255 jd_Y_call_250 (by decide) ?_
  exact E jd_Y_call_255 ⟨x1, 0, σ1, rfl, ⟨fun z => absurd z nw, fun _ z => absurd z ng, fun _ _ => ⟨rfl, fun _ => by rw [cw, cm, nI_clamp (show ta < 2 ^ 31 by omega)]; show jA_hg σ ta (-1 - b).toNatClampNeg x1 σ1; rw [eb, nI_clamp (show i < 2 ^ 31 by omega)]; exact ha1, fun z => absurd hg z⟩⟩, jP.from hr hq1⟩
theorem jn_call_18 {u : jb_U} {what n0 a b m0 xx yy : Int32} {nn mm : Nat} {w2 : jb_W} (C : ja_C (jb_mk l (jb_rm 7 221 16 9728) 13 "MeasuredTensorsModel" D H0 (jt_all cI cJ cT cX) u) jc_Y_call) (X : jb_X H0 u.1.2.2) (E : jb_Ei (jb_mk l (jb_rm 7 221 16 9728) 13 "MeasuredTensorsModel" D H0 (jt_all cI cJ cT cX) u) jc_Y_call (fun v w' sz' => ∃ (x th' : Int32) (σ' : jSt), v = some (.int x) ∧ jA_call σ what n0 a b m0 xx yy x th' σ' ∧ jP cI cJ y A w sz σ' th' w' sz')) (h : jN cI cJ y A n n2 σ w2 (nI 0) rk N) (hr : jR y A w w2) (hct : jSt_c σ < 512) (hnn : nn ≤ 2) (hmm : mm ≤ 2) (ew : what = nI 18) (en : n0 = nI nn) (em : m0 = nI mm) (hx : 0 < mm → ¬ xx < 0) (hy : 1 < mm → ¬ yy < 0) (ga : 0 < nn → ¬ jl_none σ a) (gb : 1 < nn → ¬ jl_none σ b) (nw : ¬ jl_wrong what n0 m0 xx yy) (ng : ¬ jl_gone σ n0 a b) :
    ja (jb_mk l (jb_rm 7 221 16 9728) 13 "MeasuredTensorsModel" D H0 (jt_all cI cJ cT cX) u) w2 sz 16 9728 129 [(9, .int (nI 0)), (8, .int (nI 0)), (0, .ref y), (1, .int (nI 18)), (2, .int (nI nn)), (3, .int a), (4, .int b), (5, .int (nI mm)), (6, .int xx), (7, .int yy)] [] := by
  have hn := h.cn
  have hni := h.ci
  have cw : what.toNatClampNeg = 18 := by rw [ew]; exact nI_clamp (by decide)
  have cn : n0.toNatClampNeg = nn := by rw [en]; exact nI_clamp (by omega)
  have cm : m0.toNatClampNeg = mm := by rw [em]; exact nI_clamp (by omega)
  have no : ∀ (hf : ¬ jl_goes 18 nn a b mm), ja (jb_mk l (jb_rm 7 221 16 9728) 13 "MeasuredTensorsModel" D H0 (jt_all cI cJ cT cX) u) w2 sz 16 9728 228 [(11, .int (nI 0)), (10, .int (nI 2)), (9, .int (nI 0)), (8, .int (nI 0)), (0, .ref y), (1, .int (nI 18)), (2, .int (nI nn)), (3, .int a), (4, .int b), (5, .int (nI mm)), (6, .int xx), (7, .int yy)] [] := by
    intro hf
    refine ja_iconst C (nI 0) jd_Y_call_228 (by decide) ?_
    refine ja_istore C [(12, .int (nI 0)), (11, .int (nI 0)), (10, .int (nI 2)), (9, .int (nI 0)), (8, .int (nI 0)), (0, .ref y), (1, .int (nI 18)), (2, .int (nI nn)), (3, .int a), (4, .int b), (5, .int (nI mm)), (6, .int xx), (7, .int yy)] jd_Y_call_229 (Nat.le_of_ble_eq_true rfl) rfl ?_
    refine ja_iload C jd_Y_call_231 0 rfl ?_
    refine ja_if_eqN C 253 jd_Y_call_233 (by decide) (by decide) (fun _ => ?_) (fun q => absurd q (by decide))
    refine ja_bipush C (-5) jd_Y_call_253 (by decide) ?_
    exact E jd_Y_call_255 ⟨-5, 0, σ, rfl, ⟨fun z => absurd z nw, fun _ z => absurd z ng, fun _ _ => ⟨rfl, fun z => absurd (by rw [cw, cn, cm] at z; exact z) hf, fun _ => ⟨rfl, rfl⟩⟩⟩, h.jP hr⟩
  refine ja_iload_n C jd_Y_call_129 3 rfl ?_
  refine ja_bipush C (nI 8) jd_Y_call_130 (by decide) ?_
  refine ja_icmp_eqN C 159 jd_Y_call_132 (by decide) (by decide) (by decide) (fun q => absurd q (by decide)) (fun _ => ?_)
  refine ja_iload_n C jd_Y_call_135 3 rfl ?_
  refine ja_bipush C (nI 14) jd_Y_call_136 (by decide) ?_
  refine ja_icmp_eqN C 159 jd_Y_call_138 (by decide) (by decide) (by decide) (fun q => absurd q (by decide)) (fun _ => ?_)
  refine ja_iload_n C jd_Y_call_141 3 rfl ?_
  refine ja_bipush C (nI 18) jd_Y_call_142 (by decide) ?_
  refine ja_icmp_eqN C 159 jd_Y_call_144 (by decide) (by decide) (by decide) (fun _ => ?_) (fun q => absurd q (by decide))
  refine ja_iconst C (nI 2) jd_Y_call_159 (by decide) ?_
  refine ja_goto C 164 jd_Y_call_160 (by decide) ?_
  refine ja_istore C [(10, .int (nI 2)), (9, .int (nI 0)), (8, .int (nI 0)), (0, .ref y), (1, .int (nI 18)), (2, .int (nI nn)), (3, .int a), (4, .int b), (5, .int (nI mm)), (6, .int xx), (7, .int yy)] jd_Y_call_164 (Nat.le_of_ble_eq_true rfl) rfl ?_
  refine ja_iload_n C jd_Y_call_166 4 rfl ?_
  refine ja_bipush C (nI 16) jd_Y_call_167 (by decide) ?_
  refine ja_icmp_eqN C 178 jd_Y_call_169 (by decide) (by decide) (by decide) (fun q => absurd q (by decide)) (fun _ => ?_)
  refine ja_iload_n C jd_Y_call_172 4 rfl ?_
  refine ja_bipush C (nI 17) jd_Y_call_173 (by decide) ?_
  refine ja_icmp_neN C 182 jd_Y_call_175 (by decide) (by decide) (by decide) (fun _ => ?_) (fun q => absurd q (by decide))
  refine ja_iconst C (nI 0) jd_Y_call_182 (by decide) ?_
  refine ja_istore C [(11, .int (nI 0)), (10, .int (nI 2)), (9, .int (nI 0)), (8, .int (nI 0)), (0, .ref y), (1, .int (nI 18)), (2, .int (nI nn)), (3, .int a), (4, .int b), (5, .int (nI mm)), (6, .int xx), (7, .int yy)] jd_Y_call_183 (Nat.le_of_ble_eq_true rfl) rfl ?_
  refine ja_iload_n C jd_Y_call_185 6 rfl ?_
  refine ja_iload C jd_Y_call_186 1 rfl ?_
  refine ja_icmp_neN C 228 jd_Y_call_188 (by decide) (by omega) (by decide) (fun c188 => no (fun z => c188 z.1)) (fun c188 => ?_)
  refine ja_iload_n C jd_Y_call_191 7 rfl ?_
  refine ja_if_lt C 228 jd_Y_call_192 (by decide) (fun c192 => no (fun z => k2_nle c192 z.2.1)) (fun c192 => ?_)
  obtain ⟨ta, hta, ea⟩ := jl_tens (by omega) c192 (ga (by omega))
  subst c188
  refine ja_iload_n C jd_Y_call_195 6 rfl ?_
  refine ja_iconst C (nI 1) jd_Y_call_196 (by decide) ?_
  refine ja_icmp_eqN C 215 jd_Y_call_197 (by decide) (by decide) (by decide) (fun q => absurd q (by decide)) (fun _ => ?_)
  refine ja_iload C jd_Y_call_200 0 rfl ?_
  refine ja_iload C jd_Y_call_202 8 rfl ?_
  have noB : ∀ (hf : ¬ jl_goes 18 2 a b mm), ja (jb_mk l (jb_rm 7 221 16 9728) 13 "MeasuredTensorsModel" D H0 (jt_all cI cJ cT cX) u) w2 sz 16 9728 207 [(11, .int (nI 0)), (10, .int (nI 2)), (9, .int (nI 0)), (8, .int (nI 0)), (0, .ref y), (1, .int (nI 18)), (2, .int (nI 2)), (3, .int a), (4, .int b), (5, .int (nI mm)), (6, .int xx), (7, .int yy)] [.int (nI 0)] := by
    intro hf
    refine ja_iconst C (nI 1) jd_Y_call_207 (by decide) ?_
    refine ja_goto C 212 jd_Y_call_208 (by decide) ?_
    refine ja_icmp_neN C 228 jd_Y_call_212 (by decide) (by decide) (by decide) (fun _ => ?_) (fun q => absurd q (by decide))
    exact no hf
  refine ja_if_ge C 211 jd_Y_call_204 (by decide) (fun c204 => ?_) (fun c204 => noB (fun z => by rcases z.2.2.1 with q | q; omega; exact absurd (q.mpr (k2_lt c204)) (by decide)))
  refine ja_iconst C (nI 0) jd_Y_call_211 (by decide) ?_
  refine ja_icmp_neN C 228 jd_Y_call_212 (by decide) (by decide) (by decide) (fun q => absurd q (by decide)) (fun _ => ?_)
  refine ja_iload_n C jd_Y_call_215 5 rfl ?_
  refine ja_iload C jd_Y_call_216 9 rfl ?_
  have c204 : ¬ b < 0 := k2_nlt c204
  obtain ⟨tb, htb, eb⟩ := jl_tens (by omega) c204 (gb (by omega))
  have hk : 18 = 16 ∨ 18 = 17 ↔ b < 0 := ⟨fun z => absurd z (by decide), fun z => absurd z c204⟩
  refine jb_pS 8 C X jk_isMany (jn_isMany_18 (by omega)) jd_Y_call_218 rfl rfl ⟨by decide, by decide⟩ (Nat.le_of_ble_eq_true rfl) ?_
  refine ja_if_eqB C 228 jd_Y_call_221 (by decide) (fun c221 => no (fun z => c221 (of_decide_eq_true z.2.2.2))) (fun c221 => ?_)
  have hg : jl_goes what.toNatClampNeg n0.toNatClampNeg a b m0.toNatClampNeg := by
    rw [cw, cn, cm]
    exact ⟨rfl, k2_le c192, Or.inr hk, decide_eq_true c221⟩
  subst ea
  subst eb
  refine ja_iconst C (nI 1) jd_Y_call_224 (by decide) ?_
  refine ja_goto C 229 jd_Y_call_225 (by decide) ?_
  refine ja_istore C [(12, .int (nI 1)), (11, .int (nI 0)), (10, .int (nI 2)), (9, .int (nI 0)), (8, .int (nI 0)), (0, .ref y), (1, .int (nI 18)), (2, .int (nI 2)), (3, .int (nI ta)), (4, .int (nI tb)), (5, .int (nI mm)), (6, .int xx), (7, .int yy)] jd_Y_call_229 (Nat.le_of_ble_eq_true rfl) rfl ?_
  refine ja_iload C jd_Y_call_231 0 rfl ?_
  refine ja_if_eqN C 253 jd_Y_call_233 (by decide) (by decide) (fun q => absurd q (by decide)) (fun _ => ?_)
  refine ja_aload_n C jd_Y_call_236 5 rfl ?_
  refine ja_iload_n C jd_Y_call_237 6 rfl ?_
  refine ja_iload_n C jd_Y_call_238 8 rfl ?_
  refine ja_iload C jd_Y_call_239 9 rfl ?_
  refine ja_iload C jd_Y_call_241 10 rfl ?_
  refine ja_iload C jd_Y_call_243 11 rfl ?_
  refine ja_iload C jd_Y_call_245 12 rfl ?_
  refine jN_mV 8 C X jk_apply h rfl (jn_apply_18 h hct hta htb) jd_Y_call_247 rfl rfl ⟨by decide, by decide⟩ (Nat.le_of_ble_eq_true rfl) (Nat.le_of_ble_eq_true rfl) (Nat.le_of_ble_eq_true rfl) (fun x1 σ1 w1 z1 hp1 => ?_)
  obtain ⟨ha1, hq1⟩ := hp1
  refine ja_goto C 255 jd_Y_call_250 (by decide) ?_
  exact E jd_Y_call_255 ⟨x1, 0, σ1, rfl, ⟨fun z => absurd z nw, fun _ z => absurd z ng, fun _ _ => ⟨rfl, fun _ => by rw [cw, cm, nI_clamp (show ta < 2 ^ 31 by omega)]; show jA_gap σ ta (nI tb).toNatClampNeg x1 σ1; rw [nI_clamp (show tb < 2 ^ 31 by omega)]; exact ha1, fun z => absurd hg z⟩⟩, jP.from hr hq1⟩
end Y45
