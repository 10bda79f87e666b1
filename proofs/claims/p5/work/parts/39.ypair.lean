/-! THE REFERENCE: pair, reshape -/
def jA_cell (σ : jSt) (hw a b : Nat) (x : Int32) (σ' : jSt) : Prop := jW σ (jl_tail (jT_S (jSt_T σ a)) (jT_k (jSt_T σ a)) (jT_S (jSt_T σ b)) (jT_k (jSt_T σ b)) = true ∨ jl_tail (jT_S (jSt_T σ b)) (jT_k (jSt_T σ b)) (jT_S (jSt_T σ a)) (jT_k (jSt_T σ a)) = true) (fun x σ' => if hw = 2 then jA σ (jT_S (jSt_T σ (if jl_tail (jT_S (jSt_T σ a)) (jT_k (jSt_T σ a)) (jT_S (jSt_T σ b)) (jT_k (jSt_T σ b)) = true then a else b))) (jT_k (jSt_T σ (if jl_tail (jT_S (jSt_T σ a)) (jT_k (jSt_T σ a)) (jT_S (jSt_T σ b)) (jT_k (jSt_T σ b)) = true then a else b))) 42 (nI a) (nI b) 1 (jT_r (jSt_T σ a) + jT_r (jSt_T σ b)) (jT_e (jSt_T σ a) + jT_e (jSt_T σ b)) (jl_prod (jT_q (jSt_T σ a)) (jT_q (jSt_T σ b))) x σ' else jA σ (jT_S (jSt_T σ (if jl_tail (jT_S (jSt_T σ a)) (jT_k (jSt_T σ a)) (jT_S (jSt_T σ b)) (jT_k (jSt_T σ b)) = true then a else b))) (jT_k (jSt_T σ (if jl_tail (jT_S (jSt_T σ a)) (jT_k (jSt_T σ a)) (jT_S (jSt_T σ b)) (jT_k (jSt_T σ b)) = true then a else b))) (nI (40 + hw)) (nI a) (nI b) 1 (max (jT_r (jSt_T σ a)) (jT_r (jSt_T σ b)) + 1) (max (jT_e (jSt_T σ a)) (jT_e (jSt_T σ b))) (jl_comm (jT_q (jSt_T σ a)) (jT_q (jSt_T σ b))) x σ') x σ'
def jA_pair2 (σ : jSt) (hw a b : Nat) (x : Int32) (σ' : jSt) : Prop := if hw = 3 then jA_matrix σ a b x σ' else jA_cell σ hw a b x σ'
def jA_pair (σ : jSt) (how a b : Int32) (x th : Int32) (σ' : jSt) : Prop := if (a < 0 ∨ nI (jSt_c σ) ≤ a) ∨ (b < 0 ∨ nI (jSt_c σ) ≤ b) then th = 1 ∧ σ' = σ else if how < 0 ∨ 3 < how then th = 2 ∧ σ' = σ else th = 0 ∧ jA_pair2 σ how.toNatClampNeg a.toNatClampNeg b.toNatClampNeg x σ'
def jA_reshape (σ : jSt) (t m a b c d : Int32) (x th : Int32) (σ' : jSt) : Prop := if t < 0 ∨ nI (jSt_c σ) ≤ t then th = 1 ∧ σ' = σ else if jl_take m (jl_F a b c d) = 0 then th = 2 ∧ σ' = σ else th = 0 ∧ jW σ (jl_cells (fun k => (jl_F a b c d k).toNatClampNeg) m.toNatClampNeg = jl_cells (jT_S (jSt_T σ t.toNatClampNeg)) (jT_k (jSt_T σ t.toNatClampNeg))) (jA σ (fun k => (jl_F a b c d k).toNatClampNeg) m.toNatClampNeg 11 t (-1) 1 (jT_r (jSt_T σ t.toNatClampNeg)) (jT_e (jSt_T σ t.toNatClampNeg)) (jT_q (jSt_T σ t.toNatClampNeg))) x σ' 
theorem jq_Y_max : Cond.methodLink "MeasuredTensorsModel" 175 Lib.Math.max.name ∈ jw_all := jw_in (by decide +kernel) (by decide +kernel)
theorem jk_isTail : jb_KV "MeasuredTensorsModel" 168 jy_Y_isTail jc_Y_isTail 5 (some .boolean) 2 := ⟨jw_in (by decide +kernel) (by decide +kernel), jw_in (by decide +kernel) (by decide +kernel), jw_in (by decide +kernel) (by decide +kernel), jw_in (by decide +kernel) (by decide +kernel), jw_in (by decide +kernel) (by decide +kernel), by decide +kernel⟩
theorem jk_matrix : jb_KV "MeasuredTensorsModel" 165 jy_Y_matrix jc_Y_matrix 5 (some .int) 2 := ⟨jw_in (by decide +kernel) (by decide +kernel), jw_in (by decide +kernel) (by decide +kernel), jw_in (by decide +kernel) (by decide +kernel), jw_in (by decide +kernel) (by decide +kernel), jw_in (by decide +kernel) (by decide +kernel), by decide +kernel⟩
section Y39
variable {l : Launch} {D : va_G} {H0 : Heap} {cI cJ cT cX : ClassId} {w : jb_W} {sz : Nat}
variable {y : Nat} {A : Nat → Nat} {n n2 : Nat} {σ : jSt} {th rk : Int32} {N : Nat → Int32}
theorem jn_pair {how a b : Int32} (h : jN cI cJ y A n n2 σ w th rk N) (hct : jSt_c σ < 512) : jb_M l jy_Y_pair jc_Y_pair 4 (some .int) 5 168 16 9728 D H0 (jt_all cI cJ cT cX) [.ref y, .int how, .int a, .int b] w sz
    (fun v w' sz' => ∃ (x th' : Int32) (σ' : jSt), v = some (.int x) ∧ jA_pair σ how a b x th' σ' ∧ jP cI cJ y A w sz σ' th' w' sz') := by
  refine jb_meth_i (by decide) (Nat.le_of_ble_eq_true rfl) (fun u C X E => ?_)
  have hn := h.cn
  have bad : ∀ (hf : (a < 0 ∨ nI (jSt_c σ) ≤ a) ∨ (b < 0 ∨ nI (jSt_c σ) ≤ b)), ja (jb_mk l (jb_rm 5 168 16 9728) 4 "MeasuredTensorsModel" D H0 (jt_all cI cJ cT cX) u) w sz 16 9728 17 [(0, .ref y), (1, .int how), (2, .int a), (3, .int b)] [.ref y] := by
    intro hf
    refine ja_iconst C (nI 1) jd_Y_pair_17 (by decide) ?_
    refine ja_goto C 35 jd_Y_pair_18 (by decide) ?_
    refine jN_p0 C jd_Y_pair_35 h (fun w1 h1 r1 => ?_)
    refine ja_aload_n C jd_Y_pair_38 0 rfl ?_
    refine jN_gt C jd_Y_pair_39 h1 ?_
    refine ja_if_leN C 47 jd_Y_pair_42 (by decide) (by decide) (fun q => absurd q (by decide)) (fun _ => ?_)
    refine ja_iconst C (nI 0) jd_Y_pair_45 (by decide) ?_
    exact E jd_Y_pair_46 ⟨0, 1, σ, rfl, by unfold jA_pair; rw [if_pos hf]; exact ⟨rfl, rfl⟩, h1.jP r1⟩
  refine ja_aload_n C jd_Y_pair_0 0 rfl ?_
  refine ja_aload_n C jd_Y_pair_1 0 rfl ?_
  refine ja_iload_n C jd_Y_pair_2 2 rfl ?_
  refine jN_pV 8 C X jk_noTensor h rfl (jn_noTensor h) jd_Y_pair_3 rfl rfl ⟨by decide, by decide⟩ (Nat.le_of_ble_eq_true rfl) ?_
  refine ja_if_neB C 17 jd_Y_pair_6 (by decide) (fun ca => bad (Or.inl ca)) (fun ca => ?_)
  refine ja_aload_n C jd_Y_pair_9 0 rfl ?_
  refine ja_iload_n C jd_Y_pair_10 3 rfl ?_
  refine jN_pV 8 C X jk_noTensor h rfl (jn_noTensor h) jd_Y_pair_11 rfl rfl ⟨by decide, by decide⟩ (Nat.le_of_ble_eq_true rfl) ?_
  refine ja_if_eqB C 21 jd_Y_pair_14 (by decide) (fun cb => ?_) (fun cb => ?_)
  · obtain ⟨ta, htta, etta⟩ : ∃ q9, q9 < jSt_c σ ∧ a = nI q9 := (pk_ix a (by omega)).elim (fun z => absurd (Or.inl z) ca) (fun z => z.elim (fun z => absurd (Or.inr z) ca) id)
    obtain ⟨tb, httb, ettb⟩ : ∃ q9, q9 < jSt_c σ ∧ b = nI q9 := (pk_ix b (by omega)).elim (fun z => absurd (Or.inl z) cb) (fun z => z.elim (fun z => absurd (Or.inr z) cb) id)
    have na : ¬ ((a < 0 ∨ nI (jSt_c σ) ≤ a) ∨ (b < 0 ∨ nI (jSt_c σ) ≤ b)) := fun z => z.elim ca cb
    obtain ⟨ota1, ota2, ota3, ota4, ota5, ota6, ota7, ota8, ota9, ota10⟩ := h.ok htta
    obtain ⟨otb1, otb2, otb3, otb4, otb5, otb6, otb7, otb8, otb9, otb10⟩ := h.ok httb
    have bad2 : ∀ (hf : how < 0 ∨ 3 < how), ja (jb_mk l (jb_rm 5 168 16 9728) 4 "MeasuredTensorsModel" D H0 (jt_all cI cJ cT cX) u) w sz 16 9728 30 [(0, .ref y), (1, .int how), (2, .int a), (3, .int b)] [.ref y] := by
      intro hf
      refine ja_iconst C (nI 2) jd_Y_pair_30 (by decide) ?_
      refine ja_goto C 35 jd_Y_pair_31 (by decide) ?_
      refine jN_p0 C jd_Y_pair_35 h (fun w2 h2 r2 => ?_)
      refine ja_aload_n C jd_Y_pair_38 0 rfl ?_
      refine jN_gt C jd_Y_pair_39 h2 ?_
      refine ja_if_leN C 47 jd_Y_pair_42 (by decide) (by decide) (fun q => absurd q (by decide)) (fun _ => ?_)
      refine ja_iconst C (nI 0) jd_Y_pair_45 (by decide) ?_
      exact E jd_Y_pair_46 ⟨0, 2, σ, rfl, by unfold jA_pair; rw [if_neg na, if_pos hf]; exact ⟨rfl, rfl⟩, h2.jP r2⟩
    refine ja_iload_n C jd_Y_pair_21 1 rfl ?_
    refine ja_if_lt C 30 jd_Y_pair_22 (by decide) (fun c22 => bad2 (Or.inl c22)) (fun c22 => ?_)
    refine ja_iload_n C jd_Y_pair_25 1 rfl ?_
    refine ja_iconst C (nI 3) jd_Y_pair_26 (by decide) ?_
    refine ja_icmp_le C 34 jd_Y_pair_27 (by decide) (fun c27 => ?_) (fun c27 => bad2 (Or.inr (k2_lt c27)))
    obtain ⟨hw, hhw, ew⟩ := nI_of2 (M := 3) (n := 3) (by decide) c22 c27
    have nh : ¬ (how < 0 ∨ 3 < how) := fun z => z.elim c22 (fun z => k2_nle z c27)
    clear bad bad2
    subst ew etta ettb
    refine ja_iconst C (nI 0) jd_Y_pair_34 (by decide) ?_
    refine jN_p0 C jd_Y_pair_35 h (fun w3 h3 r3 => ?_)
    refine ja_aload_n C jd_Y_pair_38 0 rfl ?_
    refine jN_gt C jd_Y_pair_39 h3 ?_
    refine ja_if_leN C 47 jd_Y_pair_42 (by decide) (by decide) (fun _ => ?_) (fun q => absurd q (by decide))
    refine ja_iload_n C jd_Y_pair_47 1 rfl ?_
    refine ja_iconst C (nI 3) jd_Y_pair_48 (by decide) ?_
    refine ja_icmp_neN C 59 jd_Y_pair_49 (by decide) (by omega) (by decide) (fun c49 => ?_) (fun c49 => ?_)
    · have fin : ∀ (w2 : jb_W) (N2 : Nat → Int32) (bg : Nat) (hh : jN cI cJ y A n n2 σ w2 (nI 0) (nI (jT_k (jSt_T σ bg))) N2) (hM : jNS N2 (jT_S (jSt_T σ bg))) (hr : jR y A w w2) (htbg : bg < jSt_c σ) (ebg : (if jl_tail (jT_S (jSt_T σ ta)) (jT_k (jSt_T σ ta)) (jT_S (jSt_T σ tb)) (jT_k (jSt_T σ tb)) = true then ta else tb) = bg) (hf : jl_tail (jT_S (jSt_T σ ta)) (jT_k (jSt_T σ ta)) (jT_S (jSt_T σ tb)) (jT_k (jSt_T σ tb)) = true ∨ jl_tail (jT_S (jSt_T σ tb)) (jT_k (jSt_T σ tb)) (jT_S (jSt_T σ ta)) (jT_k (jSt_T σ ta)) = true), ja (jb_mk l (jb_rm 5 168 16 9728) 4 "MeasuredTensorsModel" D H0 (jt_all cI cJ cT cX) u) w2 sz 16 9728 98 [(0, .ref y), (1, .int (nI hw)), (2, .int (nI ta)), (3, .int (nI tb))] [] := by
        intro w2 N2 bg hh hM hr htbg ebg hf
        obtain ⟨obg1, obg2, obg3, obg4, obg5, obg6, obg7, obg8, obg9, obg10⟩ := hh.ok htbg
        refine ja_iload_n C jd_Y_pair_98 1 rfl ?_
        refine ja_iconst C (nI 2) jd_Y_pair_99 (by decide) ?_
        refine ja_icmp_neN C 156 jd_Y_pair_100 (by decide) (by omega) (by decide) (fun c100 => ?_) (fun c100 => ?_)
        · refine ja_aload_n C jd_Y_pair_156 0 rfl ?_
          refine ja_bipush C (nI 40) jd_Y_pair_157 (by decide) ?_
          refine ja_iload_n C jd_Y_pair_159 1 rfl ?_
          refine ja_iaddN C jd_Y_pair_160 ?_
          refine ja_iload_n C jd_Y_pair_161 2 rfl ?_
          refine ja_iload_n C jd_Y_pair_162 3 rfl ?_
          refine ja_aload_n C jd_Y_pair_163 0 rfl ?_
          refine jN_ga C jfl_range jd_Y_pair_164 hh (fun _ _ => rfl) ?_
          refine ja_iload_n C jd_Y_pair_167 2 rfl ?_
          refine jN_ia C (by decide) (fun _ _ => rfl) jd_Y_pair_168 hh htta (fun _ _ q => q.range) ?_
          refine ja_aload_n C jd_Y_pair_169 0 rfl ?_
          refine jN_ga C jfl_range jd_Y_pair_170 hh (fun _ _ => rfl) ?_
          refine ja_iload_n C jd_Y_pair_173 3 rfl ?_
          refine jN_ia C (by decide) (fun _ _ => rfl) jd_Y_pair_174 hh httb (fun _ _ q => q.range) ?_
          refine ja_mmaxN C jq_Y_max ⟨Nat.le_of_ble_eq_true rfl, Nat.le_of_ble_eq_true rfl⟩ (by omega) (by omega) jd_Y_pair_175 ?_
          refine ja_iconst C (nI 1) jd_Y_pair_178 (by decide) ?_
          refine ja_iaddN C jd_Y_pair_179 ?_
          refine ja_i2lN C jd_Y_pair_180 (by omega) ?_
          refine ja_aload_n C jd_Y_pair_181 0 rfl ?_
          refine jN_ga C jfl_depth jd_Y_pair_182 hh (fun _ _ => rfl) ?_
          refine ja_iload_n C jd_Y_pair_185 2 rfl ?_
          refine jN_ia C (by decide) (fun _ _ => rfl) jd_Y_pair_186 hh htta (fun _ _ q => q.depth) ?_
          refine ja_aload_n C jd_Y_pair_187 0 rfl ?_
          refine jN_ga C jfl_depth jd_Y_pair_188 hh (fun _ _ => rfl) ?_
          refine ja_iload_n C jd_Y_pair_191 3 rfl ?_
          refine jN_ia C (by decide) (fun _ _ => rfl) jd_Y_pair_192 hh httb (fun _ _ q => q.depth) ?_
          refine ja_mmaxN C jq_Y_max ⟨Nat.le_of_ble_eq_true rfl, Nat.le_of_ble_eq_true rfl⟩ (by omega) (by omega) jd_Y_pair_193 ?_
          refine ja_i2lN C jd_Y_pair_196 (by omega) ?_
          refine ja_aload_n C jd_Y_pair_197 0 rfl ?_
          refine jN_ga C jfl_odd jd_Y_pair_198 hh (fun _ _ => rfl) ?_
          refine ja_iload_n C jd_Y_pair_201 2 rfl ?_
          refine jN_la C jd_Y_pair_202 hh htta ?_
          refine ja_aload_n C jd_Y_pair_203 0 rfl ?_
          refine jN_ga C jfl_odd jd_Y_pair_204 hh (fun _ _ => rfl) ?_
          refine ja_iload_n C jd_Y_pair_207 3 rfl ?_
          refine jN_la C jd_Y_pair_208 hh httb ?_
          refine jb_pS 8 C X jk_common (jy_common (by omega) (by omega)) jd_Y_pair_209 rfl rfl ⟨by decide, by decide⟩ (Nat.le_of_ble_eq_true rfl) ?_
          refine ja_iconst C (nI 1) jd_Y_pair_212 (by decide) ?_
          refine jN_mV 8 C X jk_make hh rfl (jn_make hh hct (by omega) (by omega) (jl_comm_lt _ _) ⟨by omega, by omega⟩ (rn := jT_k (jSt_T σ bg)) obg1 rfl (M := jT_S (jSt_T σ bg)) (fun k hk => ⟨hM k (by omega), (obg2 k (by omega)).1, by have := (obg2 k (by omega)).2; omega⟩) (fun z => by have := (nI_eq (a := 40 + hw) (b := 51) (by omega) (by decide)).mp z; omega)) jd_Y_pair_213 rfl rfl ⟨by decide, by decide⟩ (Nat.le_of_ble_eq_true rfl) (Nat.le_of_ble_eq_true rfl) (Nat.le_of_ble_eq_true rfl) (fun x4 σ4 w4 z4 hp4 => ?_)
          obtain ⟨ha4, hq4⟩ := hp4
          exact E jd_Y_pair_216 ⟨x4, 0, σ4, rfl, by unfold jA_pair; rw [if_neg na, if_neg nh, nI_clamp (by omega), nI_clamp (by omega), nI_clamp (by omega)]; exact ⟨rfl, by unfold jA_pair2 jA_cell; rw [if_neg c49, ebg]; exact ⟨fun _ => by dsimp only; rw [if_neg c100]; exact ha4, fun z => absurd hf z⟩⟩, jP.from hr hq4⟩
        · refine ja_aload_n C jd_Y_pair_103 0 rfl ?_
          refine ja_bipush C (nI 42) jd_Y_pair_104 (by decide) ?_
          refine ja_iload_n C jd_Y_pair_106 2 rfl ?_
          refine ja_iload_n C jd_Y_pair_107 3 rfl ?_
          refine ja_aload_n C jd_Y_pair_108 0 rfl ?_
          refine jN_ga C jfl_range jd_Y_pair_109 hh (fun _ _ => rfl) ?_
          refine ja_iload_n C jd_Y_pair_112 2 rfl ?_
          refine jN_ia C (by decide) (fun _ _ => rfl) jd_Y_pair_113 hh htta (fun _ _ q => q.range) ?_
          refine ja_aload_n C jd_Y_pair_114 0 rfl ?_
          refine jN_ga C jfl_range jd_Y_pair_115 hh (fun _ _ => rfl) ?_
          refine ja_iload_n C jd_Y_pair_118 3 rfl ?_
          refine jN_ia C (by decide) (fun _ _ => rfl) jd_Y_pair_119 hh httb (fun _ _ q => q.range) ?_
          refine ja_iaddN C jd_Y_pair_120 ?_
          refine ja_i2lN C jd_Y_pair_121 (by omega) ?_
          refine ja_aload_n C jd_Y_pair_122 0 rfl ?_
          refine jN_ga C jfl_depth jd_Y_pair_123 hh (fun _ _ => rfl) ?_
          refine ja_iload_n C jd_Y_pair_126 2 rfl ?_
          refine jN_ia C (by decide) (fun _ _ => rfl) jd_Y_pair_127 hh htta (fun _ _ q => q.depth) ?_
          refine ja_aload_n C jd_Y_pair_128 0 rfl ?_
          refine jN_ga C jfl_depth jd_Y_pair_129 hh (fun _ _ => rfl) ?_
          refine ja_iload_n C jd_Y_pair_132 3 rfl ?_
          refine jN_ia C (by decide) (fun _ _ => rfl) jd_Y_pair_133 hh httb (fun _ _ q => q.depth) ?_
          refine ja_iaddN C jd_Y_pair_134 ?_
          refine ja_i2lN C jd_Y_pair_135 (by omega) ?_
          refine ja_aload_n C jd_Y_pair_136 0 rfl ?_
          refine jN_ga C jfl_odd jd_Y_pair_137 hh (fun _ _ => rfl) ?_
          refine ja_iload_n C jd_Y_pair_140 2 rfl ?_
          refine jN_la C jd_Y_pair_141 hh htta ?_
          refine ja_aload_n C jd_Y_pair_142 0 rfl ?_
          refine jN_ga C jfl_odd jd_Y_pair_143 hh (fun _ _ => rfl) ?_
          refine ja_iload_n C jd_Y_pair_146 3 rfl ?_
          refine jN_la C jd_Y_pair_147 hh httb ?_
          refine jb_pS 8 C X jk_product (jy_product (by omega) (by omega)) jd_Y_pair_148 rfl rfl ⟨by decide, by decide⟩ (Nat.le_of_ble_eq_true rfl) ?_
          refine ja_iconst C (nI 1) jd_Y_pair_151 (by decide) ?_
          refine jN_mV 8 C X jk_make hh rfl (jn_make hh hct (by omega) (by omega) (jl_prod_lt _ _) ⟨by omega, by omega⟩ (rn := jT_k (jSt_T σ bg)) obg1 rfl (M := jT_S (jSt_T σ bg)) (fun k hk => ⟨hM k (by omega), (obg2 k (by omega)).1, by have := (obg2 k (by omega)).2; omega⟩) (by decide)) jd_Y_pair_152 rfl rfl ⟨by decide, by decide⟩ (Nat.le_of_ble_eq_true rfl) (Nat.le_of_ble_eq_true rfl) (Nat.le_of_ble_eq_true rfl) (fun x5 σ5 w5 z5 hp5 => ?_)
          obtain ⟨ha5, hq5⟩ := hp5
          exact E jd_Y_pair_155 ⟨x5, 0, σ5, rfl, by unfold jA_pair; rw [if_neg na, if_neg nh, nI_clamp (by omega), nI_clamp (by omega), nI_clamp (by omega)]; exact ⟨rfl, by unfold jA_pair2 jA_cell; rw [if_neg c49, ebg]; exact ⟨fun _ => by dsimp only; rw [if_pos c100]; exact ha5, fun z => absurd hf z⟩⟩, jP.from hr hq5⟩
      have fits : ∀ (hf : jl_tail (jT_S (jSt_T σ ta)) (jT_k (jSt_T σ ta)) (jT_S (jSt_T σ tb)) (jT_k (jSt_T σ tb)) = true ∨ jl_tail (jT_S (jSt_T σ tb)) (jT_k (jSt_T σ tb)) (jT_S (jSt_T σ ta)) (jT_k (jSt_T σ ta)) = true), ja (jb_mk l (jb_rm 5 168 16 9728) 4 "MeasuredTensorsModel" D H0 (jt_all cI cJ cT cX) u) w3 sz 16 9728 80 [(0, .ref y), (1, .int (nI hw)), (2, .int (nI ta)), (3, .int (nI tb))] [] := by
        intro hf
        refine ja_aload_n C jd_Y_pair_80 0 rfl ?_
        refine ja_aload_n C jd_Y_pair_81 0 rfl ?_
        refine ja_iload_n C jd_Y_pair_82 2 rfl ?_
        refine ja_iload_n C jd_Y_pair_83 3 rfl ?_
        refine jN_pV 8 C X jk_isTail h3 rfl (jn_isTail h3 htta httb) jd_Y_pair_84 rfl rfl ⟨by decide, by decide⟩ (Nat.le_of_ble_eq_true rfl) ?_
        refine ja_if_eqB C 94 jd_Y_pair_87 (by decide) (fun c87 => ?_) (fun c87 => ?_)
        · refine ja_iload_n C jd_Y_pair_94 3 rfl ?_
          refine jN_vV 8 C X jk_shapeOf h3 rfl (jn_shapeOf h3 httb) jd_Y_pair_95 rfl rfl ⟨by decide, by decide⟩ (Nat.le_of_ble_eq_true rfl) (fun w6 hp6 => ?_)
          obtain ⟨N6, h6, hN6, r6⟩ := hp6
          exact fin w6 _ tb h6 hN6 (r3.tr r6) httb (by rw [if_neg c87]) hf
        · refine ja_iload_n C jd_Y_pair_90 2 rfl ?_
          refine ja_goto C 95 jd_Y_pair_91 (by decide) ?_
          refine jN_vV 8 C X jk_shapeOf h3 rfl (jn_shapeOf h3 htta) jd_Y_pair_95 rfl rfl ⟨by decide, by decide⟩ (Nat.le_of_ble_eq_true rfl) (fun w7 hp7 => ?_)
          obtain ⟨N7, h7, hN7, r7⟩ := hp7
          exact fin w7 _ ta h7 hN7 (r3.tr r7) htta (by rw [if_pos c87]) hf
      refine ja_aload_n C jd_Y_pair_59 0 rfl ?_
      refine ja_iload_n C jd_Y_pair_60 2 rfl ?_
      refine ja_iload_n C jd_Y_pair_61 3 rfl ?_
      refine jN_pV 8 C X jk_isTail h3 rfl (jn_isTail h3 htta httb) jd_Y_pair_62 rfl rfl ⟨by decide, by decide⟩ (Nat.le_of_ble_eq_true rfl) ?_
      refine ja_if_neB C 80 jd_Y_pair_65 (by decide) (fun c65 => fits (Or.inl c65)) (fun c65 => ?_)
      refine ja_aload_n C jd_Y_pair_68 0 rfl ?_
      refine ja_iload_n C jd_Y_pair_69 3 rfl ?_
      refine ja_iload_n C jd_Y_pair_70 2 rfl ?_
      refine jN_pV 8 C X jk_isTail h3 rfl (jn_isTail h3 httb htta) jd_Y_pair_71 rfl rfl ⟨by decide, by decide⟩ (Nat.le_of_ble_eq_true rfl) ?_
      refine ja_if_neB C 80 jd_Y_pair_74 (by decide) (fun c74 => fits (Or.inr c74)) (fun c74 => ?_)
      refine ja_bipush C (-5) jd_Y_pair_77 (by decide) ?_
      exact E jd_Y_pair_79 ⟨-5, 0, σ, rfl, by unfold jA_pair; rw [if_neg na, if_neg nh, nI_clamp (by omega), nI_clamp (by omega), nI_clamp (by omega)]; exact ⟨rfl, by unfold jA_pair2 jA_cell; rw [if_neg c49]; exact ⟨fun z => z.elim (fun z => absurd z c65) (fun z => absurd z c74), fun _ => ⟨rfl, rfl⟩⟩⟩, h3.jP r3⟩
    · refine ja_aload_n C jd_Y_pair_52 0 rfl ?_
      refine ja_iload_n C jd_Y_pair_53 2 rfl ?_
      refine ja_iload_n C jd_Y_pair_54 3 rfl ?_
      refine jN_mV 8 C X jk_matrix h3 rfl (jn_matrix h3 hct htta httb) jd_Y_pair_55 rfl rfl ⟨by decide, by decide⟩ (Nat.le_of_ble_eq_true rfl) (Nat.le_of_ble_eq_true rfl) (Nat.le_of_ble_eq_true rfl) (fun x8 σ8 w8 z8 hp8 => ?_)
      obtain ⟨ha8, hq8⟩ := hp8
      exact E jd_Y_pair_58 ⟨x8, 0, σ8, rfl, by unfold jA_pair; rw [if_neg na, if_neg nh, nI_clamp (by omega), nI_clamp (by omega), nI_clamp (by omega)]; exact ⟨rfl, by unfold jA_pair2; rw [if_pos c49]; exact ha8⟩, jP.from r3 hq8⟩
  · exact bad (Or.inr cb)
theorem jn_reshape {t m a b c d : Int32} (h : jN cI cJ y A n n2 σ w th rk N) (hct : jSt_c σ < 512) : jb_M l jy_Y_reshape jc_Y_reshape 8 (some .int) 5 168 16 9728 D H0 (jt_all cI cJ cT cX) [.ref y, .int t, .int m, .int a, .int b, .int c, .int d] w sz
    (fun v w' sz' => ∃ (x th' : Int32) (σ' : jSt), v = some (.int x) ∧ jA_reshape σ t m a b c d x th' σ' ∧ jP cI cJ y A w sz σ' th' w' sz') := by
  refine jb_meth_i (by decide) (Nat.le_of_ble_eq_true rfl) (fun u C X E => ?_)
  have hn := h.cn
  refine ja_aload_n C jd_Y_reshape_0 0 rfl ?_
  refine ja_iload_n C jd_Y_reshape_1 2 rfl ?_
  refine ja_iload_n C jd_Y_reshape_2 3 rfl ?_
  refine ja_iload C jd_Y_reshape_3 4 rfl ?_
  refine ja_iload C jd_Y_reshape_5 5 rfl ?_
  refine ja_iload C jd_Y_reshape_7 6 rfl ?_
  refine jN_qV 8 C X jk_take h rfl (jn_take h) jd_Y_reshape_9 rfl rfl ⟨by decide, by decide⟩ (Nat.le_of_ble_eq_true rfl) (fun w1 hp1 => ?_)
  obtain ⟨h1, r1⟩ := hp1
  refine ja_istore C [(7, .int (jl_take m (jl_F a b c d))), (0, .ref y), (1, .int t), (2, .int m), (3, .int a), (4, .int b), (5, .int c), (6, .int d)] jd_Y_reshape_12 (Nat.le_of_ble_eq_true rfl) rfl ?_
  refine ja_aload_n C jd_Y_reshape_14 1 rfl ?_
  refine ja_aload_n C jd_Y_reshape_15 1 rfl ?_
  refine ja_iload_n C jd_Y_reshape_16 2 rfl ?_
  refine jN_pV 8 C X jk_noTensor h1 rfl (jn_noTensor h1) jd_Y_reshape_17 rfl rfl ⟨by decide, by decide⟩ (Nat.le_of_ble_eq_true rfl) ?_
  refine ja_if_eqB C 27 jd_Y_reshape_20 (by decide) (fun ct => ?_) (fun ct => ?_)
  · obtain ⟨tt, httt, ettt⟩ : ∃ q9, q9 < jSt_c σ ∧ t = nI q9 := (pk_ix t (by omega)).elim (fun z => absurd (Or.inl z) ct) (fun z => z.elim (fun z => absurd (Or.inr z) ct) id)
    obtain ⟨ott1, ott2, ott3, ott4, ott5, ott6, ott7, ott8, ott9, ott10⟩ := h.ok httt
    refine ja_iload C jd_Y_reshape_27 0 rfl ?_
    refine ja_if_eq C 36 jd_Y_reshape_29 (by decide) (fun c29 => ?_) (fun c29 => ?_)
    · refine ja_iconst C (nI 2) jd_Y_reshape_36 (by decide) ?_
      refine jN_p0 C jd_Y_reshape_37 h1 (fun w2 h2 r2 => ?_)
      refine ja_aload_n C jd_Y_reshape_40 1 rfl ?_
      refine jN_gt C jd_Y_reshape_41 h2 ?_
      refine ja_if_leN C 49 jd_Y_reshape_44 (by decide) (by decide) (fun q => absurd q (by decide)) (fun _ => ?_)
      refine ja_iconst C (nI 0) jd_Y_reshape_47 (by decide) ?_
      exact E jd_Y_reshape_48 ⟨0, 2, σ, rfl, by unfold jA_reshape; rw [if_neg ct, if_pos c29]; exact ⟨rfl, rfl⟩, h2.jP (r1.tr r2)⟩
    · have ht1 : jl_take m (jl_F a b c d) = 1 := (jl_take_01 m (jl_F a b c d)).resolve_left c29
      obtain ⟨rn, hrn, hm, hmc, hF⟩ := jl_take_1 ht1
      subst ettt
      refine ja_iconst C (nI 0) jd_Y_reshape_32 (by decide) ?_
      refine ja_goto C 37 jd_Y_reshape_33 (by decide) ?_
      refine jN_p0 C jd_Y_reshape_37 h1 (fun w3 h3 r3 => ?_)
      refine ja_aload_n C jd_Y_reshape_40 1 rfl ?_
      refine jN_gt C jd_Y_reshape_41 h3 ?_
      refine ja_if_leN C 49 jd_Y_reshape_44 (by decide) (by decide) (fun _ => ?_) (fun q => absurd q (by decide))
      refine ja_aload_n C jd_Y_reshape_49 1 rfl ?_
      refine jN_pV 8 C X jk_newCells h3 rfl (jn_newCells h3 hrn hm (M := fun k => (jl_F a b c d k).toNatClampNeg) (fun k hk => ⟨(hF k hk).1, by have := (hF k hk).2.2; omega⟩)) jd_Y_reshape_50 rfl rfl ⟨by decide, by decide⟩ (Nat.le_of_ble_eq_true rfl) ?_
      have hce := jl_cells_52 (N := fun k => (jl_F a b c d k).toNatClampNeg) hrn (fun k hk => by have := (hF k hk).2.2; omega)
      refine ja_aload_n C jd_Y_reshape_53 1 rfl ?_
      refine jN_ga C jfl_cells jd_Y_reshape_54 h3 (fun _ _ => rfl) ?_
      refine ja_iload_n C jd_Y_reshape_57 2 rfl ?_
      refine jN_ia C (by decide) (fun _ _ => rfl) jd_Y_reshape_58 h3 httt (fun _ _ q => q.cells) ?_
      refine ja_i2lN C jd_Y_reshape_59 (by omega) ?_
      refine ja_lc_ne C 74 jd_Y_reshape_60 jd_Y_reshape_61 (by decide) (by omega) (by omega) (fun c60 => ?_) (fun c60 => ?_)
      · refine ja_bipush C (-5) jd_Y_reshape_74 (by decide) ?_
        exact E jd_Y_reshape_76 ⟨-5, 0, σ, rfl, by unfold jA_reshape; rw [if_neg ct, if_neg c29, nI_clamp (by omega), hmc]; exact ⟨rfl, fun z => absurd z c60, fun _ => ⟨rfl, rfl⟩⟩, h3.jP (r1.tr r3)⟩
      · refine ja_aload_n C jd_Y_reshape_64 1 rfl ?_
        refine ja_bipush C (nI 11) jd_Y_reshape_65 (by decide) ?_
        refine ja_iload_n C jd_Y_reshape_67 2 rfl ?_
        refine jN_mV 8 C X jk_makeLike h3 rfl (jn_makeLike h3 hct httt hrn hm (fun k hk => ⟨(hF k hk).1, (hF k hk).2.1, by have := (hF k hk).2.2; omega⟩) (by decide)) jd_Y_reshape_68 rfl rfl ⟨by decide, by decide⟩ (Nat.le_of_ble_eq_true rfl) (Nat.le_of_ble_eq_true rfl) (Nat.le_of_ble_eq_true rfl) (fun x4 σ4 w4 z4 hp4 => ?_)
        obtain ⟨ha4, hq4⟩ := hp4
        refine ja_goto C 76 jd_Y_reshape_71 (by decide) ?_
        exact E jd_Y_reshape_76 ⟨x4, 0, σ4, rfl, by unfold jA_reshape; rw [if_neg ct, if_neg c29, nI_clamp (by omega), hmc]; exact ⟨rfl, fun _ => ha4, fun z => absurd c60 z⟩, jP.from (r1.tr r3) hq4⟩
  · refine ja_iconst C (nI 1) jd_Y_reshape_23 (by decide) ?_
    refine ja_goto C 37 jd_Y_reshape_24 (by decide) ?_
    refine jN_p0 C jd_Y_reshape_37 h1 (fun w5 h5 r5 => ?_)
    refine ja_aload_n C jd_Y_reshape_40 1 rfl ?_
    refine jN_gt C jd_Y_reshape_41 h5 ?_
    refine ja_if_leN C 49 jd_Y_reshape_44 (by decide) (by decide) (fun q => absurd q (by decide)) (fun _ => ?_)
    refine ja_iconst C (nI 0) jd_Y_reshape_47 (by decide) ?_
    exact E jd_Y_reshape_48 ⟨0, 1, σ, rfl, by unfold jA_reshape; rw [if_pos ct]; exact ⟨rfl, rfl⟩, h5.jP (r1.tr r5)⟩
end Y39
