/-! THE REFERENCE: over -/
def jA_over (σ : jSt) (a u0 l0 : Int32) (x th : Int32) (σ' : jSt) : Prop := if a < 0 ∨ nI (jSt_c σ) ≤ a then th = 1 ∧ σ' = σ else if (u0 < 1 ∨ l0 < 1 ∨ ¬ Nat.gcd u0.toNatClampNeg l0.toNatClampNeg = 1) then th = 2 ∧ σ' = σ else th = 0 ∧ jB σ (jT_S (jSt_T σ a.toNatClampNeg)) (jT_k (jSt_T σ a.toNatClampNeg)) 51 a (-1) 1 (jT_r (jSt_T σ a.toNatClampNeg) + jl_log (l0.toNatClampNeg + 1)) (jT_e (jSt_T σ a.toNatClampNeg) + jl_twos 40 u0.toNatClampNeg) (jl_prod (jT_q (jSt_T σ a.toNatClampNeg)) (jl_odd 40 u0.toNatClampNeg)) (u0.toNatClampNeg, l0.toNatClampNeg) x σ' 

section Y47
variable {l : Launch} {D : va_G} {H0 : Heap} {cI cJ cT cX : ClassId} {w : jb_W} {sz : Nat}
variable {y : Nat} {A : Nat → Nat} {n n2 : Nat} {σ : jSt} {th rk : Int32} {N : Nat → Int32}
theorem jn_over {a u0 l0 : Int32} (h : jN cI cJ y A n n2 σ w th rk N) (hct : jSt_c σ < 512) : jb_M l jy_Y_over jc_Y_over 5 (some .int) 4 144 16 9728 D H0 (jt_all cI cJ cT cX) [.ref y, .int a, .int u0, .int l0] w sz
    (fun v w' sz' => ∃ (x th' : Int32) (σ' : jSt), v = some (.int x) ∧ jA_over σ a u0 l0 x th' σ' ∧ jP cI cJ y A w sz σ' th' w' sz') := by
  refine jb_meth_i (by decide) (Nat.le_of_ble_eq_true rfl) (fun u C X E => ?_)
  have hn := h.cn
  have hni := h.ci
  refine ja_aload_n C jd_Y_over_0 0 rfl ?_
  refine ja_aload_n C jd_Y_over_1 0 rfl ?_
  refine ja_iload_n C jd_Y_over_2 1 rfl ?_
  refine jN_pV 8 C X jk_noTensor h rfl (jn_noTensor h) jd_Y_over_3 rfl rfl ⟨by decide, by decide⟩ (Nat.le_of_ble_eq_true rfl) ?_
  refine ja_if_eqB C 13 jd_Y_over_6 (by decide) (fun ca => ?_) (fun ca => ?_)
  · obtain ⟨ta, htta, etta⟩ : ∃ q9, q9 < jSt_c σ ∧ a = nI q9 := (pk_ix a (by omega)).elim (fun z => absurd (Or.inl z) ca) (fun z => z.elim (fun z => absurd (Or.inr z) ca) id)
    obtain ⟨ota1, ota2, ota3, ota4, ota5, ota6, ota7, ota8, ota9, ota10⟩ := h.ok htta
    have bad : ∀ (hf : (u0 < 1 ∨ l0 < 1 ∨ ¬ Nat.gcd u0.toNatClampNeg l0.toNatClampNeg = 1)), ja (jb_mk l (jb_rm 4 144 16 9728) 5 "MeasuredTensorsModel" D H0 (jt_all cI cJ cT cX) u) w sz 16 9728 32 [(0, .ref y), (1, .int a), (2, .int u0), (3, .int l0)] [.ref y] := by
      intro hf
      refine ja_iconst C (nI 2) jd_Y_over_32 (by decide) ?_
      refine ja_goto C 37 jd_Y_over_33 (by decide) ?_
      refine jN_p0 C jd_Y_over_37 h (fun w1 h1 r1 => ?_)
      refine ja_aload_n C jd_Y_over_40 0 rfl ?_
      refine jN_gt C jd_Y_over_41 h1 ?_
      refine ja_if_leN C 49 jd_Y_over_44 (by decide) (by decide) (fun q => absurd q (by decide)) (fun _ => ?_)
      refine ja_iconst C (nI 0) jd_Y_over_47 (by decide) ?_
      exact E jd_Y_over_48 ⟨0, 2, σ, rfl, by unfold jA_over; rw [if_neg ca, if_pos hf]; exact ⟨rfl, rfl⟩, h1.jP r1⟩
    refine ja_iload_n C jd_Y_over_13 2 rfl ?_
    refine ja_iconst C (nI 1) jd_Y_over_14 (by decide) ?_
    refine ja_icmp_lt C 32 jd_Y_over_15 (by decide) (fun c15 => bad (Or.inl c15)) (fun c15 => ?_)
    refine ja_iload_n C jd_Y_over_18 3 rfl ?_
    refine ja_iconst C (nI 1) jd_Y_over_19 (by decide) ?_
    refine ja_icmp_lt C 32 jd_Y_over_20 (by decide) (fun c20 => bad (Or.inr (Or.inl c20))) (fun c20 => ?_)
    obtain ⟨uu, hu, eu⟩ := nI_of (x := u0) (fun z => c15 (Int32.lt_iff_toInt_lt.mpr (Int.lt_trans (Int32.lt_iff_toInt_lt.mp z) (by decide))))
    obtain ⟨ll, hl, el⟩ := nI_of (x := l0) (fun z => c20 (Int32.lt_iff_toInt_lt.mpr (Int.lt_trans (Int32.lt_iff_toInt_lt.mp z) (by decide))))
    have cu : u0.toNatClampNeg = uu := by rw [eu]; exact nI_clamp hu
    have cl : l0.toNatClampNeg = ll := by rw [el]; exact nI_clamp hl
    have cta : a.toNatClampNeg = ta := by rw [etta]; exact nI_clamp (by omega)
    have hu1 : 1 ≤ uu := by
      rcases Nat.eq_zero_or_pos uu with z | z
      · exact absurd (by rw [eu, z]; decide) c15
      · exact z
    have hl1 : 1 ≤ ll := by
      rcases Nat.eq_zero_or_pos ll with z | z
      · exact absurd (by rw [el, z]; decide) c20
      · exact z
    have eu' := eu
    have el' := el
    have ea' := etta
    rw [eu, el, etta]
    refine ja_aload_n C jd_Y_over_23 0 rfl ?_
    refine ja_iload_n C jd_Y_over_24 2 rfl ?_
    refine ja_iload_n C jd_Y_over_25 3 rfl ?_
    refine jN_pV 8 C X jk_isLeast h rfl (jy_isLeast (by omega) (by omega)) jd_Y_over_26 rfl rfl ⟨by decide, by decide⟩ (Nat.le_of_ble_eq_true rfl) ?_
    refine ja_if_neB C 36 jd_Y_over_29 (by decide) (fun c29 => ?_) (fun c29 => (by have := bad (Or.inr (Or.inr (by rw [cu, cl]; exact c29))); rw [eu, el, etta] at this; exact this))
    have nb : ¬ (u0 < 1 ∨ l0 < 1 ∨ ¬ Nat.gcd u0.toNatClampNeg l0.toNatClampNeg = 1) := fun z => z.elim c15 (fun z => z.elim c20 (fun z => z (by rw [cu, cl]; exact c29)))
    have hlg := jl_log_le (m := ll + 1) (by omega)
    have htw := jl_twos_le 40 uu
    have hod := jl_odd_le 40 uu
    refine ja_iconst C (nI 0) jd_Y_over_36 (by decide) ?_
    refine jN_p0 C jd_Y_over_37 h (fun w2 h2 r2 => ?_)
    refine ja_aload_n C jd_Y_over_40 0 rfl ?_
    refine jN_gt C jd_Y_over_41 h2 ?_
    refine ja_if_leN C 49 jd_Y_over_44 (by decide) (by decide) (fun _ => ?_) (fun q => absurd q (by decide))
    refine ja_aload_n C jd_Y_over_49 0 rfl ?_
    refine ja_iload_n C jd_Y_over_50 1 rfl ?_
    refine jN_vV 8 C X jk_shapeOf h2 rfl (jn_shapeOf h2 htta) jd_Y_over_51 rfl rfl ⟨by decide, by decide⟩ (Nat.le_of_ble_eq_true rfl) (fun w3 hp3 => ?_)
    obtain ⟨N3, h3, hN3, r3⟩ := hp3
    refine ja_aload_n C jd_Y_over_54 0 rfl ?_
    refine ja_bipush C (nI 51) jd_Y_over_55 (by decide) ?_
    refine ja_iload_n C jd_Y_over_57 1 rfl ?_
    refine ja_iconst C (-1) jd_Y_over_58 (by decide) ?_
    refine ja_aload_n C jd_Y_over_59 0 rfl ?_
    refine jN_ga C jfl_range jd_Y_over_60 h3 (fun _ _ => rfl) ?_
    refine ja_iload_n C jd_Y_over_63 1 rfl ?_
    refine jN_ia C (by decide) (fun _ _ => rfl) jd_Y_over_64 h3 htta (fun _ _ q => q.range) ?_
    refine ja_iload_n C jd_Y_over_65 3 rfl ?_
    refine ja_i2lN C jd_Y_over_66 (by omega) ?_
    refine ja_lconst C (lN 1) jd_Y_over_67 (by decide) ?_
    refine ja_laddN C jd_Y_over_68 ?_
    refine jb_pS 8 C X jk_log (jy_log (by omega)) jd_Y_over_69 rfl rfl ⟨by decide, by decide⟩ (Nat.le_of_ble_eq_true rfl) ?_
    refine ja_iaddN C jd_Y_over_72 ?_
    refine ja_i2lN C jd_Y_over_73 (by omega) ?_
    refine ja_aload_n C jd_Y_over_74 0 rfl ?_
    refine jN_ga C jfl_depth jd_Y_over_75 h3 (fun _ _ => rfl) ?_
    refine ja_iload_n C jd_Y_over_78 1 rfl ?_
    refine jN_ia C (by decide) (fun _ _ => rfl) jd_Y_over_79 h3 htta (fun _ _ q => q.depth) ?_
    refine ja_iload_n C jd_Y_over_80 2 rfl ?_
    refine ja_i2lN C jd_Y_over_81 (by omega) ?_
    refine jb_pS 8 C X jk_twos (jy_twos (by omega) (by omega)) jd_Y_over_82 rfl rfl ⟨by decide, by decide⟩ (Nat.le_of_ble_eq_true rfl) ?_
    refine ja_iaddN C jd_Y_over_85 ?_
    refine ja_i2lN C jd_Y_over_86 (by omega) ?_
    refine ja_aload_n C jd_Y_over_87 0 rfl ?_
    refine jN_ga C jfl_odd jd_Y_over_88 h3 (fun _ _ => rfl) ?_
    refine ja_iload_n C jd_Y_over_91 1 rfl ?_
    refine jN_la C jd_Y_over_92 h3 htta ?_
    refine ja_iload_n C jd_Y_over_93 2 rfl ?_
    refine ja_i2lN C jd_Y_over_94 (by omega) ?_
    refine jb_pS 10 C X jk_oddPart (jy_oddPart (by omega) (by omega)) jd_Y_over_95 rfl rfl ⟨by decide, by decide⟩ (Nat.le_of_ble_eq_true rfl) ?_
    refine jb_pS 8 C X jk_product (jy_product (by omega) (by omega)) jd_Y_over_98 rfl rfl ⟨by decide, by decide⟩ (Nat.le_of_ble_eq_true rfl) ?_
    refine ja_iconst C (nI 1) jd_Y_over_101 (by decide) ?_
    obtain ⟨s, V, VL, hM, e0, e5, eN⟩ := h3
    obtain ⟨g1, g2, g3, g4, g5, g6, g7, g8, g9, g10, g11, -⟩ := id hM
    have hcap := jl_cap_le g6
    refine jb_callVw (kc := 0) (ks := 0) (mc := 16) (ms := 9728) 8 C X jk_make g1.1 rfl (jy_make (rk := jT_k (jSt_T σ ta)) (N := jT_S (jSt_T σ ta)) (ct := jSt_c σ) (wkN := jSt_w σ) (by omega) (by omega) (jl_prod_lt _ _) (by omega) ota1 e5 (fun k hk => ⟨(eN k (by omega)).trans (hN3 k (by omega)), by have := (ota2 k (by omega)).2; omega⟩) g4 g5 (by omega) hcap.2 (fun z => by unfold jl_cap at g6; omega) (by omega) rfl g7 g1) jd_Y_over_102 rfl rfl ⟨by decide, by decide⟩ (Nat.le_of_ble_eq_true rfl) (fun v w9 z9 hp => ?_)
    rcases Classical.em (jl_full (jT_S (jSt_T σ ta)) (jT_k (jSt_T σ ta)) (jT_r (jSt_T σ ta) + jl_log (ll + 1)) (jT_e (jSt_T σ ta) + jl_twos 40 uu) (jl_prod (jT_q (jSt_T σ ta)) (jl_odd 40 uu)) 1 (jSt_w σ)) with hf | hf
    · obtain ⟨q1, q2, q3⟩ := hp.1 hf
      rw [q1, q2, q3]
      show ja (jb_mk l (jb_rm 4 144 16 9728) 5 "MeasuredTensorsModel" D H0 (jt_all cI cJ cT cX) u) w3 sz 0 0 105 _ [.int (-8)]
      refine ja_istore C [(4, .int (-8)), (0, .ref y), (1, .int (nI ta)), (2, .int (nI uu)), (3, .int (nI ll))] jd_Y_over_105 (Nat.le_of_ble_eq_true rfl) rfl ?_
      refine ja_iload C jd_Y_over_107 0 rfl ?_
      refine ja_if_lt C 128 jd_Y_over_109 (by decide) (fun c109 => ?_) (fun c109 => absurd (by decide) c109)
      refine ja_iload C jd_Y_over_128 0 rfl ?_
      exact E jd_Y_over_130 ⟨-8, 0, σ, rfl, by unfold jA_over; rw [if_neg ca, if_neg nb, cu, cl, cta]; exact ⟨rfl, fun _ => ⟨rfl, rfl⟩, fun z => absurd hf z⟩, jN.jP ⟨s, V, VL, hM, e0, e5, eN⟩ (r2.tr r3)⟩
    · obtain ⟨q1, hmk⟩ := hp.2 hf
      obtain ⟨A', n', V', VL', m1, m2, m3, m4, m5, m6, m7⟩ := hM.add2 (uN := uu) (lw := ll) ⟨rfl, rfl⟩ (fun _ _ => rfl) hf ota1 (fun k hk => (ota2 k (by omega)).1) ⟨by decide, by decide⟩ (jl_prod_lt _ _) ⟨hu1, hl1, hu, hl⟩ hct hmk
      rw [q1]
      show ja (jb_mk l (jb_rm 4 144 16 9728) 5 "MeasuredTensorsModel" D H0 (jt_all cI cJ cT cX) u) w9 z9 0 0 105 _ [.int (nI (jSt_c σ))]
      refine ja_istore C [(4, .int (nI (jSt_c σ))), (0, .ref y), (1, .int (nI ta)), (2, .int (nI uu)), (3, .int (nI ll))] jd_Y_over_105 (Nat.le_of_ble_eq_true rfl) rfl ?_
      refine ja_iload C jd_Y_over_107 0 rfl ?_
      refine ja_if_ltN C 128 jd_Y_over_109 (by decide) (by omega) ?_
      refine ja_aload_n C jd_Y_over_112 1 rfl ?_
      refine ja_get C jfl_upper jd_Y_over_113 m1.1 rfl ?_
      refine ja_iload C jd_Y_over_116 0 rfl ?_
      refine ja_iload_n C jd_Y_over_118 3 rfl ?_
      refine jY_iastF C 10 (by decide) (by decide) jd_Y_over_119 m1 m2 (by show n' < 2 ^ 31; omega) (fun wa Va ga gb gc gd gr => ?_)
      refine ja_aload_n C jd_Y_over_120 1 rfl ?_
      refine ja_get C jfl_lower jd_Y_over_121 ga.1 rfl ?_
      refine ja_iload C jd_Y_over_124 0 rfl ?_
      refine ja_iload_n C jd_Y_over_126 4 rfl ?_
      refine jY_iastF C 11 (by decide) (by decide) jd_Y_over_127 ga m2 (by show n' < 2 ^ 31; omega) (fun wb Vb ha hb hc hd hr => ?_)
      refine ja_iload C jd_Y_over_128 0 rfl ?_
      have hfin := m4 wb Vb ha (fun k k1 k2 => (hb k k2).trans (gb k k1)) (fun i hi => by rw [hb 10 (by decide)]; exact gd i hi) (fun i hi => by rw [hd i hi, gb 11 (by decide)]) (by rw [hb 10 (by decide)]; exact gc) hc
      have hjs : jS sz y A w wb := fun q x hq hx h0 hk => by
        have t1 : w3 q = some x := (r2.tr r3) q x hx h0 hk
        have t2 := m5 q x hq t1 h0 hk
        have hk' : ∀ k, k < 20 → q ≠ A' k := fun k k2 => by
          rcases m6 k k2 with z | z
          · rw [z]; exact hk k k2
          · omega
        exact hr q x (gr q x t2 h0 hk') h0 hk'
      exact E jd_Y_over_130 ⟨nI (jSt_c σ), 0, _, rfl, by unfold jA_over; rw [if_neg ca, if_neg nb, cu, cl, cta]; exact ⟨rfl, fun z => absurd z hf, fun _ => ⟨rfl, by rw [etta]; rfl⟩⟩, A', n', n2, _, Vb, VL', hfin, by rw [pk_un (by decide)]; exact e0, hjs, m6, m7⟩
  · refine ja_iconst C (nI 1) jd_Y_over_9 (by decide) ?_
    refine ja_goto C 37 jd_Y_over_10 (by decide) ?_
    refine jN_p0 C jd_Y_over_37 h (fun w4 h4 r4 => ?_)
    refine ja_aload_n C jd_Y_over_40 0 rfl ?_
    refine jN_gt C jd_Y_over_41 h4 ?_
    refine ja_if_leN C 49 jd_Y_over_44 (by decide) (by decide) (fun q => absurd q (by decide)) (fun _ => ?_)
    refine ja_iconst C (nI 0) jd_Y_over_47 (by decide) ?_
    exact E jd_Y_over_48 ⟨0, 1, σ, rfl, by unfold jA_over; rw [if_pos ca]; exact ⟨rfl, rfl⟩, h4.jP r4⟩
end Y47
