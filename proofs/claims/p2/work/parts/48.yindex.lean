/-! THE REFERENCE: index -/
theorem nI_bv (a : Int32) : nI a.toBitVec.toNat = a := by
  apply Int32.toBitVec_inj.mp
  show BitVec.ofNat 32 a.toBitVec.toNat = a.toBitVec
  simp
def jSt_addI (σ : jSt) (q : Nat × Nat × Nat) : jSt := (σ.1, (jSt_i σ + 1, va_up (jSt_I σ) (jSt_i σ) q))
def jA_index (σ : jSt) (m a b c d least : Int32) (x th : Int32) (σ' : jSt) : Prop :=
  (¬ (jl_take m (jl_F a b c d) = 1 ∧ 1 ≤ least ∧ least ≤ 65536) → th = 1 ∧ σ' = σ) ∧ ((jl_take m (jl_F a b c d) = 1 ∧ 1 ≤ least ∧ least ≤ 65536) → 4096 < jl_cells (fun k => (jl_F a b c d k).toNatClampNeg) m.toNatClampNeg → th = 2 ∧ σ' = σ) ∧ ((jl_take m (jl_F a b c d) = 1 ∧ 1 ≤ least ∧ least ≤ 65536) → jl_cells (fun k => (jl_F a b c d k).toNatClampNeg) m.toNatClampNeg ≤ 4096 → th = 0 ∧ x = nI (jSt_i σ) ∧ σ' = jSt_addI σ (m.toNatClampNeg, a.toBitVec.toNat, least.toNatClampNeg))
theorem jq_Y_158 : Cond.constant "MeasuredTensorsModel" 158 (nI 65536) ∈ jw_all := jw_in (by decide +kernel) (by decide +kernel)
theorem jq_Y_159 : Cond.constantLong "MeasuredTensorsModel" 159 (lN 4096) ∈ jw_all := jw_in (by decide +kernel) (by decide +kernel)
section Y48
variable {l : Launch} {D : va_G} {H0 : Heap} {cI cJ cT cX : ClassId} {w : jb_W} {sz : Nat}
variable {y : Nat} {A : Nat → Nat} {n n2 : Nat} {σ : jSt} {th rk : Int32} {N : Nat → Int32}
theorem jn_index {m a b c d least : Int32} (h : jN cI cJ y A n n2 σ w th rk N) (hci : jSt_i σ < 512) : jb_M l jy_Y_index jc_Y_index 8 (some .int) 2 90 3 3072 D H0 (jt_all cI cJ cT cX) [.ref y, .int m, .int a, .int b, .int c, .int d, .int least] w sz
    (fun v w' sz' => ∃ (x th' : Int32) (σ' : jSt), v = some (.int x) ∧ jA_index σ m a b c d least x th' σ' ∧ jP cI cJ y A w sz σ' th' w' sz') := by
  refine jb_meth_i (by decide) (Nat.le_of_ble_eq_true rfl) (fun u C X E => ?_)
  have hn := h.cn
  have hni := h.ci
  refine ja_aload_n C jd_Y_index_0 0 rfl ?_
  refine ja_iload_n C jd_Y_index_1 1 rfl ?_
  refine ja_iload_n C jd_Y_index_2 2 rfl ?_
  refine ja_iload_n C jd_Y_index_3 3 rfl ?_
  refine ja_iload C jd_Y_index_4 4 rfl ?_
  refine ja_iload C jd_Y_index_6 5 rfl ?_
  refine jN_qV 8 C X jk_take h rfl (jn_take h) jd_Y_index_8 rfl rfl ⟨by decide, by decide⟩ (Nat.le_of_ble_eq_true rfl) (fun w1 hp1 => ?_)
  obtain ⟨h1, r1⟩ := hp1
  have bad : ∀ (w2 : jb_W) (N2 : Nat → Int32) (hh : jN cI cJ y A n n2 σ w2 th m N2) (hr : jR y A w w2) (hf : ¬ (jl_take m (jl_F a b c d) = 1 ∧ 1 ≤ least ∧ least ≤ 65536)), ja (jb_mk l (jb_rm 2 90 3 3072) 8 "MeasuredTensorsModel" D H0 (jt_all cI cJ cT cX) u) w2 sz 3 3072 31 [(0, .ref y), (1, .int m), (2, .int a), (3, .int b), (4, .int c), (5, .int d), (6, .int least)] [] := by
    intro w2 N2 hh hr hf
    refine ja_iconst C (nI 0) jd_Y_index_31 (by decide) ?_
    refine ja_istore C [(7, .int (nI 0)), (0, .ref y), (1, .int m), (2, .int a), (3, .int b), (4, .int c), (5, .int d), (6, .int least)] jd_Y_index_32 (Nat.le_of_ble_eq_true rfl) rfl ?_
    refine ja_aload_n C jd_Y_index_34 1 rfl ?_
    refine ja_iload C jd_Y_index_35 0 rfl ?_
    refine ja_if_neN C 44 jd_Y_index_37 (by decide) (by decide) (fun q => absurd q (by decide)) (fun _ => ?_)
    refine ja_iconst C (nI 1) jd_Y_index_40 (by decide) ?_
    refine ja_goto C 70 jd_Y_index_41 (by decide) ?_
    refine jN_p0 C jd_Y_index_70 hh (fun w2 h2 r2 => ?_)
    refine ja_aload_n C jd_Y_index_73 1 rfl ?_
    refine jN_gt C jd_Y_index_74 h2 ?_
    refine ja_if_leN C 82 jd_Y_index_77 (by decide) (by decide) (fun q => absurd q (by decide)) (fun _ => ?_)
    refine ja_iconst C (nI 0) jd_Y_index_80 (by decide) ?_
    exact E jd_Y_index_81 ⟨0, 1, σ, rfl, ⟨fun _ => ⟨rfl, rfl⟩, fun z => absurd z hf, fun z => absurd z hf⟩, h2.jP (hr.tr r2)⟩
  refine ja_if_eq C 31 jd_Y_index_11 (by decide) (fun c11 => bad w1 _ h1 r1 (fun z => by rw [c11] at z; exact absurd z.1 (by decide))) (fun c11 => ?_)
  refine ja_iload C jd_Y_index_14 6 rfl ?_
  refine ja_iconst C (nI 1) jd_Y_index_16 (by decide) ?_
  refine ja_icmp_lt C 31 jd_Y_index_17 (by decide) (fun c17 => bad w1 _ h1 r1 (fun z => k2_nle c17 z.2.1)) (fun c17 => ?_)
  refine ja_iload C jd_Y_index_20 6 rfl ?_
  refine ja_ldc C (nI 65536) jq_Y_158 jd_Y_index_22 ?_
  refine ja_icmp_gt C 31 jd_Y_index_24 (by decide) (fun c24 => bad w1 _ h1 r1 (fun z => k2_nle c24 z.2.2)) (fun c24 => ?_)
  have ht1 : jl_take m (jl_F a b c d) = 1 := (jl_take_01 m (jl_F a b c d)).resolve_left c11
  have hg : jl_take m (jl_F a b c d) = 1 ∧ 1 ≤ least ∧ least ≤ 65536 := ⟨ht1, k2_le c17, k2_le c24⟩
  obtain ⟨rn, hrn, hm, hmc, hF⟩ := jl_take_1 ht1
  obtain ⟨ls, hls, els⟩ := nI_of2 (x := least) (M := 65536) (n := 65536) (by decide) (fun z => c17 (Int32.lt_iff_toInt_lt.mpr (Int.lt_trans (Int32.lt_iff_toInt_lt.mp z) (by decide)))) (k2_le c24)
  have hls1 : 1 ≤ ls := by
    rcases Nat.eq_zero_or_pos ls with z | z
    · exact absurd (by rw [els, z]; decide) c17
    · exact z
  have hlc : least.toNatClampNeg = ls := by rw [els]; exact nI_clamp (by omega)
  refine ja_iconst C (nI 1) jd_Y_index_27 (by decide) ?_
  refine ja_goto C 32 jd_Y_index_28 (by decide) ?_
  refine ja_istore C [(7, .int (nI 1)), (0, .ref y), (1, .int m), (2, .int a), (3, .int b), (4, .int c), (5, .int d), (6, .int least)] jd_Y_index_32 (Nat.le_of_ble_eq_true rfl) rfl ?_
  refine ja_aload_n C jd_Y_index_34 1 rfl ?_
  refine ja_iload C jd_Y_index_35 0 rfl ?_
  refine ja_if_neN C 44 jd_Y_index_37 (by decide) (by decide) (fun _ => ?_) (fun q => absurd q (by decide))
  refine ja_aload_n C jd_Y_index_44 1 rfl ?_
  refine jN_pV 8 C X jk_newCells h1 rfl (jn_newCells h1 hrn hm (M := fun k => (jl_F a b c d k).toNatClampNeg) (fun k hk => ⟨(hF k hk).1, by have := (hF k hk).2.2; omega⟩)) jd_Y_index_45 rfl rfl ⟨by decide, by decide⟩ (Nat.le_of_ble_eq_true rfl) ?_
  have hce := jl_cells_52 (N := fun k => (jl_F a b c d k).toNatClampNeg) hrn (fun k hk => by have := (hF k hk).2.2; omega)
  refine ja_ldc2 C (lN 4096) jq_Y_159 jd_Y_index_48 ?_
  refine ja_lc_gt C 65 jd_Y_index_51 jd_Y_index_52 (by decide) (by omega) (by omega) (fun c51 => ?_) (fun c51 => ?_)
  · refine ja_iconst C (nI 2) jd_Y_index_65 (by decide) ?_
    refine ja_goto C 70 jd_Y_index_66 (by decide) ?_
    refine jN_p0 C jd_Y_index_70 h1 (fun w3 h3 r3 => ?_)
    refine ja_aload_n C jd_Y_index_73 1 rfl ?_
    refine jN_gt C jd_Y_index_74 h3 ?_
    refine ja_if_leN C 82 jd_Y_index_77 (by decide) (by decide) (fun q => absurd q (by decide)) (fun _ => ?_)
    refine ja_iconst C (nI 0) jd_Y_index_80 (by decide) ?_
    exact E jd_Y_index_81 ⟨0, 2, σ, rfl, ⟨fun z => absurd hg z, fun _ _ => ⟨rfl, rfl⟩, fun _ z => by rw [hmc] at z; omega⟩, h3.jP (r1.tr r3)⟩
  · refine ja_aload_n C jd_Y_index_55 1 rfl ?_
    refine jN_gi C jd_Y_index_56 h1 ?_
    refine ja_sipush C (nI 1000) jd_Y_index_59 (by decide) ?_
    refine ja_icmp_neN C 69 jd_Y_index_62 (by decide) (by omega) (by decide) (fun c62 => ?_) (fun c62 => absurd c62 (by omega))
    refine ja_iconst C (nI 0) jd_Y_index_69 (by decide) ?_
    refine jN_p0 C jd_Y_index_70 h1 (fun w4 h4 r4 => ?_)
    refine ja_aload_n C jd_Y_index_73 1 rfl ?_
    refine jN_gt C jd_Y_index_74 h4 ?_
    refine ja_if_leN C 82 jd_Y_index_77 (by decide) (by decide) (fun _ => ?_) (fun q => absurd q (by decide))
    refine ja_aload_n C jd_Y_index_82 1 rfl ?_
    refine jN_gi C jd_Y_index_83 h4 ?_
    refine ja_aload_n C jd_Y_index_86 1 rfl ?_
    refine jN_ga C jfl_below jd_Y_index_87 h4 (fun _ _ => rfl) ?_
    obtain ⟨s, V, VL, hM, e0, e5, eN⟩ := id h4
    obtain ⟨hY, g2, g3, g4, g5, g6, g7, g8, g9, g10, g11, gT, gI⟩ := id hM
    have hfin : ∀ (w2 : jb_W) (sz2 : Nat) (A' : Nat → Nat) (n2' : Nat) (V' : Nat → Nat → Int32), jY cI cJ w2 y A' n n2' s V' VL (lN (jSt_w σ)) → jE (jY_len n n2) V V' → jSt_i σ < n2' → jl_cap2 n2' → jS sz y A w w2 → (∀ j, j < 20 → A' j = A j ∨ sz ≤ A' j) → sz ≤ sz2 → ja (jb_mk l (jb_rm 2 90 3 3072) 8 "MeasuredTensorsModel" D H0 (jt_all cI cJ cT cX) u) w2 sz2 0 0 145 [(7, .int (nI 1)), (0, .ref y), (1, .int m), (2, .int a), (3, .int b), (4, .int c), (5, .int d), (6, .int least)] [] := by
      intro w2 sz2 A' n2' V' y1 yE yl yc yS yA yz
      have yc2 : n2' ≤ 512 := by unfold jl_cap2 at yc; omega
      refine ja_aload_n C jd_Y_index_145 1 rfl ?_
      refine ja_get C jfl_indexRank jd_Y_index_146 y1.1 rfl ?_
      refine ja_aload_n C jd_Y_index_149 1 rfl ?_
      refine ja_get C jfl_indices jd_Y_index_150 y1.1 rfl ?_
      rw [g8]
      refine ja_iload_n C jd_Y_index_153 2 rfl ?_
      refine jY_iastF C 12 (by decide) (by decide) jd_Y_index_154 y1 (show jSt_i σ < n2' from yl) (by show n2' < 2 ^ 31; omega) (fun wa Va ka k1 k2 k3 kr => ?_)
      refine ja_aload_n C jd_Y_index_155 1 rfl ?_
      refine ja_get C jfl_indexSide jd_Y_index_156 ka.1 rfl ?_
      refine ja_aload_n C jd_Y_index_159 1 rfl ?_
      refine ja_get C jfl_indices jd_Y_index_160 ka.1 rfl ?_
      rw [g8]
      refine ja_iload_n C jd_Y_index_163 3 rfl ?_
      refine jY_iastF C 13 (by decide) (by decide) jd_Y_index_164 ka (show jSt_i σ < n2' from yl) (by show n2' < 2 ^ 31; omega) (fun wb Vb kb l1 l2 l3 lr => ?_)
      refine ja_aload_n C jd_Y_index_165 1 rfl ?_
      refine ja_get C jfl_below jd_Y_index_166 kb.1 rfl ?_
      refine ja_aload_n C jd_Y_index_169 1 rfl ?_
      refine ja_get C jfl_indices jd_Y_index_170 kb.1 rfl ?_
      rw [g8]
      refine ja_iload C jd_Y_index_173 7 rfl ?_
      refine jY_iastF C 14 (by decide) (by decide) jd_Y_index_175 kb (show jSt_i σ < n2' from yl) (by show n2' < 2 ^ 31; omega) (fun wc Vc kc9 m1 m2 m3 mr => ?_)
      refine ja_aload_n C jd_Y_index_176 1 rfl ?_
      refine ja_dup C jd_Y_index_177 rfl ?_
      refine ja_get C jfl_indices jd_Y_index_178 kc9.1 rfl ?_
      rw [g8]
      refine ja_iconst C (nI 1) jd_Y_index_181 (by decide) ?_
      refine ja_iaddN C jd_Y_index_182 ?_
      refine jY_put (s' := upd s 3 (nI (jSt_i σ + 1))) (wk' := lN (jSt_w σ)) C jfp_indices jfn_indices jd_Y_index_183 kc9 rfl rfl (by decide) rfl (fun wd kd dr => ?_)
      refine ja_aload_n C jd_Y_index_186 1 rfl ?_
      refine ja_get C jfl_indices jd_Y_index_187 kd.1 rfl ?_
      rw [pk_us]
      refine ja_iconst C (nI 1) jd_Y_index_190 (by decide) ?_
      refine ja_isubN C jd_Y_index_191 (by omega) ?_
      rw [Nat.add_sub_cancel]
      have hV : ∀ k, k < 20 → k ≠ 12 → k ≠ 13 → k ≠ 14 → ∀ i, i < jY_len n n2 k → Vc k i = V k i := fun k k9 z1 z2 z3 i hi => by rw [m1 k z3, l1 k z2, k1 k z1]; exact yE k i hi
      have hrow : ∀ t, t < jSt_c σ → jT_row Vc VL t (jSt_T σ t) := fun t ht => by
        have h0 := (gT t ht).2
        have q : ∀ k, k < 20 → k ≠ 12 → k ≠ 13 → k ≠ 14 → t < jY_len n n2 k → Vc k t = V k t := fun k k9 z1 z2 z3 hi => hV k k9 z1 z2 z3 t hi
        have ht2 : t < n := by omega
        unfold jT_row at h0 ⊢
        obtain ⟨x0, x1, x2, x3, x4, x5, x6, x7, x8, x9, x10⟩ := h0
        refine ⟨?_, ?_, ?_, ?_, fun j hj => ?_, ?_, ?_, ?_, ?_, x9, fun z => ?_⟩
        · rw [q 0 (by decide) (by decide) (by decide) (by decide) ht2]; exact x0
        · rw [q 1 (by decide) (by decide) (by decide) (by decide) ht2]; exact x1
        · rw [q 2 (by decide) (by decide) (by decide) (by decide) ht2]; exact x2
        · rw [q 3 (by decide) (by decide) (by decide) (by decide) ht2]; exact x3
        · rw [hV 4 (by decide) (by decide) (by decide) (by decide) (4 * t + j) (by show 4 * t + j < 4 * n; omega)]; exact x4 j hj
        · rw [q 5 (by decide) (by decide) (by decide) (by decide) ht2]; exact x5
        · rw [q 6 (by decide) (by decide) (by decide) (by decide) ht2]; exact x6
        · rw [q 7 (by decide) (by decide) (by decide) (by decide) ht2]; exact x7
        · rw [q 8 (by decide) (by decide) (by decide) (by decide) ht2]; exact x8
        · rw [q 10 (by decide) (by decide) (by decide) (by decide) ht2, q 11 (by decide) (by decide) (by decide) (by decide) ht2]; exact x10 z
      have hjm : jM cI cJ wd y A' n n2' (upd s 3 (nI (jSt_i σ + 1))) Vc VL (jSt_addI σ (m.toNatClampNeg, a.toBitVec.toNat, least.toNatClampNeg)) := by
        refine ⟨kd, g2, g3, g4, g5, g6, g7, pk_us, by show jSt_i σ + 1 ≤ n2'; omega, yc, yc2, fun t ht => ⟨(gT t ht).1, hrow t ht⟩, fun i hi => ?_⟩
        have hi : i < jSt_i σ + 1 := hi
        by_cases ei : i = jSt_i σ
        · subst ei
          show Vc 12 (jSt_i σ) = nI (va_up (jSt_I σ) (jSt_i σ) _ (jSt_i σ)).1 ∧ Vc 13 (jSt_i σ) = nI (va_up (jSt_I σ) (jSt_i σ) _ (jSt_i σ)).2.1 ∧ Vc 14 (jSt_i σ) = nI (va_up (jSt_I σ) (jSt_i σ) _ (jSt_i σ)).2.2 ∧ (va_up (jSt_I σ) (jSt_i σ) _ (jSt_i σ)).1 ≤ 4 ∧ ((va_up (jSt_I σ) (jSt_i σ) _ (jSt_i σ)).1 = 1 → 1 ≤ (va_up (jSt_I σ) (jSt_i σ) _ (jSt_i σ)).2.1 ∧ (va_up (jSt_I σ) (jSt_i σ) _ (jSt_i σ)).2.1 ≤ 4096) ∧ 1 ≤ (va_up (jSt_I σ) (jSt_i σ) _ (jSt_i σ)).2.2 ∧ (va_up (jSt_I σ) (jSt_i σ) _ (jSt_i σ)).2.2 ≤ 65536
          rw [va_up_self]
          refine ⟨?_, ?_, ?_, by show m.toNatClampNeg ≤ 4; omega, fun z => ?_, by show 1 ≤ least.toNatClampNeg; omega, by show least.toNatClampNeg ≤ 65536; omega⟩
          · rw [m1 12 (by decide), l1 12 (by decide), k2, hmc]; exact hm
          · rw [m1 13 (by decide), l2]; exact (nI_bv a).symm
          · rw [m2, hlc]; exact els
          · have z : m.toNatClampNeg = 1 := z
            obtain ⟨f1, f2, f3⟩ := hF 0 (by omega)
            have f1 : a = nI a.toNatClampNeg := f1
            have f2 : 1 ≤ a.toNatClampNeg := f2
            have f3 : a.toNatClampNeg ≤ 4096 := f3
            have e9 : a.toBitVec.toNat = a.toNatClampNeg := (congrArg (fun q : Int32 => q.toBitVec.toNat) f1).trans (pk_tn (by omega))
            show 1 ≤ a.toBitVec.toNat ∧ a.toBitVec.toNat ≤ 4096
            omega
        · have hi2 : i < jSt_i σ := by omega
          show Vc 12 i = nI (va_up (jSt_I σ) (jSt_i σ) _ i).1 ∧ Vc 13 i = nI (va_up (jSt_I σ) (jSt_i σ) _ i).2.1 ∧ Vc 14 i = nI (va_up (jSt_I σ) (jSt_i σ) _ i).2.2 ∧ (va_up (jSt_I σ) (jSt_i σ) _ i).1 ≤ 4 ∧ ((va_up (jSt_I σ) (jSt_i σ) _ i).1 = 1 → 1 ≤ (va_up (jSt_I σ) (jSt_i σ) _ i).2.1 ∧ (va_up (jSt_I σ) (jSt_i σ) _ i).2.1 ≤ 4096) ∧ 1 ≤ (va_up (jSt_I σ) (jSt_i σ) _ i).2.2 ∧ (va_up (jSt_I σ) (jSt_i σ) _ i).2.2 ≤ 65536
          rw [va_up_ne _ _ ei]
          have hi3 : i < n2 := by omega
          have u12 : Vc 12 i = V 12 i := by rw [m1 12 (by decide), l1 12 (by decide), k3 i ei]; exact yE 12 i hi3
          have u13 : Vc 13 i = V 13 i := by rw [m1 13 (by decide), l3 i ei, k1 13 (by decide)]; exact yE 13 i hi3
          have u14 : Vc 14 i = V 14 i := by rw [m3 i ei, l1 14 (by decide), k1 14 (by decide)]; exact yE 14 i hi3
          rw [u12, u13, u14]
          exact gI i hi2
      have hjs : jS sz y A w wd := fun q x hq hx h0 hk => by
        have hk' : ∀ k, k < 20 → q ≠ A' k := fun k k2 => by
          rcases yA k k2 with z | z
          · rw [z]; exact hk k k2
          · omega
        exact dr q x (mr q x (lr q x (kr q x (yS q x hq hx h0 hk) h0 hk') h0 hk') h0 hk') h0 hk'
      exact E jd_Y_index_192 ⟨nI (jSt_i σ), 0, _, rfl, ⟨fun z => absurd hg z, fun _ z => by rw [hmc] at z; omega, fun _ _ => ⟨rfl, rfl, rfl⟩⟩, A', n, n2', _, Vc, VL, hjm, by rw [pk_un (by decide)]; exact e0, hjs, yA, yz⟩
    refine ja_alen C 0 rfl jd_Y_index_90 hY.a_below (nI n2) rfl ?_
    have z0 : jS sz y A w w4 := fun q x _ hx h0 hk => (r1.tr r4) q x hx h0 hk
    have b0 : ∀ j, j < 20 → A j = A j ∨ sz ≤ A j := fun _ _ => Or.inl rfl
    refine ja_icmp_neN C 145 jd_Y_index_91 (by decide) (by omega) (by omega) (fun c91 => ?_) (fun c91 => ?_)
    · refine ja_less (kc' := 0) (ks' := 0) (by omega) (by omega) ?_
      exact hfin w4 sz A n2 V hY jE.rf (by omega) g10 z0 b0 (Nat.le_refl _)
    · have c256 : n2 ≤ 256 := by unfold jl_cap2 at g10; omega
      have f0 : jG cI cJ w4 y A (jY_len n n2) s V VL (lN (jSt_w σ)) := hY
      have e0' : jE (jY_len n n2) V V := jE.rf
      refine ja_aload_n C jd_Y_index_94 1 rfl ?_
      refine ja_aload_n C jd_Y_index_95 1 rfl ?_
      refine ja_get C jfl_indexRank jd_Y_index_96 f0.1 rfl ?_
      refine ja_iconst C (nI 2) jd_Y_index_99 (by decide) ?_
      refine ja_aload_n C jd_Y_index_100 1 rfl ?_
      refine ja_get C jfl_indices jd_Y_index_101 f0.1 rfl ?_
      rw [g8]
      refine ja_imulN C jd_Y_index_104 ?_
      rw [c91]
      refine ja_less (kc' := 2 + 1) (ks' := 4 * n2 + 2 * n2) (by omega) (by omega) ?_
      refine jG_grow C X 12 17 _ (2 * n2) (by decide) (by decide) jfp_indexRank jfn_indexRank (by decide) jd_Y_index_105 jd_Y_index_108 (fun _ => rfl) (show n2 < 2 * n2 by omega) (by omega) ⟨by decide, by decide⟩ (Nat.le_of_ble_eq_true rfl) f0 z0 (Nat.le_refl _) b0 e0' (Nat.le_refl _) (fun w91 V1 e1 f1 z1 b1 => ?_)
      refine ja_aload_n C jd_Y_index_111 1 rfl ?_
      refine ja_aload_n C jd_Y_index_112 1 rfl ?_
      refine ja_get C jfl_indexSide jd_Y_index_113 f1.1 rfl ?_
      refine ja_iconst C (nI 2) jd_Y_index_116 (by decide) ?_
      refine ja_aload_n C jd_Y_index_117 1 rfl ?_
      refine ja_get C jfl_indices jd_Y_index_118 f1.1 rfl ?_
      rw [g8]
      refine ja_imulN C jd_Y_index_121 ?_
      rw [c91]
      refine ja_less (kc' := 1 + 1) (ks' := 2 * n2 + 2 * n2) (by omega) (by omega) ?_
      refine jG_grow C X 13 18 _ (2 * n2) (by decide) (by decide) jfp_indexSide jfn_indexSide (by decide) jd_Y_index_122 jd_Y_index_125 (fun _ => rfl) (show n2 < 2 * n2 by omega) (by omega) ⟨by decide, by decide⟩ (Nat.le_of_ble_eq_true rfl) f1 z1 (by omega) b1 e1 (Nat.le_refl _) (fun w92 V2 e2 f2 z2 b2 => ?_)
      refine ja_aload_n C jd_Y_index_128 1 rfl ?_
      refine ja_aload_n C jd_Y_index_129 1 rfl ?_
      refine ja_get C jfl_below jd_Y_index_130 f2.1 rfl ?_
      refine ja_iconst C (nI 2) jd_Y_index_133 (by decide) ?_
      refine ja_aload_n C jd_Y_index_134 1 rfl ?_
      refine ja_get C jfl_indices jd_Y_index_135 f2.1 rfl ?_
      rw [g8]
      refine ja_imulN C jd_Y_index_138 ?_
      rw [c91]
      refine ja_less (kc' := 0 + 1) (ks' := 0 + 2 * n2) (by omega) (by omega) ?_
      refine jG_grow C X 14 19 _ (2 * n2) (by decide) (by decide) jfp_below jfn_below (by decide) jd_Y_index_139 jd_Y_index_142 (fun _ => rfl) (show n2 < 2 * n2 by omega) (by omega) ⟨by decide, by decide⟩ (Nat.le_of_ble_eq_true rfl) f2 z2 (by omega) b2 e2 (Nat.le_refl _) (fun w93 V3 e3 f3 z3 b3 => ?_)
      have fin : jY cI cJ w93 y _ n (2 * n2) s _ _ (lN (jSt_w σ)) := ⟨f3.1, fun k hk => (f3.2.1 k hk).trans (by
        have hln : ∀ k, k < 20 → (va_up (va_up (va_up (jY_len n n2) 12 (2 * n2)) 13 (2 * n2)) 14 (2 * n2)) k = jY_len n (2 * n2) k := fun k hk => by
          match k, hk with
          | 0, _ => rfl
          | 1, _ => rfl
          | 2, _ => rfl
          | 3, _ => rfl
          | 4, _ => rfl
          | 5, _ => rfl
          | 6, _ => rfl
          | 7, _ => rfl
          | 8, _ => rfl
          | 9, _ => rfl
          | 10, _ => rfl
          | 11, _ => rfl
          | 12, _ => rfl
          | 13, _ => rfl
          | 14, _ => rfl
          | 15, _ => rfl
          | 16, _ => rfl
          | 17, _ => rfl
          | 18, _ => rfl
          | 19, _ => rfl
          | k + 20, hk => omega
        unfold jG_c jY_c
        rw [show _ = jY_len n (2 * n2) k from hln k hk]), f3.2.2⟩
      exact hfin w93 _ _ (2 * n2) V3 fin e3 (by omega) (by unfold jl_cap2 at g10 ⊢; omega) z3 b3 (by omega)
end Y48
