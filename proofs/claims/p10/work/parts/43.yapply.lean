/-! THE REFERENCE: apply, by what it is -/
def jA_un (σ : jSt) (wt a : Nat) (x : Int32) (σ' : jSt) : Prop := jA σ (jT_S (jSt_T σ a)) (jT_k (jSt_T σ a)) (nI wt) (nI a) (-1) 1 (jT_r (jSt_T σ a)) (jT_e (jSt_T σ a)) (jT_q (jSt_T σ a)) x σ'
def jA_sq (σ : jSt) (a : Nat) (x : Int32) (σ' : jSt) : Prop := jA σ (jT_S (jSt_T σ a)) (jT_k (jSt_T σ a)) 2 (nI a) (-1) 1 (2 * jT_r (jSt_T σ a)) (2 * jT_e (jSt_T σ a)) (jl_prod (jT_q (jSt_T σ a)) (jT_q (jSt_T σ a))) x σ'
def jA_st (σ : jSt) (a : Nat) (x : Int32) (σ' : jSt) : Prop := jA σ (jT_S (jSt_T σ a)) (jT_k (jSt_T σ a)) 3 (nI a) (-1) 1 1 0 1 x σ'
def jA_s0 (σ : jSt) (wt a : Nat) (x : Int32) (σ' : jSt) : Prop := jA_along σ (fun _ => 1) 0 wt a (jl_cells (jT_S (jSt_T σ a)) (jT_k (jSt_T σ a))) x σ'
def jA_s1 (σ : jSt) (wt a k : Nat) (x : Int32) (σ' : jSt) : Prop := jW σ (k < jT_k (jSt_T σ a)) (jA_along σ (jl_drop (jT_S (jSt_T σ a)) k) (jT_k (jSt_T σ a) - 1) wt a (jT_S (jSt_T σ a) k)) x σ'
def jA_pl (σ : jSt) (wt a p : Nat) (x : Int32) (σ' : jSt) : Prop := jW σ (jT_k (jSt_T σ a) = 3 ∧ 0 < p ∧ jT_S (jSt_T σ a) 1 % p = 0 ∧ jT_S (jSt_T σ a) 2 % p = 0) (jA_pool σ (va_up (va_up (jT_S (jSt_T σ a)) 1 (jT_S (jSt_T σ a) 1 / p)) 2 (jT_S (jSt_T σ a) 2 / p)) 3 wt a p) x σ'
def jA_tn (σ : jSt) (a : Nat) (x : Int32) (σ' : jSt) : Prop := jW σ (jT_k (jSt_T σ a) = 2) (jA σ (va_up (va_up (jT_S (jSt_T σ a)) 0 (jT_S (jSt_T σ a) 1)) 1 (jT_S (jSt_T σ a) 0)) (jT_k (jSt_T σ a)) 12 (nI a) (-1) 1 (jT_r (jSt_T σ a)) (jT_e (jSt_T σ a)) (jT_q (jSt_T σ a))) x σ'
def jA_pt (σ : jSt) (a k1 k2 : Nat) (x : Int32) (σ' : jSt) : Prop := jW σ (0 < jT_k (jSt_T σ a) ∧ k1 < k2 ∧ k2 ≤ jT_S (jSt_T σ a) 0) (jA σ (va_up (jT_S (jSt_T σ a)) 0 (k2 - k1)) (jT_k (jSt_T σ a)) 13 (nI a) (-1) 1 (jT_r (jSt_T σ a)) (jT_e (jSt_T σ a)) (jT_q (jSt_T σ a))) x σ'
def jA_pd (σ : jSt) (a k : Nat) (x : Int32) (σ' : jSt) : Prop := jW σ (jT_k (jSt_T σ a) = 3 ∧ 1 ≤ k ∧ k ≤ 16) (jA σ (va_up (va_up (jT_S (jSt_T σ a)) 1 (jT_S (jSt_T σ a) 1 + 2 * k)) 2 (jT_S (jSt_T σ a) 2 + 2 * k)) (jT_k (jSt_T σ a)) 15 (nI a) (-1) 1 (jT_r (jSt_T σ a)) (jT_e (jSt_T σ a)) (jT_q (jSt_T σ a))) x σ'
def jA_pk (σ : jSt) (a i : Nat) (x : Int32) (σ' : jSt) : Prop := jW σ (jT_k (jSt_T σ a) = 2 ∧ (jSt_I σ i).1 = 1 ∧ (jSt_I σ i).2.2 ≤ jT_S (jSt_T σ a) 0) (jA σ (va_up (jT_S (jSt_T σ a)) 0 (jSt_I σ i).2.1) (jT_k (jSt_T σ a)) 16 (nI a) (-1) 1 (jT_r (jSt_T σ a)) (jT_e (jSt_T σ a)) (jT_q (jSt_T σ a))) x σ'
def jA_hg (σ : jSt) (a i : Nat) (x : Int32) (σ' : jSt) : Prop := jW σ (jT_k (jSt_T σ a) = 1 ∧ (jSt_I σ i).1 = 0 ∧ (jSt_I σ i).2.2 ≤ jT_S (jSt_T σ a) 0) (jA σ (fun _ => 1) 0 17 (nI a) (-1) (jl_cells (jT_S (jSt_T σ a)) (jT_k (jSt_T σ a))) (jT_r (jSt_T σ a) + 3 + jl_log (jl_cells (jT_S (jSt_T σ a)) (jT_k (jSt_T σ a)))) (jT_e (jSt_T σ a)) (jT_q (jSt_T σ a))) x σ'
theorem jk_along : jb_KV "MeasuredTensorsModel" 196 jy_Y_along jc_Y_along 6 (some .int) 3 := ⟨jw_in (by decide +kernel) (by decide +kernel), jw_in (by decide +kernel) (by decide +kernel), jw_in (by decide +kernel) (by decide +kernel), jw_in (by decide +kernel) (by decide +kernel), jw_in (by decide +kernel) (by decide +kernel), by decide +kernel⟩
theorem jk_conv : jb_KV "MeasuredTensorsModel" 200 jy_Y_conv jc_Y_conv 6 (some .int) 3 := ⟨jw_in (by decide +kernel) (by decide +kernel), jw_in (by decide +kernel) (by decide +kernel), jw_in (by decide +kernel) (by decide +kernel), jw_in (by decide +kernel) (by decide +kernel), jw_in (by decide +kernel) (by decide +kernel), by decide +kernel⟩
theorem jk_pool : jb_KV "MeasuredTensorsModel" 203 jy_Y_pool jc_Y_pool 4 (some .int) 3 := ⟨jw_in (by decide +kernel) (by decide +kernel), jw_in (by decide +kernel) (by decide +kernel), jw_in (by decide +kernel) (by decide +kernel), jw_in (by decide +kernel) (by decide +kernel), jw_in (by decide +kernel) (by decide +kernel), by decide +kernel⟩
theorem jk_join : jb_KV "MeasuredTensorsModel" 206 jy_Y_join jc_Y_join 5 (some .int) 2 := ⟨jw_in (by decide +kernel) (by decide +kernel), jw_in (by decide +kernel) (by decide +kernel), jw_in (by decide +kernel) (by decide +kernel), jw_in (by decide +kernel) (by decide +kernel), jw_in (by decide +kernel) (by decide +kernel), by decide +kernel⟩
theorem jk_gap : jb_KV "MeasuredTensorsModel" 209 jy_Y_gap jc_Y_gap 7 (some .int) 2 := ⟨jw_in (by decide +kernel) (by decide +kernel), jw_in (by decide +kernel) (by decide +kernel), jw_in (by decide +kernel) (by decide +kernel), jw_in (by decide +kernel) (by decide +kernel), jw_in (by decide +kernel) (by decide +kernel), by decide +kernel⟩
section Y43
variable {l : Launch} {D : va_G} {H0 : Heap} {cI cJ cT cX : ClassId} {w : jb_W} {sz : Nat}
variable {y : Nat} {A : Nat → Nat} {n n2 : Nat} {σ : jSt} {th rk : Int32} {N : Nat → Int32}
theorem jn_apply_0 {a : Nat} {b m x y1 : Int32} (h : jN cI cJ y A n n2 σ w th rk N) (hct : jSt_c σ < 512) (hta : a < jSt_c σ) : jb_M l jy_Y_apply jc_Y_apply 8 (some .int) 6 194 16 9728 D H0 (jt_all cI cJ cT cX) [.ref y, .int (nI 0), .int (nI a), .int b, .int m, .int x, .int y1] w sz
    (fun v w' sz' => ∃ (x : Int32) (σ' : jSt), v = some (.int x) ∧ jA_un σ 0 a x σ' ∧ jP cI cJ y A w sz σ' th w' sz') := by
  refine jb_meth_i (by decide) (Nat.le_of_ble_eq_true rfl) (fun u C X E => ?_)
  have hn := h.cn
  obtain ⟨oa1, oa2, oa3, oa4, oa5, oa6, oa7, oa8, oa9, oa10⟩ := h.ok hta
  have hcp := jl_cells_pos (f := jT_S (jSt_T σ a)) (k := jT_k (jSt_T σ a)) (fun j hj => (oa2 j (by omega)).1)
  have a0 := oa2 0 (by decide)
  have a1 := oa2 1 (by decide)
  have a2 := oa2 2 (by decide)
  refine ja_aload_n C jd_Y_apply_0 0 rfl ?_
  refine ja_iload_n C jd_Y_apply_1 2 rfl ?_
  refine jN_vV 8 C X jk_shapeOf h rfl (jn_shapeOf h hta) jd_Y_apply_2 rfl rfl ⟨by decide, by decide⟩ (Nat.le_of_ble_eq_true rfl) (fun w1 hp1 => ?_)
  obtain ⟨N1, h1, hN1, r1⟩ := hp1
  refine ja_aload_n C jd_Y_apply_5 0 rfl ?_
  refine jN_ga C jfl_rank jd_Y_apply_6 h1 (fun _ _ => rfl) ?_
  refine ja_iload_n C jd_Y_apply_9 2 rfl ?_
  refine jN_ia C (by decide) (fun _ _ => rfl) jd_Y_apply_10 h1 hta (fun _ _ q => q.rank) ?_
  refine ja_istore C [(7, .int (nI (jT_k (jSt_T σ a)))), (0, .ref y), (1, .int (nI 0)), (2, .int (nI a)), (3, .int b), (4, .int m), (5, .int x), (6, .int y1)] jd_Y_apply_11 (Nat.le_of_ble_eq_true rfl) rfl ?_
  refine ja_iload_n C jd_Y_apply_13 2 rfl ?_
  refine ja_tableOut C 555 jd_Y_apply_14 (by decide) (by decide) ?_
  refine ja_aload_n C jd_Y_apply_555 1 rfl ?_
  refine ja_iload_n C jd_Y_apply_556 2 rfl ?_
  refine ja_iload_n C jd_Y_apply_557 3 rfl ?_
  refine jN_mV 8 C X jk_makeLike h1 rfl (jn_makeLike h1 hct hta oa1 rfl (fun k hk => ⟨hN1 k (by omega), (oa2 k (by omega)).1, by have := (oa2 k (by omega)).2; omega⟩) (by decide)) jd_Y_apply_558 rfl rfl ⟨by decide, by decide⟩ (Nat.le_of_ble_eq_true rfl) (Nat.le_of_ble_eq_true rfl) (Nat.le_of_ble_eq_true rfl) (fun x2 σ2 w2 z2 hp2 => ?_)
  obtain ⟨ha2, hq2⟩ := hp2
  exact E jd_Y_apply_561 ⟨x2, σ2, rfl, ha2, jP.from r1 hq2⟩
theorem jn_apply_1 {a : Nat} {b m x y1 : Int32} (h : jN cI cJ y A n n2 σ w th rk N) (hct : jSt_c σ < 512) (hta : a < jSt_c σ) : jb_M l jy_Y_apply jc_Y_apply 8 (some .int) 6 194 16 9728 D H0 (jt_all cI cJ cT cX) [.ref y, .int (nI 1), .int (nI a), .int b, .int m, .int x, .int y1] w sz
    (fun v w' sz' => ∃ (x : Int32) (σ' : jSt), v = some (.int x) ∧ jA_un σ 1 a x σ' ∧ jP cI cJ y A w sz σ' th w' sz') := by
  refine jb_meth_i (by decide) (Nat.le_of_ble_eq_true rfl) (fun u C X E => ?_)
  have hn := h.cn
  obtain ⟨oa1, oa2, oa3, oa4, oa5, oa6, oa7, oa8, oa9, oa10⟩ := h.ok hta
  have hcp := jl_cells_pos (f := jT_S (jSt_T σ a)) (k := jT_k (jSt_T σ a)) (fun j hj => (oa2 j (by omega)).1)
  have a0 := oa2 0 (by decide)
  have a1 := oa2 1 (by decide)
  have a2 := oa2 2 (by decide)
  refine ja_aload_n C jd_Y_apply_0 0 rfl ?_
  refine ja_iload_n C jd_Y_apply_1 2 rfl ?_
  refine jN_vV 8 C X jk_shapeOf h rfl (jn_shapeOf h hta) jd_Y_apply_2 rfl rfl ⟨by decide, by decide⟩ (Nat.le_of_ble_eq_true rfl) (fun w1 hp1 => ?_)
  obtain ⟨N1, h1, hN1, r1⟩ := hp1
  refine ja_aload_n C jd_Y_apply_5 0 rfl ?_
  refine jN_ga C jfl_rank jd_Y_apply_6 h1 (fun _ _ => rfl) ?_
  refine ja_iload_n C jd_Y_apply_9 2 rfl ?_
  refine jN_ia C (by decide) (fun _ _ => rfl) jd_Y_apply_10 h1 hta (fun _ _ q => q.rank) ?_
  refine ja_istore C [(7, .int (nI (jT_k (jSt_T σ a)))), (0, .ref y), (1, .int (nI 1)), (2, .int (nI a)), (3, .int b), (4, .int m), (5, .int x), (6, .int y1)] jd_Y_apply_11 (Nat.le_of_ble_eq_true rfl) rfl ?_
  refine ja_iload_n C jd_Y_apply_13 2 rfl ?_
  refine ja_tableOut C 555 jd_Y_apply_14 (by decide) (by decide) ?_
  refine ja_aload_n C jd_Y_apply_555 1 rfl ?_
  refine ja_iload_n C jd_Y_apply_556 2 rfl ?_
  refine ja_iload_n C jd_Y_apply_557 3 rfl ?_
  refine jN_mV 8 C X jk_makeLike h1 rfl (jn_makeLike h1 hct hta oa1 rfl (fun k hk => ⟨hN1 k (by omega), (oa2 k (by omega)).1, by have := (oa2 k (by omega)).2; omega⟩) (by decide)) jd_Y_apply_558 rfl rfl ⟨by decide, by decide⟩ (Nat.le_of_ble_eq_true rfl) (Nat.le_of_ble_eq_true rfl) (Nat.le_of_ble_eq_true rfl) (fun x2 σ2 w2 z2 hp2 => ?_)
  obtain ⟨ha2, hq2⟩ := hp2
  exact E jd_Y_apply_561 ⟨x2, σ2, rfl, ha2, jP.from r1 hq2⟩
theorem jn_apply_4 {a : Nat} {b m x y1 : Int32} (h : jN cI cJ y A n n2 σ w th rk N) (hct : jSt_c σ < 512) (hta : a < jSt_c σ) : jb_M l jy_Y_apply jc_Y_apply 8 (some .int) 6 194 16 9728 D H0 (jt_all cI cJ cT cX) [.ref y, .int (nI 4), .int (nI a), .int b, .int m, .int x, .int y1] w sz
    (fun v w' sz' => ∃ (x : Int32) (σ' : jSt), v = some (.int x) ∧ jA_un σ 4 a x σ' ∧ jP cI cJ y A w sz σ' th w' sz') := by
  refine jb_meth_i (by decide) (Nat.le_of_ble_eq_true rfl) (fun u C X E => ?_)
  have hn := h.cn
  obtain ⟨oa1, oa2, oa3, oa4, oa5, oa6, oa7, oa8, oa9, oa10⟩ := h.ok hta
  have hcp := jl_cells_pos (f := jT_S (jSt_T σ a)) (k := jT_k (jSt_T σ a)) (fun j hj => (oa2 j (by omega)).1)
  have a0 := oa2 0 (by decide)
  have a1 := oa2 1 (by decide)
  have a2 := oa2 2 (by decide)
  refine ja_aload_n C jd_Y_apply_0 0 rfl ?_
  refine ja_iload_n C jd_Y_apply_1 2 rfl ?_
  refine jN_vV 8 C X jk_shapeOf h rfl (jn_shapeOf h hta) jd_Y_apply_2 rfl rfl ⟨by decide, by decide⟩ (Nat.le_of_ble_eq_true rfl) (fun w1 hp1 => ?_)
  obtain ⟨N1, h1, hN1, r1⟩ := hp1
  refine ja_aload_n C jd_Y_apply_5 0 rfl ?_
  refine jN_ga C jfl_rank jd_Y_apply_6 h1 (fun _ _ => rfl) ?_
  refine ja_iload_n C jd_Y_apply_9 2 rfl ?_
  refine jN_ia C (by decide) (fun _ _ => rfl) jd_Y_apply_10 h1 hta (fun _ _ q => q.rank) ?_
  refine ja_istore C [(7, .int (nI (jT_k (jSt_T σ a)))), (0, .ref y), (1, .int (nI 4)), (2, .int (nI a)), (3, .int b), (4, .int m), (5, .int x), (6, .int y1)] jd_Y_apply_11 (Nat.le_of_ble_eq_true rfl) rfl ?_
  refine ja_iload_n C jd_Y_apply_13 2 rfl ?_
  refine ja_tableIn C 555 jd_Y_apply_14 (by decide) (by decide) rfl (by decide) ?_
  refine ja_aload_n C jd_Y_apply_555 1 rfl ?_
  refine ja_iload_n C jd_Y_apply_556 2 rfl ?_
  refine ja_iload_n C jd_Y_apply_557 3 rfl ?_
  refine jN_mV 8 C X jk_makeLike h1 rfl (jn_makeLike h1 hct hta oa1 rfl (fun k hk => ⟨hN1 k (by omega), (oa2 k (by omega)).1, by have := (oa2 k (by omega)).2; omega⟩) (by decide)) jd_Y_apply_558 rfl rfl ⟨by decide, by decide⟩ (Nat.le_of_ble_eq_true rfl) (Nat.le_of_ble_eq_true rfl) (Nat.le_of_ble_eq_true rfl) (fun x2 σ2 w2 z2 hp2 => ?_)
  obtain ⟨ha2, hq2⟩ := hp2
  exact E jd_Y_apply_561 ⟨x2, σ2, rfl, ha2, jP.from r1 hq2⟩
theorem jn_apply_2 {a : Nat} {b m x y1 : Int32} (h : jN cI cJ y A n n2 σ w th rk N) (hct : jSt_c σ < 512) (hta : a < jSt_c σ) : jb_M l jy_Y_apply jc_Y_apply 8 (some .int) 6 194 16 9728 D H0 (jt_all cI cJ cT cX) [.ref y, .int (nI 2), .int (nI a), .int b, .int m, .int x, .int y1] w sz
    (fun v w' sz' => ∃ (x : Int32) (σ' : jSt), v = some (.int x) ∧ jA_sq σ a x σ' ∧ jP cI cJ y A w sz σ' th w' sz') := by
  refine jb_meth_i (by decide) (Nat.le_of_ble_eq_true rfl) (fun u C X E => ?_)
  have hn := h.cn
  obtain ⟨oa1, oa2, oa3, oa4, oa5, oa6, oa7, oa8, oa9, oa10⟩ := h.ok hta
  have hcp := jl_cells_pos (f := jT_S (jSt_T σ a)) (k := jT_k (jSt_T σ a)) (fun j hj => (oa2 j (by omega)).1)
  have a0 := oa2 0 (by decide)
  have a1 := oa2 1 (by decide)
  have a2 := oa2 2 (by decide)
  refine ja_aload_n C jd_Y_apply_0 0 rfl ?_
  refine ja_iload_n C jd_Y_apply_1 2 rfl ?_
  refine jN_vV 8 C X jk_shapeOf h rfl (jn_shapeOf h hta) jd_Y_apply_2 rfl rfl ⟨by decide, by decide⟩ (Nat.le_of_ble_eq_true rfl) (fun w1 hp1 => ?_)
  obtain ⟨N1, h1, hN1, r1⟩ := hp1
  refine ja_aload_n C jd_Y_apply_5 0 rfl ?_
  refine jN_ga C jfl_rank jd_Y_apply_6 h1 (fun _ _ => rfl) ?_
  refine ja_iload_n C jd_Y_apply_9 2 rfl ?_
  refine jN_ia C (by decide) (fun _ _ => rfl) jd_Y_apply_10 h1 hta (fun _ _ q => q.rank) ?_
  refine ja_istore C [(7, .int (nI (jT_k (jSt_T σ a)))), (0, .ref y), (1, .int (nI 2)), (2, .int (nI a)), (3, .int b), (4, .int m), (5, .int x), (6, .int y1)] jd_Y_apply_11 (Nat.le_of_ble_eq_true rfl) rfl ?_
  refine ja_iload_n C jd_Y_apply_13 2 rfl ?_
  refine ja_tableIn C 96 jd_Y_apply_14 (by decide) (by decide) rfl (by decide) ?_
  refine ja_aload_n C jd_Y_apply_96 1 rfl ?_
  refine ja_iload_n C jd_Y_apply_97 2 rfl ?_
  refine ja_iload_n C jd_Y_apply_98 3 rfl ?_
  refine ja_iconst C (-1) jd_Y_apply_99 (by decide) ?_
  refine ja_iconst C (nI 2) jd_Y_apply_100 (by decide) ?_
  refine ja_aload_n C jd_Y_apply_101 1 rfl ?_
  refine jN_ga C jfl_range jd_Y_apply_102 h1 (fun _ _ => rfl) ?_
  refine ja_iload_n C jd_Y_apply_105 3 rfl ?_
  refine jN_ia C (by decide) (fun _ _ => rfl) jd_Y_apply_106 h1 hta (fun _ _ q => q.range) ?_
  refine ja_imulN C jd_Y_apply_107 ?_
  refine ja_i2lN C jd_Y_apply_108 (by omega) ?_
  refine ja_iconst C (nI 2) jd_Y_apply_109 (by decide) ?_
  refine ja_aload_n C jd_Y_apply_110 1 rfl ?_
  refine jN_ga C jfl_depth jd_Y_apply_111 h1 (fun _ _ => rfl) ?_
  refine ja_iload_n C jd_Y_apply_114 3 rfl ?_
  refine jN_ia C (by decide) (fun _ _ => rfl) jd_Y_apply_115 h1 hta (fun _ _ q => q.depth) ?_
  refine ja_imulN C jd_Y_apply_116 ?_
  refine ja_i2lN C jd_Y_apply_117 (by omega) ?_
  refine ja_aload_n C jd_Y_apply_118 1 rfl ?_
  refine jN_ga C jfl_odd jd_Y_apply_119 h1 (fun _ _ => rfl) ?_
  refine ja_iload_n C jd_Y_apply_122 3 rfl ?_
  refine jN_la C jd_Y_apply_123 h1 hta ?_
  refine ja_aload_n C jd_Y_apply_124 1 rfl ?_
  refine jN_ga C jfl_odd jd_Y_apply_125 h1 (fun _ _ => rfl) ?_
  refine ja_iload_n C jd_Y_apply_128 3 rfl ?_
  refine jN_la C jd_Y_apply_129 h1 hta ?_
  refine jb_pS 8 C X jk_product (jy_product (by omega) (by omega)) jd_Y_apply_130 rfl rfl ⟨by decide, by decide⟩ (Nat.le_of_ble_eq_true rfl) ?_
  refine ja_iconst C (nI 1) jd_Y_apply_133 (by decide) ?_
  refine jN_mV 8 C X jk_make h1 rfl (jn_make h1 hct (by omega) (by omega) (jl_prod_lt _ _) ⟨by omega, by omega⟩ oa1 rfl (fun k hk => ⟨hN1 k (by omega), (oa2 k (by omega)).1, by have := (oa2 k (by omega)).2; omega⟩) (by decide)) jd_Y_apply_134 rfl rfl ⟨by decide, by decide⟩ (Nat.le_of_ble_eq_true rfl) (Nat.le_of_ble_eq_true rfl) (Nat.le_of_ble_eq_true rfl) (fun x2 σ2 w2 z2 hp2 => ?_)
  obtain ⟨ha2, hq2⟩ := hp2
  exact E jd_Y_apply_137 ⟨x2, σ2, rfl, ha2, jP.from r1 hq2⟩
theorem jn_apply_3 {a : Nat} {b m x y1 : Int32} (h : jN cI cJ y A n n2 σ w th rk N) (hct : jSt_c σ < 512) (hta : a < jSt_c σ) : jb_M l jy_Y_apply jc_Y_apply 8 (some .int) 6 194 16 9728 D H0 (jt_all cI cJ cT cX) [.ref y, .int (nI 3), .int (nI a), .int b, .int m, .int x, .int y1] w sz
    (fun v w' sz' => ∃ (x : Int32) (σ' : jSt), v = some (.int x) ∧ jA_st σ a x σ' ∧ jP cI cJ y A w sz σ' th w' sz') := by
  refine jb_meth_i (by decide) (Nat.le_of_ble_eq_true rfl) (fun u C X E => ?_)
  have hn := h.cn
  obtain ⟨oa1, oa2, oa3, oa4, oa5, oa6, oa7, oa8, oa9, oa10⟩ := h.ok hta
  have hcp := jl_cells_pos (f := jT_S (jSt_T σ a)) (k := jT_k (jSt_T σ a)) (fun j hj => (oa2 j (by omega)).1)
  have a0 := oa2 0 (by decide)
  have a1 := oa2 1 (by decide)
  have a2 := oa2 2 (by decide)
  refine ja_aload_n C jd_Y_apply_0 0 rfl ?_
  refine ja_iload_n C jd_Y_apply_1 2 rfl ?_
  refine jN_vV 8 C X jk_shapeOf h rfl (jn_shapeOf h hta) jd_Y_apply_2 rfl rfl ⟨by decide, by decide⟩ (Nat.le_of_ble_eq_true rfl) (fun w1 hp1 => ?_)
  obtain ⟨N1, h1, hN1, r1⟩ := hp1
  refine ja_aload_n C jd_Y_apply_5 0 rfl ?_
  refine jN_ga C jfl_rank jd_Y_apply_6 h1 (fun _ _ => rfl) ?_
  refine ja_iload_n C jd_Y_apply_9 2 rfl ?_
  refine jN_ia C (by decide) (fun _ _ => rfl) jd_Y_apply_10 h1 hta (fun _ _ q => q.rank) ?_
  refine ja_istore C [(7, .int (nI (jT_k (jSt_T σ a)))), (0, .ref y), (1, .int (nI 3)), (2, .int (nI a)), (3, .int b), (4, .int m), (5, .int x), (6, .int y1)] jd_Y_apply_11 (Nat.le_of_ble_eq_true rfl) rfl ?_
  refine ja_iload_n C jd_Y_apply_13 2 rfl ?_
  refine ja_tableIn C 138 jd_Y_apply_14 (by decide) (by decide) rfl (by decide) ?_
  refine ja_aload_n C jd_Y_apply_138 1 rfl ?_
  refine ja_iload_n C jd_Y_apply_139 2 rfl ?_
  refine ja_iload_n C jd_Y_apply_140 3 rfl ?_
  refine ja_iconst C (-1) jd_Y_apply_141 (by decide) ?_
  refine ja_lconst C (lN 1) jd_Y_apply_142 (by decide) ?_
  refine ja_lconst C (lN 0) jd_Y_apply_143 (by decide) ?_
  refine ja_lconst C (lN 1) jd_Y_apply_144 (by decide) ?_
  refine ja_iconst C (nI 1) jd_Y_apply_145 (by decide) ?_
  refine jN_mV 8 C X jk_make h1 rfl (jn_make h1 hct (by omega) (by omega) (by omega) ⟨by omega, by omega⟩ oa1 rfl (fun k hk => ⟨hN1 k (by omega), (oa2 k (by omega)).1, by have := (oa2 k (by omega)).2; omega⟩) (by decide)) jd_Y_apply_146 rfl rfl ⟨by decide, by decide⟩ (Nat.le_of_ble_eq_true rfl) (Nat.le_of_ble_eq_true rfl) (Nat.le_of_ble_eq_true rfl) (fun x2 σ2 w2 z2 hp2 => ?_)
  obtain ⟨ha2, hq2⟩ := hp2
  exact E jd_Y_apply_149 ⟨x2, σ2, rfl, ha2, jP.from r1 hq2⟩
theorem jn_apply_5n {a : Nat} {b x y1 : Int32} (h : jN cI cJ y A n n2 σ w th rk N) (hct : jSt_c σ < 512) (hta : a < jSt_c σ) : jb_M l jy_Y_apply jc_Y_apply 8 (some .int) 6 194 16 9728 D H0 (jt_all cI cJ cT cX) [.ref y, .int (nI 5), .int (nI a), .int b, .int (nI 0), .int x, .int y1] w sz
    (fun v w' sz' => ∃ (x : Int32) (σ' : jSt), v = some (.int x) ∧ jA_s0 σ 5 a x σ' ∧ jP cI cJ y A w sz σ' th w' sz') := by
  refine jb_meth_i (by decide) (Nat.le_of_ble_eq_true rfl) (fun u C X E => ?_)
  have hn := h.cn
  obtain ⟨oa1, oa2, oa3, oa4, oa5, oa6, oa7, oa8, oa9, oa10⟩ := h.ok hta
  have hcp := jl_cells_pos (f := jT_S (jSt_T σ a)) (k := jT_k (jSt_T σ a)) (fun j hj => (oa2 j (by omega)).1)
  have a0 := oa2 0 (by decide)
  have a1 := oa2 1 (by decide)
  have a2 := oa2 2 (by decide)
  refine ja_aload_n C jd_Y_apply_0 0 rfl ?_
  refine ja_iload_n C jd_Y_apply_1 2 rfl ?_
  refine jN_vV 8 C X jk_shapeOf h rfl (jn_shapeOf h hta) jd_Y_apply_2 rfl rfl ⟨by decide, by decide⟩ (Nat.le_of_ble_eq_true rfl) (fun w1 hp1 => ?_)
  obtain ⟨N1, h1, hN1, r1⟩ := hp1
  refine ja_aload_n C jd_Y_apply_5 0 rfl ?_
  refine jN_ga C jfl_rank jd_Y_apply_6 h1 (fun _ _ => rfl) ?_
  refine ja_iload_n C jd_Y_apply_9 2 rfl ?_
  refine jN_ia C (by decide) (fun _ _ => rfl) jd_Y_apply_10 h1 hta (fun _ _ q => q.rank) ?_
  refine ja_istore C [(7, .int (nI (jT_k (jSt_T σ a)))), (0, .ref y), (1, .int (nI 5)), (2, .int (nI a)), (3, .int b), (4, .int (nI 0)), (5, .int x), (6, .int y1)] jd_Y_apply_11 (Nat.le_of_ble_eq_true rfl) rfl ?_
  refine ja_iload_n C jd_Y_apply_13 2 rfl ?_
  refine ja_tableIn C 150 jd_Y_apply_14 (by decide) (by decide) rfl (by decide) ?_
  refine ja_iload C jd_Y_apply_150 5 rfl ?_
  refine ja_iconst C (nI 1) jd_Y_apply_152 (by decide) ?_
  refine ja_icmp_neN C 168 jd_Y_apply_153 (by decide) (by decide) (by decide) (fun c153 => ?_) (fun c153 => absurd c153 (by decide))
  refine ja_aload_n C jd_Y_apply_168 1 rfl ?_
  refine ja_iload_n C jd_Y_apply_169 2 rfl ?_
  refine ja_iload_n C jd_Y_apply_170 3 rfl ?_
  refine ja_iload C jd_Y_apply_171 5 rfl ?_
  refine ja_if_neN C 180 jd_Y_apply_173 (by decide) (by decide) (fun q => absurd q (by decide)) (fun _ => ?_)
  refine ja_iconst C (-1) jd_Y_apply_176 (by decide) ?_
  refine ja_goto C 182 jd_Y_apply_177 (by decide) ?_
  refine jN_mV 8 C X jk_along h1 rfl (jn_along0 h1 hct hta (by decide)) jd_Y_apply_182 rfl rfl ⟨by decide, by decide⟩ (Nat.le_of_ble_eq_true rfl) (Nat.le_of_ble_eq_true rfl) (Nat.le_of_ble_eq_true rfl) (fun x2 σ2 w2 z2 hp2 => ?_)
  obtain ⟨ha2, hq2⟩ := hp2
  exact E jd_Y_apply_185 ⟨x2, σ2, rfl, ha2, jP.from r1 hq2⟩
theorem jn_apply_5 {a k : Nat} {b y1 : Int32} (h : jN cI cJ y A n n2 σ w th rk N) (hct : jSt_c σ < 512) (hta : a < jSt_c σ) (hk : k < 2 ^ 31) : jb_M l jy_Y_apply jc_Y_apply 8 (some .int) 6 194 16 9728 D H0 (jt_all cI cJ cT cX) [.ref y, .int (nI 5), .int (nI a), .int b, .int (nI 1), .int (nI k), .int y1] w sz
    (fun v w' sz' => ∃ (x : Int32) (σ' : jSt), v = some (.int x) ∧ jA_s1 σ 5 a k x σ' ∧ jP cI cJ y A w sz σ' th w' sz') := by
  refine jb_meth_i (by decide) (Nat.le_of_ble_eq_true rfl) (fun u C X E => ?_)
  have hn := h.cn
  obtain ⟨oa1, oa2, oa3, oa4, oa5, oa6, oa7, oa8, oa9, oa10⟩ := h.ok hta
  have hcp := jl_cells_pos (f := jT_S (jSt_T σ a)) (k := jT_k (jSt_T σ a)) (fun j hj => (oa2 j (by omega)).1)
  have a0 := oa2 0 (by decide)
  have a1 := oa2 1 (by decide)
  have a2 := oa2 2 (by decide)
  refine ja_aload_n C jd_Y_apply_0 0 rfl ?_
  refine ja_iload_n C jd_Y_apply_1 2 rfl ?_
  refine jN_vV 8 C X jk_shapeOf h rfl (jn_shapeOf h hta) jd_Y_apply_2 rfl rfl ⟨by decide, by decide⟩ (Nat.le_of_ble_eq_true rfl) (fun w1 hp1 => ?_)
  obtain ⟨N1, h1, hN1, r1⟩ := hp1
  refine ja_aload_n C jd_Y_apply_5 0 rfl ?_
  refine jN_ga C jfl_rank jd_Y_apply_6 h1 (fun _ _ => rfl) ?_
  refine ja_iload_n C jd_Y_apply_9 2 rfl ?_
  refine jN_ia C (by decide) (fun _ _ => rfl) jd_Y_apply_10 h1 hta (fun _ _ q => q.rank) ?_
  refine ja_istore C [(7, .int (nI (jT_k (jSt_T σ a)))), (0, .ref y), (1, .int (nI 5)), (2, .int (nI a)), (3, .int b), (4, .int (nI 1)), (5, .int (nI k)), (6, .int y1)] jd_Y_apply_11 (Nat.le_of_ble_eq_true rfl) rfl ?_
  refine ja_iload_n C jd_Y_apply_13 2 rfl ?_
  refine ja_tableIn C 150 jd_Y_apply_14 (by decide) (by decide) rfl (by decide) ?_
  refine ja_iload C jd_Y_apply_150 5 rfl ?_
  refine ja_iconst C (nI 1) jd_Y_apply_152 (by decide) ?_
  refine ja_icmp_neN C 168 jd_Y_apply_153 (by decide) (by decide) (by decide) (fun c153 => absurd rfl c153) (fun c153 => ?_)
  refine ja_iload C jd_Y_apply_156 6 rfl ?_
  refine ja_iload C jd_Y_apply_158 0 rfl ?_
  refine ja_icmp_ltN C 168 jd_Y_apply_160 (by decide) (by omega) (by omega) (fun c160 => ?_) (fun c160 => ?_)
  · refine ja_aload_n C jd_Y_apply_168 1 rfl ?_
    refine ja_iload_n C jd_Y_apply_169 2 rfl ?_
    refine ja_iload_n C jd_Y_apply_170 3 rfl ?_
    refine ja_iload C jd_Y_apply_171 5 rfl ?_
    refine ja_if_neN C 180 jd_Y_apply_173 (by decide) (by decide) (fun _ => ?_) (fun q => absurd q (by decide))
    refine ja_iload C jd_Y_apply_180 6 rfl ?_
    refine jN_mV 8 C X jk_along h1 rfl (jn_along h1 hct hta (by decide) c160) jd_Y_apply_182 rfl rfl ⟨by decide, by decide⟩ (Nat.le_of_ble_eq_true rfl) (Nat.le_of_ble_eq_true rfl) (Nat.le_of_ble_eq_true rfl) (fun x2 σ2 w2 z2 hp2 => ?_)
    obtain ⟨ha2, hq2⟩ := hp2
    exact E jd_Y_apply_185 ⟨x2, σ2, rfl, ⟨fun _ => ha2, fun z => absurd c160 z⟩, jP.from r1 hq2⟩
  · refine ja_bipush C (-5) jd_Y_apply_163 (by decide) ?_
    refine ja_goto C 185 jd_Y_apply_165 (by decide) ?_
    exact E jd_Y_apply_185 ⟨-5, σ, rfl, ⟨fun z => by omega, fun _ => ⟨rfl, rfl⟩⟩, h1.jP r1⟩
theorem jn_apply_6n {a : Nat} {b x y1 : Int32} (h : jN cI cJ y A n n2 σ w th rk N) (hct : jSt_c σ < 512) (hta : a < jSt_c σ) : jb_M l jy_Y_apply jc_Y_apply 8 (some .int) 6 194 16 9728 D H0 (jt_all cI cJ cT cX) [.ref y, .int (nI 6), .int (nI a), .int b, .int (nI 0), .int x, .int y1] w sz
    (fun v w' sz' => ∃ (x : Int32) (σ' : jSt), v = some (.int x) ∧ jA_s0 σ 6 a x σ' ∧ jP cI cJ y A w sz σ' th w' sz') := by
  refine jb_meth_i (by decide) (Nat.le_of_ble_eq_true rfl) (fun u C X E => ?_)
  have hn := h.cn
  obtain ⟨oa1, oa2, oa3, oa4, oa5, oa6, oa7, oa8, oa9, oa10⟩ := h.ok hta
  have hcp := jl_cells_pos (f := jT_S (jSt_T σ a)) (k := jT_k (jSt_T σ a)) (fun j hj => (oa2 j (by omega)).1)
  have a0 := oa2 0 (by decide)
  have a1 := oa2 1 (by decide)
  have a2 := oa2 2 (by decide)
  refine ja_aload_n C jd_Y_apply_0 0 rfl ?_
  refine ja_iload_n C jd_Y_apply_1 2 rfl ?_
  refine jN_vV 8 C X jk_shapeOf h rfl (jn_shapeOf h hta) jd_Y_apply_2 rfl rfl ⟨by decide, by decide⟩ (Nat.le_of_ble_eq_true rfl) (fun w1 hp1 => ?_)
  obtain ⟨N1, h1, hN1, r1⟩ := hp1
  refine ja_aload_n C jd_Y_apply_5 0 rfl ?_
  refine jN_ga C jfl_rank jd_Y_apply_6 h1 (fun _ _ => rfl) ?_
  refine ja_iload_n C jd_Y_apply_9 2 rfl ?_
  refine jN_ia C (by decide) (fun _ _ => rfl) jd_Y_apply_10 h1 hta (fun _ _ q => q.rank) ?_
  refine ja_istore C [(7, .int (nI (jT_k (jSt_T σ a)))), (0, .ref y), (1, .int (nI 6)), (2, .int (nI a)), (3, .int b), (4, .int (nI 0)), (5, .int x), (6, .int y1)] jd_Y_apply_11 (Nat.le_of_ble_eq_true rfl) rfl ?_
  refine ja_iload_n C jd_Y_apply_13 2 rfl ?_
  refine ja_tableIn C 150 jd_Y_apply_14 (by decide) (by decide) rfl (by decide) ?_
  refine ja_iload C jd_Y_apply_150 5 rfl ?_
  refine ja_iconst C (nI 1) jd_Y_apply_152 (by decide) ?_
  refine ja_icmp_neN C 168 jd_Y_apply_153 (by decide) (by decide) (by decide) (fun c153 => ?_) (fun c153 => absurd c153 (by decide))
  refine ja_aload_n C jd_Y_apply_168 1 rfl ?_
  refine ja_iload_n C jd_Y_apply_169 2 rfl ?_
  refine ja_iload_n C jd_Y_apply_170 3 rfl ?_
  refine ja_iload C jd_Y_apply_171 5 rfl ?_
  refine ja_if_neN C 180 jd_Y_apply_173 (by decide) (by decide) (fun q => absurd q (by decide)) (fun _ => ?_)
  refine ja_iconst C (-1) jd_Y_apply_176 (by decide) ?_
  refine ja_goto C 182 jd_Y_apply_177 (by decide) ?_
  refine jN_mV 8 C X jk_along h1 rfl (jn_along0 h1 hct hta (by decide)) jd_Y_apply_182 rfl rfl ⟨by decide, by decide⟩ (Nat.le_of_ble_eq_true rfl) (Nat.le_of_ble_eq_true rfl) (Nat.le_of_ble_eq_true rfl) (fun x2 σ2 w2 z2 hp2 => ?_)
  obtain ⟨ha2, hq2⟩ := hp2
  exact E jd_Y_apply_185 ⟨x2, σ2, rfl, ha2, jP.from r1 hq2⟩
theorem jn_apply_6 {a k : Nat} {b y1 : Int32} (h : jN cI cJ y A n n2 σ w th rk N) (hct : jSt_c σ < 512) (hta : a < jSt_c σ) (hk : k < 2 ^ 31) : jb_M l jy_Y_apply jc_Y_apply 8 (some .int) 6 194 16 9728 D H0 (jt_all cI cJ cT cX) [.ref y, .int (nI 6), .int (nI a), .int b, .int (nI 1), .int (nI k), .int y1] w sz
    (fun v w' sz' => ∃ (x : Int32) (σ' : jSt), v = some (.int x) ∧ jA_s1 σ 6 a k x σ' ∧ jP cI cJ y A w sz σ' th w' sz') := by
  refine jb_meth_i (by decide) (Nat.le_of_ble_eq_true rfl) (fun u C X E => ?_)
  have hn := h.cn
  obtain ⟨oa1, oa2, oa3, oa4, oa5, oa6, oa7, oa8, oa9, oa10⟩ := h.ok hta
  have hcp := jl_cells_pos (f := jT_S (jSt_T σ a)) (k := jT_k (jSt_T σ a)) (fun j hj => (oa2 j (by omega)).1)
  have a0 := oa2 0 (by decide)
  have a1 := oa2 1 (by decide)
  have a2 := oa2 2 (by decide)
  refine ja_aload_n C jd_Y_apply_0 0 rfl ?_
  refine ja_iload_n C jd_Y_apply_1 2 rfl ?_
  refine jN_vV 8 C X jk_shapeOf h rfl (jn_shapeOf h hta) jd_Y_apply_2 rfl rfl ⟨by decide, by decide⟩ (Nat.le_of_ble_eq_true rfl) (fun w1 hp1 => ?_)
  obtain ⟨N1, h1, hN1, r1⟩ := hp1
  refine ja_aload_n C jd_Y_apply_5 0 rfl ?_
  refine jN_ga C jfl_rank jd_Y_apply_6 h1 (fun _ _ => rfl) ?_
  refine ja_iload_n C jd_Y_apply_9 2 rfl ?_
  refine jN_ia C (by decide) (fun _ _ => rfl) jd_Y_apply_10 h1 hta (fun _ _ q => q.rank) ?_
  refine ja_istore C [(7, .int (nI (jT_k (jSt_T σ a)))), (0, .ref y), (1, .int (nI 6)), (2, .int (nI a)), (3, .int b), (4, .int (nI 1)), (5, .int (nI k)), (6, .int y1)] jd_Y_apply_11 (Nat.le_of_ble_eq_true rfl) rfl ?_
  refine ja_iload_n C jd_Y_apply_13 2 rfl ?_
  refine ja_tableIn C 150 jd_Y_apply_14 (by decide) (by decide) rfl (by decide) ?_
  refine ja_iload C jd_Y_apply_150 5 rfl ?_
  refine ja_iconst C (nI 1) jd_Y_apply_152 (by decide) ?_
  refine ja_icmp_neN C 168 jd_Y_apply_153 (by decide) (by decide) (by decide) (fun c153 => absurd rfl c153) (fun c153 => ?_)
  refine ja_iload C jd_Y_apply_156 6 rfl ?_
  refine ja_iload C jd_Y_apply_158 0 rfl ?_
  refine ja_icmp_ltN C 168 jd_Y_apply_160 (by decide) (by omega) (by omega) (fun c160 => ?_) (fun c160 => ?_)
  · refine ja_aload_n C jd_Y_apply_168 1 rfl ?_
    refine ja_iload_n C jd_Y_apply_169 2 rfl ?_
    refine ja_iload_n C jd_Y_apply_170 3 rfl ?_
    refine ja_iload C jd_Y_apply_171 5 rfl ?_
    refine ja_if_neN C 180 jd_Y_apply_173 (by decide) (by decide) (fun _ => ?_) (fun q => absurd q (by decide))
    refine ja_iload C jd_Y_apply_180 6 rfl ?_
    refine jN_mV 8 C X jk_along h1 rfl (jn_along h1 hct hta (by decide) c160) jd_Y_apply_182 rfl rfl ⟨by decide, by decide⟩ (Nat.le_of_ble_eq_true rfl) (Nat.le_of_ble_eq_true rfl) (Nat.le_of_ble_eq_true rfl) (fun x2 σ2 w2 z2 hp2 => ?_)
    obtain ⟨ha2, hq2⟩ := hp2
    exact E jd_Y_apply_185 ⟨x2, σ2, rfl, ⟨fun _ => ha2, fun z => absurd c160 z⟩, jP.from r1 hq2⟩
  · refine ja_bipush C (-5) jd_Y_apply_163 (by decide) ?_
    refine ja_goto C 185 jd_Y_apply_165 (by decide) ?_
    exact E jd_Y_apply_185 ⟨-5, σ, rfl, ⟨fun z => by omega, fun _ => ⟨rfl, rfl⟩⟩, h1.jP r1⟩
theorem jn_apply_7n {a : Nat} {b x y1 : Int32} (h : jN cI cJ y A n n2 σ w th rk N) (hct : jSt_c σ < 512) (hta : a < jSt_c σ) : jb_M l jy_Y_apply jc_Y_apply 8 (some .int) 6 194 16 9728 D H0 (jt_all cI cJ cT cX) [.ref y, .int (nI 7), .int (nI a), .int b, .int (nI 0), .int x, .int y1] w sz
    (fun v w' sz' => ∃ (x : Int32) (σ' : jSt), v = some (.int x) ∧ jA_s0 σ 7 a x σ' ∧ jP cI cJ y A w sz σ' th w' sz') := by
  refine jb_meth_i (by decide) (Nat.le_of_ble_eq_true rfl) (fun u C X E => ?_)
  have hn := h.cn
  obtain ⟨oa1, oa2, oa3, oa4, oa5, oa6, oa7, oa8, oa9, oa10⟩ := h.ok hta
  have hcp := jl_cells_pos (f := jT_S (jSt_T σ a)) (k := jT_k (jSt_T σ a)) (fun j hj => (oa2 j (by omega)).1)
  have a0 := oa2 0 (by decide)
  have a1 := oa2 1 (by decide)
  have a2 := oa2 2 (by decide)
  refine ja_aload_n C jd_Y_apply_0 0 rfl ?_
  refine ja_iload_n C jd_Y_apply_1 2 rfl ?_
  refine jN_vV 8 C X jk_shapeOf h rfl (jn_shapeOf h hta) jd_Y_apply_2 rfl rfl ⟨by decide, by decide⟩ (Nat.le_of_ble_eq_true rfl) (fun w1 hp1 => ?_)
  obtain ⟨N1, h1, hN1, r1⟩ := hp1
  refine ja_aload_n C jd_Y_apply_5 0 rfl ?_
  refine jN_ga C jfl_rank jd_Y_apply_6 h1 (fun _ _ => rfl) ?_
  refine ja_iload_n C jd_Y_apply_9 2 rfl ?_
  refine jN_ia C (by decide) (fun _ _ => rfl) jd_Y_apply_10 h1 hta (fun _ _ q => q.rank) ?_
  refine ja_istore C [(7, .int (nI (jT_k (jSt_T σ a)))), (0, .ref y), (1, .int (nI 7)), (2, .int (nI a)), (3, .int b), (4, .int (nI 0)), (5, .int x), (6, .int y1)] jd_Y_apply_11 (Nat.le_of_ble_eq_true rfl) rfl ?_
  refine ja_iload_n C jd_Y_apply_13 2 rfl ?_
  refine ja_tableIn C 150 jd_Y_apply_14 (by decide) (by decide) rfl (by decide) ?_
  refine ja_iload C jd_Y_apply_150 5 rfl ?_
  refine ja_iconst C (nI 1) jd_Y_apply_152 (by decide) ?_
  refine ja_icmp_neN C 168 jd_Y_apply_153 (by decide) (by decide) (by decide) (fun c153 => ?_) (fun c153 => absurd c153 (by decide))
  refine ja_aload_n C jd_Y_apply_168 1 rfl ?_
  refine ja_iload_n C jd_Y_apply_169 2 rfl ?_
  refine ja_iload_n C jd_Y_apply_170 3 rfl ?_
  refine ja_iload C jd_Y_apply_171 5 rfl ?_
  refine ja_if_neN C 180 jd_Y_apply_173 (by decide) (by decide) (fun q => absurd q (by decide)) (fun _ => ?_)
  refine ja_iconst C (-1) jd_Y_apply_176 (by decide) ?_
  refine ja_goto C 182 jd_Y_apply_177 (by decide) ?_
  refine jN_mV 8 C X jk_along h1 rfl (jn_along0 h1 hct hta (by decide)) jd_Y_apply_182 rfl rfl ⟨by decide, by decide⟩ (Nat.le_of_ble_eq_true rfl) (Nat.le_of_ble_eq_true rfl) (Nat.le_of_ble_eq_true rfl) (fun x2 σ2 w2 z2 hp2 => ?_)
  obtain ⟨ha2, hq2⟩ := hp2
  exact E jd_Y_apply_185 ⟨x2, σ2, rfl, ha2, jP.from r1 hq2⟩
theorem jn_apply_7 {a k : Nat} {b y1 : Int32} (h : jN cI cJ y A n n2 σ w th rk N) (hct : jSt_c σ < 512) (hta : a < jSt_c σ) (hk : k < 2 ^ 31) : jb_M l jy_Y_apply jc_Y_apply 8 (some .int) 6 194 16 9728 D H0 (jt_all cI cJ cT cX) [.ref y, .int (nI 7), .int (nI a), .int b, .int (nI 1), .int (nI k), .int y1] w sz
    (fun v w' sz' => ∃ (x : Int32) (σ' : jSt), v = some (.int x) ∧ jA_s1 σ 7 a k x σ' ∧ jP cI cJ y A w sz σ' th w' sz') := by
  refine jb_meth_i (by decide) (Nat.le_of_ble_eq_true rfl) (fun u C X E => ?_)
  have hn := h.cn
  obtain ⟨oa1, oa2, oa3, oa4, oa5, oa6, oa7, oa8, oa9, oa10⟩ := h.ok hta
  have hcp := jl_cells_pos (f := jT_S (jSt_T σ a)) (k := jT_k (jSt_T σ a)) (fun j hj => (oa2 j (by omega)).1)
  have a0 := oa2 0 (by decide)
  have a1 := oa2 1 (by decide)
  have a2 := oa2 2 (by decide)
  refine ja_aload_n C jd_Y_apply_0 0 rfl ?_
  refine ja_iload_n C jd_Y_apply_1 2 rfl ?_
  refine jN_vV 8 C X jk_shapeOf h rfl (jn_shapeOf h hta) jd_Y_apply_2 rfl rfl ⟨by decide, by decide⟩ (Nat.le_of_ble_eq_true rfl) (fun w1 hp1 => ?_)
  obtain ⟨N1, h1, hN1, r1⟩ := hp1
  refine ja_aload_n C jd_Y_apply_5 0 rfl ?_
  refine jN_ga C jfl_rank jd_Y_apply_6 h1 (fun _ _ => rfl) ?_
  refine ja_iload_n C jd_Y_apply_9 2 rfl ?_
  refine jN_ia C (by decide) (fun _ _ => rfl) jd_Y_apply_10 h1 hta (fun _ _ q => q.rank) ?_
  refine ja_istore C [(7, .int (nI (jT_k (jSt_T σ a)))), (0, .ref y), (1, .int (nI 7)), (2, .int (nI a)), (3, .int b), (4, .int (nI 1)), (5, .int (nI k)), (6, .int y1)] jd_Y_apply_11 (Nat.le_of_ble_eq_true rfl) rfl ?_
  refine ja_iload_n C jd_Y_apply_13 2 rfl ?_
  refine ja_tableIn C 150 jd_Y_apply_14 (by decide) (by decide) rfl (by decide) ?_
  refine ja_iload C jd_Y_apply_150 5 rfl ?_
  refine ja_iconst C (nI 1) jd_Y_apply_152 (by decide) ?_
  refine ja_icmp_neN C 168 jd_Y_apply_153 (by decide) (by decide) (by decide) (fun c153 => absurd rfl c153) (fun c153 => ?_)
  refine ja_iload C jd_Y_apply_156 6 rfl ?_
  refine ja_iload C jd_Y_apply_158 0 rfl ?_
  refine ja_icmp_ltN C 168 jd_Y_apply_160 (by decide) (by omega) (by omega) (fun c160 => ?_) (fun c160 => ?_)
  · refine ja_aload_n C jd_Y_apply_168 1 rfl ?_
    refine ja_iload_n C jd_Y_apply_169 2 rfl ?_
    refine ja_iload_n C jd_Y_apply_170 3 rfl ?_
    refine ja_iload C jd_Y_apply_171 5 rfl ?_
    refine ja_if_neN C 180 jd_Y_apply_173 (by decide) (by decide) (fun _ => ?_) (fun q => absurd q (by decide))
    refine ja_iload C jd_Y_apply_180 6 rfl ?_
    refine jN_mV 8 C X jk_along h1 rfl (jn_along h1 hct hta (by decide) c160) jd_Y_apply_182 rfl rfl ⟨by decide, by decide⟩ (Nat.le_of_ble_eq_true rfl) (Nat.le_of_ble_eq_true rfl) (Nat.le_of_ble_eq_true rfl) (fun x2 σ2 w2 z2 hp2 => ?_)
    obtain ⟨ha2, hq2⟩ := hp2
    exact E jd_Y_apply_185 ⟨x2, σ2, rfl, ⟨fun _ => ha2, fun z => absurd c160 z⟩, jP.from r1 hq2⟩
  · refine ja_bipush C (-5) jd_Y_apply_163 (by decide) ?_
    refine ja_goto C 185 jd_Y_apply_165 (by decide) ?_
    exact E jd_Y_apply_185 ⟨-5, σ, rfl, ⟨fun z => by omega, fun _ => ⟨rfl, rfl⟩⟩, h1.jP r1⟩
theorem jn_apply_8 {a b k : Nat} {m y1 : Int32} (h : jN cI cJ y A n n2 σ w th rk N) (hct : jSt_c σ < 512) (hta : a < jSt_c σ) (htb : b < jSt_c σ) (hk : k < 2 ^ 31) : jb_M l jy_Y_apply jc_Y_apply 8 (some .int) 6 194 16 9728 D H0 (jt_all cI cJ cT cX) [.ref y, .int (nI 8), .int (nI a), .int (nI b), .int m, .int (nI k), .int y1] w sz
    (fun v w' sz' => ∃ (x : Int32) (σ' : jSt), v = some (.int x) ∧ jA_conv σ a b k x σ' ∧ jP cI cJ y A w sz σ' th w' sz') := by
  refine jb_meth_i (by decide) (Nat.le_of_ble_eq_true rfl) (fun u C X E => ?_)
  have hn := h.cn
  obtain ⟨oa1, oa2, oa3, oa4, oa5, oa6, oa7, oa8, oa9, oa10⟩ := h.ok hta
  have hcp := jl_cells_pos (f := jT_S (jSt_T σ a)) (k := jT_k (jSt_T σ a)) (fun j hj => (oa2 j (by omega)).1)
  have a0 := oa2 0 (by decide)
  have a1 := oa2 1 (by decide)
  have a2 := oa2 2 (by decide)
  refine ja_aload_n C jd_Y_apply_0 0 rfl ?_
  refine ja_iload_n C jd_Y_apply_1 2 rfl ?_
  refine jN_vV 8 C X jk_shapeOf h rfl (jn_shapeOf h hta) jd_Y_apply_2 rfl rfl ⟨by decide, by decide⟩ (Nat.le_of_ble_eq_true rfl) (fun w1 hp1 => ?_)
  obtain ⟨N1, h1, hN1, r1⟩ := hp1
  refine ja_aload_n C jd_Y_apply_5 0 rfl ?_
  refine jN_ga C jfl_rank jd_Y_apply_6 h1 (fun _ _ => rfl) ?_
  refine ja_iload_n C jd_Y_apply_9 2 rfl ?_
  refine jN_ia C (by decide) (fun _ _ => rfl) jd_Y_apply_10 h1 hta (fun _ _ q => q.rank) ?_
  refine ja_istore C [(7, .int (nI (jT_k (jSt_T σ a)))), (0, .ref y), (1, .int (nI 8)), (2, .int (nI a)), (3, .int (nI b)), (4, .int m), (5, .int (nI k)), (6, .int y1)] jd_Y_apply_11 (Nat.le_of_ble_eq_true rfl) rfl ?_
  refine ja_iload_n C jd_Y_apply_13 2 rfl ?_
  refine ja_tableIn C 186 jd_Y_apply_14 (by decide) (by decide) rfl (by decide) ?_
  refine ja_aload_n C jd_Y_apply_186 1 rfl ?_
  refine ja_iload_n C jd_Y_apply_187 3 rfl ?_
  refine ja_iload_n C jd_Y_apply_188 4 rfl ?_
  refine ja_iload C jd_Y_apply_189 6 rfl ?_
  refine jN_mV 8 C X jk_conv h1 rfl (jn_conv h1 hct hta htb hk rfl hN1) jd_Y_apply_191 rfl rfl ⟨by decide, by decide⟩ (Nat.le_of_ble_eq_true rfl) (Nat.le_of_ble_eq_true rfl) (Nat.le_of_ble_eq_true rfl) (fun x2 σ2 w2 z2 hp2 => ?_)
  obtain ⟨ha2, hq2⟩ := hp2
  exact E jd_Y_apply_194 ⟨x2, σ2, rfl, ha2, jP.from r1 hq2⟩
theorem jn_apply_9 {a p : Nat} {b m y1 : Int32} (h : jN cI cJ y A n n2 σ w th rk N) (hct : jSt_c σ < 512) (hta : a < jSt_c σ) (hk : p < 2 ^ 31) : jb_M l jy_Y_apply jc_Y_apply 8 (some .int) 6 194 16 9728 D H0 (jt_all cI cJ cT cX) [.ref y, .int (nI 9), .int (nI a), .int b, .int m, .int (nI p), .int y1] w sz
    (fun v w' sz' => ∃ (x : Int32) (σ' : jSt), v = some (.int x) ∧ jA_pl σ 9 a p x σ' ∧ jP cI cJ y A w sz σ' th w' sz') := by
  refine jb_meth_i (by decide) (Nat.le_of_ble_eq_true rfl) (fun u C X E => ?_)
  have hn := h.cn
  obtain ⟨oa1, oa2, oa3, oa4, oa5, oa6, oa7, oa8, oa9, oa10⟩ := h.ok hta
  have hcp := jl_cells_pos (f := jT_S (jSt_T σ a)) (k := jT_k (jSt_T σ a)) (fun j hj => (oa2 j (by omega)).1)
  have a0 := oa2 0 (by decide)
  have a1 := oa2 1 (by decide)
  have a2 := oa2 2 (by decide)
  refine ja_aload_n C jd_Y_apply_0 0 rfl ?_
  refine ja_iload_n C jd_Y_apply_1 2 rfl ?_
  refine jN_vV 8 C X jk_shapeOf h rfl (jn_shapeOf h hta) jd_Y_apply_2 rfl rfl ⟨by decide, by decide⟩ (Nat.le_of_ble_eq_true rfl) (fun w1 hp1 => ?_)
  obtain ⟨N1, h1, hN1, r1⟩ := hp1
  refine ja_aload_n C jd_Y_apply_5 0 rfl ?_
  refine jN_ga C jfl_rank jd_Y_apply_6 h1 (fun _ _ => rfl) ?_
  refine ja_iload_n C jd_Y_apply_9 2 rfl ?_
  refine jN_ia C (by decide) (fun _ _ => rfl) jd_Y_apply_10 h1 hta (fun _ _ q => q.rank) ?_
  refine ja_istore C [(7, .int (nI (jT_k (jSt_T σ a)))), (0, .ref y), (1, .int (nI 9)), (2, .int (nI a)), (3, .int b), (4, .int m), (5, .int (nI p)), (6, .int y1)] jd_Y_apply_11 (Nat.le_of_ble_eq_true rfl) rfl ?_
  refine ja_iload_n C jd_Y_apply_13 2 rfl ?_
  refine ja_tableIn C 195 jd_Y_apply_14 (by decide) (by decide) rfl (by decide) ?_
  refine ja_iload C jd_Y_apply_195 0 rfl ?_
  refine ja_iconst C (nI 3) jd_Y_apply_197 (by decide) ?_
  have no : ∀ (hf : ¬ (jT_k (jSt_T σ a) = 3 ∧ 0 < p ∧ jT_S (jSt_T σ a) 1 % p = 0 ∧ jT_S (jSt_T σ a) 2 % p = 0)), ja (jb_mk l (jb_rm 6 194 16 9728) 8 "MeasuredTensorsModel" D H0 (jt_all cI cJ cT cX) u) w1 sz 16 9728 230 [(7, .int (nI (jT_k (jSt_T σ a)))), (0, .ref y), (1, .int (nI 9)), (2, .int (nI a)), (3, .int b), (4, .int m), (5, .int (nI p)), (6, .int y1)] [] := by
    intro hf
    refine ja_bipush C (-5) jd_Y_apply_230 (by decide) ?_
    refine ja_goto C 243 jd_Y_apply_232 (by decide) ?_
    exact E jd_Y_apply_243 ⟨-5, σ, rfl, ⟨fun z => absurd z hf, fun _ => ⟨rfl, rfl⟩⟩, h1.jP r1⟩
  refine ja_icmp_neN C 230 jd_Y_apply_198 (by decide) (by omega) (by decide) (fun c1 => no (fun z => c1 z.1)) (fun c1 => ?_)
  refine ja_iload C jd_Y_apply_201 6 rfl ?_
  refine ja_if_eqN C 230 jd_Y_apply_203 (by decide) (by omega) (fun c2 => no (fun z => by omega)) (fun c2 => ?_)
  refine ja_aload_n C jd_Y_apply_206 1 rfl ?_
  refine ja_iload_n C jd_Y_apply_207 3 rfl ?_
  refine ja_iconst C (nI 1) jd_Y_apply_208 (by decide) ?_
  refine jN_pV 8 C X jk_side h1 rfl (jn_side h1 hta (by decide)) jd_Y_apply_209 rfl rfl ⟨by decide, by decide⟩ (Nat.le_of_ble_eq_true rfl) ?_
  refine ja_iload C jd_Y_apply_212 6 rfl ?_
  refine ja_iremN C jd_Y_apply_214 (by omega) (by omega) (by omega) ?_
  have m1 : jT_S (jSt_T σ a) 1 % p < p := Nat.mod_lt _ c2
  have m2 : jT_S (jSt_T σ a) 2 % p < p := Nat.mod_lt _ c2
  refine ja_if_gtN C 230 jd_Y_apply_215 (by decide) (by omega) (fun c3 => no (fun z => by omega)) (fun c3 => ?_)
  refine ja_aload_n C jd_Y_apply_218 1 rfl ?_
  refine ja_iload_n C jd_Y_apply_219 3 rfl ?_
  refine ja_iconst C (nI 2) jd_Y_apply_220 (by decide) ?_
  refine jN_pV 8 C X jk_side h1 rfl (jn_side h1 hta (by decide)) jd_Y_apply_221 rfl rfl ⟨by decide, by decide⟩ (Nat.le_of_ble_eq_true rfl) ?_
  refine ja_iload C jd_Y_apply_224 6 rfl ?_
  refine ja_iremN C jd_Y_apply_226 (by omega) (by omega) (by omega) ?_
  refine ja_if_leN C 235 jd_Y_apply_227 (by decide) (by omega) (fun c4 => ?_) (fun c4 => no (fun z => by omega))
  refine ja_aload_n C jd_Y_apply_235 1 rfl ?_
  refine ja_iload_n C jd_Y_apply_236 2 rfl ?_
  refine ja_iload_n C jd_Y_apply_237 3 rfl ?_
  refine ja_iload C jd_Y_apply_238 6 rfl ?_
  refine jN_mV 8 C X jk_pool h1 rfl (jn_pool h1 hct hta (by decide) c1 (by omega) c3 c4 (by rw [c1]) hN1) jd_Y_apply_240 rfl rfl ⟨by decide, by decide⟩ (Nat.le_of_ble_eq_true rfl) (Nat.le_of_ble_eq_true rfl) (Nat.le_of_ble_eq_true rfl) (fun x2 σ2 w2 z2 hp2 => ?_)
  obtain ⟨ha2, hq2⟩ := hp2
  exact E jd_Y_apply_243 ⟨x2, σ2, rfl, ⟨fun _ => ha2, fun z => absurd ⟨c1, c2, c3, c4⟩ z⟩, jP.from r1 hq2⟩
theorem jn_apply_10 {a p : Nat} {b m y1 : Int32} (h : jN cI cJ y A n n2 σ w th rk N) (hct : jSt_c σ < 512) (hta : a < jSt_c σ) (hk : p < 2 ^ 31) : jb_M l jy_Y_apply jc_Y_apply 8 (some .int) 6 194 16 9728 D H0 (jt_all cI cJ cT cX) [.ref y, .int (nI 10), .int (nI a), .int b, .int m, .int (nI p), .int y1] w sz
    (fun v w' sz' => ∃ (x : Int32) (σ' : jSt), v = some (.int x) ∧ jA_pl σ 10 a p x σ' ∧ jP cI cJ y A w sz σ' th w' sz') := by
  refine jb_meth_i (by decide) (Nat.le_of_ble_eq_true rfl) (fun u C X E => ?_)
  have hn := h.cn
  obtain ⟨oa1, oa2, oa3, oa4, oa5, oa6, oa7, oa8, oa9, oa10⟩ := h.ok hta
  have hcp := jl_cells_pos (f := jT_S (jSt_T σ a)) (k := jT_k (jSt_T σ a)) (fun j hj => (oa2 j (by omega)).1)
  have a0 := oa2 0 (by decide)
  have a1 := oa2 1 (by decide)
  have a2 := oa2 2 (by decide)
  refine ja_aload_n C jd_Y_apply_0 0 rfl ?_
  refine ja_iload_n C jd_Y_apply_1 2 rfl ?_
  refine jN_vV 8 C X jk_shapeOf h rfl (jn_shapeOf h hta) jd_Y_apply_2 rfl rfl ⟨by decide, by decide⟩ (Nat.le_of_ble_eq_true rfl) (fun w1 hp1 => ?_)
  obtain ⟨N1, h1, hN1, r1⟩ := hp1
  refine ja_aload_n C jd_Y_apply_5 0 rfl ?_
  refine jN_ga C jfl_rank jd_Y_apply_6 h1 (fun _ _ => rfl) ?_
  refine ja_iload_n C jd_Y_apply_9 2 rfl ?_
  refine jN_ia C (by decide) (fun _ _ => rfl) jd_Y_apply_10 h1 hta (fun _ _ q => q.rank) ?_
  refine ja_istore C [(7, .int (nI (jT_k (jSt_T σ a)))), (0, .ref y), (1, .int (nI 10)), (2, .int (nI a)), (3, .int b), (4, .int m), (5, .int (nI p)), (6, .int y1)] jd_Y_apply_11 (Nat.le_of_ble_eq_true rfl) rfl ?_
  refine ja_iload_n C jd_Y_apply_13 2 rfl ?_
  refine ja_tableIn C 195 jd_Y_apply_14 (by decide) (by decide) rfl (by decide) ?_
  refine ja_iload C jd_Y_apply_195 0 rfl ?_
  refine ja_iconst C (nI 3) jd_Y_apply_197 (by decide) ?_
  have no : ∀ (hf : ¬ (jT_k (jSt_T σ a) = 3 ∧ 0 < p ∧ jT_S (jSt_T σ a) 1 % p = 0 ∧ jT_S (jSt_T σ a) 2 % p = 0)), ja (jb_mk l (jb_rm 6 194 16 9728) 8 "MeasuredTensorsModel" D H0 (jt_all cI cJ cT cX) u) w1 sz 16 9728 230 [(7, .int (nI (jT_k (jSt_T σ a)))), (0, .ref y), (1, .int (nI 10)), (2, .int (nI a)), (3, .int b), (4, .int m), (5, .int (nI p)), (6, .int y1)] [] := by
    intro hf
    refine ja_bipush C (-5) jd_Y_apply_230 (by decide) ?_
    refine ja_goto C 243 jd_Y_apply_232 (by decide) ?_
    exact E jd_Y_apply_243 ⟨-5, σ, rfl, ⟨fun z => absurd z hf, fun _ => ⟨rfl, rfl⟩⟩, h1.jP r1⟩
  refine ja_icmp_neN C 230 jd_Y_apply_198 (by decide) (by omega) (by decide) (fun c1 => no (fun z => c1 z.1)) (fun c1 => ?_)
  refine ja_iload C jd_Y_apply_201 6 rfl ?_
  refine ja_if_eqN C 230 jd_Y_apply_203 (by decide) (by omega) (fun c2 => no (fun z => by omega)) (fun c2 => ?_)
  refine ja_aload_n C jd_Y_apply_206 1 rfl ?_
  refine ja_iload_n C jd_Y_apply_207 3 rfl ?_
  refine ja_iconst C (nI 1) jd_Y_apply_208 (by decide) ?_
  refine jN_pV 8 C X jk_side h1 rfl (jn_side h1 hta (by decide)) jd_Y_apply_209 rfl rfl ⟨by decide, by decide⟩ (Nat.le_of_ble_eq_true rfl) ?_
  refine ja_iload C jd_Y_apply_212 6 rfl ?_
  refine ja_iremN C jd_Y_apply_214 (by omega) (by omega) (by omega) ?_
  have m1 : jT_S (jSt_T σ a) 1 % p < p := Nat.mod_lt _ c2
  have m2 : jT_S (jSt_T σ a) 2 % p < p := Nat.mod_lt _ c2
  refine ja_if_gtN C 230 jd_Y_apply_215 (by decide) (by omega) (fun c3 => no (fun z => by omega)) (fun c3 => ?_)
  refine ja_aload_n C jd_Y_apply_218 1 rfl ?_
  refine ja_iload_n C jd_Y_apply_219 3 rfl ?_
  refine ja_iconst C (nI 2) jd_Y_apply_220 (by decide) ?_
  refine jN_pV 8 C X jk_side h1 rfl (jn_side h1 hta (by decide)) jd_Y_apply_221 rfl rfl ⟨by decide, by decide⟩ (Nat.le_of_ble_eq_true rfl) ?_
  refine ja_iload C jd_Y_apply_224 6 rfl ?_
  refine ja_iremN C jd_Y_apply_226 (by omega) (by omega) (by omega) ?_
  refine ja_if_leN C 235 jd_Y_apply_227 (by decide) (by omega) (fun c4 => ?_) (fun c4 => no (fun z => by omega))
  refine ja_aload_n C jd_Y_apply_235 1 rfl ?_
  refine ja_iload_n C jd_Y_apply_236 2 rfl ?_
  refine ja_iload_n C jd_Y_apply_237 3 rfl ?_
  refine ja_iload C jd_Y_apply_238 6 rfl ?_
  refine jN_mV 8 C X jk_pool h1 rfl (jn_pool h1 hct hta (by decide) c1 (by omega) c3 c4 (by rw [c1]) hN1) jd_Y_apply_240 rfl rfl ⟨by decide, by decide⟩ (Nat.le_of_ble_eq_true rfl) (Nat.le_of_ble_eq_true rfl) (Nat.le_of_ble_eq_true rfl) (fun x2 σ2 w2 z2 hp2 => ?_)
  obtain ⟨ha2, hq2⟩ := hp2
  exact E jd_Y_apply_243 ⟨x2, σ2, rfl, ⟨fun _ => ha2, fun z => absurd ⟨c1, c2, c3, c4⟩ z⟩, jP.from r1 hq2⟩
theorem jn_apply_12 {a : Nat} {b m x y1 : Int32} (h : jN cI cJ y A n n2 σ w th rk N) (hct : jSt_c σ < 512) (hta : a < jSt_c σ) : jb_M l jy_Y_apply jc_Y_apply 8 (some .int) 6 194 16 9728 D H0 (jt_all cI cJ cT cX) [.ref y, .int (nI 12), .int (nI a), .int b, .int m, .int x, .int y1] w sz
    (fun v w' sz' => ∃ (x : Int32) (σ' : jSt), v = some (.int x) ∧ jA_tn σ a x σ' ∧ jP cI cJ y A w sz σ' th w' sz') := by
  refine jb_meth_i (by decide) (Nat.le_of_ble_eq_true rfl) (fun u C X E => ?_)
  have hn := h.cn
  obtain ⟨oa1, oa2, oa3, oa4, oa5, oa6, oa7, oa8, oa9, oa10⟩ := h.ok hta
  have hcp := jl_cells_pos (f := jT_S (jSt_T σ a)) (k := jT_k (jSt_T σ a)) (fun j hj => (oa2 j (by omega)).1)
  have a0 := oa2 0 (by decide)
  have a1 := oa2 1 (by decide)
  have a2 := oa2 2 (by decide)
  refine ja_aload_n C jd_Y_apply_0 0 rfl ?_
  refine ja_iload_n C jd_Y_apply_1 2 rfl ?_
  refine jN_vV 8 C X jk_shapeOf h rfl (jn_shapeOf h hta) jd_Y_apply_2 rfl rfl ⟨by decide, by decide⟩ (Nat.le_of_ble_eq_true rfl) (fun w1 hp1 => ?_)
  obtain ⟨N1, h1, hN1, r1⟩ := hp1
  refine ja_aload_n C jd_Y_apply_5 0 rfl ?_
  refine jN_ga C jfl_rank jd_Y_apply_6 h1 (fun _ _ => rfl) ?_
  refine ja_iload_n C jd_Y_apply_9 2 rfl ?_
  refine jN_ia C (by decide) (fun _ _ => rfl) jd_Y_apply_10 h1 hta (fun _ _ q => q.rank) ?_
  refine ja_istore C [(7, .int (nI (jT_k (jSt_T σ a)))), (0, .ref y), (1, .int (nI 12)), (2, .int (nI a)), (3, .int b), (4, .int m), (5, .int x), (6, .int y1)] jd_Y_apply_11 (Nat.le_of_ble_eq_true rfl) rfl ?_
  refine ja_iload_n C jd_Y_apply_13 2 rfl ?_
  refine ja_tableIn C 244 jd_Y_apply_14 (by decide) (by decide) rfl (by decide) ?_
  refine ja_aload_n C jd_Y_apply_244 1 rfl ?_
  refine jN_ga C jfl_newSides jd_Y_apply_245 h1 (fun _ _ => rfl) ?_
  refine ja_iconst C (nI 0) jd_Y_apply_248 (by decide) ?_
  refine ja_aload_n C jd_Y_apply_249 1 rfl ?_
  refine ja_iload_n C jd_Y_apply_250 3 rfl ?_
  refine ja_iconst C (nI 1) jd_Y_apply_251 (by decide) ?_
  refine jN_pV 8 C X jk_side h1 rfl (jn_side h1 hta (by decide)) jd_Y_apply_252 rfl rfl ⟨by decide, by decide⟩ (Nat.le_of_ble_eq_true rfl) ?_
  refine jN_st C jd_Y_apply_255 h1 (by decide) (fun w2 h2 r2 => ?_)
  refine ja_aload_n C jd_Y_apply_256 1 rfl ?_
  refine jN_ga C jfl_newSides jd_Y_apply_257 h2 (fun _ _ => rfl) ?_
  refine ja_iconst C (nI 1) jd_Y_apply_260 (by decide) ?_
  refine ja_aload_n C jd_Y_apply_261 1 rfl ?_
  refine ja_iload_n C jd_Y_apply_262 3 rfl ?_
  refine ja_iconst C (nI 0) jd_Y_apply_263 (by decide) ?_
  refine jN_pV 8 C X jk_side h2 rfl (jn_side h2 hta (by decide)) jd_Y_apply_264 rfl rfl ⟨by decide, by decide⟩ (Nat.le_of_ble_eq_true rfl) ?_
  refine jN_st C jd_Y_apply_267 h2 (by decide) (fun w3 h3 r3 => ?_)
  refine ja_iload C jd_Y_apply_268 0 rfl ?_
  refine ja_iconst C (nI 2) jd_Y_apply_270 (by decide) ?_
  refine ja_icmp_neN C 283 jd_Y_apply_271 (by decide) (by omega) (by decide) (fun c1 => ?_) (fun c1 => ?_)
  · refine ja_bipush C (-5) jd_Y_apply_283 (by decide) ?_
    exact E jd_Y_apply_285 ⟨-5, σ, rfl, ⟨fun z => absurd z c1, fun _ => ⟨rfl, rfl⟩⟩, h3.jP (r1.tr (r2.tr r3))⟩
  · refine ja_aload_n C jd_Y_apply_274 1 rfl ?_
    refine ja_iload_n C jd_Y_apply_275 2 rfl ?_
    refine ja_iload_n C jd_Y_apply_276 3 rfl ?_
    refine jN_mV 8 C X jk_makeLike h3 rfl (jn_makeLike h3 hct hta oa1 rfl (M := va_up (va_up (jT_S (jSt_T σ a)) 0 (jT_S (jSt_T σ a) 1)) 1 (jT_S (jSt_T σ a) 0)) (fun k hk => ⟨((hN1.st 0 _).st 1 _) k (by omega), by unfold va_up; have := oa2 k (by omega); split <;> (try split) <;> omega, by unfold va_up; have := oa2 k (by omega); split <;> (try split) <;> omega⟩) (by decide)) jd_Y_apply_277 rfl rfl ⟨by decide, by decide⟩ (Nat.le_of_ble_eq_true rfl) (Nat.le_of_ble_eq_true rfl) (Nat.le_of_ble_eq_true rfl) (fun x4 σ4 w4 z4 hp4 => ?_)
    obtain ⟨ha4, hq4⟩ := hp4
    refine ja_goto C 285 jd_Y_apply_280 (by decide) ?_
    exact E jd_Y_apply_285 ⟨x4, σ4, rfl, ⟨fun _ => ha4, fun z => absurd c1 z⟩, jP.from (r1.tr (r2.tr r3)) hq4⟩
theorem jn_apply_13 {a k1 k2 : Nat} {b m : Int32} (h : jN cI cJ y A n n2 σ w th rk N) (hct : jSt_c σ < 512) (hta : a < jSt_c σ) (hk1 : k1 < 2 ^ 31) (hk2 : k2 < 2 ^ 31) : jb_M l jy_Y_apply jc_Y_apply 8 (some .int) 6 194 16 9728 D H0 (jt_all cI cJ cT cX) [.ref y, .int (nI 13), .int (nI a), .int b, .int m, .int (nI k1), .int (nI k2)] w sz
    (fun v w' sz' => ∃ (x : Int32) (σ' : jSt), v = some (.int x) ∧ jA_pt σ a k1 k2 x σ' ∧ jP cI cJ y A w sz σ' th w' sz') := by
  refine jb_meth_i (by decide) (Nat.le_of_ble_eq_true rfl) (fun u C X E => ?_)
  have hn := h.cn
  obtain ⟨oa1, oa2, oa3, oa4, oa5, oa6, oa7, oa8, oa9, oa10⟩ := h.ok hta
  have hcp := jl_cells_pos (f := jT_S (jSt_T σ a)) (k := jT_k (jSt_T σ a)) (fun j hj => (oa2 j (by omega)).1)
  have a0 := oa2 0 (by decide)
  have a1 := oa2 1 (by decide)
  have a2 := oa2 2 (by decide)
  refine ja_aload_n C jd_Y_apply_0 0 rfl ?_
  refine ja_iload_n C jd_Y_apply_1 2 rfl ?_
  refine jN_vV 8 C X jk_shapeOf h rfl (jn_shapeOf h hta) jd_Y_apply_2 rfl rfl ⟨by decide, by decide⟩ (Nat.le_of_ble_eq_true rfl) (fun w1 hp1 => ?_)
  obtain ⟨N1, h1, hN1, r1⟩ := hp1
  refine ja_aload_n C jd_Y_apply_5 0 rfl ?_
  refine jN_ga C jfl_rank jd_Y_apply_6 h1 (fun _ _ => rfl) ?_
  refine ja_iload_n C jd_Y_apply_9 2 rfl ?_
  refine jN_ia C (by decide) (fun _ _ => rfl) jd_Y_apply_10 h1 hta (fun _ _ q => q.rank) ?_
  refine ja_istore C [(7, .int (nI (jT_k (jSt_T σ a)))), (0, .ref y), (1, .int (nI 13)), (2, .int (nI a)), (3, .int b), (4, .int m), (5, .int (nI k1)), (6, .int (nI k2))] jd_Y_apply_11 (Nat.le_of_ble_eq_true rfl) rfl ?_
  refine ja_iload_n C jd_Y_apply_13 2 rfl ?_
  refine ja_tableIn C 286 jd_Y_apply_14 (by decide) (by decide) rfl (by decide) ?_
  refine ja_aload_n C jd_Y_apply_286 1 rfl ?_
  refine jN_ga C jfl_newSides jd_Y_apply_287 h1 (fun _ _ => rfl) ?_
  refine ja_iconst C (nI 0) jd_Y_apply_290 (by decide) ?_
  refine ja_iload C jd_Y_apply_291 7 rfl ?_
  refine ja_iload C jd_Y_apply_293 6 rfl ?_
  refine ja_isub C jd_Y_apply_295 ?_
  refine jN_st C jd_Y_apply_296 h1 (by decide) (fun w2 h2 r2 => ?_)
  refine ja_iload C jd_Y_apply_297 0 rfl ?_
  have no : ∀ (hf : ¬ (0 < jT_k (jSt_T σ a) ∧ k1 < k2 ∧ k2 ≤ jT_S (jSt_T σ a) 0)), ja (jb_mk l (jb_rm 6 194 16 9728) 8 "MeasuredTensorsModel" D H0 (jt_all cI cJ cT cX) u) w2 sz 16 9728 329 [(7, .int (nI (jT_k (jSt_T σ a)))), (0, .ref y), (1, .int (nI 13)), (2, .int (nI a)), (3, .int b), (4, .int m), (5, .int (nI k1)), (6, .int (nI k2))] [] := by
    intro hf
    refine ja_bipush C (-5) jd_Y_apply_329 (by decide) ?_
    exact E jd_Y_apply_331 ⟨-5, σ, rfl, ⟨fun z => absurd z hf, fun _ => ⟨rfl, rfl⟩⟩, h2.jP (r1.tr r2)⟩
  refine ja_if_leN C 329 jd_Y_apply_299 (by decide) (by omega) (fun c1 => no (fun z => by omega)) (fun c1 => ?_)
  refine ja_iload C jd_Y_apply_302 6 rfl ?_
  refine ja_iload C jd_Y_apply_304 7 rfl ?_
  refine ja_icmp_geN C 329 jd_Y_apply_306 (by decide) (by omega) (by omega) (fun c2 => no (fun z => by omega)) (fun c2 => ?_)
  refine ja_iload C jd_Y_apply_309 7 rfl ?_
  refine ja_aload_n C jd_Y_apply_311 1 rfl ?_
  refine ja_iload_n C jd_Y_apply_312 3 rfl ?_
  refine ja_iconst C (nI 0) jd_Y_apply_313 (by decide) ?_
  refine jN_pV 8 C X jk_side h2 rfl (jn_side h2 hta (by decide)) jd_Y_apply_314 rfl rfl ⟨by decide, by decide⟩ (Nat.le_of_ble_eq_true rfl) ?_
  refine ja_icmp_gtN C 329 jd_Y_apply_317 (by decide) (by omega) (by omega) (fun c3 => no (fun z => by omega)) (fun c3 => ?_)
  refine ja_aload_n C jd_Y_apply_320 1 rfl ?_
  refine ja_iload_n C jd_Y_apply_321 2 rfl ?_
  refine ja_iload_n C jd_Y_apply_322 3 rfl ?_
  refine jN_mV 8 C X jk_makeLike h2 rfl (jn_makeLike h2 hct hta oa1 rfl (M := va_up (jT_S (jSt_T σ a)) 0 (k2 - k1)) (fun k hk => ⟨by rw [pk_sub (by omega)]; exact (hN1.st 0 _) k (by omega), by unfold va_up; have := oa2 k (by omega); split <;> omega, by unfold va_up; have := oa2 k (by omega); split <;> omega⟩) (by decide)) jd_Y_apply_323 rfl rfl ⟨by decide, by decide⟩ (Nat.le_of_ble_eq_true rfl) (Nat.le_of_ble_eq_true rfl) (Nat.le_of_ble_eq_true rfl) (fun x3 σ3 w3 z3 hp3 => ?_)
  obtain ⟨ha3, hq3⟩ := hp3
  refine ja_goto C 331 jd_Y_apply_326 (by decide) ?_
  exact E jd_Y_apply_331 ⟨x3, σ3, rfl, ⟨fun _ => ha3, fun z => absurd ⟨c1, c2, c3⟩ z⟩, jP.from (r1.tr r2) hq3⟩
theorem jn_apply_14 {a b : Nat} {m x y1 : Int32} (h : jN cI cJ y A n n2 σ w th rk N) (hct : jSt_c σ < 512) (hta : a < jSt_c σ) (htb : b < jSt_c σ) : jb_M l jy_Y_apply jc_Y_apply 8 (some .int) 6 194 16 9728 D H0 (jt_all cI cJ cT cX) [.ref y, .int (nI 14), .int (nI a), .int (nI b), .int m, .int x, .int y1] w sz
    (fun v w' sz' => ∃ (x : Int32) (σ' : jSt), v = some (.int x) ∧ jA_join σ a b x σ' ∧ jP cI cJ y A w sz σ' th w' sz') := by
  refine jb_meth_i (by decide) (Nat.le_of_ble_eq_true rfl) (fun u C X E => ?_)
  have hn := h.cn
  obtain ⟨oa1, oa2, oa3, oa4, oa5, oa6, oa7, oa8, oa9, oa10⟩ := h.ok hta
  have hcp := jl_cells_pos (f := jT_S (jSt_T σ a)) (k := jT_k (jSt_T σ a)) (fun j hj => (oa2 j (by omega)).1)
  have a0 := oa2 0 (by decide)
  have a1 := oa2 1 (by decide)
  have a2 := oa2 2 (by decide)
  refine ja_aload_n C jd_Y_apply_0 0 rfl ?_
  refine ja_iload_n C jd_Y_apply_1 2 rfl ?_
  refine jN_vV 8 C X jk_shapeOf h rfl (jn_shapeOf h hta) jd_Y_apply_2 rfl rfl ⟨by decide, by decide⟩ (Nat.le_of_ble_eq_true rfl) (fun w1 hp1 => ?_)
  obtain ⟨N1, h1, hN1, r1⟩ := hp1
  refine ja_aload_n C jd_Y_apply_5 0 rfl ?_
  refine jN_ga C jfl_rank jd_Y_apply_6 h1 (fun _ _ => rfl) ?_
  refine ja_iload_n C jd_Y_apply_9 2 rfl ?_
  refine jN_ia C (by decide) (fun _ _ => rfl) jd_Y_apply_10 h1 hta (fun _ _ q => q.rank) ?_
  refine ja_istore C [(7, .int (nI (jT_k (jSt_T σ a)))), (0, .ref y), (1, .int (nI 14)), (2, .int (nI a)), (3, .int (nI b)), (4, .int m), (5, .int x), (6, .int y1)] jd_Y_apply_11 (Nat.le_of_ble_eq_true rfl) rfl ?_
  refine ja_iload_n C jd_Y_apply_13 2 rfl ?_
  refine ja_tableIn C 332 jd_Y_apply_14 (by decide) (by decide) rfl (by decide) ?_
  refine ja_aload_n C jd_Y_apply_332 1 rfl ?_
  refine ja_iload_n C jd_Y_apply_333 3 rfl ?_
  refine ja_iload_n C jd_Y_apply_334 4 rfl ?_
  refine jN_mV 8 C X jk_join h1 rfl (jn_join h1 hct hta htb rfl hN1) jd_Y_apply_335 rfl rfl ⟨by decide, by decide⟩ (Nat.le_of_ble_eq_true rfl) (Nat.le_of_ble_eq_true rfl) (Nat.le_of_ble_eq_true rfl) (fun x2 σ2 w2 z2 hp2 => ?_)
  obtain ⟨ha2, hq2⟩ := hp2
  exact E jd_Y_apply_338 ⟨x2, σ2, rfl, ha2, jP.from r1 hq2⟩
theorem jn_apply_15 {a k : Nat} {b m y1 : Int32} (h : jN cI cJ y A n n2 σ w th rk N) (hct : jSt_c σ < 512) (hta : a < jSt_c σ) (hk : k < 2 ^ 31) : jb_M l jy_Y_apply jc_Y_apply 8 (some .int) 6 194 16 9728 D H0 (jt_all cI cJ cT cX) [.ref y, .int (nI 15), .int (nI a), .int b, .int m, .int (nI k), .int y1] w sz
    (fun v w' sz' => ∃ (x : Int32) (σ' : jSt), v = some (.int x) ∧ jA_pd σ a k x σ' ∧ jP cI cJ y A w sz σ' th w' sz') := by
  refine jb_meth_i (by decide) (Nat.le_of_ble_eq_true rfl) (fun u C X E => ?_)
  have hn := h.cn
  obtain ⟨oa1, oa2, oa3, oa4, oa5, oa6, oa7, oa8, oa9, oa10⟩ := h.ok hta
  have hcp := jl_cells_pos (f := jT_S (jSt_T σ a)) (k := jT_k (jSt_T σ a)) (fun j hj => (oa2 j (by omega)).1)
  have a0 := oa2 0 (by decide)
  have a1 := oa2 1 (by decide)
  have a2 := oa2 2 (by decide)
  refine ja_aload_n C jd_Y_apply_0 0 rfl ?_
  refine ja_iload_n C jd_Y_apply_1 2 rfl ?_
  refine jN_vV 8 C X jk_shapeOf h rfl (jn_shapeOf h hta) jd_Y_apply_2 rfl rfl ⟨by decide, by decide⟩ (Nat.le_of_ble_eq_true rfl) (fun w1 hp1 => ?_)
  obtain ⟨N1, h1, hN1, r1⟩ := hp1
  refine ja_aload_n C jd_Y_apply_5 0 rfl ?_
  refine jN_ga C jfl_rank jd_Y_apply_6 h1 (fun _ _ => rfl) ?_
  refine ja_iload_n C jd_Y_apply_9 2 rfl ?_
  refine jN_ia C (by decide) (fun _ _ => rfl) jd_Y_apply_10 h1 hta (fun _ _ q => q.rank) ?_
  refine ja_istore C [(7, .int (nI (jT_k (jSt_T σ a)))), (0, .ref y), (1, .int (nI 15)), (2, .int (nI a)), (3, .int b), (4, .int m), (5, .int (nI k)), (6, .int y1)] jd_Y_apply_11 (Nat.le_of_ble_eq_true rfl) rfl ?_
  refine ja_iload_n C jd_Y_apply_13 2 rfl ?_
  refine ja_tableIn C 339 jd_Y_apply_14 (by decide) (by decide) rfl (by decide) ?_
  refine ja_aload_n C jd_Y_apply_339 1 rfl ?_
  refine jN_ga C jfl_newSides jd_Y_apply_340 h1 (fun _ _ => rfl) ?_
  refine ja_iconst C (nI 1) jd_Y_apply_343 (by decide) ?_
  refine ja_dup2_11 C jd_Y_apply_344 rfl rfl ?_
  refine jN_is C jd_Y_apply_345 h1 (by decide) ?_
  rw [hN1 1 (by decide)]
  refine ja_iconst C (nI 2) jd_Y_apply_346 (by decide) ?_
  refine ja_iload C jd_Y_apply_347 6 rfl ?_
  refine ja_imulN C jd_Y_apply_349 ?_
  refine ja_iaddN C jd_Y_apply_350 ?_
  refine jN_st C jd_Y_apply_351 h1 (by decide) (fun w2 h2 r2 => ?_)
  refine ja_aload_n C jd_Y_apply_352 1 rfl ?_
  refine jN_ga C jfl_newSides jd_Y_apply_353 h2 (fun _ _ => rfl) ?_
  refine ja_iconst C (nI 2) jd_Y_apply_356 (by decide) ?_
  refine ja_dup2_11 C jd_Y_apply_357 rfl rfl ?_
  refine jN_is C jd_Y_apply_358 h2 (by decide) ?_
  rw [show upd N1 1 (nI (jT_S (jSt_T σ a) 1 + 2 * k)) 2 = nI (jT_S (jSt_T σ a) 2) from hN1 2 (by decide)]
  refine ja_iconst C (nI 2) jd_Y_apply_359 (by decide) ?_
  refine ja_iload C jd_Y_apply_360 6 rfl ?_
  refine ja_imulN C jd_Y_apply_362 ?_
  refine ja_iaddN C jd_Y_apply_363 ?_
  refine jN_st C jd_Y_apply_364 h2 (by decide) (fun w3 h3 r3 => ?_)
  refine ja_iload C jd_Y_apply_365 0 rfl ?_
  refine ja_iconst C (nI 3) jd_Y_apply_367 (by decide) ?_
  have no : ∀ (hf : ¬ (jT_k (jSt_T σ a) = 3 ∧ 1 ≤ k ∧ k ≤ 16)), ja (jb_mk l (jb_rm 6 194 16 9728) 8 "MeasuredTensorsModel" D H0 (jt_all cI cJ cT cX) u) w3 sz 16 9728 393 [(7, .int (nI (jT_k (jSt_T σ a)))), (0, .ref y), (1, .int (nI 15)), (2, .int (nI a)), (3, .int b), (4, .int m), (5, .int (nI k)), (6, .int y1)] [] := by
    intro hf
    refine ja_bipush C (-5) jd_Y_apply_393 (by decide) ?_
    exact E jd_Y_apply_395 ⟨-5, σ, rfl, ⟨fun z => absurd z hf, fun _ => ⟨rfl, rfl⟩⟩, h3.jP (r1.tr (r2.tr r3))⟩
  refine ja_icmp_neN C 393 jd_Y_apply_368 (by decide) (by omega) (by decide) (fun c1 => no (fun z => c1 z.1)) (fun c1 => ?_)
  refine ja_iload C jd_Y_apply_371 6 rfl ?_
  refine ja_iconst C (nI 1) jd_Y_apply_373 (by decide) ?_
  refine ja_icmp_ltN C 393 jd_Y_apply_374 (by decide) (by omega) (by decide) (fun c2 => no (fun z => by omega)) (fun c2 => ?_)
  refine ja_iload C jd_Y_apply_377 6 rfl ?_
  refine ja_bipush C (nI 16) jd_Y_apply_379 (by decide) ?_
  refine ja_icmp_gtN C 393 jd_Y_apply_381 (by decide) (by omega) (by decide) (fun c3 => no (fun z => by omega)) (fun c3 => ?_)
  refine ja_aload_n C jd_Y_apply_384 1 rfl ?_
  refine ja_iload_n C jd_Y_apply_385 2 rfl ?_
  refine ja_iload_n C jd_Y_apply_386 3 rfl ?_
  refine jN_mV 8 C X jk_makeLike h3 rfl (jn_makeLike h3 hct hta oa1 rfl (M := va_up (va_up (jT_S (jSt_T σ a)) 1 (jT_S (jSt_T σ a) 1 + 2 * k)) 2 (jT_S (jSt_T σ a) 2 + 2 * k)) (fun j hj => ⟨((hN1.st 1 _).st 2 _) j (by omega), by unfold va_up; have := oa2 j (by omega); split <;> (try split) <;> omega, by unfold va_up; have := oa2 j (by omega); split <;> (try split) <;> omega⟩) (by decide)) jd_Y_apply_387 rfl rfl ⟨by decide, by decide⟩ (Nat.le_of_ble_eq_true rfl) (Nat.le_of_ble_eq_true rfl) (Nat.le_of_ble_eq_true rfl) (fun x4 σ4 w4 z4 hp4 => ?_)
  obtain ⟨ha4, hq4⟩ := hp4
  refine ja_goto C 395 jd_Y_apply_390 (by decide) ?_
  exact E jd_Y_apply_395 ⟨x4, σ4, rfl, ⟨fun _ => ha4, fun z => absurd ⟨c1, c2, c3⟩ z⟩, jP.from (r1.tr (r2.tr r3)) hq4⟩
theorem jn_apply_16 {a i : Nat} {b m x y1 : Int32} (h : jN cI cJ y A n n2 σ w th rk N) (hct : jSt_c σ < 512) (hta : a < jSt_c σ) (hb : -1 - b = nI i) (hti : i < jSt_i σ) : jb_M l jy_Y_apply jc_Y_apply 8 (some .int) 6 194 16 9728 D H0 (jt_all cI cJ cT cX) [.ref y, .int (nI 16), .int (nI a), .int b, .int m, .int x, .int y1] w sz
    (fun v w' sz' => ∃ (x : Int32) (σ' : jSt), v = some (.int x) ∧ jA_pk σ a i x σ' ∧ jP cI cJ y A w sz σ' th w' sz') := by
  refine jb_meth_i (by decide) (Nat.le_of_ble_eq_true rfl) (fun u C X E => ?_)
  have hn := h.cn
  obtain ⟨oa1, oa2, oa3, oa4, oa5, oa6, oa7, oa8, oa9, oa10⟩ := h.ok hta
  have hcp := jl_cells_pos (f := jT_S (jSt_T σ a)) (k := jT_k (jSt_T σ a)) (fun j hj => (oa2 j (by omega)).1)
  have a0 := oa2 0 (by decide)
  have a1 := oa2 1 (by decide)
  have a2 := oa2 2 (by decide)
  refine ja_aload_n C jd_Y_apply_0 0 rfl ?_
  refine ja_iload_n C jd_Y_apply_1 2 rfl ?_
  refine jN_vV 8 C X jk_shapeOf h rfl (jn_shapeOf h hta) jd_Y_apply_2 rfl rfl ⟨by decide, by decide⟩ (Nat.le_of_ble_eq_true rfl) (fun w1 hp1 => ?_)
  obtain ⟨N1, h1, hN1, r1⟩ := hp1
  refine ja_aload_n C jd_Y_apply_5 0 rfl ?_
  refine jN_ga C jfl_rank jd_Y_apply_6 h1 (fun _ _ => rfl) ?_
  refine ja_iload_n C jd_Y_apply_9 2 rfl ?_
  refine jN_ia C (by decide) (fun _ _ => rfl) jd_Y_apply_10 h1 hta (fun _ _ q => q.rank) ?_
  refine ja_istore C [(7, .int (nI (jT_k (jSt_T σ a)))), (0, .ref y), (1, .int (nI 16)), (2, .int (nI a)), (3, .int b), (4, .int m), (5, .int x), (6, .int y1)] jd_Y_apply_11 (Nat.le_of_ble_eq_true rfl) rfl ?_
  refine ja_iload_n C jd_Y_apply_13 2 rfl ?_
  refine ja_tableIn C 396 jd_Y_apply_14 (by decide) (by decide) rfl (by decide) ?_
  refine ja_aload_n C jd_Y_apply_396 1 rfl ?_
  refine jN_ga C jfl_newSides jd_Y_apply_397 h1 (fun _ _ => rfl) ?_
  refine ja_iconst C (nI 0) jd_Y_apply_400 (by decide) ?_
  refine ja_aload_n C jd_Y_apply_401 1 rfl ?_
  refine jN_ga C jfl_indexSide jd_Y_apply_402 h1 (fun _ _ => rfl) ?_
  refine ja_iconst C (-1) jd_Y_apply_405 (by decide) ?_
  refine ja_iload_n C jd_Y_apply_406 4 rfl ?_
  refine ja_isub C jd_Y_apply_407 ?_
  rw [hb]
  have oi := h.iok hti
  have hni := h.ci
  refine jN_ii C (by decide) (fun _ _ => rfl) jd_Y_apply_408 h1 hti (fun _ _ q _ => q) ?_
  refine jN_st C jd_Y_apply_409 h1 (by decide) (fun w2 h2 r2 => ?_)
  refine ja_iload C jd_Y_apply_410 0 rfl ?_
  refine ja_iconst C (nI 2) jd_Y_apply_412 (by decide) ?_
  have no : ∀ (hf : ¬ (jT_k (jSt_T σ a) = 2 ∧ (jSt_I σ i).1 = 1 ∧ (jSt_I σ i).2.2 ≤ jT_S (jSt_T σ a) 0)), ja (jb_mk l (jb_rm 6 194 16 9728) 8 "MeasuredTensorsModel" D H0 (jt_all cI cJ cT cX) u) w2 sz 16 9728 454 [(7, .int (nI (jT_k (jSt_T σ a)))), (0, .ref y), (1, .int (nI 16)), (2, .int (nI a)), (3, .int b), (4, .int m), (5, .int x), (6, .int y1)] [] := by
    intro hf
    refine ja_bipush C (-5) jd_Y_apply_454 (by decide) ?_
    exact E jd_Y_apply_456 ⟨-5, σ, rfl, ⟨fun z => absurd z hf, fun _ => ⟨rfl, rfl⟩⟩, h2.jP (r1.tr r2)⟩
  refine ja_icmp_neN C 454 jd_Y_apply_413 (by decide) (by omega) (by decide) (fun c1 => no (fun z => c1 z.1)) (fun c1 => ?_)
  refine ja_aload_n C jd_Y_apply_416 1 rfl ?_
  refine jN_ga C jfl_indexRank jd_Y_apply_417 h2 (fun _ _ => rfl) ?_
  refine ja_iconst C (-1) jd_Y_apply_420 (by decide) ?_
  refine ja_iload_n C jd_Y_apply_421 4 rfl ?_
  refine ja_isub C jd_Y_apply_422 ?_
  rw [hb]
  refine jN_ii C (by decide) (fun _ _ => rfl) jd_Y_apply_423 h2 hti (fun _ q _ _ => q) ?_
  refine ja_iconst C (nI 1) jd_Y_apply_424 (by decide) ?_
  refine ja_icmp_neN C 454 jd_Y_apply_425 (by decide) (by omega) (by decide) (fun c2 => no (fun z => c2 z.2.1)) (fun c2 => ?_)
  refine ja_aload_n C jd_Y_apply_428 1 rfl ?_
  refine jN_ga C jfl_below jd_Y_apply_429 h2 (fun _ _ => rfl) ?_
  refine ja_iconst C (-1) jd_Y_apply_432 (by decide) ?_
  refine ja_iload_n C jd_Y_apply_433 4 rfl ?_
  refine ja_isub C jd_Y_apply_434 ?_
  rw [hb]
  refine jN_ii C (by decide) (fun _ _ => rfl) jd_Y_apply_435 h2 hti (fun _ _ _ q => q) ?_
  refine ja_aload_n C jd_Y_apply_436 1 rfl ?_
  refine ja_iload_n C jd_Y_apply_437 3 rfl ?_
  refine ja_iconst C (nI 0) jd_Y_apply_438 (by decide) ?_
  refine jN_pV 8 C X jk_side h2 rfl (jn_side h2 hta (by decide)) jd_Y_apply_439 rfl rfl ⟨by decide, by decide⟩ (Nat.le_of_ble_eq_true rfl) ?_
  refine ja_icmp_gtN C 454 jd_Y_apply_442 (by decide) (by omega) (by omega) (fun c3 => no (fun z => by omega)) (fun c3 => ?_)
  have oi2 := oi.2.1 c2
  refine ja_aload_n C jd_Y_apply_445 1 rfl ?_
  refine ja_iload_n C jd_Y_apply_446 2 rfl ?_
  refine ja_iload_n C jd_Y_apply_447 3 rfl ?_
  refine jN_mV 8 C X jk_makeLike h2 rfl (jn_makeLike h2 hct hta oa1 rfl (M := va_up (jT_S (jSt_T σ a)) 0 (jSt_I σ i).2.1) (fun k hk => ⟨(hN1.st 0 _) k (by omega), by unfold va_up; have := oa2 k (by omega); split <;> omega, by unfold va_up; have := oa2 k (by omega); split <;> omega⟩) (by decide)) jd_Y_apply_448 rfl rfl ⟨by decide, by decide⟩ (Nat.le_of_ble_eq_true rfl) (Nat.le_of_ble_eq_true rfl) (Nat.le_of_ble_eq_true rfl) (fun x3 σ3 w3 z3 hp3 => ?_)
  obtain ⟨ha3, hq3⟩ := hp3
  refine ja_goto C 456 jd_Y_apply_451 (by decide) ?_
  exact E jd_Y_apply_456 ⟨x3, σ3, rfl, ⟨fun _ => ha3, fun z => absurd ⟨c1, c2, c3⟩ z⟩, jP.from (r1.tr r2) hq3⟩
theorem jn_apply_17 {a i : Nat} {b m x y1 : Int32} (h : jN cI cJ y A n n2 σ w th rk N) (hct : jSt_c σ < 512) (hta : a < jSt_c σ) (hb : -1 - b = nI i) (hti : i < jSt_i σ) : jb_M l jy_Y_apply jc_Y_apply 8 (some .int) 6 194 16 9728 D H0 (jt_all cI cJ cT cX) [.ref y, .int (nI 17), .int (nI a), .int b, .int m, .int x, .int y1] w sz
    (fun v w' sz' => ∃ (x : Int32) (σ' : jSt), v = some (.int x) ∧ jA_hg σ a i x σ' ∧ jP cI cJ y A w sz σ' th w' sz') := by
  refine jb_meth_i (by decide) (Nat.le_of_ble_eq_true rfl) (fun u C X E => ?_)
  have hn := h.cn
  obtain ⟨oa1, oa2, oa3, oa4, oa5, oa6, oa7, oa8, oa9, oa10⟩ := h.ok hta
  have hcp := jl_cells_pos (f := jT_S (jSt_T σ a)) (k := jT_k (jSt_T σ a)) (fun j hj => (oa2 j (by omega)).1)
  have a0 := oa2 0 (by decide)
  have a1 := oa2 1 (by decide)
  have a2 := oa2 2 (by decide)
  refine ja_aload_n C jd_Y_apply_0 0 rfl ?_
  refine ja_iload_n C jd_Y_apply_1 2 rfl ?_
  refine jN_vV 8 C X jk_shapeOf h rfl (jn_shapeOf h hta) jd_Y_apply_2 rfl rfl ⟨by decide, by decide⟩ (Nat.le_of_ble_eq_true rfl) (fun w1 hp1 => ?_)
  obtain ⟨N1, h1, hN1, r1⟩ := hp1
  refine ja_aload_n C jd_Y_apply_5 0 rfl ?_
  refine jN_ga C jfl_rank jd_Y_apply_6 h1 (fun _ _ => rfl) ?_
  refine ja_iload_n C jd_Y_apply_9 2 rfl ?_
  refine jN_ia C (by decide) (fun _ _ => rfl) jd_Y_apply_10 h1 hta (fun _ _ q => q.rank) ?_
  refine ja_istore C [(7, .int (nI (jT_k (jSt_T σ a)))), (0, .ref y), (1, .int (nI 17)), (2, .int (nI a)), (3, .int b), (4, .int m), (5, .int x), (6, .int y1)] jd_Y_apply_11 (Nat.le_of_ble_eq_true rfl) rfl ?_
  refine ja_iload_n C jd_Y_apply_13 2 rfl ?_
  refine ja_tableIn C 457 jd_Y_apply_14 (by decide) (by decide) rfl (by decide) ?_
  refine ja_aload_n C jd_Y_apply_457 1 rfl ?_
  refine ja_iconst C (nI 0) jd_Y_apply_458 (by decide) ?_
  refine jN_p5 C jd_Y_apply_459 h1 (fun w2 h2 r2 => ?_)
  refine ja_iload C jd_Y_apply_462 0 rfl ?_
  refine ja_iconst C (nI 1) jd_Y_apply_464 (by decide) ?_
  have oi := h.iok hti
  have hni := h.ci
  have hlg := jl_log_le (m := jl_cells (jT_S (jSt_T σ a)) (jT_k (jSt_T σ a))) (by omega)
  have no : ∀ (hf : ¬ (jT_k (jSt_T σ a) = 1 ∧ (jSt_I σ i).1 = 0 ∧ (jSt_I σ i).2.2 ≤ jT_S (jSt_T σ a) 0)), ja (jb_mk l (jb_rm 6 194 16 9728) 8 "MeasuredTensorsModel" D H0 (jt_all cI cJ cT cX) u) w2 sz 16 9728 545 [(7, .int (nI (jT_k (jSt_T σ a)))), (0, .ref y), (1, .int (nI 17)), (2, .int (nI a)), (3, .int b), (4, .int m), (5, .int x), (6, .int y1)] [] := by
    intro hf
    refine ja_bipush C (-5) jd_Y_apply_545 (by decide) ?_
    exact E jd_Y_apply_547 ⟨-5, σ, rfl, ⟨fun z => absurd z hf, fun _ => ⟨rfl, rfl⟩⟩, h2.jP (r1.tr r2)⟩
  refine ja_icmp_neN C 545 jd_Y_apply_465 (by decide) (by omega) (by decide) (fun c1 => no (fun z => c1 z.1)) (fun c1 => ?_)
  refine ja_aload_n C jd_Y_apply_468 1 rfl ?_
  refine jN_ga C jfl_indexRank jd_Y_apply_469 h2 (fun _ _ => rfl) ?_
  refine ja_iconst C (-1) jd_Y_apply_472 (by decide) ?_
  refine ja_iload_n C jd_Y_apply_473 4 rfl ?_
  refine ja_isub C jd_Y_apply_474 ?_
  rw [hb]
  refine jN_ii C (by decide) (fun _ _ => rfl) jd_Y_apply_475 h2 hti (fun _ q _ _ => q) ?_
  refine ja_if_neN C 545 jd_Y_apply_476 (by decide) (by omega) (fun c2 => no (fun z => by omega)) (fun c2 => ?_)
  refine ja_aload_n C jd_Y_apply_479 1 rfl ?_
  refine jN_ga C jfl_below jd_Y_apply_480 h2 (fun _ _ => rfl) ?_
  refine ja_iconst C (-1) jd_Y_apply_483 (by decide) ?_
  refine ja_iload_n C jd_Y_apply_484 4 rfl ?_
  refine ja_isub C jd_Y_apply_485 ?_
  rw [hb]
  refine jN_ii C (by decide) (fun _ _ => rfl) jd_Y_apply_486 h2 hti (fun _ _ _ q => q) ?_
  refine ja_aload_n C jd_Y_apply_487 1 rfl ?_
  refine ja_iload_n C jd_Y_apply_488 3 rfl ?_
  refine ja_iconst C (nI 0) jd_Y_apply_489 (by decide) ?_
  refine jN_pV 8 C X jk_side h2 rfl (jn_side h2 hta (by decide)) jd_Y_apply_490 rfl rfl ⟨by decide, by decide⟩ (Nat.le_of_ble_eq_true rfl) ?_
  refine ja_icmp_gtN C 545 jd_Y_apply_493 (by decide) (by omega) (by omega) (fun c3 => no (fun z => by omega)) (fun c3 => ?_)
  refine ja_aload_n C jd_Y_apply_496 1 rfl ?_
  refine ja_iload_n C jd_Y_apply_497 2 rfl ?_
  refine ja_iload_n C jd_Y_apply_498 3 rfl ?_
  refine ja_iconst C (-1) jd_Y_apply_499 (by decide) ?_
  refine ja_aload_n C jd_Y_apply_500 1 rfl ?_
  refine jN_ga C jfl_range jd_Y_apply_501 h2 (fun _ _ => rfl) ?_
  refine ja_iload_n C jd_Y_apply_504 3 rfl ?_
  refine jN_ia C (by decide) (fun _ _ => rfl) jd_Y_apply_505 h2 hta (fun _ _ q => q.range) ?_
  refine ja_iconst C (nI 3) jd_Y_apply_506 (by decide) ?_
  refine ja_iaddN C jd_Y_apply_507 ?_
  refine ja_aload_n C jd_Y_apply_508 1 rfl ?_
  refine jN_ga C jfl_cells jd_Y_apply_509 h2 (fun _ _ => rfl) ?_
  refine ja_iload_n C jd_Y_apply_512 3 rfl ?_
  refine jN_ia C (by decide) (fun _ _ => rfl) jd_Y_apply_513 h2 hta (fun _ _ q => q.cells) ?_
  refine ja_i2lN C jd_Y_apply_514 (by omega) ?_
  refine jb_pS 8 C X jk_log (jy_log (by omega)) jd_Y_apply_515 rfl rfl ⟨by decide, by decide⟩ (Nat.le_of_ble_eq_true rfl) ?_
  refine ja_iaddN C jd_Y_apply_518 ?_
  refine ja_i2lN C jd_Y_apply_519 (by omega) ?_
  refine ja_aload_n C jd_Y_apply_520 1 rfl ?_
  refine jN_ga C jfl_depth jd_Y_apply_521 h2 (fun _ _ => rfl) ?_
  refine ja_iload_n C jd_Y_apply_524 3 rfl ?_
  refine jN_ia C (by decide) (fun _ _ => rfl) jd_Y_apply_525 h2 hta (fun _ _ q => q.depth) ?_
  refine ja_i2lN C jd_Y_apply_526 (by omega) ?_
  refine ja_aload_n C jd_Y_apply_527 1 rfl ?_
  refine jN_ga C jfl_odd jd_Y_apply_528 h2 (fun _ _ => rfl) ?_
  refine ja_iload_n C jd_Y_apply_531 3 rfl ?_
  refine jN_la C jd_Y_apply_532 h2 hta ?_
  refine ja_aload_n C jd_Y_apply_533 1 rfl ?_
  refine jN_ga C jfl_cells jd_Y_apply_534 h2 (fun _ _ => rfl) ?_
  refine ja_iload_n C jd_Y_apply_537 3 rfl ?_
  refine jN_ia C (by decide) (fun _ _ => rfl) jd_Y_apply_538 h2 hta (fun _ _ q => q.cells) ?_
  refine jN_mV 8 C X jk_make h2 rfl (jn_make h2 hct (by omega) (by omega) (by omega) ⟨by omega, by omega⟩ (by decide) rfl (M := fun _ => 1) (fun k hk => absurd hk (Nat.not_lt_zero k)) (by decide)) jd_Y_apply_539 rfl rfl ⟨by decide, by decide⟩ (Nat.le_of_ble_eq_true rfl) (Nat.le_of_ble_eq_true rfl) (Nat.le_of_ble_eq_true rfl) (fun x3 σ3 w3 z3 hp3 => ?_)
  obtain ⟨ha3, hq3⟩ := hp3
  refine ja_goto C 547 jd_Y_apply_542 (by decide) ?_
  exact E jd_Y_apply_547 ⟨x3, σ3, rfl, ⟨fun _ => ha3, fun z => absurd ⟨c1, c2, c3⟩ z⟩, jP.from (r1.tr r2) hq3⟩
theorem jn_apply_18 {a b : Nat} {m x y1 : Int32} (h : jN cI cJ y A n n2 σ w th rk N) (hct : jSt_c σ < 512) (hta : a < jSt_c σ) (htb : b < jSt_c σ) : jb_M l jy_Y_apply jc_Y_apply 8 (some .int) 6 194 16 9728 D H0 (jt_all cI cJ cT cX) [.ref y, .int (nI 18), .int (nI a), .int (nI b), .int m, .int x, .int y1] w sz
    (fun v w' sz' => ∃ (x : Int32) (σ' : jSt), v = some (.int x) ∧ jA_gap σ a b x σ' ∧ jP cI cJ y A w sz σ' th w' sz') := by
  refine jb_meth_i (by decide) (Nat.le_of_ble_eq_true rfl) (fun u C X E => ?_)
  have hn := h.cn
  obtain ⟨oa1, oa2, oa3, oa4, oa5, oa6, oa7, oa8, oa9, oa10⟩ := h.ok hta
  have hcp := jl_cells_pos (f := jT_S (jSt_T σ a)) (k := jT_k (jSt_T σ a)) (fun j hj => (oa2 j (by omega)).1)
  have a0 := oa2 0 (by decide)
  have a1 := oa2 1 (by decide)
  have a2 := oa2 2 (by decide)
  refine ja_aload_n C jd_Y_apply_0 0 rfl ?_
  refine ja_iload_n C jd_Y_apply_1 2 rfl ?_
  refine jN_vV 8 C X jk_shapeOf h rfl (jn_shapeOf h hta) jd_Y_apply_2 rfl rfl ⟨by decide, by decide⟩ (Nat.le_of_ble_eq_true rfl) (fun w1 hp1 => ?_)
  obtain ⟨N1, h1, hN1, r1⟩ := hp1
  refine ja_aload_n C jd_Y_apply_5 0 rfl ?_
  refine jN_ga C jfl_rank jd_Y_apply_6 h1 (fun _ _ => rfl) ?_
  refine ja_iload_n C jd_Y_apply_9 2 rfl ?_
  refine jN_ia C (by decide) (fun _ _ => rfl) jd_Y_apply_10 h1 hta (fun _ _ q => q.rank) ?_
  refine ja_istore C [(7, .int (nI (jT_k (jSt_T σ a)))), (0, .ref y), (1, .int (nI 18)), (2, .int (nI a)), (3, .int (nI b)), (4, .int m), (5, .int x), (6, .int y1)] jd_Y_apply_11 (Nat.le_of_ble_eq_true rfl) rfl ?_
  refine ja_iload_n C jd_Y_apply_13 2 rfl ?_
  refine ja_tableIn C 548 jd_Y_apply_14 (by decide) (by decide) rfl (by decide) ?_
  refine ja_aload_n C jd_Y_apply_548 1 rfl ?_
  refine ja_iload_n C jd_Y_apply_549 3 rfl ?_
  refine ja_iload_n C jd_Y_apply_550 4 rfl ?_
  refine jN_mV 8 C X jk_gap h1 rfl (jn_gap h1 hct hta htb) jd_Y_apply_551 rfl rfl ⟨by decide, by decide⟩ (Nat.le_of_ble_eq_true rfl) (Nat.le_of_ble_eq_true rfl) (Nat.le_of_ble_eq_true rfl) (fun x2 σ2 w2 z2 hp2 => ?_)
  obtain ⟨ha2, hq2⟩ := hp2
  exact E jd_Y_apply_554 ⟨x2, σ2, rfl, ha2, jP.from r1 hq2⟩
end Y43
