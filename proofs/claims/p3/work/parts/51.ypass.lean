/-! THE REFERENCE: passOn, by what the tensor is -/
def jl_op (o : Nat) : Prop := o ≤ 18 ∨ (30 ≤ o ∧ o ≤ 32) ∨ (40 ≤ o ∧ o ≤ 43) ∨ o = 50 ∨ o = 51
def jl_two (o : Nat) : Prop := o = 8 ∨ o = 14 ∨ o = 18 ∨ (40 ≤ o ∧ o ≤ 43)
/-- a tensor is made of earlier ones -/
def jT_wf (t : Nat) (x : jT) : Prop := ∃ o : Nat, jT_op x = nI o ∧ jl_op o ∧ (¬ (30 ≤ o ∧ o ≤ 32) → ∃ a, a < t ∧ jT_a x = nI a) ∧ (jl_two o → ∃ b, b < t ∧ jT_b x = nI b)
def jSt_wf (σ : jSt) : Prop := ∀ t, t < jSt_c σ → jT_wf t (jSt_T σ t)
theorem jl_upB {c K t : Nat} {U : Nat → Nat} (h : ∀ i, i < c → U i ≤ K) (ht : t < c) : ∀ i, i < c → va_up U t (U t + 1) i ≤ K + 1 := fun i hi => by
  by_cases e : i = t
  · rw [e, va_up_self]; have := h t ht; omega
  · rw [va_up_ne _ _ e]; have := h i hi; omega
theorem jl_upP {s t : Nat} {U : Nat → Nat} (h : 0 < U s) : 0 < va_up U t (U t + 1) s := by
  by_cases e : s = t
  · rw [e, va_up_self]; omega
  · rw [va_up_ne _ _ e]; exact h
/-- all four sides give the cells -/
theorem jT_ok.all {x : jT} (h : jT_ok x) : jT_S x 0 * (jT_S x 1 * jT_S x 2 * jT_S x 3) ≤ 65536 := by
  obtain ⟨o1, o2, o3, o4, -⟩ := h
  rw [← jl_cells_4]
  have ex : ∀ f, jT_k x + f ≤ 4 → jl_cells (jT_S x) (jT_k x + f) = jl_cells (jT_S x) (jT_k x) := by
    intro f
    induction f with
    | zero => intro _; rfl
    | succ f ih =>
      intro hf
      rw [show jT_k x + (f + 1) = (jT_k x + f) + 1 by omega, jl_cells, ih (by omega), o3 _ (by omega), Nat.mul_one]
  have := ex (4 - jT_k x) (by omega)
  rw [show jT_k x + (4 - jT_k x) = 4 by omega] at this
  rw [this]
  exact o4
theorem jl_m3 {a b c d : Nat} (h : a * (b * c * d) ≤ 65536) (hb : 1 ≤ b) : a * c * d ≤ 65536 := by
  refine Nat.le_trans ?_ h
  rw [Nat.mul_assoc, Nat.mul_assoc b c d]
  exact Nat.mul_le_mul (Nat.le_refl a) (Nat.le_mul_of_pos_left _ hb)
theorem jl_m2 {a b c d : Nat} (h : a * (b * c * d) ≤ 65536) (ha : 1 ≤ a) (hd : 1 ≤ d) : b * c ≤ 65536 := by
  refine Nat.le_trans ?_ h
  exact Nat.le_trans (Nat.le_mul_of_pos_right _ hd) (Nat.le_mul_of_pos_left _ ha)
/-- behind a passing on -/
def jPs (cI cJ : ClassId) (y : Nat) (A : Nat → Nat) (n n2 : Nat) (σ : jSt) (w : jb_W) (th rk : Int32) (N : Nat → Int32) (B : Nat) (w' : jb_W) : Prop := ∃ U' Qv', jV cI cJ y A n n2 σ w' th rk N U' Qv' ∧ jQ σ U' Qv' ∧ (∀ t, t < jSt_c σ → U' t ≤ B) ∧ jR y A w w'
theorem jN_u10 {l : Launch} {R : Room} {nL : Nat} {D : va_G} {H0 : Heap} {cI cJ cT cX : ClassId} {u : jb_U} {cc : ByteArray} {w : jb_W} {sz kc ks pc : Nat} {lv : List (Nat × Value)} {rest : List Value} {y : Nat} {A : Nat → Nat} {n n2 : Nat} {σ : jSt} {th rk : Int32} {N : Nat → Int32} (C : ja_C (jb_mk l R nL "MeasuredTensorsModel" D H0 (jt_all cI cJ cT cX) u) cc) {k t : Nat} {v : Int32} (hk : k = 10 ∨ k = 11) (hd : decode cc pc = .ok (.iaload, 1)) (h : jN cI cJ y A n n2 σ w th rk N) (ht : t < jSt_c σ) (hv : ∀ V VL, jT_row V VL t (jSt_T σ t) → V k t = v) (kk : ja (jb_mk l R nL "MeasuredTensorsModel" D H0 (jt_all cI cJ cT cX) u) w sz kc ks (pc + 1) lv (.int v :: rest)) : ja (jb_mk l R nL "MeasuredTensorsModel" D H0 (jt_all cI cJ cT cX) u) w sz kc ks pc lv (.int (nI t) :: .ref (A k) :: rest) := by
  rcases hk with e | e
  · subst e; exact jN_ia C (by decide) (fun _ _ => rfl) hd h ht hv kk
  · subst e; exact jN_ia C (by decide) (fun _ _ => rfl) hd h ht hv kk
theorem jk_pass : jb_KV "MeasuredTensorsModel" 221 jy_Y_pass jc_Y_pass 8 none 6 := ⟨jw_in (by decide +kernel) (by decide +kernel), jw_in (by decide +kernel) (by decide +kernel), jw_in (by decide +kernel) (by decide +kernel), jw_in (by decide +kernel) (by decide +kernel), jw_in (by decide +kernel) (by decide +kernel), by decide +kernel⟩
section Y51
variable {l : Launch} {D : va_G} {H0 : Heap} {cI cJ cT cX : ClassId} {w : jb_W} {sz : Nat}
variable {y : Nat} {A : Nat → Nat} {n n2 : Nat} {σ : jSt} {th rk : Int32} {N : Nat → Int32}
variable {U Qv : Nat → Nat}
theorem jv_passOn_0 {s a : Nat} (h : jV cI cJ y A n n2 σ w th rk N U Qv) (hs : s < jSt_c σ) (hus : 0 < U s) (hQ : jQ σ U Qv) {K : Nat} (hU : ∀ i, i < jSt_c σ → U i ≤ K) (hK : K < 2 ^ 20) (ho : jT_op (jSt_T σ s) = nI 0) (ha : jT_a (jSt_T σ s) = nI a) (hta : a < jSt_c σ) : jb_M l jy_Y_passOn jc_Y_passOn 6 none 4 115 0 0 D H0 (jt_all cI cJ cT cX) [.ref y, .int (nI s)] w sz
    (fun v w' sz' => v = none ∧ jPs cI cJ y A n n2 σ w th rk N (K + 2) w' ∧ sz' = sz) := by
  refine jb_meth_v (by decide) (Nat.le_of_ble_eq_true rfl) (fun u C X hnm E => ?_)
  have hn := h.toN.cn
  obtain ⟨os1, os2, os3, os4, os5, os6, os7, os8, os9, os10⟩ := h.toN.ok hs
  have cs1 := jl_cells_pos (f := jT_S (jSt_T σ s)) (k := jT_k (jSt_T σ s)) (fun j hj => (os2 j (by omega)).1)
  have s0 := os2 0 (by decide)
  have s1 := os2 1 (by decide)
  have s2 := os2 2 (by decide)
  obtain ⟨oa1, oa2, oa3, oa4, oa5, oa6, oa7, oa8, oa9, oa10⟩ := h.toN.ok hta
  have ca1 := jl_cells_pos (f := jT_S (jSt_T σ a)) (k := jT_k (jSt_T σ a)) (fun j hj => (oa2 j (by omega)).1)
  refine ja_aload_n C jd_Y_passOn_0 0 rfl ?_
  refine jN_ga C jfl_one jd_Y_passOn_1 h.toN (fun _ _ => rfl) ?_
  refine ja_iload_n C jd_Y_passOn_4 1 rfl ?_
  refine jN_ia C (by decide) (fun _ _ => rfl) jd_Y_passOn_5 h.toN hs (fun _ _ q => q.one) ?_
  rw [ha]
  refine ja_istore_n C [(2, .int (nI a)), (0, .ref y), (1, .int (nI s))] jd_Y_passOn_6 rfl (Nat.le_of_ble_eq_true rfl) rfl ?_
  refine ja_aload_n C jd_Y_passOn_7 1 rfl ?_
  refine jN_ga C jfl_two jd_Y_passOn_8 h.toN (fun _ _ => rfl) ?_
  refine ja_iload_n C jd_Y_passOn_11 2 rfl ?_
  refine jN_ia C (by decide) (fun _ _ => rfl) jd_Y_passOn_12 h.toN hs (fun _ _ q => q.two) ?_
  refine ja_istore_n C [(3, .int (jT_b (jSt_T σ s))), (2, .int (nI a)), (0, .ref y), (1, .int (nI s))] jd_Y_passOn_13 rfl (Nat.le_of_ble_eq_true rfl) rfl ?_
  refine ja_aload_n C jd_Y_passOn_14 2 rfl ?_
  refine jN_ga C jfl_op jd_Y_passOn_15 h.toN (fun _ _ => rfl) ?_
  refine ja_iload_n C jd_Y_passOn_18 3 rfl ?_
  refine jN_ia C (by decide) (fun _ _ => rfl) jd_Y_passOn_19 h.toN hs (fun _ _ q => q.op) ?_
  rw [ho]
  refine ja_tableOut C 753 jd_Y_passOn_20 (by decide) (by decide) ?_
  refine ja_aload_n C jd_Y_passOn_753 2 rfl ?_
  refine ja_iload_n C jd_Y_passOn_754 3 rfl ?_
  refine ja_iload_n C jd_Y_passOn_755 1 rfl ?_
  refine ja_iconst C (nI 0) jd_Y_passOn_756 (by decide) ?_
  refine ja_iconst C (nI 0) jd_Y_passOn_757 (by decide) ?_
  refine ja_lconst C (lN 1) jd_Y_passOn_758 (by decide) ?_
  refine ja_iconst C (nI 1) jd_Y_passOn_759 (by decide) ?_
  refine jN_vV 8 C X jk_pass h.toN rfl (jv_pass h hs hta (by have := hU _ hta; omega) (by omega) (by omega) hQ hus) jd_Y_passOn_760 rfl rfl ⟨by decide, by decide⟩ (Nat.le_of_ble_eq_true rfl) (fun w1 hp1 => ?_)
  obtain ⟨Q1, u1, hQ1, r1⟩ := hp1
  have hU1 := jl_upB hU hta
  have hs1 := jl_upP (t := a) hus
  exact E jd_Y_passOn_763 ⟨rfl, ⟨_, _, u1, hQ1, fun t ht => by have := hU1 t ht; omega, r1⟩, rfl⟩
theorem jv_passOn_1 {s a : Nat} (h : jV cI cJ y A n n2 σ w th rk N U Qv) (hs : s < jSt_c σ) (hus : 0 < U s) (hQ : jQ σ U Qv) {K : Nat} (hU : ∀ i, i < jSt_c σ → U i ≤ K) (hK : K < 2 ^ 20) (ho : jT_op (jSt_T σ s) = nI 1) (ha : jT_a (jSt_T σ s) = nI a) (hta : a < jSt_c σ) : jb_M l jy_Y_passOn jc_Y_passOn 6 none 4 115 0 0 D H0 (jt_all cI cJ cT cX) [.ref y, .int (nI s)] w sz
    (fun v w' sz' => v = none ∧ jPs cI cJ y A n n2 σ w th rk N (K + 2) w' ∧ sz' = sz) := by
  refine jb_meth_v (by decide) (Nat.le_of_ble_eq_true rfl) (fun u C X hnm E => ?_)
  have hn := h.toN.cn
  obtain ⟨os1, os2, os3, os4, os5, os6, os7, os8, os9, os10⟩ := h.toN.ok hs
  have cs1 := jl_cells_pos (f := jT_S (jSt_T σ s)) (k := jT_k (jSt_T σ s)) (fun j hj => (os2 j (by omega)).1)
  have s0 := os2 0 (by decide)
  have s1 := os2 1 (by decide)
  have s2 := os2 2 (by decide)
  obtain ⟨oa1, oa2, oa3, oa4, oa5, oa6, oa7, oa8, oa9, oa10⟩ := h.toN.ok hta
  have ca1 := jl_cells_pos (f := jT_S (jSt_T σ a)) (k := jT_k (jSt_T σ a)) (fun j hj => (oa2 j (by omega)).1)
  refine ja_aload_n C jd_Y_passOn_0 0 rfl ?_
  refine jN_ga C jfl_one jd_Y_passOn_1 h.toN (fun _ _ => rfl) ?_
  refine ja_iload_n C jd_Y_passOn_4 1 rfl ?_
  refine jN_ia C (by decide) (fun _ _ => rfl) jd_Y_passOn_5 h.toN hs (fun _ _ q => q.one) ?_
  rw [ha]
  refine ja_istore_n C [(2, .int (nI a)), (0, .ref y), (1, .int (nI s))] jd_Y_passOn_6 rfl (Nat.le_of_ble_eq_true rfl) rfl ?_
  refine ja_aload_n C jd_Y_passOn_7 1 rfl ?_
  refine jN_ga C jfl_two jd_Y_passOn_8 h.toN (fun _ _ => rfl) ?_
  refine ja_iload_n C jd_Y_passOn_11 2 rfl ?_
  refine jN_ia C (by decide) (fun _ _ => rfl) jd_Y_passOn_12 h.toN hs (fun _ _ q => q.two) ?_
  refine ja_istore_n C [(3, .int (jT_b (jSt_T σ s))), (2, .int (nI a)), (0, .ref y), (1, .int (nI s))] jd_Y_passOn_13 rfl (Nat.le_of_ble_eq_true rfl) rfl ?_
  refine ja_aload_n C jd_Y_passOn_14 2 rfl ?_
  refine jN_ga C jfl_op jd_Y_passOn_15 h.toN (fun _ _ => rfl) ?_
  refine ja_iload_n C jd_Y_passOn_18 3 rfl ?_
  refine jN_ia C (by decide) (fun _ _ => rfl) jd_Y_passOn_19 h.toN hs (fun _ _ q => q.op) ?_
  rw [ho]
  refine ja_tableOut C 753 jd_Y_passOn_20 (by decide) (by decide) ?_
  refine ja_aload_n C jd_Y_passOn_753 2 rfl ?_
  refine ja_iload_n C jd_Y_passOn_754 3 rfl ?_
  refine ja_iload_n C jd_Y_passOn_755 1 rfl ?_
  refine ja_iconst C (nI 0) jd_Y_passOn_756 (by decide) ?_
  refine ja_iconst C (nI 0) jd_Y_passOn_757 (by decide) ?_
  refine ja_lconst C (lN 1) jd_Y_passOn_758 (by decide) ?_
  refine ja_iconst C (nI 1) jd_Y_passOn_759 (by decide) ?_
  refine jN_vV 8 C X jk_pass h.toN rfl (jv_pass h hs hta (by have := hU _ hta; omega) (by omega) (by omega) hQ hus) jd_Y_passOn_760 rfl rfl ⟨by decide, by decide⟩ (Nat.le_of_ble_eq_true rfl) (fun w1 hp1 => ?_)
  obtain ⟨Q1, u1, hQ1, r1⟩ := hp1
  have hU1 := jl_upB hU hta
  have hs1 := jl_upP (t := a) hus
  exact E jd_Y_passOn_763 ⟨rfl, ⟨_, _, u1, hQ1, fun t ht => by have := hU1 t ht; omega, r1⟩, rfl⟩
theorem jv_passOn_2 {s a : Nat} (h : jV cI cJ y A n n2 σ w th rk N U Qv) (hs : s < jSt_c σ) (hus : 0 < U s) (hQ : jQ σ U Qv) {K : Nat} (hU : ∀ i, i < jSt_c σ → U i ≤ K) (hK : K < 2 ^ 20) (ho : jT_op (jSt_T σ s) = nI 2) (ha : jT_a (jSt_T σ s) = nI a) (hta : a < jSt_c σ) : jb_M l jy_Y_passOn jc_Y_passOn 6 none 4 115 0 0 D H0 (jt_all cI cJ cT cX) [.ref y, .int (nI s)] w sz
    (fun v w' sz' => v = none ∧ jPs cI cJ y A n n2 σ w th rk N (K + 2) w' ∧ sz' = sz) := by
  refine jb_meth_v (by decide) (Nat.le_of_ble_eq_true rfl) (fun u C X hnm E => ?_)
  have hn := h.toN.cn
  obtain ⟨os1, os2, os3, os4, os5, os6, os7, os8, os9, os10⟩ := h.toN.ok hs
  have cs1 := jl_cells_pos (f := jT_S (jSt_T σ s)) (k := jT_k (jSt_T σ s)) (fun j hj => (os2 j (by omega)).1)
  have s0 := os2 0 (by decide)
  have s1 := os2 1 (by decide)
  have s2 := os2 2 (by decide)
  obtain ⟨oa1, oa2, oa3, oa4, oa5, oa6, oa7, oa8, oa9, oa10⟩ := h.toN.ok hta
  have ca1 := jl_cells_pos (f := jT_S (jSt_T σ a)) (k := jT_k (jSt_T σ a)) (fun j hj => (oa2 j (by omega)).1)
  refine ja_aload_n C jd_Y_passOn_0 0 rfl ?_
  refine jN_ga C jfl_one jd_Y_passOn_1 h.toN (fun _ _ => rfl) ?_
  refine ja_iload_n C jd_Y_passOn_4 1 rfl ?_
  refine jN_ia C (by decide) (fun _ _ => rfl) jd_Y_passOn_5 h.toN hs (fun _ _ q => q.one) ?_
  rw [ha]
  refine ja_istore_n C [(2, .int (nI a)), (0, .ref y), (1, .int (nI s))] jd_Y_passOn_6 rfl (Nat.le_of_ble_eq_true rfl) rfl ?_
  refine ja_aload_n C jd_Y_passOn_7 1 rfl ?_
  refine jN_ga C jfl_two jd_Y_passOn_8 h.toN (fun _ _ => rfl) ?_
  refine ja_iload_n C jd_Y_passOn_11 2 rfl ?_
  refine jN_ia C (by decide) (fun _ _ => rfl) jd_Y_passOn_12 h.toN hs (fun _ _ q => q.two) ?_
  refine ja_istore_n C [(3, .int (jT_b (jSt_T σ s))), (2, .int (nI a)), (0, .ref y), (1, .int (nI s))] jd_Y_passOn_13 rfl (Nat.le_of_ble_eq_true rfl) rfl ?_
  refine ja_aload_n C jd_Y_passOn_14 2 rfl ?_
  refine jN_ga C jfl_op jd_Y_passOn_15 h.toN (fun _ _ => rfl) ?_
  refine ja_iload_n C jd_Y_passOn_18 3 rfl ?_
  refine jN_ia C (by decide) (fun _ _ => rfl) jd_Y_passOn_19 h.toN hs (fun _ _ q => q.op) ?_
  rw [ho]
  refine ja_tableIn C 514 jd_Y_passOn_20 (by decide) (by decide) rfl (by decide) ?_
  refine ja_aload_n C jd_Y_passOn_514 2 rfl ?_
  refine ja_iload_n C jd_Y_passOn_515 3 rfl ?_
  refine ja_iload_n C jd_Y_passOn_516 1 rfl ?_
  refine ja_aload_n C jd_Y_passOn_517 2 rfl ?_
  refine jN_ga C jfl_range jd_Y_passOn_518 h.toN (fun _ _ => rfl) ?_
  refine ja_iload_n C jd_Y_passOn_521 1 rfl ?_
  refine jN_ia C (by decide) (fun _ _ => rfl) jd_Y_passOn_522 h.toN hta (fun _ _ q => q.range) ?_
  refine ja_iconst C (nI 1) jd_Y_passOn_523 (by decide) ?_
  refine ja_iaddN C jd_Y_passOn_524 ?_
  refine ja_aload_n C jd_Y_passOn_525 2 rfl ?_
  refine jN_ga C jfl_depth jd_Y_passOn_526 h.toN (fun _ _ => rfl) ?_
  refine ja_iload_n C jd_Y_passOn_529 1 rfl ?_
  refine jN_ia C (by decide) (fun _ _ => rfl) jd_Y_passOn_530 h.toN hta (fun _ _ q => q.depth) ?_
  refine ja_aload_n C jd_Y_passOn_531 2 rfl ?_
  refine jN_ga C jfl_odd jd_Y_passOn_532 h.toN (fun _ _ => rfl) ?_
  refine ja_iload_n C jd_Y_passOn_535 1 rfl ?_
  refine jN_la C jd_Y_passOn_536 h.toN hta ?_
  refine ja_iconst C (nI 1) jd_Y_passOn_537 (by decide) ?_
  refine jN_vV 8 C X jk_pass h.toN rfl (jv_pass h hs hta (by have := hU _ hta; omega) (by omega) (by omega) hQ hus) jd_Y_passOn_538 rfl rfl ⟨by decide, by decide⟩ (Nat.le_of_ble_eq_true rfl) (fun w1 hp1 => ?_)
  obtain ⟨Q1, u1, hQ1, r1⟩ := hp1
  have hU1 := jl_upB hU hta
  have hs1 := jl_upP (t := a) hus
  exact E jd_Y_passOn_541 ⟨rfl, ⟨_, _, u1, hQ1, fun t ht => by have := hU1 t ht; omega, r1⟩, rfl⟩
theorem jv_passOn_3 {s a : Nat} (h : jV cI cJ y A n n2 σ w th rk N U Qv) (hs : s < jSt_c σ) (hus : 0 < U s) (hQ : jQ σ U Qv) {K : Nat} (hU : ∀ i, i < jSt_c σ → U i ≤ K) (hK : K < 2 ^ 20) (ho : jT_op (jSt_T σ s) = nI 3) (ha : jT_a (jSt_T σ s) = nI a) (hta : a < jSt_c σ) : jb_M l jy_Y_passOn jc_Y_passOn 6 none 4 115 0 0 D H0 (jt_all cI cJ cT cX) [.ref y, .int (nI s)] w sz
    (fun v w' sz' => v = none ∧ jPs cI cJ y A n n2 σ w th rk N (K + 2) w' ∧ sz' = sz) := by
  refine jb_meth_v (by decide) (Nat.le_of_ble_eq_true rfl) (fun u C X hnm E => ?_)
  have hn := h.toN.cn
  obtain ⟨os1, os2, os3, os4, os5, os6, os7, os8, os9, os10⟩ := h.toN.ok hs
  have cs1 := jl_cells_pos (f := jT_S (jSt_T σ s)) (k := jT_k (jSt_T σ s)) (fun j hj => (os2 j (by omega)).1)
  have s0 := os2 0 (by decide)
  have s1 := os2 1 (by decide)
  have s2 := os2 2 (by decide)
  obtain ⟨oa1, oa2, oa3, oa4, oa5, oa6, oa7, oa8, oa9, oa10⟩ := h.toN.ok hta
  have ca1 := jl_cells_pos (f := jT_S (jSt_T σ a)) (k := jT_k (jSt_T σ a)) (fun j hj => (oa2 j (by omega)).1)
  refine ja_aload_n C jd_Y_passOn_0 0 rfl ?_
  refine jN_ga C jfl_one jd_Y_passOn_1 h.toN (fun _ _ => rfl) ?_
  refine ja_iload_n C jd_Y_passOn_4 1 rfl ?_
  refine jN_ia C (by decide) (fun _ _ => rfl) jd_Y_passOn_5 h.toN hs (fun _ _ q => q.one) ?_
  rw [ha]
  refine ja_istore_n C [(2, .int (nI a)), (0, .ref y), (1, .int (nI s))] jd_Y_passOn_6 rfl (Nat.le_of_ble_eq_true rfl) rfl ?_
  refine ja_aload_n C jd_Y_passOn_7 1 rfl ?_
  refine jN_ga C jfl_two jd_Y_passOn_8 h.toN (fun _ _ => rfl) ?_
  refine ja_iload_n C jd_Y_passOn_11 2 rfl ?_
  refine jN_ia C (by decide) (fun _ _ => rfl) jd_Y_passOn_12 h.toN hs (fun _ _ q => q.two) ?_
  refine ja_istore_n C [(3, .int (jT_b (jSt_T σ s))), (2, .int (nI a)), (0, .ref y), (1, .int (nI s))] jd_Y_passOn_13 rfl (Nat.le_of_ble_eq_true rfl) rfl ?_
  refine ja_aload_n C jd_Y_passOn_14 2 rfl ?_
  refine jN_ga C jfl_op jd_Y_passOn_15 h.toN (fun _ _ => rfl) ?_
  refine ja_iload_n C jd_Y_passOn_18 3 rfl ?_
  refine jN_ia C (by decide) (fun _ _ => rfl) jd_Y_passOn_19 h.toN hs (fun _ _ q => q.op) ?_
  rw [ho]
  refine ja_tableIn C 753 jd_Y_passOn_20 (by decide) (by decide) rfl (by decide) ?_
  refine ja_aload_n C jd_Y_passOn_753 2 rfl ?_
  refine ja_iload_n C jd_Y_passOn_754 3 rfl ?_
  refine ja_iload_n C jd_Y_passOn_755 1 rfl ?_
  refine ja_iconst C (nI 0) jd_Y_passOn_756 (by decide) ?_
  refine ja_iconst C (nI 0) jd_Y_passOn_757 (by decide) ?_
  refine ja_lconst C (lN 1) jd_Y_passOn_758 (by decide) ?_
  refine ja_iconst C (nI 1) jd_Y_passOn_759 (by decide) ?_
  refine jN_vV 8 C X jk_pass h.toN rfl (jv_pass h hs hta (by have := hU _ hta; omega) (by omega) (by omega) hQ hus) jd_Y_passOn_760 rfl rfl ⟨by decide, by decide⟩ (Nat.le_of_ble_eq_true rfl) (fun w1 hp1 => ?_)
  obtain ⟨Q1, u1, hQ1, r1⟩ := hp1
  have hU1 := jl_upB hU hta
  have hs1 := jl_upP (t := a) hus
  exact E jd_Y_passOn_763 ⟨rfl, ⟨_, _, u1, hQ1, fun t ht => by have := hU1 t ht; omega, r1⟩, rfl⟩
theorem jv_passOn_4 {s a : Nat} (h : jV cI cJ y A n n2 σ w th rk N U Qv) (hs : s < jSt_c σ) (hus : 0 < U s) (hQ : jQ σ U Qv) {K : Nat} (hU : ∀ i, i < jSt_c σ → U i ≤ K) (hK : K < 2 ^ 20) (ho : jT_op (jSt_T σ s) = nI 4) (ha : jT_a (jSt_T σ s) = nI a) (hta : a < jSt_c σ) : jb_M l jy_Y_passOn jc_Y_passOn 6 none 4 115 0 0 D H0 (jt_all cI cJ cT cX) [.ref y, .int (nI s)] w sz
    (fun v w' sz' => v = none ∧ jPs cI cJ y A n n2 σ w th rk N (K + 2) w' ∧ sz' = sz) := by
  refine jb_meth_v (by decide) (Nat.le_of_ble_eq_true rfl) (fun u C X hnm E => ?_)
  have hn := h.toN.cn
  obtain ⟨os1, os2, os3, os4, os5, os6, os7, os8, os9, os10⟩ := h.toN.ok hs
  have cs1 := jl_cells_pos (f := jT_S (jSt_T σ s)) (k := jT_k (jSt_T σ s)) (fun j hj => (os2 j (by omega)).1)
  have s0 := os2 0 (by decide)
  have s1 := os2 1 (by decide)
  have s2 := os2 2 (by decide)
  obtain ⟨oa1, oa2, oa3, oa4, oa5, oa6, oa7, oa8, oa9, oa10⟩ := h.toN.ok hta
  have ca1 := jl_cells_pos (f := jT_S (jSt_T σ a)) (k := jT_k (jSt_T σ a)) (fun j hj => (oa2 j (by omega)).1)
  refine ja_aload_n C jd_Y_passOn_0 0 rfl ?_
  refine jN_ga C jfl_one jd_Y_passOn_1 h.toN (fun _ _ => rfl) ?_
  refine ja_iload_n C jd_Y_passOn_4 1 rfl ?_
  refine jN_ia C (by decide) (fun _ _ => rfl) jd_Y_passOn_5 h.toN hs (fun _ _ q => q.one) ?_
  rw [ha]
  refine ja_istore_n C [(2, .int (nI a)), (0, .ref y), (1, .int (nI s))] jd_Y_passOn_6 rfl (Nat.le_of_ble_eq_true rfl) rfl ?_
  refine ja_aload_n C jd_Y_passOn_7 1 rfl ?_
  refine jN_ga C jfl_two jd_Y_passOn_8 h.toN (fun _ _ => rfl) ?_
  refine ja_iload_n C jd_Y_passOn_11 2 rfl ?_
  refine jN_ia C (by decide) (fun _ _ => rfl) jd_Y_passOn_12 h.toN hs (fun _ _ q => q.two) ?_
  refine ja_istore_n C [(3, .int (jT_b (jSt_T σ s))), (2, .int (nI a)), (0, .ref y), (1, .int (nI s))] jd_Y_passOn_13 rfl (Nat.le_of_ble_eq_true rfl) rfl ?_
  refine ja_aload_n C jd_Y_passOn_14 2 rfl ?_
  refine jN_ga C jfl_op jd_Y_passOn_15 h.toN (fun _ _ => rfl) ?_
  refine ja_iload_n C jd_Y_passOn_18 3 rfl ?_
  refine jN_ia C (by decide) (fun _ _ => rfl) jd_Y_passOn_19 h.toN hs (fun _ _ q => q.op) ?_
  rw [ho]
  refine ja_tableIn C 753 jd_Y_passOn_20 (by decide) (by decide) rfl (by decide) ?_
  refine ja_aload_n C jd_Y_passOn_753 2 rfl ?_
  refine ja_iload_n C jd_Y_passOn_754 3 rfl ?_
  refine ja_iload_n C jd_Y_passOn_755 1 rfl ?_
  refine ja_iconst C (nI 0) jd_Y_passOn_756 (by decide) ?_
  refine ja_iconst C (nI 0) jd_Y_passOn_757 (by decide) ?_
  refine ja_lconst C (lN 1) jd_Y_passOn_758 (by decide) ?_
  refine ja_iconst C (nI 1) jd_Y_passOn_759 (by decide) ?_
  refine jN_vV 8 C X jk_pass h.toN rfl (jv_pass h hs hta (by have := hU _ hta; omega) (by omega) (by omega) hQ hus) jd_Y_passOn_760 rfl rfl ⟨by decide, by decide⟩ (Nat.le_of_ble_eq_true rfl) (fun w1 hp1 => ?_)
  obtain ⟨Q1, u1, hQ1, r1⟩ := hp1
  have hU1 := jl_upB hU hta
  have hs1 := jl_upP (t := a) hus
  exact E jd_Y_passOn_763 ⟨rfl, ⟨_, _, u1, hQ1, fun t ht => by have := hU1 t ht; omega, r1⟩, rfl⟩
theorem jv_passOn_5 {s a : Nat} (h : jV cI cJ y A n n2 σ w th rk N U Qv) (hs : s < jSt_c σ) (hus : 0 < U s) (hQ : jQ σ U Qv) {K : Nat} (hU : ∀ i, i < jSt_c σ → U i ≤ K) (hK : K < 2 ^ 20) (ho : jT_op (jSt_T σ s) = nI 5) (ha : jT_a (jSt_T σ s) = nI a) (hta : a < jSt_c σ) : jb_M l jy_Y_passOn jc_Y_passOn 6 none 4 115 0 0 D H0 (jt_all cI cJ cT cX) [.ref y, .int (nI s)] w sz
    (fun v w' sz' => v = none ∧ jPs cI cJ y A n n2 σ w th rk N (K + 2) w' ∧ sz' = sz) := by
  refine jb_meth_v (by decide) (Nat.le_of_ble_eq_true rfl) (fun u C X hnm E => ?_)
  have hn := h.toN.cn
  obtain ⟨os1, os2, os3, os4, os5, os6, os7, os8, os9, os10⟩ := h.toN.ok hs
  have cs1 := jl_cells_pos (f := jT_S (jSt_T σ s)) (k := jT_k (jSt_T σ s)) (fun j hj => (os2 j (by omega)).1)
  have s0 := os2 0 (by decide)
  have s1 := os2 1 (by decide)
  have s2 := os2 2 (by decide)
  obtain ⟨oa1, oa2, oa3, oa4, oa5, oa6, oa7, oa8, oa9, oa10⟩ := h.toN.ok hta
  have ca1 := jl_cells_pos (f := jT_S (jSt_T σ a)) (k := jT_k (jSt_T σ a)) (fun j hj => (oa2 j (by omega)).1)
  refine ja_aload_n C jd_Y_passOn_0 0 rfl ?_
  refine jN_ga C jfl_one jd_Y_passOn_1 h.toN (fun _ _ => rfl) ?_
  refine ja_iload_n C jd_Y_passOn_4 1 rfl ?_
  refine jN_ia C (by decide) (fun _ _ => rfl) jd_Y_passOn_5 h.toN hs (fun _ _ q => q.one) ?_
  rw [ha]
  refine ja_istore_n C [(2, .int (nI a)), (0, .ref y), (1, .int (nI s))] jd_Y_passOn_6 rfl (Nat.le_of_ble_eq_true rfl) rfl ?_
  refine ja_aload_n C jd_Y_passOn_7 1 rfl ?_
  refine jN_ga C jfl_two jd_Y_passOn_8 h.toN (fun _ _ => rfl) ?_
  refine ja_iload_n C jd_Y_passOn_11 2 rfl ?_
  refine jN_ia C (by decide) (fun _ _ => rfl) jd_Y_passOn_12 h.toN hs (fun _ _ q => q.two) ?_
  refine ja_istore_n C [(3, .int (jT_b (jSt_T σ s))), (2, .int (nI a)), (0, .ref y), (1, .int (nI s))] jd_Y_passOn_13 rfl (Nat.le_of_ble_eq_true rfl) rfl ?_
  refine ja_aload_n C jd_Y_passOn_14 2 rfl ?_
  refine jN_ga C jfl_op jd_Y_passOn_15 h.toN (fun _ _ => rfl) ?_
  refine ja_iload_n C jd_Y_passOn_18 3 rfl ?_
  refine jN_ia C (by decide) (fun _ _ => rfl) jd_Y_passOn_19 h.toN hs (fun _ _ q => q.op) ?_
  rw [ho]
  refine ja_tableIn C 753 jd_Y_passOn_20 (by decide) (by decide) rfl (by decide) ?_
  refine ja_aload_n C jd_Y_passOn_753 2 rfl ?_
  refine ja_iload_n C jd_Y_passOn_754 3 rfl ?_
  refine ja_iload_n C jd_Y_passOn_755 1 rfl ?_
  refine ja_iconst C (nI 0) jd_Y_passOn_756 (by decide) ?_
  refine ja_iconst C (nI 0) jd_Y_passOn_757 (by decide) ?_
  refine ja_lconst C (lN 1) jd_Y_passOn_758 (by decide) ?_
  refine ja_iconst C (nI 1) jd_Y_passOn_759 (by decide) ?_
  refine jN_vV 8 C X jk_pass h.toN rfl (jv_pass h hs hta (by have := hU _ hta; omega) (by omega) (by omega) hQ hus) jd_Y_passOn_760 rfl rfl ⟨by decide, by decide⟩ (Nat.le_of_ble_eq_true rfl) (fun w1 hp1 => ?_)
  obtain ⟨Q1, u1, hQ1, r1⟩ := hp1
  have hU1 := jl_upB hU hta
  have hs1 := jl_upP (t := a) hus
  exact E jd_Y_passOn_763 ⟨rfl, ⟨_, _, u1, hQ1, fun t ht => by have := hU1 t ht; omega, r1⟩, rfl⟩
theorem jv_passOn_6 {s a : Nat} (h : jV cI cJ y A n n2 σ w th rk N U Qv) (hs : s < jSt_c σ) (hus : 0 < U s) (hQ : jQ σ U Qv) {K : Nat} (hU : ∀ i, i < jSt_c σ → U i ≤ K) (hK : K < 2 ^ 20) (ho : jT_op (jSt_T σ s) = nI 6) (ha : jT_a (jSt_T σ s) = nI a) (hta : a < jSt_c σ) : jb_M l jy_Y_passOn jc_Y_passOn 6 none 4 115 0 0 D H0 (jt_all cI cJ cT cX) [.ref y, .int (nI s)] w sz
    (fun v w' sz' => v = none ∧ jPs cI cJ y A n n2 σ w th rk N (K + 2) w' ∧ sz' = sz) := by
  refine jb_meth_v (by decide) (Nat.le_of_ble_eq_true rfl) (fun u C X hnm E => ?_)
  have hn := h.toN.cn
  obtain ⟨os1, os2, os3, os4, os5, os6, os7, os8, os9, os10⟩ := h.toN.ok hs
  have cs1 := jl_cells_pos (f := jT_S (jSt_T σ s)) (k := jT_k (jSt_T σ s)) (fun j hj => (os2 j (by omega)).1)
  have s0 := os2 0 (by decide)
  have s1 := os2 1 (by decide)
  have s2 := os2 2 (by decide)
  obtain ⟨oa1, oa2, oa3, oa4, oa5, oa6, oa7, oa8, oa9, oa10⟩ := h.toN.ok hta
  have ca1 := jl_cells_pos (f := jT_S (jSt_T σ a)) (k := jT_k (jSt_T σ a)) (fun j hj => (oa2 j (by omega)).1)
  refine ja_aload_n C jd_Y_passOn_0 0 rfl ?_
  refine jN_ga C jfl_one jd_Y_passOn_1 h.toN (fun _ _ => rfl) ?_
  refine ja_iload_n C jd_Y_passOn_4 1 rfl ?_
  refine jN_ia C (by decide) (fun _ _ => rfl) jd_Y_passOn_5 h.toN hs (fun _ _ q => q.one) ?_
  rw [ha]
  refine ja_istore_n C [(2, .int (nI a)), (0, .ref y), (1, .int (nI s))] jd_Y_passOn_6 rfl (Nat.le_of_ble_eq_true rfl) rfl ?_
  refine ja_aload_n C jd_Y_passOn_7 1 rfl ?_
  refine jN_ga C jfl_two jd_Y_passOn_8 h.toN (fun _ _ => rfl) ?_
  refine ja_iload_n C jd_Y_passOn_11 2 rfl ?_
  refine jN_ia C (by decide) (fun _ _ => rfl) jd_Y_passOn_12 h.toN hs (fun _ _ q => q.two) ?_
  refine ja_istore_n C [(3, .int (jT_b (jSt_T σ s))), (2, .int (nI a)), (0, .ref y), (1, .int (nI s))] jd_Y_passOn_13 rfl (Nat.le_of_ble_eq_true rfl) rfl ?_
  refine ja_aload_n C jd_Y_passOn_14 2 rfl ?_
  refine jN_ga C jfl_op jd_Y_passOn_15 h.toN (fun _ _ => rfl) ?_
  refine ja_iload_n C jd_Y_passOn_18 3 rfl ?_
  refine jN_ia C (by decide) (fun _ _ => rfl) jd_Y_passOn_19 h.toN hs (fun _ _ q => q.op) ?_
  rw [ho]
  have hod := jl_odd_le 40 (jT_t (jSt_T σ s))
  refine ja_tableIn C 582 jd_Y_passOn_20 (by decide) (by decide) rfl (by decide) ?_
  refine ja_aload_n C jd_Y_passOn_582 2 rfl ?_
  refine ja_iload_n C jd_Y_passOn_583 3 rfl ?_
  refine ja_iload_n C jd_Y_passOn_584 1 rfl ?_
  refine ja_iconst C (nI 1) jd_Y_passOn_585 (by decide) ?_
  refine ja_aload_n C jd_Y_passOn_586 2 rfl ?_
  refine jN_ga C jfl_terms jd_Y_passOn_587 h.toN (fun _ _ => rfl) ?_
  refine ja_iload_n C jd_Y_passOn_590 3 rfl ?_
  refine jN_ia C (by decide) (fun _ _ => rfl) jd_Y_passOn_591 h.toN hs (fun _ _ q => q.terms) ?_
  refine ja_i2lN C jd_Y_passOn_592 (by omega) ?_
  refine jb_pS 8 C X jk_twos (jy_twos (by omega) (by omega)) jd_Y_passOn_593 rfl rfl ⟨by decide, by decide⟩ (Nat.le_of_ble_eq_true rfl) ?_
  refine ja_aload_n C jd_Y_passOn_596 2 rfl ?_
  refine jN_ga C jfl_terms jd_Y_passOn_597 h.toN (fun _ _ => rfl) ?_
  refine ja_iload_n C jd_Y_passOn_600 3 rfl ?_
  refine jN_ia C (by decide) (fun _ _ => rfl) jd_Y_passOn_601 h.toN hs (fun _ _ q => q.terms) ?_
  refine ja_i2lN C jd_Y_passOn_602 (by omega) ?_
  refine jb_pS 8 C X jk_oddPart (jy_oddPart (by omega) (by omega)) jd_Y_passOn_603 rfl rfl ⟨by decide, by decide⟩ (Nat.le_of_ble_eq_true rfl) ?_
  refine ja_iconst C (nI 1) jd_Y_passOn_606 (by decide) ?_
  refine jN_vV 8 C X jk_pass h.toN rfl (jv_pass h hs hta (by have := hU _ hta; omega) (by omega) (by omega) hQ hus) jd_Y_passOn_607 rfl rfl ⟨by decide, by decide⟩ (Nat.le_of_ble_eq_true rfl) (fun w1 hp1 => ?_)
  obtain ⟨Q1, u1, hQ1, r1⟩ := hp1
  have hU1 := jl_upB hU hta
  have hs1 := jl_upP (t := a) hus
  exact E jd_Y_passOn_610 ⟨rfl, ⟨_, _, u1, hQ1, fun t ht => by have := hU1 t ht; omega, r1⟩, rfl⟩
theorem jv_passOn_7 {s a : Nat} (h : jV cI cJ y A n n2 σ w th rk N U Qv) (hs : s < jSt_c σ) (hus : 0 < U s) (hQ : jQ σ U Qv) {K : Nat} (hU : ∀ i, i < jSt_c σ → U i ≤ K) (hK : K < 2 ^ 20) (ho : jT_op (jSt_T σ s) = nI 7) (ha : jT_a (jSt_T σ s) = nI a) (hta : a < jSt_c σ) : jb_M l jy_Y_passOn jc_Y_passOn 6 none 4 115 0 0 D H0 (jt_all cI cJ cT cX) [.ref y, .int (nI s)] w sz
    (fun v w' sz' => v = none ∧ jPs cI cJ y A n n2 σ w th rk N (K + 2) w' ∧ sz' = sz) := by
  refine jb_meth_v (by decide) (Nat.le_of_ble_eq_true rfl) (fun u C X hnm E => ?_)
  have hn := h.toN.cn
  obtain ⟨os1, os2, os3, os4, os5, os6, os7, os8, os9, os10⟩ := h.toN.ok hs
  have cs1 := jl_cells_pos (f := jT_S (jSt_T σ s)) (k := jT_k (jSt_T σ s)) (fun j hj => (os2 j (by omega)).1)
  have s0 := os2 0 (by decide)
  have s1 := os2 1 (by decide)
  have s2 := os2 2 (by decide)
  obtain ⟨oa1, oa2, oa3, oa4, oa5, oa6, oa7, oa8, oa9, oa10⟩ := h.toN.ok hta
  have ca1 := jl_cells_pos (f := jT_S (jSt_T σ a)) (k := jT_k (jSt_T σ a)) (fun j hj => (oa2 j (by omega)).1)
  refine ja_aload_n C jd_Y_passOn_0 0 rfl ?_
  refine jN_ga C jfl_one jd_Y_passOn_1 h.toN (fun _ _ => rfl) ?_
  refine ja_iload_n C jd_Y_passOn_4 1 rfl ?_
  refine jN_ia C (by decide) (fun _ _ => rfl) jd_Y_passOn_5 h.toN hs (fun _ _ q => q.one) ?_
  rw [ha]
  refine ja_istore_n C [(2, .int (nI a)), (0, .ref y), (1, .int (nI s))] jd_Y_passOn_6 rfl (Nat.le_of_ble_eq_true rfl) rfl ?_
  refine ja_aload_n C jd_Y_passOn_7 1 rfl ?_
  refine jN_ga C jfl_two jd_Y_passOn_8 h.toN (fun _ _ => rfl) ?_
  refine ja_iload_n C jd_Y_passOn_11 2 rfl ?_
  refine jN_ia C (by decide) (fun _ _ => rfl) jd_Y_passOn_12 h.toN hs (fun _ _ q => q.two) ?_
  refine ja_istore_n C [(3, .int (jT_b (jSt_T σ s))), (2, .int (nI a)), (0, .ref y), (1, .int (nI s))] jd_Y_passOn_13 rfl (Nat.le_of_ble_eq_true rfl) rfl ?_
  refine ja_aload_n C jd_Y_passOn_14 2 rfl ?_
  refine jN_ga C jfl_op jd_Y_passOn_15 h.toN (fun _ _ => rfl) ?_
  refine ja_iload_n C jd_Y_passOn_18 3 rfl ?_
  refine jN_ia C (by decide) (fun _ _ => rfl) jd_Y_passOn_19 h.toN hs (fun _ _ q => q.op) ?_
  rw [ho]
  refine ja_tableIn C 753 jd_Y_passOn_20 (by decide) (by decide) rfl (by decide) ?_
  refine ja_aload_n C jd_Y_passOn_753 2 rfl ?_
  refine ja_iload_n C jd_Y_passOn_754 3 rfl ?_
  refine ja_iload_n C jd_Y_passOn_755 1 rfl ?_
  refine ja_iconst C (nI 0) jd_Y_passOn_756 (by decide) ?_
  refine ja_iconst C (nI 0) jd_Y_passOn_757 (by decide) ?_
  refine ja_lconst C (lN 1) jd_Y_passOn_758 (by decide) ?_
  refine ja_iconst C (nI 1) jd_Y_passOn_759 (by decide) ?_
  refine jN_vV 8 C X jk_pass h.toN rfl (jv_pass h hs hta (by have := hU _ hta; omega) (by omega) (by omega) hQ hus) jd_Y_passOn_760 rfl rfl ⟨by decide, by decide⟩ (Nat.le_of_ble_eq_true rfl) (fun w1 hp1 => ?_)
  obtain ⟨Q1, u1, hQ1, r1⟩ := hp1
  have hU1 := jl_upB hU hta
  have hs1 := jl_upP (t := a) hus
  exact E jd_Y_passOn_763 ⟨rfl, ⟨_, _, u1, hQ1, fun t ht => by have := hU1 t ht; omega, r1⟩, rfl⟩
theorem jv_passOn_8 {s a b : Nat} (h : jV cI cJ y A n n2 σ w th rk N U Qv) (hs : s < jSt_c σ) (hus : 0 < U s) (hQ : jQ σ U Qv) {K : Nat} (hU : ∀ i, i < jSt_c σ → U i ≤ K) (hK : K < 2 ^ 20) (ho : jT_op (jSt_T σ s) = nI 8) (ha : jT_a (jSt_T σ s) = nI a) (hta : a < jSt_c σ) (hb : jT_b (jSt_T σ s) = nI b) (htb : b < jSt_c σ) : jb_M l jy_Y_passOn jc_Y_passOn 6 none 4 115 0 0 D H0 (jt_all cI cJ cT cX) [.ref y, .int (nI s)] w sz
    (fun v w' sz' => v = none ∧ jPs cI cJ y A n n2 σ w th rk N (K + 2) w' ∧ sz' = sz) := by
  refine jb_meth_v (by decide) (Nat.le_of_ble_eq_true rfl) (fun u C X hnm E => ?_)
  have hn := h.toN.cn
  obtain ⟨os1, os2, os3, os4, os5, os6, os7, os8, os9, os10⟩ := h.toN.ok hs
  have cs1 := jl_cells_pos (f := jT_S (jSt_T σ s)) (k := jT_k (jSt_T σ s)) (fun j hj => (os2 j (by omega)).1)
  have s0 := os2 0 (by decide)
  have s1 := os2 1 (by decide)
  have s2 := os2 2 (by decide)
  obtain ⟨oa1, oa2, oa3, oa4, oa5, oa6, oa7, oa8, oa9, oa10⟩ := h.toN.ok hta
  have ca1 := jl_cells_pos (f := jT_S (jSt_T σ a)) (k := jT_k (jSt_T σ a)) (fun j hj => (oa2 j (by omega)).1)
  obtain ⟨ob1, ob2, ob3, ob4, ob5, ob6, ob7, ob8, ob9, ob10⟩ := h.toN.ok htb
  have cb1 := jl_cells_pos (f := jT_S (jSt_T σ b)) (k := jT_k (jSt_T σ b)) (fun j hj => (ob2 j (by omega)).1)
  have b0 := ob2 0 (by decide)
  have b1 := ob2 1 (by decide)
  have b2 := ob2 2 (by decide)
  have b3 := ob2 3 (by decide)
  have d1 := jl_m3 (jT_ok.all (h.toN.ok htb)) b1.1
  have d2 := jl_m2 (jT_ok.all (h.toN.ok hs)) s0.1 (os2 3 (by decide)).1
  refine ja_aload_n C jd_Y_passOn_0 0 rfl ?_
  refine jN_ga C jfl_one jd_Y_passOn_1 h.toN (fun _ _ => rfl) ?_
  refine ja_iload_n C jd_Y_passOn_4 1 rfl ?_
  refine jN_ia C (by decide) (fun _ _ => rfl) jd_Y_passOn_5 h.toN hs (fun _ _ q => q.one) ?_
  rw [ha]
  refine ja_istore_n C [(2, .int (nI a)), (0, .ref y), (1, .int (nI s))] jd_Y_passOn_6 rfl (Nat.le_of_ble_eq_true rfl) rfl ?_
  refine ja_aload_n C jd_Y_passOn_7 1 rfl ?_
  refine jN_ga C jfl_two jd_Y_passOn_8 h.toN (fun _ _ => rfl) ?_
  refine ja_iload_n C jd_Y_passOn_11 2 rfl ?_
  refine jN_ia C (by decide) (fun _ _ => rfl) jd_Y_passOn_12 h.toN hs (fun _ _ q => q.two) ?_
  rw [hb]
  refine ja_istore_n C [(3, .int (nI b)), (2, .int (nI a)), (0, .ref y), (1, .int (nI s))] jd_Y_passOn_13 rfl (Nat.le_of_ble_eq_true rfl) rfl ?_
  refine ja_aload_n C jd_Y_passOn_14 2 rfl ?_
  refine jN_ga C jfl_op jd_Y_passOn_15 h.toN (fun _ _ => rfl) ?_
  refine ja_iload_n C jd_Y_passOn_18 3 rfl ?_
  refine jN_ia C (by decide) (fun _ _ => rfl) jd_Y_passOn_19 h.toN hs (fun _ _ q => q.op) ?_
  rw [ho]
  refine ja_tableIn C 432 jd_Y_passOn_20 (by decide) (by decide) rfl (by decide) ?_
  refine ja_aload_n C jd_Y_passOn_432 2 rfl ?_
  refine ja_iload_n C jd_Y_passOn_433 3 rfl ?_
  refine ja_iload_n C jd_Y_passOn_434 1 rfl ?_
  refine ja_aload_n C jd_Y_passOn_435 2 rfl ?_
  refine jN_ga C jfl_range jd_Y_passOn_436 h.toN (fun _ _ => rfl) ?_
  refine ja_iload_n C jd_Y_passOn_439 0 rfl ?_
  refine jN_ia C (by decide) (fun _ _ => rfl) jd_Y_passOn_440 h.toN htb (fun _ _ q => q.range) ?_
  refine ja_aload_n C jd_Y_passOn_441 2 rfl ?_
  refine jN_ga C jfl_depth jd_Y_passOn_442 h.toN (fun _ _ => rfl) ?_
  refine ja_iload_n C jd_Y_passOn_445 0 rfl ?_
  refine jN_ia C (by decide) (fun _ _ => rfl) jd_Y_passOn_446 h.toN htb (fun _ _ q => q.depth) ?_
  refine ja_aload_n C jd_Y_passOn_447 2 rfl ?_
  refine jN_ga C jfl_odd jd_Y_passOn_448 h.toN (fun _ _ => rfl) ?_
  refine ja_iload_n C jd_Y_passOn_451 0 rfl ?_
  refine jN_la C jd_Y_passOn_452 h.toN htb ?_
  refine ja_aload_n C jd_Y_passOn_453 2 rfl ?_
  refine ja_iload_n C jd_Y_passOn_454 0 rfl ?_
  refine ja_iconst C (nI 0) jd_Y_passOn_455 (by decide) ?_
  refine jN_pV 8 C X jk_side h.toN rfl (jn_side h.toN htb (by decide)) jd_Y_passOn_456 rfl rfl ⟨by decide, by decide⟩ (Nat.le_of_ble_eq_true rfl) ?_
  refine ja_aload_n C jd_Y_passOn_459 2 rfl ?_
  refine ja_iload_n C jd_Y_passOn_460 0 rfl ?_
  refine ja_iconst C (nI 2) jd_Y_passOn_461 (by decide) ?_
  refine jN_pV 8 C X jk_side h.toN rfl (jn_side h.toN htb (by decide)) jd_Y_passOn_462 rfl rfl ⟨by decide, by decide⟩ (Nat.le_of_ble_eq_true rfl) ?_
  refine ja_imulN C jd_Y_passOn_465 ?_
  refine ja_aload_n C jd_Y_passOn_466 2 rfl ?_
  refine ja_iload_n C jd_Y_passOn_467 0 rfl ?_
  refine ja_iconst C (nI 3) jd_Y_passOn_468 (by decide) ?_
  refine jN_pV 8 C X jk_side h.toN rfl (jn_side h.toN htb (by decide)) jd_Y_passOn_469 rfl rfl ⟨by decide, by decide⟩ (Nat.le_of_ble_eq_true rfl) ?_
  refine ja_imulN C jd_Y_passOn_472 ?_
  refine jN_vV 8 C X jk_pass h.toN rfl (jv_pass h hs hta (by have := hU _ hta; omega) (by omega) (by omega) hQ hus) jd_Y_passOn_473 rfl rfl ⟨by decide, by decide⟩ (Nat.le_of_ble_eq_true rfl) (fun w1 hp1 => ?_)
  obtain ⟨Q1, u1, hQ1, r1⟩ := hp1
  have hU1 := jl_upB hU hta
  have hs1 := jl_upP (t := a) hus
  refine ja_aload_n C jd_Y_passOn_476 2 rfl ?_
  refine ja_iload_n C jd_Y_passOn_477 3 rfl ?_
  refine ja_iload_n C jd_Y_passOn_478 0 rfl ?_
  refine ja_aload_n C jd_Y_passOn_479 2 rfl ?_
  refine jN_ga C jfl_range jd_Y_passOn_480 u1.toN (fun _ _ => rfl) ?_
  refine ja_iload_n C jd_Y_passOn_483 1 rfl ?_
  refine jN_ia C (by decide) (fun _ _ => rfl) jd_Y_passOn_484 u1.toN hta (fun _ _ q => q.range) ?_
  refine ja_aload_n C jd_Y_passOn_485 2 rfl ?_
  refine jN_ga C jfl_depth jd_Y_passOn_486 u1.toN (fun _ _ => rfl) ?_
  refine ja_iload_n C jd_Y_passOn_489 1 rfl ?_
  refine jN_ia C (by decide) (fun _ _ => rfl) jd_Y_passOn_490 u1.toN hta (fun _ _ q => q.depth) ?_
  refine ja_aload_n C jd_Y_passOn_491 2 rfl ?_
  refine jN_ga C jfl_odd jd_Y_passOn_492 u1.toN (fun _ _ => rfl) ?_
  refine ja_iload_n C jd_Y_passOn_495 1 rfl ?_
  refine jN_la C jd_Y_passOn_496 u1.toN hta ?_
  refine ja_aload_n C jd_Y_passOn_497 2 rfl ?_
  refine ja_iload_n C jd_Y_passOn_498 3 rfl ?_
  refine ja_iconst C (nI 1) jd_Y_passOn_499 (by decide) ?_
  refine jN_pV 8 C X jk_side u1.toN rfl (jn_side u1.toN hs (by decide)) jd_Y_passOn_500 rfl rfl ⟨by decide, by decide⟩ (Nat.le_of_ble_eq_true rfl) ?_
  refine ja_aload_n C jd_Y_passOn_503 2 rfl ?_
  refine ja_iload_n C jd_Y_passOn_504 3 rfl ?_
  refine ja_iconst C (nI 2) jd_Y_passOn_505 (by decide) ?_
  refine jN_pV 8 C X jk_side u1.toN rfl (jn_side u1.toN hs (by decide)) jd_Y_passOn_506 rfl rfl ⟨by decide, by decide⟩ (Nat.le_of_ble_eq_true rfl) ?_
  refine ja_imulN C jd_Y_passOn_509 ?_
  refine jN_vV 8 C X jk_pass u1.toN rfl (jv_pass u1 hs htb (by have := hU1 _ htb; omega) (by omega) (by omega) hQ1 hs1) jd_Y_passOn_510 rfl rfl ⟨by decide, by decide⟩ (Nat.le_of_ble_eq_true rfl) (fun w2 hp2 => ?_)
  obtain ⟨Q2, u2, hQ2, r2⟩ := hp2
  have hU2 := jl_upB hU1 htb
  have hs2 := jl_upP (t := b) hs1
  exact E jd_Y_passOn_513 ⟨rfl, ⟨_, _, u2, hQ2, fun t ht => by have := hU2 t ht; omega, (r1.tr r2)⟩, rfl⟩
theorem jv_passOn_9 {s a : Nat} (h : jV cI cJ y A n n2 σ w th rk N U Qv) (hs : s < jSt_c σ) (hus : 0 < U s) (hQ : jQ σ U Qv) {K : Nat} (hU : ∀ i, i < jSt_c σ → U i ≤ K) (hK : K < 2 ^ 20) (ho : jT_op (jSt_T σ s) = nI 9) (ha : jT_a (jSt_T σ s) = nI a) (hta : a < jSt_c σ) : jb_M l jy_Y_passOn jc_Y_passOn 6 none 4 115 0 0 D H0 (jt_all cI cJ cT cX) [.ref y, .int (nI s)] w sz
    (fun v w' sz' => v = none ∧ jPs cI cJ y A n n2 σ w th rk N (K + 2) w' ∧ sz' = sz) := by
  refine jb_meth_v (by decide) (Nat.le_of_ble_eq_true rfl) (fun u C X hnm E => ?_)
  have hn := h.toN.cn
  obtain ⟨os1, os2, os3, os4, os5, os6, os7, os8, os9, os10⟩ := h.toN.ok hs
  have cs1 := jl_cells_pos (f := jT_S (jSt_T σ s)) (k := jT_k (jSt_T σ s)) (fun j hj => (os2 j (by omega)).1)
  have s0 := os2 0 (by decide)
  have s1 := os2 1 (by decide)
  have s2 := os2 2 (by decide)
  obtain ⟨oa1, oa2, oa3, oa4, oa5, oa6, oa7, oa8, oa9, oa10⟩ := h.toN.ok hta
  have ca1 := jl_cells_pos (f := jT_S (jSt_T σ a)) (k := jT_k (jSt_T σ a)) (fun j hj => (oa2 j (by omega)).1)
  refine ja_aload_n C jd_Y_passOn_0 0 rfl ?_
  refine jN_ga C jfl_one jd_Y_passOn_1 h.toN (fun _ _ => rfl) ?_
  refine ja_iload_n C jd_Y_passOn_4 1 rfl ?_
  refine jN_ia C (by decide) (fun _ _ => rfl) jd_Y_passOn_5 h.toN hs (fun _ _ q => q.one) ?_
  rw [ha]
  refine ja_istore_n C [(2, .int (nI a)), (0, .ref y), (1, .int (nI s))] jd_Y_passOn_6 rfl (Nat.le_of_ble_eq_true rfl) rfl ?_
  refine ja_aload_n C jd_Y_passOn_7 1 rfl ?_
  refine jN_ga C jfl_two jd_Y_passOn_8 h.toN (fun _ _ => rfl) ?_
  refine ja_iload_n C jd_Y_passOn_11 2 rfl ?_
  refine jN_ia C (by decide) (fun _ _ => rfl) jd_Y_passOn_12 h.toN hs (fun _ _ q => q.two) ?_
  refine ja_istore_n C [(3, .int (jT_b (jSt_T σ s))), (2, .int (nI a)), (0, .ref y), (1, .int (nI s))] jd_Y_passOn_13 rfl (Nat.le_of_ble_eq_true rfl) rfl ?_
  refine ja_aload_n C jd_Y_passOn_14 2 rfl ?_
  refine jN_ga C jfl_op jd_Y_passOn_15 h.toN (fun _ _ => rfl) ?_
  refine ja_iload_n C jd_Y_passOn_18 3 rfl ?_
  refine jN_ia C (by decide) (fun _ _ => rfl) jd_Y_passOn_19 h.toN hs (fun _ _ q => q.op) ?_
  rw [ho]
  have hod := jl_odd_le 40 (jT_t (jSt_T σ s))
  refine ja_tableIn C 582 jd_Y_passOn_20 (by decide) (by decide) rfl (by decide) ?_
  refine ja_aload_n C jd_Y_passOn_582 2 rfl ?_
  refine ja_iload_n C jd_Y_passOn_583 3 rfl ?_
  refine ja_iload_n C jd_Y_passOn_584 1 rfl ?_
  refine ja_iconst C (nI 1) jd_Y_passOn_585 (by decide) ?_
  refine ja_aload_n C jd_Y_passOn_586 2 rfl ?_
  refine jN_ga C jfl_terms jd_Y_passOn_587 h.toN (fun _ _ => rfl) ?_
  refine ja_iload_n C jd_Y_passOn_590 3 rfl ?_
  refine jN_ia C (by decide) (fun _ _ => rfl) jd_Y_passOn_591 h.toN hs (fun _ _ q => q.terms) ?_
  refine ja_i2lN C jd_Y_passOn_592 (by omega) ?_
  refine jb_pS 8 C X jk_twos (jy_twos (by omega) (by omega)) jd_Y_passOn_593 rfl rfl ⟨by decide, by decide⟩ (Nat.le_of_ble_eq_true rfl) ?_
  refine ja_aload_n C jd_Y_passOn_596 2 rfl ?_
  refine jN_ga C jfl_terms jd_Y_passOn_597 h.toN (fun _ _ => rfl) ?_
  refine ja_iload_n C jd_Y_passOn_600 3 rfl ?_
  refine jN_ia C (by decide) (fun _ _ => rfl) jd_Y_passOn_601 h.toN hs (fun _ _ q => q.terms) ?_
  refine ja_i2lN C jd_Y_passOn_602 (by omega) ?_
  refine jb_pS 8 C X jk_oddPart (jy_oddPart (by omega) (by omega)) jd_Y_passOn_603 rfl rfl ⟨by decide, by decide⟩ (Nat.le_of_ble_eq_true rfl) ?_
  refine ja_iconst C (nI 1) jd_Y_passOn_606 (by decide) ?_
  refine jN_vV 8 C X jk_pass h.toN rfl (jv_pass h hs hta (by have := hU _ hta; omega) (by omega) (by omega) hQ hus) jd_Y_passOn_607 rfl rfl ⟨by decide, by decide⟩ (Nat.le_of_ble_eq_true rfl) (fun w1 hp1 => ?_)
  obtain ⟨Q1, u1, hQ1, r1⟩ := hp1
  have hU1 := jl_upB hU hta
  have hs1 := jl_upP (t := a) hus
  exact E jd_Y_passOn_610 ⟨rfl, ⟨_, _, u1, hQ1, fun t ht => by have := hU1 t ht; omega, r1⟩, rfl⟩
theorem jv_passOn_10 {s a : Nat} (h : jV cI cJ y A n n2 σ w th rk N U Qv) (hs : s < jSt_c σ) (hus : 0 < U s) (hQ : jQ σ U Qv) {K : Nat} (hU : ∀ i, i < jSt_c σ → U i ≤ K) (hK : K < 2 ^ 20) (ho : jT_op (jSt_T σ s) = nI 10) (ha : jT_a (jSt_T σ s) = nI a) (hta : a < jSt_c σ) : jb_M l jy_Y_passOn jc_Y_passOn 6 none 4 115 0 0 D H0 (jt_all cI cJ cT cX) [.ref y, .int (nI s)] w sz
    (fun v w' sz' => v = none ∧ jPs cI cJ y A n n2 σ w th rk N (K + 2) w' ∧ sz' = sz) := by
  refine jb_meth_v (by decide) (Nat.le_of_ble_eq_true rfl) (fun u C X hnm E => ?_)
  have hn := h.toN.cn
  obtain ⟨os1, os2, os3, os4, os5, os6, os7, os8, os9, os10⟩ := h.toN.ok hs
  have cs1 := jl_cells_pos (f := jT_S (jSt_T σ s)) (k := jT_k (jSt_T σ s)) (fun j hj => (os2 j (by omega)).1)
  have s0 := os2 0 (by decide)
  have s1 := os2 1 (by decide)
  have s2 := os2 2 (by decide)
  obtain ⟨oa1, oa2, oa3, oa4, oa5, oa6, oa7, oa8, oa9, oa10⟩ := h.toN.ok hta
  have ca1 := jl_cells_pos (f := jT_S (jSt_T σ a)) (k := jT_k (jSt_T σ a)) (fun j hj => (oa2 j (by omega)).1)
  refine ja_aload_n C jd_Y_passOn_0 0 rfl ?_
  refine jN_ga C jfl_one jd_Y_passOn_1 h.toN (fun _ _ => rfl) ?_
  refine ja_iload_n C jd_Y_passOn_4 1 rfl ?_
  refine jN_ia C (by decide) (fun _ _ => rfl) jd_Y_passOn_5 h.toN hs (fun _ _ q => q.one) ?_
  rw [ha]
  refine ja_istore_n C [(2, .int (nI a)), (0, .ref y), (1, .int (nI s))] jd_Y_passOn_6 rfl (Nat.le_of_ble_eq_true rfl) rfl ?_
  refine ja_aload_n C jd_Y_passOn_7 1 rfl ?_
  refine jN_ga C jfl_two jd_Y_passOn_8 h.toN (fun _ _ => rfl) ?_
  refine ja_iload_n C jd_Y_passOn_11 2 rfl ?_
  refine jN_ia C (by decide) (fun _ _ => rfl) jd_Y_passOn_12 h.toN hs (fun _ _ q => q.two) ?_
  refine ja_istore_n C [(3, .int (jT_b (jSt_T σ s))), (2, .int (nI a)), (0, .ref y), (1, .int (nI s))] jd_Y_passOn_13 rfl (Nat.le_of_ble_eq_true rfl) rfl ?_
  refine ja_aload_n C jd_Y_passOn_14 2 rfl ?_
  refine jN_ga C jfl_op jd_Y_passOn_15 h.toN (fun _ _ => rfl) ?_
  refine ja_iload_n C jd_Y_passOn_18 3 rfl ?_
  refine jN_ia C (by decide) (fun _ _ => rfl) jd_Y_passOn_19 h.toN hs (fun _ _ q => q.op) ?_
  rw [ho]
  refine ja_tableIn C 753 jd_Y_passOn_20 (by decide) (by decide) rfl (by decide) ?_
  refine ja_aload_n C jd_Y_passOn_753 2 rfl ?_
  refine ja_iload_n C jd_Y_passOn_754 3 rfl ?_
  refine ja_iload_n C jd_Y_passOn_755 1 rfl ?_
  refine ja_iconst C (nI 0) jd_Y_passOn_756 (by decide) ?_
  refine ja_iconst C (nI 0) jd_Y_passOn_757 (by decide) ?_
  refine ja_lconst C (lN 1) jd_Y_passOn_758 (by decide) ?_
  refine ja_iconst C (nI 1) jd_Y_passOn_759 (by decide) ?_
  refine jN_vV 8 C X jk_pass h.toN rfl (jv_pass h hs hta (by have := hU _ hta; omega) (by omega) (by omega) hQ hus) jd_Y_passOn_760 rfl rfl ⟨by decide, by decide⟩ (Nat.le_of_ble_eq_true rfl) (fun w1 hp1 => ?_)
  obtain ⟨Q1, u1, hQ1, r1⟩ := hp1
  have hU1 := jl_upB hU hta
  have hs1 := jl_upP (t := a) hus
  exact E jd_Y_passOn_763 ⟨rfl, ⟨_, _, u1, hQ1, fun t ht => by have := hU1 t ht; omega, r1⟩, rfl⟩
theorem jv_passOn_11 {s a : Nat} (h : jV cI cJ y A n n2 σ w th rk N U Qv) (hs : s < jSt_c σ) (hus : 0 < U s) (hQ : jQ σ U Qv) {K : Nat} (hU : ∀ i, i < jSt_c σ → U i ≤ K) (hK : K < 2 ^ 20) (ho : jT_op (jSt_T σ s) = nI 11) (ha : jT_a (jSt_T σ s) = nI a) (hta : a < jSt_c σ) : jb_M l jy_Y_passOn jc_Y_passOn 6 none 4 115 0 0 D H0 (jt_all cI cJ cT cX) [.ref y, .int (nI s)] w sz
    (fun v w' sz' => v = none ∧ jPs cI cJ y A n n2 σ w th rk N (K + 2) w' ∧ sz' = sz) := by
  refine jb_meth_v (by decide) (Nat.le_of_ble_eq_true rfl) (fun u C X hnm E => ?_)
  have hn := h.toN.cn
  obtain ⟨os1, os2, os3, os4, os5, os6, os7, os8, os9, os10⟩ := h.toN.ok hs
  have cs1 := jl_cells_pos (f := jT_S (jSt_T σ s)) (k := jT_k (jSt_T σ s)) (fun j hj => (os2 j (by omega)).1)
  have s0 := os2 0 (by decide)
  have s1 := os2 1 (by decide)
  have s2 := os2 2 (by decide)
  obtain ⟨oa1, oa2, oa3, oa4, oa5, oa6, oa7, oa8, oa9, oa10⟩ := h.toN.ok hta
  have ca1 := jl_cells_pos (f := jT_S (jSt_T σ a)) (k := jT_k (jSt_T σ a)) (fun j hj => (oa2 j (by omega)).1)
  refine ja_aload_n C jd_Y_passOn_0 0 rfl ?_
  refine jN_ga C jfl_one jd_Y_passOn_1 h.toN (fun _ _ => rfl) ?_
  refine ja_iload_n C jd_Y_passOn_4 1 rfl ?_
  refine jN_ia C (by decide) (fun _ _ => rfl) jd_Y_passOn_5 h.toN hs (fun _ _ q => q.one) ?_
  rw [ha]
  refine ja_istore_n C [(2, .int (nI a)), (0, .ref y), (1, .int (nI s))] jd_Y_passOn_6 rfl (Nat.le_of_ble_eq_true rfl) rfl ?_
  refine ja_aload_n C jd_Y_passOn_7 1 rfl ?_
  refine jN_ga C jfl_two jd_Y_passOn_8 h.toN (fun _ _ => rfl) ?_
  refine ja_iload_n C jd_Y_passOn_11 2 rfl ?_
  refine jN_ia C (by decide) (fun _ _ => rfl) jd_Y_passOn_12 h.toN hs (fun _ _ q => q.two) ?_
  refine ja_istore_n C [(3, .int (jT_b (jSt_T σ s))), (2, .int (nI a)), (0, .ref y), (1, .int (nI s))] jd_Y_passOn_13 rfl (Nat.le_of_ble_eq_true rfl) rfl ?_
  refine ja_aload_n C jd_Y_passOn_14 2 rfl ?_
  refine jN_ga C jfl_op jd_Y_passOn_15 h.toN (fun _ _ => rfl) ?_
  refine ja_iload_n C jd_Y_passOn_18 3 rfl ?_
  refine jN_ia C (by decide) (fun _ _ => rfl) jd_Y_passOn_19 h.toN hs (fun _ _ q => q.op) ?_
  rw [ho]
  refine ja_tableIn C 753 jd_Y_passOn_20 (by decide) (by decide) rfl (by decide) ?_
  refine ja_aload_n C jd_Y_passOn_753 2 rfl ?_
  refine ja_iload_n C jd_Y_passOn_754 3 rfl ?_
  refine ja_iload_n C jd_Y_passOn_755 1 rfl ?_
  refine ja_iconst C (nI 0) jd_Y_passOn_756 (by decide) ?_
  refine ja_iconst C (nI 0) jd_Y_passOn_757 (by decide) ?_
  refine ja_lconst C (lN 1) jd_Y_passOn_758 (by decide) ?_
  refine ja_iconst C (nI 1) jd_Y_passOn_759 (by decide) ?_
  refine jN_vV 8 C X jk_pass h.toN rfl (jv_pass h hs hta (by have := hU _ hta; omega) (by omega) (by omega) hQ hus) jd_Y_passOn_760 rfl rfl ⟨by decide, by decide⟩ (Nat.le_of_ble_eq_true rfl) (fun w1 hp1 => ?_)
  obtain ⟨Q1, u1, hQ1, r1⟩ := hp1
  have hU1 := jl_upB hU hta
  have hs1 := jl_upP (t := a) hus
  exact E jd_Y_passOn_763 ⟨rfl, ⟨_, _, u1, hQ1, fun t ht => by have := hU1 t ht; omega, r1⟩, rfl⟩
theorem jv_passOn_12 {s a : Nat} (h : jV cI cJ y A n n2 σ w th rk N U Qv) (hs : s < jSt_c σ) (hus : 0 < U s) (hQ : jQ σ U Qv) {K : Nat} (hU : ∀ i, i < jSt_c σ → U i ≤ K) (hK : K < 2 ^ 20) (ho : jT_op (jSt_T σ s) = nI 12) (ha : jT_a (jSt_T σ s) = nI a) (hta : a < jSt_c σ) : jb_M l jy_Y_passOn jc_Y_passOn 6 none 4 115 0 0 D H0 (jt_all cI cJ cT cX) [.ref y, .int (nI s)] w sz
    (fun v w' sz' => v = none ∧ jPs cI cJ y A n n2 σ w th rk N (K + 2) w' ∧ sz' = sz) := by
  refine jb_meth_v (by decide) (Nat.le_of_ble_eq_true rfl) (fun u C X hnm E => ?_)
  have hn := h.toN.cn
  obtain ⟨os1, os2, os3, os4, os5, os6, os7, os8, os9, os10⟩ := h.toN.ok hs
  have cs1 := jl_cells_pos (f := jT_S (jSt_T σ s)) (k := jT_k (jSt_T σ s)) (fun j hj => (os2 j (by omega)).1)
  have s0 := os2 0 (by decide)
  have s1 := os2 1 (by decide)
  have s2 := os2 2 (by decide)
  obtain ⟨oa1, oa2, oa3, oa4, oa5, oa6, oa7, oa8, oa9, oa10⟩ := h.toN.ok hta
  have ca1 := jl_cells_pos (f := jT_S (jSt_T σ a)) (k := jT_k (jSt_T σ a)) (fun j hj => (oa2 j (by omega)).1)
  refine ja_aload_n C jd_Y_passOn_0 0 rfl ?_
  refine jN_ga C jfl_one jd_Y_passOn_1 h.toN (fun _ _ => rfl) ?_
  refine ja_iload_n C jd_Y_passOn_4 1 rfl ?_
  refine jN_ia C (by decide) (fun _ _ => rfl) jd_Y_passOn_5 h.toN hs (fun _ _ q => q.one) ?_
  rw [ha]
  refine ja_istore_n C [(2, .int (nI a)), (0, .ref y), (1, .int (nI s))] jd_Y_passOn_6 rfl (Nat.le_of_ble_eq_true rfl) rfl ?_
  refine ja_aload_n C jd_Y_passOn_7 1 rfl ?_
  refine jN_ga C jfl_two jd_Y_passOn_8 h.toN (fun _ _ => rfl) ?_
  refine ja_iload_n C jd_Y_passOn_11 2 rfl ?_
  refine jN_ia C (by decide) (fun _ _ => rfl) jd_Y_passOn_12 h.toN hs (fun _ _ q => q.two) ?_
  refine ja_istore_n C [(3, .int (jT_b (jSt_T σ s))), (2, .int (nI a)), (0, .ref y), (1, .int (nI s))] jd_Y_passOn_13 rfl (Nat.le_of_ble_eq_true rfl) rfl ?_
  refine ja_aload_n C jd_Y_passOn_14 2 rfl ?_
  refine jN_ga C jfl_op jd_Y_passOn_15 h.toN (fun _ _ => rfl) ?_
  refine ja_iload_n C jd_Y_passOn_18 3 rfl ?_
  refine jN_ia C (by decide) (fun _ _ => rfl) jd_Y_passOn_19 h.toN hs (fun _ _ q => q.op) ?_
  rw [ho]
  refine ja_tableIn C 753 jd_Y_passOn_20 (by decide) (by decide) rfl (by decide) ?_
  refine ja_aload_n C jd_Y_passOn_753 2 rfl ?_
  refine ja_iload_n C jd_Y_passOn_754 3 rfl ?_
  refine ja_iload_n C jd_Y_passOn_755 1 rfl ?_
  refine ja_iconst C (nI 0) jd_Y_passOn_756 (by decide) ?_
  refine ja_iconst C (nI 0) jd_Y_passOn_757 (by decide) ?_
  refine ja_lconst C (lN 1) jd_Y_passOn_758 (by decide) ?_
  refine ja_iconst C (nI 1) jd_Y_passOn_759 (by decide) ?_
  refine jN_vV 8 C X jk_pass h.toN rfl (jv_pass h hs hta (by have := hU _ hta; omega) (by omega) (by omega) hQ hus) jd_Y_passOn_760 rfl rfl ⟨by decide, by decide⟩ (Nat.le_of_ble_eq_true rfl) (fun w1 hp1 => ?_)
  obtain ⟨Q1, u1, hQ1, r1⟩ := hp1
  have hU1 := jl_upB hU hta
  have hs1 := jl_upP (t := a) hus
  exact E jd_Y_passOn_763 ⟨rfl, ⟨_, _, u1, hQ1, fun t ht => by have := hU1 t ht; omega, r1⟩, rfl⟩
theorem jv_passOn_13 {s a : Nat} (h : jV cI cJ y A n n2 σ w th rk N U Qv) (hs : s < jSt_c σ) (hus : 0 < U s) (hQ : jQ σ U Qv) {K : Nat} (hU : ∀ i, i < jSt_c σ → U i ≤ K) (hK : K < 2 ^ 20) (ho : jT_op (jSt_T σ s) = nI 13) (ha : jT_a (jSt_T σ s) = nI a) (hta : a < jSt_c σ) : jb_M l jy_Y_passOn jc_Y_passOn 6 none 4 115 0 0 D H0 (jt_all cI cJ cT cX) [.ref y, .int (nI s)] w sz
    (fun v w' sz' => v = none ∧ jPs cI cJ y A n n2 σ w th rk N (K + 2) w' ∧ sz' = sz) := by
  refine jb_meth_v (by decide) (Nat.le_of_ble_eq_true rfl) (fun u C X hnm E => ?_)
  have hn := h.toN.cn
  obtain ⟨os1, os2, os3, os4, os5, os6, os7, os8, os9, os10⟩ := h.toN.ok hs
  have cs1 := jl_cells_pos (f := jT_S (jSt_T σ s)) (k := jT_k (jSt_T σ s)) (fun j hj => (os2 j (by omega)).1)
  have s0 := os2 0 (by decide)
  have s1 := os2 1 (by decide)
  have s2 := os2 2 (by decide)
  obtain ⟨oa1, oa2, oa3, oa4, oa5, oa6, oa7, oa8, oa9, oa10⟩ := h.toN.ok hta
  have ca1 := jl_cells_pos (f := jT_S (jSt_T σ a)) (k := jT_k (jSt_T σ a)) (fun j hj => (oa2 j (by omega)).1)
  refine ja_aload_n C jd_Y_passOn_0 0 rfl ?_
  refine jN_ga C jfl_one jd_Y_passOn_1 h.toN (fun _ _ => rfl) ?_
  refine ja_iload_n C jd_Y_passOn_4 1 rfl ?_
  refine jN_ia C (by decide) (fun _ _ => rfl) jd_Y_passOn_5 h.toN hs (fun _ _ q => q.one) ?_
  rw [ha]
  refine ja_istore_n C [(2, .int (nI a)), (0, .ref y), (1, .int (nI s))] jd_Y_passOn_6 rfl (Nat.le_of_ble_eq_true rfl) rfl ?_
  refine ja_aload_n C jd_Y_passOn_7 1 rfl ?_
  refine jN_ga C jfl_two jd_Y_passOn_8 h.toN (fun _ _ => rfl) ?_
  refine ja_iload_n C jd_Y_passOn_11 2 rfl ?_
  refine jN_ia C (by decide) (fun _ _ => rfl) jd_Y_passOn_12 h.toN hs (fun _ _ q => q.two) ?_
  refine ja_istore_n C [(3, .int (jT_b (jSt_T σ s))), (2, .int (nI a)), (0, .ref y), (1, .int (nI s))] jd_Y_passOn_13 rfl (Nat.le_of_ble_eq_true rfl) rfl ?_
  refine ja_aload_n C jd_Y_passOn_14 2 rfl ?_
  refine jN_ga C jfl_op jd_Y_passOn_15 h.toN (fun _ _ => rfl) ?_
  refine ja_iload_n C jd_Y_passOn_18 3 rfl ?_
  refine jN_ia C (by decide) (fun _ _ => rfl) jd_Y_passOn_19 h.toN hs (fun _ _ q => q.op) ?_
  rw [ho]
  refine ja_tableIn C 753 jd_Y_passOn_20 (by decide) (by decide) rfl (by decide) ?_
  refine ja_aload_n C jd_Y_passOn_753 2 rfl ?_
  refine ja_iload_n C jd_Y_passOn_754 3 rfl ?_
  refine ja_iload_n C jd_Y_passOn_755 1 rfl ?_
  refine ja_iconst C (nI 0) jd_Y_passOn_756 (by decide) ?_
  refine ja_iconst C (nI 0) jd_Y_passOn_757 (by decide) ?_
  refine ja_lconst C (lN 1) jd_Y_passOn_758 (by decide) ?_
  refine ja_iconst C (nI 1) jd_Y_passOn_759 (by decide) ?_
  refine jN_vV 8 C X jk_pass h.toN rfl (jv_pass h hs hta (by have := hU _ hta; omega) (by omega) (by omega) hQ hus) jd_Y_passOn_760 rfl rfl ⟨by decide, by decide⟩ (Nat.le_of_ble_eq_true rfl) (fun w1 hp1 => ?_)
  obtain ⟨Q1, u1, hQ1, r1⟩ := hp1
  have hU1 := jl_upB hU hta
  have hs1 := jl_upP (t := a) hus
  exact E jd_Y_passOn_763 ⟨rfl, ⟨_, _, u1, hQ1, fun t ht => by have := hU1 t ht; omega, r1⟩, rfl⟩
theorem jv_passOn_14 {s a b : Nat} (h : jV cI cJ y A n n2 σ w th rk N U Qv) (hs : s < jSt_c σ) (hus : 0 < U s) (hQ : jQ σ U Qv) {K : Nat} (hU : ∀ i, i < jSt_c σ → U i ≤ K) (hK : K < 2 ^ 20) (ho : jT_op (jSt_T σ s) = nI 14) (ha : jT_a (jSt_T σ s) = nI a) (hta : a < jSt_c σ) (hb : jT_b (jSt_T σ s) = nI b) (htb : b < jSt_c σ) : jb_M l jy_Y_passOn jc_Y_passOn 6 none 4 115 0 0 D H0 (jt_all cI cJ cT cX) [.ref y, .int (nI s)] w sz
    (fun v w' sz' => v = none ∧ jPs cI cJ y A n n2 σ w th rk N (K + 2) w' ∧ sz' = sz) := by
  refine jb_meth_v (by decide) (Nat.le_of_ble_eq_true rfl) (fun u C X hnm E => ?_)
  have hn := h.toN.cn
  obtain ⟨os1, os2, os3, os4, os5, os6, os7, os8, os9, os10⟩ := h.toN.ok hs
  have cs1 := jl_cells_pos (f := jT_S (jSt_T σ s)) (k := jT_k (jSt_T σ s)) (fun j hj => (os2 j (by omega)).1)
  have s0 := os2 0 (by decide)
  have s1 := os2 1 (by decide)
  have s2 := os2 2 (by decide)
  obtain ⟨oa1, oa2, oa3, oa4, oa5, oa6, oa7, oa8, oa9, oa10⟩ := h.toN.ok hta
  have ca1 := jl_cells_pos (f := jT_S (jSt_T σ a)) (k := jT_k (jSt_T σ a)) (fun j hj => (oa2 j (by omega)).1)
  obtain ⟨ob1, ob2, ob3, ob4, ob5, ob6, ob7, ob8, ob9, ob10⟩ := h.toN.ok htb
  have cb1 := jl_cells_pos (f := jT_S (jSt_T σ b)) (k := jT_k (jSt_T σ b)) (fun j hj => (ob2 j (by omega)).1)
  have b0 := ob2 0 (by decide)
  have b1 := ob2 1 (by decide)
  have b2 := ob2 2 (by decide)
  have b3 := ob2 3 (by decide)
  refine ja_aload_n C jd_Y_passOn_0 0 rfl ?_
  refine jN_ga C jfl_one jd_Y_passOn_1 h.toN (fun _ _ => rfl) ?_
  refine ja_iload_n C jd_Y_passOn_4 1 rfl ?_
  refine jN_ia C (by decide) (fun _ _ => rfl) jd_Y_passOn_5 h.toN hs (fun _ _ q => q.one) ?_
  rw [ha]
  refine ja_istore_n C [(2, .int (nI a)), (0, .ref y), (1, .int (nI s))] jd_Y_passOn_6 rfl (Nat.le_of_ble_eq_true rfl) rfl ?_
  refine ja_aload_n C jd_Y_passOn_7 1 rfl ?_
  refine jN_ga C jfl_two jd_Y_passOn_8 h.toN (fun _ _ => rfl) ?_
  refine ja_iload_n C jd_Y_passOn_11 2 rfl ?_
  refine jN_ia C (by decide) (fun _ _ => rfl) jd_Y_passOn_12 h.toN hs (fun _ _ q => q.two) ?_
  rw [hb]
  refine ja_istore_n C [(3, .int (nI b)), (2, .int (nI a)), (0, .ref y), (1, .int (nI s))] jd_Y_passOn_13 rfl (Nat.le_of_ble_eq_true rfl) rfl ?_
  refine ja_aload_n C jd_Y_passOn_14 2 rfl ?_
  refine jN_ga C jfl_op jd_Y_passOn_15 h.toN (fun _ _ => rfl) ?_
  refine ja_iload_n C jd_Y_passOn_18 3 rfl ?_
  refine jN_ia C (by decide) (fun _ _ => rfl) jd_Y_passOn_19 h.toN hs (fun _ _ q => q.op) ?_
  rw [ho]
  refine ja_tableIn C 732 jd_Y_passOn_20 (by decide) (by decide) rfl (by decide) ?_
  refine ja_aload_n C jd_Y_passOn_732 2 rfl ?_
  refine ja_iload_n C jd_Y_passOn_733 3 rfl ?_
  refine ja_iload_n C jd_Y_passOn_734 1 rfl ?_
  refine ja_iconst C (nI 0) jd_Y_passOn_735 (by decide) ?_
  refine ja_iconst C (nI 0) jd_Y_passOn_736 (by decide) ?_
  refine ja_lconst C (lN 1) jd_Y_passOn_737 (by decide) ?_
  refine ja_iconst C (nI 1) jd_Y_passOn_738 (by decide) ?_
  refine jN_vV 8 C X jk_pass h.toN rfl (jv_pass h hs hta (by have := hU _ hta; omega) (by omega) (by omega) hQ hus) jd_Y_passOn_739 rfl rfl ⟨by decide, by decide⟩ (Nat.le_of_ble_eq_true rfl) (fun w1 hp1 => ?_)
  obtain ⟨Q1, u1, hQ1, r1⟩ := hp1
  have hU1 := jl_upB hU hta
  have hs1 := jl_upP (t := a) hus
  refine ja_aload_n C jd_Y_passOn_742 2 rfl ?_
  refine ja_iload_n C jd_Y_passOn_743 3 rfl ?_
  refine ja_iload_n C jd_Y_passOn_744 0 rfl ?_
  refine ja_iconst C (nI 0) jd_Y_passOn_745 (by decide) ?_
  refine ja_iconst C (nI 0) jd_Y_passOn_746 (by decide) ?_
  refine ja_lconst C (lN 1) jd_Y_passOn_747 (by decide) ?_
  refine ja_iconst C (nI 1) jd_Y_passOn_748 (by decide) ?_
  refine jN_vV 8 C X jk_pass u1.toN rfl (jv_pass u1 hs htb (by have := hU1 _ htb; omega) (by omega) (by omega) hQ1 hs1) jd_Y_passOn_749 rfl rfl ⟨by decide, by decide⟩ (Nat.le_of_ble_eq_true rfl) (fun w2 hp2 => ?_)
  obtain ⟨Q2, u2, hQ2, r2⟩ := hp2
  have hU2 := jl_upB hU1 htb
  have hs2 := jl_upP (t := b) hs1
  exact E jd_Y_passOn_752 ⟨rfl, ⟨_, _, u2, hQ2, fun t ht => by have := hU2 t ht; omega, (r1.tr r2)⟩, rfl⟩
theorem jv_passOn_15 {s a : Nat} (h : jV cI cJ y A n n2 σ w th rk N U Qv) (hs : s < jSt_c σ) (hus : 0 < U s) (hQ : jQ σ U Qv) {K : Nat} (hU : ∀ i, i < jSt_c σ → U i ≤ K) (hK : K < 2 ^ 20) (ho : jT_op (jSt_T σ s) = nI 15) (ha : jT_a (jSt_T σ s) = nI a) (hta : a < jSt_c σ) : jb_M l jy_Y_passOn jc_Y_passOn 6 none 4 115 0 0 D H0 (jt_all cI cJ cT cX) [.ref y, .int (nI s)] w sz
    (fun v w' sz' => v = none ∧ jPs cI cJ y A n n2 σ w th rk N (K + 2) w' ∧ sz' = sz) := by
  refine jb_meth_v (by decide) (Nat.le_of_ble_eq_true rfl) (fun u C X hnm E => ?_)
  have hn := h.toN.cn
  obtain ⟨os1, os2, os3, os4, os5, os6, os7, os8, os9, os10⟩ := h.toN.ok hs
  have cs1 := jl_cells_pos (f := jT_S (jSt_T σ s)) (k := jT_k (jSt_T σ s)) (fun j hj => (os2 j (by omega)).1)
  have s0 := os2 0 (by decide)
  have s1 := os2 1 (by decide)
  have s2 := os2 2 (by decide)
  obtain ⟨oa1, oa2, oa3, oa4, oa5, oa6, oa7, oa8, oa9, oa10⟩ := h.toN.ok hta
  have ca1 := jl_cells_pos (f := jT_S (jSt_T σ a)) (k := jT_k (jSt_T σ a)) (fun j hj => (oa2 j (by omega)).1)
  refine ja_aload_n C jd_Y_passOn_0 0 rfl ?_
  refine jN_ga C jfl_one jd_Y_passOn_1 h.toN (fun _ _ => rfl) ?_
  refine ja_iload_n C jd_Y_passOn_4 1 rfl ?_
  refine jN_ia C (by decide) (fun _ _ => rfl) jd_Y_passOn_5 h.toN hs (fun _ _ q => q.one) ?_
  rw [ha]
  refine ja_istore_n C [(2, .int (nI a)), (0, .ref y), (1, .int (nI s))] jd_Y_passOn_6 rfl (Nat.le_of_ble_eq_true rfl) rfl ?_
  refine ja_aload_n C jd_Y_passOn_7 1 rfl ?_
  refine jN_ga C jfl_two jd_Y_passOn_8 h.toN (fun _ _ => rfl) ?_
  refine ja_iload_n C jd_Y_passOn_11 2 rfl ?_
  refine jN_ia C (by decide) (fun _ _ => rfl) jd_Y_passOn_12 h.toN hs (fun _ _ q => q.two) ?_
  refine ja_istore_n C [(3, .int (jT_b (jSt_T σ s))), (2, .int (nI a)), (0, .ref y), (1, .int (nI s))] jd_Y_passOn_13 rfl (Nat.le_of_ble_eq_true rfl) rfl ?_
  refine ja_aload_n C jd_Y_passOn_14 2 rfl ?_
  refine jN_ga C jfl_op jd_Y_passOn_15 h.toN (fun _ _ => rfl) ?_
  refine ja_iload_n C jd_Y_passOn_18 3 rfl ?_
  refine jN_ia C (by decide) (fun _ _ => rfl) jd_Y_passOn_19 h.toN hs (fun _ _ q => q.op) ?_
  rw [ho]
  refine ja_tableIn C 753 jd_Y_passOn_20 (by decide) (by decide) rfl (by decide) ?_
  refine ja_aload_n C jd_Y_passOn_753 2 rfl ?_
  refine ja_iload_n C jd_Y_passOn_754 3 rfl ?_
  refine ja_iload_n C jd_Y_passOn_755 1 rfl ?_
  refine ja_iconst C (nI 0) jd_Y_passOn_756 (by decide) ?_
  refine ja_iconst C (nI 0) jd_Y_passOn_757 (by decide) ?_
  refine ja_lconst C (lN 1) jd_Y_passOn_758 (by decide) ?_
  refine ja_iconst C (nI 1) jd_Y_passOn_759 (by decide) ?_
  refine jN_vV 8 C X jk_pass h.toN rfl (jv_pass h hs hta (by have := hU _ hta; omega) (by omega) (by omega) hQ hus) jd_Y_passOn_760 rfl rfl ⟨by decide, by decide⟩ (Nat.le_of_ble_eq_true rfl) (fun w1 hp1 => ?_)
  obtain ⟨Q1, u1, hQ1, r1⟩ := hp1
  have hU1 := jl_upB hU hta
  have hs1 := jl_upP (t := a) hus
  exact E jd_Y_passOn_763 ⟨rfl, ⟨_, _, u1, hQ1, fun t ht => by have := hU1 t ht; omega, r1⟩, rfl⟩
theorem jv_passOn_16 {s a : Nat} (h : jV cI cJ y A n n2 σ w th rk N U Qv) (hs : s < jSt_c σ) (hus : 0 < U s) (hQ : jQ σ U Qv) {K : Nat} (hU : ∀ i, i < jSt_c σ → U i ≤ K) (hK : K < 2 ^ 20) (ho : jT_op (jSt_T σ s) = nI 16) (ha : jT_a (jSt_T σ s) = nI a) (hta : a < jSt_c σ) : jb_M l jy_Y_passOn jc_Y_passOn 6 none 4 115 0 0 D H0 (jt_all cI cJ cT cX) [.ref y, .int (nI s)] w sz
    (fun v w' sz' => v = none ∧ jPs cI cJ y A n n2 σ w th rk N (K + 2) w' ∧ sz' = sz) := by
  refine jb_meth_v (by decide) (Nat.le_of_ble_eq_true rfl) (fun u C X hnm E => ?_)
  have hn := h.toN.cn
  obtain ⟨os1, os2, os3, os4, os5, os6, os7, os8, os9, os10⟩ := h.toN.ok hs
  have cs1 := jl_cells_pos (f := jT_S (jSt_T σ s)) (k := jT_k (jSt_T σ s)) (fun j hj => (os2 j (by omega)).1)
  have s0 := os2 0 (by decide)
  have s1 := os2 1 (by decide)
  have s2 := os2 2 (by decide)
  obtain ⟨oa1, oa2, oa3, oa4, oa5, oa6, oa7, oa8, oa9, oa10⟩ := h.toN.ok hta
  have ca1 := jl_cells_pos (f := jT_S (jSt_T σ a)) (k := jT_k (jSt_T σ a)) (fun j hj => (oa2 j (by omega)).1)
  refine ja_aload_n C jd_Y_passOn_0 0 rfl ?_
  refine jN_ga C jfl_one jd_Y_passOn_1 h.toN (fun _ _ => rfl) ?_
  refine ja_iload_n C jd_Y_passOn_4 1 rfl ?_
  refine jN_ia C (by decide) (fun _ _ => rfl) jd_Y_passOn_5 h.toN hs (fun _ _ q => q.one) ?_
  rw [ha]
  refine ja_istore_n C [(2, .int (nI a)), (0, .ref y), (1, .int (nI s))] jd_Y_passOn_6 rfl (Nat.le_of_ble_eq_true rfl) rfl ?_
  refine ja_aload_n C jd_Y_passOn_7 1 rfl ?_
  refine jN_ga C jfl_two jd_Y_passOn_8 h.toN (fun _ _ => rfl) ?_
  refine ja_iload_n C jd_Y_passOn_11 2 rfl ?_
  refine jN_ia C (by decide) (fun _ _ => rfl) jd_Y_passOn_12 h.toN hs (fun _ _ q => q.two) ?_
  refine ja_istore_n C [(3, .int (jT_b (jSt_T σ s))), (2, .int (nI a)), (0, .ref y), (1, .int (nI s))] jd_Y_passOn_13 rfl (Nat.le_of_ble_eq_true rfl) rfl ?_
  refine ja_aload_n C jd_Y_passOn_14 2 rfl ?_
  refine jN_ga C jfl_op jd_Y_passOn_15 h.toN (fun _ _ => rfl) ?_
  refine ja_iload_n C jd_Y_passOn_18 3 rfl ?_
  refine jN_ia C (by decide) (fun _ _ => rfl) jd_Y_passOn_19 h.toN hs (fun _ _ q => q.op) ?_
  rw [ho]
  refine ja_tableIn C 611 jd_Y_passOn_20 (by decide) (by decide) rfl (by decide) ?_
  refine ja_aload_n C jd_Y_passOn_611 2 rfl ?_
  refine ja_iload_n C jd_Y_passOn_612 3 rfl ?_
  refine ja_iload_n C jd_Y_passOn_613 1 rfl ?_
  refine ja_iconst C (nI 0) jd_Y_passOn_614 (by decide) ?_
  refine ja_iconst C (nI 0) jd_Y_passOn_615 (by decide) ?_
  refine ja_lconst C (lN 1) jd_Y_passOn_616 (by decide) ?_
  refine ja_aload_n C jd_Y_passOn_617 2 rfl ?_
  refine ja_iload_n C jd_Y_passOn_618 3 rfl ?_
  refine ja_iconst C (nI 0) jd_Y_passOn_619 (by decide) ?_
  refine jN_pV 8 C X jk_side h.toN rfl (jn_side h.toN hs (by decide)) jd_Y_passOn_620 rfl rfl ⟨by decide, by decide⟩ (Nat.le_of_ble_eq_true rfl) ?_
  refine jN_vV 8 C X jk_pass h.toN rfl (jv_pass h hs hta (by have := hU _ hta; omega) (by omega) (by omega) hQ hus) jd_Y_passOn_623 rfl rfl ⟨by decide, by decide⟩ (Nat.le_of_ble_eq_true rfl) (fun w1 hp1 => ?_)
  obtain ⟨Q1, u1, hQ1, r1⟩ := hp1
  have hU1 := jl_upB hU hta
  have hs1 := jl_upP (t := a) hus
  exact E jd_Y_passOn_626 ⟨rfl, ⟨_, _, u1, hQ1, fun t ht => by have := hU1 t ht; omega, r1⟩, rfl⟩
theorem jv_passOn_17 {s a : Nat} (h : jV cI cJ y A n n2 σ w th rk N U Qv) (hs : s < jSt_c σ) (hus : 0 < U s) (hQ : jQ σ U Qv) {K : Nat} (hU : ∀ i, i < jSt_c σ → U i ≤ K) (hK : K < 2 ^ 20) (ho : jT_op (jSt_T σ s) = nI 17) (ha : jT_a (jSt_T σ s) = nI a) (hta : a < jSt_c σ) : jb_M l jy_Y_passOn jc_Y_passOn 6 none 4 115 0 0 D H0 (jt_all cI cJ cT cX) [.ref y, .int (nI s)] w sz
    (fun v w' sz' => v = none ∧ jPs cI cJ y A n n2 σ w th rk N (K + 2) w' ∧ sz' = sz) := by
  refine jb_meth_v (by decide) (Nat.le_of_ble_eq_true rfl) (fun u C X hnm E => ?_)
  have hn := h.toN.cn
  obtain ⟨os1, os2, os3, os4, os5, os6, os7, os8, os9, os10⟩ := h.toN.ok hs
  have cs1 := jl_cells_pos (f := jT_S (jSt_T σ s)) (k := jT_k (jSt_T σ s)) (fun j hj => (os2 j (by omega)).1)
  have s0 := os2 0 (by decide)
  have s1 := os2 1 (by decide)
  have s2 := os2 2 (by decide)
  obtain ⟨oa1, oa2, oa3, oa4, oa5, oa6, oa7, oa8, oa9, oa10⟩ := h.toN.ok hta
  have ca1 := jl_cells_pos (f := jT_S (jSt_T σ a)) (k := jT_k (jSt_T σ a)) (fun j hj => (oa2 j (by omega)).1)
  refine ja_aload_n C jd_Y_passOn_0 0 rfl ?_
  refine jN_ga C jfl_one jd_Y_passOn_1 h.toN (fun _ _ => rfl) ?_
  refine ja_iload_n C jd_Y_passOn_4 1 rfl ?_
  refine jN_ia C (by decide) (fun _ _ => rfl) jd_Y_passOn_5 h.toN hs (fun _ _ q => q.one) ?_
  rw [ha]
  refine ja_istore_n C [(2, .int (nI a)), (0, .ref y), (1, .int (nI s))] jd_Y_passOn_6 rfl (Nat.le_of_ble_eq_true rfl) rfl ?_
  refine ja_aload_n C jd_Y_passOn_7 1 rfl ?_
  refine jN_ga C jfl_two jd_Y_passOn_8 h.toN (fun _ _ => rfl) ?_
  refine ja_iload_n C jd_Y_passOn_11 2 rfl ?_
  refine jN_ia C (by decide) (fun _ _ => rfl) jd_Y_passOn_12 h.toN hs (fun _ _ q => q.two) ?_
  refine ja_istore_n C [(3, .int (jT_b (jSt_T σ s))), (2, .int (nI a)), (0, .ref y), (1, .int (nI s))] jd_Y_passOn_13 rfl (Nat.le_of_ble_eq_true rfl) rfl ?_
  refine ja_aload_n C jd_Y_passOn_14 2 rfl ?_
  refine jN_ga C jfl_op jd_Y_passOn_15 h.toN (fun _ _ => rfl) ?_
  refine ja_iload_n C jd_Y_passOn_18 3 rfl ?_
  refine jN_ia C (by decide) (fun _ _ => rfl) jd_Y_passOn_19 h.toN hs (fun _ _ q => q.op) ?_
  rw [ho]
  refine ja_tableIn C 627 jd_Y_passOn_20 (by decide) (by decide) rfl (by decide) ?_
  refine ja_aload_n C jd_Y_passOn_627 2 rfl ?_
  refine ja_iload_n C jd_Y_passOn_628 3 rfl ?_
  refine ja_iload_n C jd_Y_passOn_629 1 rfl ?_
  refine ja_iconst C (nI 0) jd_Y_passOn_630 (by decide) ?_
  refine ja_iconst C (nI 0) jd_Y_passOn_631 (by decide) ?_
  refine ja_lconst C (lN 1) jd_Y_passOn_632 (by decide) ?_
  refine ja_aload_n C jd_Y_passOn_633 2 rfl ?_
  refine jN_ga C jfl_cells jd_Y_passOn_634 h.toN (fun _ _ => rfl) ?_
  refine ja_iload_n C jd_Y_passOn_637 1 rfl ?_
  refine jN_ia C (by decide) (fun _ _ => rfl) jd_Y_passOn_638 h.toN hta (fun _ _ q => q.cells) ?_
  refine jN_vV 8 C X jk_pass h.toN rfl (jv_pass h hs hta (by have := hU _ hta; omega) (by omega) (by omega) hQ hus) jd_Y_passOn_639 rfl rfl ⟨by decide, by decide⟩ (Nat.le_of_ble_eq_true rfl) (fun w1 hp1 => ?_)
  obtain ⟨Q1, u1, hQ1, r1⟩ := hp1
  have hU1 := jl_upB hU hta
  have hs1 := jl_upP (t := a) hus
  exact E jd_Y_passOn_642 ⟨rfl, ⟨_, _, u1, hQ1, fun t ht => by have := hU1 t ht; omega, r1⟩, rfl⟩
theorem jv_passOn_18 {s a b : Nat} (h : jV cI cJ y A n n2 σ w th rk N U Qv) (hs : s < jSt_c σ) (hus : 0 < U s) (hQ : jQ σ U Qv) {K : Nat} (hU : ∀ i, i < jSt_c σ → U i ≤ K) (hK : K < 2 ^ 20) (ho : jT_op (jSt_T σ s) = nI 18) (ha : jT_a (jSt_T σ s) = nI a) (hta : a < jSt_c σ) (hb : jT_b (jSt_T σ s) = nI b) (htb : b < jSt_c σ) : jb_M l jy_Y_passOn jc_Y_passOn 6 none 4 115 0 0 D H0 (jt_all cI cJ cT cX) [.ref y, .int (nI s)] w sz
    (fun v w' sz' => v = none ∧ jPs cI cJ y A n n2 σ w th rk N (K + 2) w' ∧ sz' = sz) := by
  refine jb_meth_v (by decide) (Nat.le_of_ble_eq_true rfl) (fun u C X hnm E => ?_)
  have hn := h.toN.cn
  obtain ⟨os1, os2, os3, os4, os5, os6, os7, os8, os9, os10⟩ := h.toN.ok hs
  have cs1 := jl_cells_pos (f := jT_S (jSt_T σ s)) (k := jT_k (jSt_T σ s)) (fun j hj => (os2 j (by omega)).1)
  have s0 := os2 0 (by decide)
  have s1 := os2 1 (by decide)
  have s2 := os2 2 (by decide)
  obtain ⟨oa1, oa2, oa3, oa4, oa5, oa6, oa7, oa8, oa9, oa10⟩ := h.toN.ok hta
  have ca1 := jl_cells_pos (f := jT_S (jSt_T σ a)) (k := jT_k (jSt_T σ a)) (fun j hj => (oa2 j (by omega)).1)
  obtain ⟨ob1, ob2, ob3, ob4, ob5, ob6, ob7, ob8, ob9, ob10⟩ := h.toN.ok htb
  have cb1 := jl_cells_pos (f := jT_S (jSt_T σ b)) (k := jT_k (jSt_T σ b)) (fun j hj => (ob2 j (by omega)).1)
  have b0 := ob2 0 (by decide)
  have b1 := ob2 1 (by decide)
  have b2 := ob2 2 (by decide)
  have b3 := ob2 3 (by decide)
  have qq := jl_comm_lt (jT_q (jSt_T σ a)) (jT_q (jSt_T σ b))
  refine ja_aload_n C jd_Y_passOn_0 0 rfl ?_
  refine jN_ga C jfl_one jd_Y_passOn_1 h.toN (fun _ _ => rfl) ?_
  refine ja_iload_n C jd_Y_passOn_4 1 rfl ?_
  refine jN_ia C (by decide) (fun _ _ => rfl) jd_Y_passOn_5 h.toN hs (fun _ _ q => q.one) ?_
  rw [ha]
  refine ja_istore_n C [(2, .int (nI a)), (0, .ref y), (1, .int (nI s))] jd_Y_passOn_6 rfl (Nat.le_of_ble_eq_true rfl) rfl ?_
  refine ja_aload_n C jd_Y_passOn_7 1 rfl ?_
  refine jN_ga C jfl_two jd_Y_passOn_8 h.toN (fun _ _ => rfl) ?_
  refine ja_iload_n C jd_Y_passOn_11 2 rfl ?_
  refine jN_ia C (by decide) (fun _ _ => rfl) jd_Y_passOn_12 h.toN hs (fun _ _ q => q.two) ?_
  rw [hb]
  refine ja_istore_n C [(3, .int (nI b)), (2, .int (nI a)), (0, .ref y), (1, .int (nI s))] jd_Y_passOn_13 rfl (Nat.le_of_ble_eq_true rfl) rfl ?_
  refine ja_aload_n C jd_Y_passOn_14 2 rfl ?_
  refine jN_ga C jfl_op jd_Y_passOn_15 h.toN (fun _ _ => rfl) ?_
  refine ja_iload_n C jd_Y_passOn_18 3 rfl ?_
  refine jN_ia C (by decide) (fun _ _ => rfl) jd_Y_passOn_19 h.toN hs (fun _ _ q => q.op) ?_
  rw [ho]
  refine ja_tableIn C 643 jd_Y_passOn_20 (by decide) (by decide) rfl (by decide) ?_
  refine ja_aload_n C jd_Y_passOn_643 2 rfl ?_
  refine jN_ga C jfl_range jd_Y_passOn_644 h.toN (fun _ _ => rfl) ?_
  refine ja_iload_n C jd_Y_passOn_647 1 rfl ?_
  refine jN_ia C (by decide) (fun _ _ => rfl) jd_Y_passOn_648 h.toN hta (fun _ _ q => q.range) ?_
  refine ja_aload_n C jd_Y_passOn_649 2 rfl ?_
  refine jN_ga C jfl_range jd_Y_passOn_650 h.toN (fun _ _ => rfl) ?_
  refine ja_iload_n C jd_Y_passOn_653 0 rfl ?_
  refine jN_ia C (by decide) (fun _ _ => rfl) jd_Y_passOn_654 h.toN htb (fun _ _ q => q.range) ?_
  refine ja_mmaxN C jq_Y_max ⟨Nat.le_of_ble_eq_true rfl, Nat.le_of_ble_eq_true rfl⟩ (by omega) (by omega) jd_Y_passOn_655 ?_
  refine ja_iconst C (nI 2) jd_Y_passOn_658 (by decide) ?_
  refine ja_iaddN C jd_Y_passOn_659 ?_
  refine ja_istore C [(4, .int (nI ((max (jT_r (jSt_T σ a)) (jT_r (jSt_T σ b))) + 2))), (3, .int (nI b)), (2, .int (nI a)), (0, .ref y), (1, .int (nI s))] jd_Y_passOn_660 (Nat.le_of_ble_eq_true rfl) rfl ?_
  refine ja_aload_n C jd_Y_passOn_662 3 rfl ?_
  refine jN_ga C jfl_depth jd_Y_passOn_663 h.toN (fun _ _ => rfl) ?_
  refine ja_iload_n C jd_Y_passOn_666 2 rfl ?_
  refine jN_ia C (by decide) (fun _ _ => rfl) jd_Y_passOn_667 h.toN hta (fun _ _ q => q.depth) ?_
  refine ja_aload_n C jd_Y_passOn_668 3 rfl ?_
  refine jN_ga C jfl_depth jd_Y_passOn_669 h.toN (fun _ _ => rfl) ?_
  refine ja_iload_n C jd_Y_passOn_672 1 rfl ?_
  refine jN_ia C (by decide) (fun _ _ => rfl) jd_Y_passOn_673 h.toN htb (fun _ _ q => q.depth) ?_
  refine ja_mmaxN C jq_Y_max ⟨Nat.le_of_ble_eq_true rfl, Nat.le_of_ble_eq_true rfl⟩ (by omega) (by omega) jd_Y_passOn_674 ?_
  refine ja_istore C [(5, .int (nI (max (jT_e (jSt_T σ a)) (jT_e (jSt_T σ b))))), (4, .int (nI ((max (jT_r (jSt_T σ a)) (jT_r (jSt_T σ b))) + 2))), (3, .int (nI b)), (2, .int (nI a)), (0, .ref y), (1, .int (nI s))] jd_Y_passOn_677 (Nat.le_of_ble_eq_true rfl) rfl ?_
  refine ja_aload_n C jd_Y_passOn_679 4 rfl ?_
  refine ja_iload_n C jd_Y_passOn_680 5 rfl ?_
  refine ja_iload_n C jd_Y_passOn_681 3 rfl ?_
  refine ja_iload C jd_Y_passOn_682 1 rfl ?_
  refine ja_iload C jd_Y_passOn_684 0 rfl ?_
  refine ja_aload_n C jd_Y_passOn_686 4 rfl ?_
  refine jN_ga C jfl_odd jd_Y_passOn_687 h.toN (fun _ _ => rfl) ?_
  refine ja_iload_n C jd_Y_passOn_690 3 rfl ?_
  refine jN_la C jd_Y_passOn_691 h.toN hta ?_
  refine ja_aload_n C jd_Y_passOn_692 4 rfl ?_
  refine jN_ga C jfl_odd jd_Y_passOn_693 h.toN (fun _ _ => rfl) ?_
  refine ja_iload_n C jd_Y_passOn_696 2 rfl ?_
  refine jN_la C jd_Y_passOn_697 h.toN htb ?_
  refine jb_pS 8 C X jk_common (jy_common (by omega) (by omega)) jd_Y_passOn_698 rfl rfl ⟨by decide, by decide⟩ (Nat.le_of_ble_eq_true rfl) ?_
  refine ja_iconst C (nI 1) jd_Y_passOn_701 (by decide) ?_
  refine jN_vV 8 C X jk_pass h.toN rfl (jv_pass h hs hta (by have := hU _ hta; omega) (jl_comm_lt _ _) (by omega) hQ hus) jd_Y_passOn_702 rfl rfl ⟨by decide, by decide⟩ (Nat.le_of_ble_eq_true rfl) (fun w1 hp1 => ?_)
  obtain ⟨Q1, u1, hQ1, r1⟩ := hp1
  have hU1 := jl_upB hU hta
  have hs1 := jl_upP (t := a) hus
  refine ja_aload_n C jd_Y_passOn_705 4 rfl ?_
  refine ja_iload_n C jd_Y_passOn_706 5 rfl ?_
  refine ja_iload_n C jd_Y_passOn_707 2 rfl ?_
  refine ja_iload C jd_Y_passOn_708 1 rfl ?_
  refine ja_iload C jd_Y_passOn_710 0 rfl ?_
  refine ja_aload_n C jd_Y_passOn_712 4 rfl ?_
  refine jN_ga C jfl_odd jd_Y_passOn_713 u1.toN (fun _ _ => rfl) ?_
  refine ja_iload_n C jd_Y_passOn_716 3 rfl ?_
  refine jN_la C jd_Y_passOn_717 u1.toN hta ?_
  refine ja_aload_n C jd_Y_passOn_718 4 rfl ?_
  refine jN_ga C jfl_odd jd_Y_passOn_719 u1.toN (fun _ _ => rfl) ?_
  refine ja_iload_n C jd_Y_passOn_722 2 rfl ?_
  refine jN_la C jd_Y_passOn_723 u1.toN htb ?_
  refine jb_pS 8 C X jk_common (jy_common (by omega) (by omega)) jd_Y_passOn_724 rfl rfl ⟨by decide, by decide⟩ (Nat.le_of_ble_eq_true rfl) ?_
  refine ja_iconst C (nI 1) jd_Y_passOn_727 (by decide) ?_
  refine jN_vV 8 C X jk_pass u1.toN rfl (jv_pass u1 hs htb (by have := hU1 _ htb; omega) (jl_comm_lt _ _) (by omega) hQ1 hs1) jd_Y_passOn_728 rfl rfl ⟨by decide, by decide⟩ (Nat.le_of_ble_eq_true rfl) (fun w2 hp2 => ?_)
  obtain ⟨Q2, u2, hQ2, r2⟩ := hp2
  have hU2 := jl_upB hU1 htb
  have hs2 := jl_upP (t := b) hs1
  exact E jd_Y_passOn_731 ⟨rfl, ⟨_, _, u2, hQ2, fun t ht => by have := hU2 t ht; omega, (r1.tr r2)⟩, rfl⟩
theorem jv_passOn_30 {s : Nat} (h : jV cI cJ y A n n2 σ w th rk N U Qv) (hs : s < jSt_c σ) (hus : 0 < U s) (hQ : jQ σ U Qv) {K : Nat} (hU : ∀ i, i < jSt_c σ → U i ≤ K) (hK : K < 2 ^ 20) (ho : jT_op (jSt_T σ s) = nI 30) : jb_M l jy_Y_passOn jc_Y_passOn 6 none 4 115 0 0 D H0 (jt_all cI cJ cT cX) [.ref y, .int (nI s)] w sz
    (fun v w' sz' => v = none ∧ jPs cI cJ y A n n2 σ w th rk N (K + 2) w' ∧ sz' = sz) := by
  refine jb_meth_v (by decide) (Nat.le_of_ble_eq_true rfl) (fun u C X hnm E => ?_)
  have hn := h.toN.cn
  obtain ⟨os1, os2, os3, os4, os5, os6, os7, os8, os9, os10⟩ := h.toN.ok hs
  have cs1 := jl_cells_pos (f := jT_S (jSt_T σ s)) (k := jT_k (jSt_T σ s)) (fun j hj => (os2 j (by omega)).1)
  have s0 := os2 0 (by decide)
  have s1 := os2 1 (by decide)
  have s2 := os2 2 (by decide)
  refine ja_aload_n C jd_Y_passOn_0 0 rfl ?_
  refine jN_ga C jfl_one jd_Y_passOn_1 h.toN (fun _ _ => rfl) ?_
  refine ja_iload_n C jd_Y_passOn_4 1 rfl ?_
  refine jN_ia C (by decide) (fun _ _ => rfl) jd_Y_passOn_5 h.toN hs (fun _ _ q => q.one) ?_
  refine ja_istore_n C [(2, .int (jT_a (jSt_T σ s))), (0, .ref y), (1, .int (nI s))] jd_Y_passOn_6 rfl (Nat.le_of_ble_eq_true rfl) rfl ?_
  refine ja_aload_n C jd_Y_passOn_7 1 rfl ?_
  refine jN_ga C jfl_two jd_Y_passOn_8 h.toN (fun _ _ => rfl) ?_
  refine ja_iload_n C jd_Y_passOn_11 2 rfl ?_
  refine jN_ia C (by decide) (fun _ _ => rfl) jd_Y_passOn_12 h.toN hs (fun _ _ q => q.two) ?_
  refine ja_istore_n C [(3, .int (jT_b (jSt_T σ s))), (2, .int (jT_a (jSt_T σ s))), (0, .ref y), (1, .int (nI s))] jd_Y_passOn_13 rfl (Nat.le_of_ble_eq_true rfl) rfl ?_
  refine ja_aload_n C jd_Y_passOn_14 2 rfl ?_
  refine jN_ga C jfl_op jd_Y_passOn_15 h.toN (fun _ _ => rfl) ?_
  refine ja_iload_n C jd_Y_passOn_18 3 rfl ?_
  refine jN_ia C (by decide) (fun _ _ => rfl) jd_Y_passOn_19 h.toN hs (fun _ _ q => q.op) ?_
  rw [ho]
  refine ja_tableIn C 236 jd_Y_passOn_20 (by decide) (by decide) rfl (by decide) ?_
  exact E jd_Y_passOn_236 ⟨rfl, ⟨U, Qv, h, hQ, fun t ht => by have := hU t ht; omega, jR.rf⟩, rfl⟩
theorem jv_passOn_31 {s : Nat} (h : jV cI cJ y A n n2 σ w th rk N U Qv) (hs : s < jSt_c σ) (hus : 0 < U s) (hQ : jQ σ U Qv) {K : Nat} (hU : ∀ i, i < jSt_c σ → U i ≤ K) (hK : K < 2 ^ 20) (ho : jT_op (jSt_T σ s) = nI 31) : jb_M l jy_Y_passOn jc_Y_passOn 6 none 4 115 0 0 D H0 (jt_all cI cJ cT cX) [.ref y, .int (nI s)] w sz
    (fun v w' sz' => v = none ∧ jPs cI cJ y A n n2 σ w th rk N (K + 2) w' ∧ sz' = sz) := by
  refine jb_meth_v (by decide) (Nat.le_of_ble_eq_true rfl) (fun u C X hnm E => ?_)
  have hn := h.toN.cn
  obtain ⟨os1, os2, os3, os4, os5, os6, os7, os8, os9, os10⟩ := h.toN.ok hs
  have cs1 := jl_cells_pos (f := jT_S (jSt_T σ s)) (k := jT_k (jSt_T σ s)) (fun j hj => (os2 j (by omega)).1)
  have s0 := os2 0 (by decide)
  have s1 := os2 1 (by decide)
  have s2 := os2 2 (by decide)
  refine ja_aload_n C jd_Y_passOn_0 0 rfl ?_
  refine jN_ga C jfl_one jd_Y_passOn_1 h.toN (fun _ _ => rfl) ?_
  refine ja_iload_n C jd_Y_passOn_4 1 rfl ?_
  refine jN_ia C (by decide) (fun _ _ => rfl) jd_Y_passOn_5 h.toN hs (fun _ _ q => q.one) ?_
  refine ja_istore_n C [(2, .int (jT_a (jSt_T σ s))), (0, .ref y), (1, .int (nI s))] jd_Y_passOn_6 rfl (Nat.le_of_ble_eq_true rfl) rfl ?_
  refine ja_aload_n C jd_Y_passOn_7 1 rfl ?_
  refine jN_ga C jfl_two jd_Y_passOn_8 h.toN (fun _ _ => rfl) ?_
  refine ja_iload_n C jd_Y_passOn_11 2 rfl ?_
  refine jN_ia C (by decide) (fun _ _ => rfl) jd_Y_passOn_12 h.toN hs (fun _ _ q => q.two) ?_
  refine ja_istore_n C [(3, .int (jT_b (jSt_T σ s))), (2, .int (jT_a (jSt_T σ s))), (0, .ref y), (1, .int (nI s))] jd_Y_passOn_13 rfl (Nat.le_of_ble_eq_true rfl) rfl ?_
  refine ja_aload_n C jd_Y_passOn_14 2 rfl ?_
  refine jN_ga C jfl_op jd_Y_passOn_15 h.toN (fun _ _ => rfl) ?_
  refine ja_iload_n C jd_Y_passOn_18 3 rfl ?_
  refine jN_ia C (by decide) (fun _ _ => rfl) jd_Y_passOn_19 h.toN hs (fun _ _ q => q.op) ?_
  rw [ho]
  refine ja_tableIn C 236 jd_Y_passOn_20 (by decide) (by decide) rfl (by decide) ?_
  exact E jd_Y_passOn_236 ⟨rfl, ⟨U, Qv, h, hQ, fun t ht => by have := hU t ht; omega, jR.rf⟩, rfl⟩
theorem jv_passOn_32 {s : Nat} (h : jV cI cJ y A n n2 σ w th rk N U Qv) (hs : s < jSt_c σ) (hus : 0 < U s) (hQ : jQ σ U Qv) {K : Nat} (hU : ∀ i, i < jSt_c σ → U i ≤ K) (hK : K < 2 ^ 20) (ho : jT_op (jSt_T σ s) = nI 32) : jb_M l jy_Y_passOn jc_Y_passOn 6 none 4 115 0 0 D H0 (jt_all cI cJ cT cX) [.ref y, .int (nI s)] w sz
    (fun v w' sz' => v = none ∧ jPs cI cJ y A n n2 σ w th rk N (K + 2) w' ∧ sz' = sz) := by
  refine jb_meth_v (by decide) (Nat.le_of_ble_eq_true rfl) (fun u C X hnm E => ?_)
  have hn := h.toN.cn
  obtain ⟨os1, os2, os3, os4, os5, os6, os7, os8, os9, os10⟩ := h.toN.ok hs
  have cs1 := jl_cells_pos (f := jT_S (jSt_T σ s)) (k := jT_k (jSt_T σ s)) (fun j hj => (os2 j (by omega)).1)
  have s0 := os2 0 (by decide)
  have s1 := os2 1 (by decide)
  have s2 := os2 2 (by decide)
  refine ja_aload_n C jd_Y_passOn_0 0 rfl ?_
  refine jN_ga C jfl_one jd_Y_passOn_1 h.toN (fun _ _ => rfl) ?_
  refine ja_iload_n C jd_Y_passOn_4 1 rfl ?_
  refine jN_ia C (by decide) (fun _ _ => rfl) jd_Y_passOn_5 h.toN hs (fun _ _ q => q.one) ?_
  refine ja_istore_n C [(2, .int (jT_a (jSt_T σ s))), (0, .ref y), (1, .int (nI s))] jd_Y_passOn_6 rfl (Nat.le_of_ble_eq_true rfl) rfl ?_
  refine ja_aload_n C jd_Y_passOn_7 1 rfl ?_
  refine jN_ga C jfl_two jd_Y_passOn_8 h.toN (fun _ _ => rfl) ?_
  refine ja_iload_n C jd_Y_passOn_11 2 rfl ?_
  refine jN_ia C (by decide) (fun _ _ => rfl) jd_Y_passOn_12 h.toN hs (fun _ _ q => q.two) ?_
  refine ja_istore_n C [(3, .int (jT_b (jSt_T σ s))), (2, .int (jT_a (jSt_T σ s))), (0, .ref y), (1, .int (nI s))] jd_Y_passOn_13 rfl (Nat.le_of_ble_eq_true rfl) rfl ?_
  refine ja_aload_n C jd_Y_passOn_14 2 rfl ?_
  refine jN_ga C jfl_op jd_Y_passOn_15 h.toN (fun _ _ => rfl) ?_
  refine ja_iload_n C jd_Y_passOn_18 3 rfl ?_
  refine jN_ia C (by decide) (fun _ _ => rfl) jd_Y_passOn_19 h.toN hs (fun _ _ q => q.op) ?_
  rw [ho]
  refine ja_tableIn C 236 jd_Y_passOn_20 (by decide) (by decide) rfl (by decide) ?_
  exact E jd_Y_passOn_236 ⟨rfl, ⟨U, Qv, h, hQ, fun t ht => by have := hU t ht; omega, jR.rf⟩, rfl⟩
theorem jv_passOn_40 {s a b : Nat} (h : jV cI cJ y A n n2 σ w th rk N U Qv) (hs : s < jSt_c σ) (hus : 0 < U s) (hQ : jQ σ U Qv) {K : Nat} (hU : ∀ i, i < jSt_c σ → U i ≤ K) (hK : K < 2 ^ 20) (ho : jT_op (jSt_T σ s) = nI 40) (ha : jT_a (jSt_T σ s) = nI a) (hta : a < jSt_c σ) (hb : jT_b (jSt_T σ s) = nI b) (htb : b < jSt_c σ) : jb_M l jy_Y_passOn jc_Y_passOn 6 none 4 115 0 0 D H0 (jt_all cI cJ cT cX) [.ref y, .int (nI s)] w sz
    (fun v w' sz' => v = none ∧ jPs cI cJ y A n n2 σ w th rk N (K + 2) w' ∧ sz' = sz) := by
  refine jb_meth_v (by decide) (Nat.le_of_ble_eq_true rfl) (fun u C X hnm E => ?_)
  have hn := h.toN.cn
  obtain ⟨os1, os2, os3, os4, os5, os6, os7, os8, os9, os10⟩ := h.toN.ok hs
  have cs1 := jl_cells_pos (f := jT_S (jSt_T σ s)) (k := jT_k (jSt_T σ s)) (fun j hj => (os2 j (by omega)).1)
  have s0 := os2 0 (by decide)
  have s1 := os2 1 (by decide)
  have s2 := os2 2 (by decide)
  obtain ⟨oa1, oa2, oa3, oa4, oa5, oa6, oa7, oa8, oa9, oa10⟩ := h.toN.ok hta
  have ca1 := jl_cells_pos (f := jT_S (jSt_T σ a)) (k := jT_k (jSt_T σ a)) (fun j hj => (oa2 j (by omega)).1)
  obtain ⟨ob1, ob2, ob3, ob4, ob5, ob6, ob7, ob8, ob9, ob10⟩ := h.toN.ok htb
  have cb1 := jl_cells_pos (f := jT_S (jSt_T σ b)) (k := jT_k (jSt_T σ b)) (fun j hj => (ob2 j (by omega)).1)
  have b0 := ob2 0 (by decide)
  have b1 := ob2 1 (by decide)
  have b2 := ob2 2 (by decide)
  have b3 := ob2 3 (by decide)
  have d1 := Nat.div_le_self (jl_cells (jT_S (jSt_T σ s)) (jT_k (jSt_T σ s))) (jl_cells (jT_S (jSt_T σ a)) (jT_k (jSt_T σ a)))
  have d2 := Nat.div_le_self (jl_cells (jT_S (jSt_T σ s)) (jT_k (jSt_T σ s))) (jl_cells (jT_S (jSt_T σ b)) (jT_k (jSt_T σ b)))
  refine ja_aload_n C jd_Y_passOn_0 0 rfl ?_
  refine jN_ga C jfl_one jd_Y_passOn_1 h.toN (fun _ _ => rfl) ?_
  refine ja_iload_n C jd_Y_passOn_4 1 rfl ?_
  refine jN_ia C (by decide) (fun _ _ => rfl) jd_Y_passOn_5 h.toN hs (fun _ _ q => q.one) ?_
  rw [ha]
  refine ja_istore_n C [(2, .int (nI a)), (0, .ref y), (1, .int (nI s))] jd_Y_passOn_6 rfl (Nat.le_of_ble_eq_true rfl) rfl ?_
  refine ja_aload_n C jd_Y_passOn_7 1 rfl ?_
  refine jN_ga C jfl_two jd_Y_passOn_8 h.toN (fun _ _ => rfl) ?_
  refine ja_iload_n C jd_Y_passOn_11 2 rfl ?_
  refine jN_ia C (by decide) (fun _ _ => rfl) jd_Y_passOn_12 h.toN hs (fun _ _ q => q.two) ?_
  rw [hb]
  refine ja_istore_n C [(3, .int (nI b)), (2, .int (nI a)), (0, .ref y), (1, .int (nI s))] jd_Y_passOn_13 rfl (Nat.le_of_ble_eq_true rfl) rfl ?_
  refine ja_aload_n C jd_Y_passOn_14 2 rfl ?_
  refine jN_ga C jfl_op jd_Y_passOn_15 h.toN (fun _ _ => rfl) ?_
  refine ja_iload_n C jd_Y_passOn_18 3 rfl ?_
  refine jN_ia C (by decide) (fun _ _ => rfl) jd_Y_passOn_19 h.toN hs (fun _ _ q => q.op) ?_
  rw [ho]
  refine ja_tableIn C 237 jd_Y_passOn_20 (by decide) (by decide) rfl (by decide) ?_
  refine ja_aload_n C jd_Y_passOn_237 2 rfl ?_
  refine ja_iload_n C jd_Y_passOn_238 3 rfl ?_
  refine ja_iload_n C jd_Y_passOn_239 1 rfl ?_
  refine ja_iconst C (nI 0) jd_Y_passOn_240 (by decide) ?_
  refine ja_iconst C (nI 0) jd_Y_passOn_241 (by decide) ?_
  refine ja_lconst C (lN 1) jd_Y_passOn_242 (by decide) ?_
  refine ja_aload_n C jd_Y_passOn_243 2 rfl ?_
  refine jN_ga C jfl_cells jd_Y_passOn_244 h.toN (fun _ _ => rfl) ?_
  refine ja_iload_n C jd_Y_passOn_247 3 rfl ?_
  refine jN_ia C (by decide) (fun _ _ => rfl) jd_Y_passOn_248 h.toN hs (fun _ _ q => q.cells) ?_
  refine ja_aload_n C jd_Y_passOn_249 2 rfl ?_
  refine jN_ga C jfl_cells jd_Y_passOn_250 h.toN (fun _ _ => rfl) ?_
  refine ja_iload_n C jd_Y_passOn_253 1 rfl ?_
  refine jN_ia C (by decide) (fun _ _ => rfl) jd_Y_passOn_254 h.toN hta (fun _ _ q => q.cells) ?_
  refine ja_idivN C jd_Y_passOn_255 (by omega) (by omega) (by omega) ?_
  refine jN_vV 8 C X jk_pass h.toN rfl (jv_pass h hs hta (by have := hU _ hta; omega) (by omega) (by omega) hQ hus) jd_Y_passOn_256 rfl rfl ⟨by decide, by decide⟩ (Nat.le_of_ble_eq_true rfl) (fun w1 hp1 => ?_)
  obtain ⟨Q1, u1, hQ1, r1⟩ := hp1
  have hU1 := jl_upB hU hta
  have hs1 := jl_upP (t := a) hus
  refine ja_aload_n C jd_Y_passOn_259 2 rfl ?_
  refine ja_iload_n C jd_Y_passOn_260 3 rfl ?_
  refine ja_iload_n C jd_Y_passOn_261 0 rfl ?_
  refine ja_iconst C (nI 0) jd_Y_passOn_262 (by decide) ?_
  refine ja_iconst C (nI 0) jd_Y_passOn_263 (by decide) ?_
  refine ja_lconst C (lN 1) jd_Y_passOn_264 (by decide) ?_
  refine ja_aload_n C jd_Y_passOn_265 2 rfl ?_
  refine jN_ga C jfl_cells jd_Y_passOn_266 u1.toN (fun _ _ => rfl) ?_
  refine ja_iload_n C jd_Y_passOn_269 3 rfl ?_
  refine jN_ia C (by decide) (fun _ _ => rfl) jd_Y_passOn_270 u1.toN hs (fun _ _ q => q.cells) ?_
  refine ja_aload_n C jd_Y_passOn_271 2 rfl ?_
  refine jN_ga C jfl_cells jd_Y_passOn_272 u1.toN (fun _ _ => rfl) ?_
  refine ja_iload_n C jd_Y_passOn_275 0 rfl ?_
  refine jN_ia C (by decide) (fun _ _ => rfl) jd_Y_passOn_276 u1.toN htb (fun _ _ q => q.cells) ?_
  refine ja_idivN C jd_Y_passOn_277 (by omega) (by omega) (by omega) ?_
  refine jN_vV 8 C X jk_pass u1.toN rfl (jv_pass u1 hs htb (by have := hU1 _ htb; omega) (by omega) (by omega) hQ1 hs1) jd_Y_passOn_278 rfl rfl ⟨by decide, by decide⟩ (Nat.le_of_ble_eq_true rfl) (fun w2 hp2 => ?_)
  obtain ⟨Q2, u2, hQ2, r2⟩ := hp2
  have hU2 := jl_upB hU1 htb
  have hs2 := jl_upP (t := b) hs1
  exact E jd_Y_passOn_281 ⟨rfl, ⟨_, _, u2, hQ2, fun t ht => by have := hU2 t ht; omega, (r1.tr r2)⟩, rfl⟩
theorem jv_passOn_41 {s a b : Nat} (h : jV cI cJ y A n n2 σ w th rk N U Qv) (hs : s < jSt_c σ) (hus : 0 < U s) (hQ : jQ σ U Qv) {K : Nat} (hU : ∀ i, i < jSt_c σ → U i ≤ K) (hK : K < 2 ^ 20) (ho : jT_op (jSt_T σ s) = nI 41) (ha : jT_a (jSt_T σ s) = nI a) (hta : a < jSt_c σ) (hb : jT_b (jSt_T σ s) = nI b) (htb : b < jSt_c σ) : jb_M l jy_Y_passOn jc_Y_passOn 6 none 4 115 0 0 D H0 (jt_all cI cJ cT cX) [.ref y, .int (nI s)] w sz
    (fun v w' sz' => v = none ∧ jPs cI cJ y A n n2 σ w th rk N (K + 2) w' ∧ sz' = sz) := by
  refine jb_meth_v (by decide) (Nat.le_of_ble_eq_true rfl) (fun u C X hnm E => ?_)
  have hn := h.toN.cn
  obtain ⟨os1, os2, os3, os4, os5, os6, os7, os8, os9, os10⟩ := h.toN.ok hs
  have cs1 := jl_cells_pos (f := jT_S (jSt_T σ s)) (k := jT_k (jSt_T σ s)) (fun j hj => (os2 j (by omega)).1)
  have s0 := os2 0 (by decide)
  have s1 := os2 1 (by decide)
  have s2 := os2 2 (by decide)
  obtain ⟨oa1, oa2, oa3, oa4, oa5, oa6, oa7, oa8, oa9, oa10⟩ := h.toN.ok hta
  have ca1 := jl_cells_pos (f := jT_S (jSt_T σ a)) (k := jT_k (jSt_T σ a)) (fun j hj => (oa2 j (by omega)).1)
  obtain ⟨ob1, ob2, ob3, ob4, ob5, ob6, ob7, ob8, ob9, ob10⟩ := h.toN.ok htb
  have cb1 := jl_cells_pos (f := jT_S (jSt_T σ b)) (k := jT_k (jSt_T σ b)) (fun j hj => (ob2 j (by omega)).1)
  have b0 := ob2 0 (by decide)
  have b1 := ob2 1 (by decide)
  have b2 := ob2 2 (by decide)
  have b3 := ob2 3 (by decide)
  have d1 := Nat.div_le_self (jl_cells (jT_S (jSt_T σ s)) (jT_k (jSt_T σ s))) (jl_cells (jT_S (jSt_T σ a)) (jT_k (jSt_T σ a)))
  have d2 := Nat.div_le_self (jl_cells (jT_S (jSt_T σ s)) (jT_k (jSt_T σ s))) (jl_cells (jT_S (jSt_T σ b)) (jT_k (jSt_T σ b)))
  refine ja_aload_n C jd_Y_passOn_0 0 rfl ?_
  refine jN_ga C jfl_one jd_Y_passOn_1 h.toN (fun _ _ => rfl) ?_
  refine ja_iload_n C jd_Y_passOn_4 1 rfl ?_
  refine jN_ia C (by decide) (fun _ _ => rfl) jd_Y_passOn_5 h.toN hs (fun _ _ q => q.one) ?_
  rw [ha]
  refine ja_istore_n C [(2, .int (nI a)), (0, .ref y), (1, .int (nI s))] jd_Y_passOn_6 rfl (Nat.le_of_ble_eq_true rfl) rfl ?_
  refine ja_aload_n C jd_Y_passOn_7 1 rfl ?_
  refine jN_ga C jfl_two jd_Y_passOn_8 h.toN (fun _ _ => rfl) ?_
  refine ja_iload_n C jd_Y_passOn_11 2 rfl ?_
  refine jN_ia C (by decide) (fun _ _ => rfl) jd_Y_passOn_12 h.toN hs (fun _ _ q => q.two) ?_
  rw [hb]
  refine ja_istore_n C [(3, .int (nI b)), (2, .int (nI a)), (0, .ref y), (1, .int (nI s))] jd_Y_passOn_13 rfl (Nat.le_of_ble_eq_true rfl) rfl ?_
  refine ja_aload_n C jd_Y_passOn_14 2 rfl ?_
  refine jN_ga C jfl_op jd_Y_passOn_15 h.toN (fun _ _ => rfl) ?_
  refine ja_iload_n C jd_Y_passOn_18 3 rfl ?_
  refine jN_ia C (by decide) (fun _ _ => rfl) jd_Y_passOn_19 h.toN hs (fun _ _ q => q.op) ?_
  rw [ho]
  refine ja_tableIn C 237 jd_Y_passOn_20 (by decide) (by decide) rfl (by decide) ?_
  refine ja_aload_n C jd_Y_passOn_237 2 rfl ?_
  refine ja_iload_n C jd_Y_passOn_238 3 rfl ?_
  refine ja_iload_n C jd_Y_passOn_239 1 rfl ?_
  refine ja_iconst C (nI 0) jd_Y_passOn_240 (by decide) ?_
  refine ja_iconst C (nI 0) jd_Y_passOn_241 (by decide) ?_
  refine ja_lconst C (lN 1) jd_Y_passOn_242 (by decide) ?_
  refine ja_aload_n C jd_Y_passOn_243 2 rfl ?_
  refine jN_ga C jfl_cells jd_Y_passOn_244 h.toN (fun _ _ => rfl) ?_
  refine ja_iload_n C jd_Y_passOn_247 3 rfl ?_
  refine jN_ia C (by decide) (fun _ _ => rfl) jd_Y_passOn_248 h.toN hs (fun _ _ q => q.cells) ?_
  refine ja_aload_n C jd_Y_passOn_249 2 rfl ?_
  refine jN_ga C jfl_cells jd_Y_passOn_250 h.toN (fun _ _ => rfl) ?_
  refine ja_iload_n C jd_Y_passOn_253 1 rfl ?_
  refine jN_ia C (by decide) (fun _ _ => rfl) jd_Y_passOn_254 h.toN hta (fun _ _ q => q.cells) ?_
  refine ja_idivN C jd_Y_passOn_255 (by omega) (by omega) (by omega) ?_
  refine jN_vV 8 C X jk_pass h.toN rfl (jv_pass h hs hta (by have := hU _ hta; omega) (by omega) (by omega) hQ hus) jd_Y_passOn_256 rfl rfl ⟨by decide, by decide⟩ (Nat.le_of_ble_eq_true rfl) (fun w1 hp1 => ?_)
  obtain ⟨Q1, u1, hQ1, r1⟩ := hp1
  have hU1 := jl_upB hU hta
  have hs1 := jl_upP (t := a) hus
  refine ja_aload_n C jd_Y_passOn_259 2 rfl ?_
  refine ja_iload_n C jd_Y_passOn_260 3 rfl ?_
  refine ja_iload_n C jd_Y_passOn_261 0 rfl ?_
  refine ja_iconst C (nI 0) jd_Y_passOn_262 (by decide) ?_
  refine ja_iconst C (nI 0) jd_Y_passOn_263 (by decide) ?_
  refine ja_lconst C (lN 1) jd_Y_passOn_264 (by decide) ?_
  refine ja_aload_n C jd_Y_passOn_265 2 rfl ?_
  refine jN_ga C jfl_cells jd_Y_passOn_266 u1.toN (fun _ _ => rfl) ?_
  refine ja_iload_n C jd_Y_passOn_269 3 rfl ?_
  refine jN_ia C (by decide) (fun _ _ => rfl) jd_Y_passOn_270 u1.toN hs (fun _ _ q => q.cells) ?_
  refine ja_aload_n C jd_Y_passOn_271 2 rfl ?_
  refine jN_ga C jfl_cells jd_Y_passOn_272 u1.toN (fun _ _ => rfl) ?_
  refine ja_iload_n C jd_Y_passOn_275 0 rfl ?_
  refine jN_ia C (by decide) (fun _ _ => rfl) jd_Y_passOn_276 u1.toN htb (fun _ _ q => q.cells) ?_
  refine ja_idivN C jd_Y_passOn_277 (by omega) (by omega) (by omega) ?_
  refine jN_vV 8 C X jk_pass u1.toN rfl (jv_pass u1 hs htb (by have := hU1 _ htb; omega) (by omega) (by omega) hQ1 hs1) jd_Y_passOn_278 rfl rfl ⟨by decide, by decide⟩ (Nat.le_of_ble_eq_true rfl) (fun w2 hp2 => ?_)
  obtain ⟨Q2, u2, hQ2, r2⟩ := hp2
  have hU2 := jl_upB hU1 htb
  have hs2 := jl_upP (t := b) hs1
  exact E jd_Y_passOn_281 ⟨rfl, ⟨_, _, u2, hQ2, fun t ht => by have := hU2 t ht; omega, (r1.tr r2)⟩, rfl⟩
theorem jv_passOn_42 {s a b : Nat} (h : jV cI cJ y A n n2 σ w th rk N U Qv) (hs : s < jSt_c σ) (hus : 0 < U s) (hQ : jQ σ U Qv) {K : Nat} (hU : ∀ i, i < jSt_c σ → U i ≤ K) (hK : K < 2 ^ 20) (ho : jT_op (jSt_T σ s) = nI 42) (ha : jT_a (jSt_T σ s) = nI a) (hta : a < jSt_c σ) (hb : jT_b (jSt_T σ s) = nI b) (htb : b < jSt_c σ) : jb_M l jy_Y_passOn jc_Y_passOn 6 none 4 115 0 0 D H0 (jt_all cI cJ cT cX) [.ref y, .int (nI s)] w sz
    (fun v w' sz' => v = none ∧ jPs cI cJ y A n n2 σ w th rk N (K + 2) w' ∧ sz' = sz) := by
  refine jb_meth_v (by decide) (Nat.le_of_ble_eq_true rfl) (fun u C X hnm E => ?_)
  have hn := h.toN.cn
  obtain ⟨os1, os2, os3, os4, os5, os6, os7, os8, os9, os10⟩ := h.toN.ok hs
  have cs1 := jl_cells_pos (f := jT_S (jSt_T σ s)) (k := jT_k (jSt_T σ s)) (fun j hj => (os2 j (by omega)).1)
  have s0 := os2 0 (by decide)
  have s1 := os2 1 (by decide)
  have s2 := os2 2 (by decide)
  obtain ⟨oa1, oa2, oa3, oa4, oa5, oa6, oa7, oa8, oa9, oa10⟩ := h.toN.ok hta
  have ca1 := jl_cells_pos (f := jT_S (jSt_T σ a)) (k := jT_k (jSt_T σ a)) (fun j hj => (oa2 j (by omega)).1)
  obtain ⟨ob1, ob2, ob3, ob4, ob5, ob6, ob7, ob8, ob9, ob10⟩ := h.toN.ok htb
  have cb1 := jl_cells_pos (f := jT_S (jSt_T σ b)) (k := jT_k (jSt_T σ b)) (fun j hj => (ob2 j (by omega)).1)
  have b0 := ob2 0 (by decide)
  have b1 := ob2 1 (by decide)
  have b2 := ob2 2 (by decide)
  have b3 := ob2 3 (by decide)
  have d1 := Nat.div_le_self (jl_cells (jT_S (jSt_T σ s)) (jT_k (jSt_T σ s))) (jl_cells (jT_S (jSt_T σ a)) (jT_k (jSt_T σ a)))
  have d2 := Nat.div_le_self (jl_cells (jT_S (jSt_T σ s)) (jT_k (jSt_T σ s))) (jl_cells (jT_S (jSt_T σ b)) (jT_k (jSt_T σ b)))
  refine ja_aload_n C jd_Y_passOn_0 0 rfl ?_
  refine jN_ga C jfl_one jd_Y_passOn_1 h.toN (fun _ _ => rfl) ?_
  refine ja_iload_n C jd_Y_passOn_4 1 rfl ?_
  refine jN_ia C (by decide) (fun _ _ => rfl) jd_Y_passOn_5 h.toN hs (fun _ _ q => q.one) ?_
  rw [ha]
  refine ja_istore_n C [(2, .int (nI a)), (0, .ref y), (1, .int (nI s))] jd_Y_passOn_6 rfl (Nat.le_of_ble_eq_true rfl) rfl ?_
  refine ja_aload_n C jd_Y_passOn_7 1 rfl ?_
  refine jN_ga C jfl_two jd_Y_passOn_8 h.toN (fun _ _ => rfl) ?_
  refine ja_iload_n C jd_Y_passOn_11 2 rfl ?_
  refine jN_ia C (by decide) (fun _ _ => rfl) jd_Y_passOn_12 h.toN hs (fun _ _ q => q.two) ?_
  rw [hb]
  refine ja_istore_n C [(3, .int (nI b)), (2, .int (nI a)), (0, .ref y), (1, .int (nI s))] jd_Y_passOn_13 rfl (Nat.le_of_ble_eq_true rfl) rfl ?_
  refine ja_aload_n C jd_Y_passOn_14 2 rfl ?_
  refine jN_ga C jfl_op jd_Y_passOn_15 h.toN (fun _ _ => rfl) ?_
  refine ja_iload_n C jd_Y_passOn_18 3 rfl ?_
  refine jN_ia C (by decide) (fun _ _ => rfl) jd_Y_passOn_19 h.toN hs (fun _ _ q => q.op) ?_
  rw [ho]
  refine ja_tableIn C 282 jd_Y_passOn_20 (by decide) (by decide) rfl (by decide) ?_
  refine ja_aload_n C jd_Y_passOn_282 2 rfl ?_
  refine ja_iload_n C jd_Y_passOn_283 3 rfl ?_
  refine ja_iload_n C jd_Y_passOn_284 1 rfl ?_
  refine ja_aload_n C jd_Y_passOn_285 2 rfl ?_
  refine jN_ga C jfl_range jd_Y_passOn_286 h.toN (fun _ _ => rfl) ?_
  refine ja_iload_n C jd_Y_passOn_289 0 rfl ?_
  refine jN_ia C (by decide) (fun _ _ => rfl) jd_Y_passOn_290 h.toN htb (fun _ _ q => q.range) ?_
  refine ja_aload_n C jd_Y_passOn_291 2 rfl ?_
  refine jN_ga C jfl_depth jd_Y_passOn_292 h.toN (fun _ _ => rfl) ?_
  refine ja_iload_n C jd_Y_passOn_295 0 rfl ?_
  refine jN_ia C (by decide) (fun _ _ => rfl) jd_Y_passOn_296 h.toN htb (fun _ _ q => q.depth) ?_
  refine ja_aload_n C jd_Y_passOn_297 2 rfl ?_
  refine jN_ga C jfl_odd jd_Y_passOn_298 h.toN (fun _ _ => rfl) ?_
  refine ja_iload_n C jd_Y_passOn_301 0 rfl ?_
  refine jN_la C jd_Y_passOn_302 h.toN htb ?_
  refine ja_aload_n C jd_Y_passOn_303 2 rfl ?_
  refine jN_ga C jfl_cells jd_Y_passOn_304 h.toN (fun _ _ => rfl) ?_
  refine ja_iload_n C jd_Y_passOn_307 3 rfl ?_
  refine jN_ia C (by decide) (fun _ _ => rfl) jd_Y_passOn_308 h.toN hs (fun _ _ q => q.cells) ?_
  refine ja_aload_n C jd_Y_passOn_309 2 rfl ?_
  refine jN_ga C jfl_cells jd_Y_passOn_310 h.toN (fun _ _ => rfl) ?_
  refine ja_iload_n C jd_Y_passOn_313 1 rfl ?_
  refine jN_ia C (by decide) (fun _ _ => rfl) jd_Y_passOn_314 h.toN hta (fun _ _ q => q.cells) ?_
  refine ja_idivN C jd_Y_passOn_315 (by omega) (by omega) (by omega) ?_
  refine jN_vV 8 C X jk_pass h.toN rfl (jv_pass h hs hta (by have := hU _ hta; omega) (by omega) (by omega) hQ hus) jd_Y_passOn_316 rfl rfl ⟨by decide, by decide⟩ (Nat.le_of_ble_eq_true rfl) (fun w1 hp1 => ?_)
  obtain ⟨Q1, u1, hQ1, r1⟩ := hp1
  have hU1 := jl_upB hU hta
  have hs1 := jl_upP (t := a) hus
  refine ja_aload_n C jd_Y_passOn_319 2 rfl ?_
  refine ja_iload_n C jd_Y_passOn_320 3 rfl ?_
  refine ja_iload_n C jd_Y_passOn_321 0 rfl ?_
  refine ja_aload_n C jd_Y_passOn_322 2 rfl ?_
  refine jN_ga C jfl_range jd_Y_passOn_323 u1.toN (fun _ _ => rfl) ?_
  refine ja_iload_n C jd_Y_passOn_326 1 rfl ?_
  refine jN_ia C (by decide) (fun _ _ => rfl) jd_Y_passOn_327 u1.toN hta (fun _ _ q => q.range) ?_
  refine ja_aload_n C jd_Y_passOn_328 2 rfl ?_
  refine jN_ga C jfl_depth jd_Y_passOn_329 u1.toN (fun _ _ => rfl) ?_
  refine ja_iload_n C jd_Y_passOn_332 1 rfl ?_
  refine jN_ia C (by decide) (fun _ _ => rfl) jd_Y_passOn_333 u1.toN hta (fun _ _ q => q.depth) ?_
  refine ja_aload_n C jd_Y_passOn_334 2 rfl ?_
  refine jN_ga C jfl_odd jd_Y_passOn_335 u1.toN (fun _ _ => rfl) ?_
  refine ja_iload_n C jd_Y_passOn_338 1 rfl ?_
  refine jN_la C jd_Y_passOn_339 u1.toN hta ?_
  refine ja_aload_n C jd_Y_passOn_340 2 rfl ?_
  refine jN_ga C jfl_cells jd_Y_passOn_341 u1.toN (fun _ _ => rfl) ?_
  refine ja_iload_n C jd_Y_passOn_344 3 rfl ?_
  refine jN_ia C (by decide) (fun _ _ => rfl) jd_Y_passOn_345 u1.toN hs (fun _ _ q => q.cells) ?_
  refine ja_aload_n C jd_Y_passOn_346 2 rfl ?_
  refine jN_ga C jfl_cells jd_Y_passOn_347 u1.toN (fun _ _ => rfl) ?_
  refine ja_iload_n C jd_Y_passOn_350 0 rfl ?_
  refine jN_ia C (by decide) (fun _ _ => rfl) jd_Y_passOn_351 u1.toN htb (fun _ _ q => q.cells) ?_
  refine ja_idivN C jd_Y_passOn_352 (by omega) (by omega) (by omega) ?_
  refine jN_vV 8 C X jk_pass u1.toN rfl (jv_pass u1 hs htb (by have := hU1 _ htb; omega) (by omega) (by omega) hQ1 hs1) jd_Y_passOn_353 rfl rfl ⟨by decide, by decide⟩ (Nat.le_of_ble_eq_true rfl) (fun w2 hp2 => ?_)
  obtain ⟨Q2, u2, hQ2, r2⟩ := hp2
  have hU2 := jl_upB hU1 htb
  have hs2 := jl_upP (t := b) hs1
  exact E jd_Y_passOn_356 ⟨rfl, ⟨_, _, u2, hQ2, fun t ht => by have := hU2 t ht; omega, (r1.tr r2)⟩, rfl⟩
theorem jv_passOn_43 {s a b : Nat} (h : jV cI cJ y A n n2 σ w th rk N U Qv) (hs : s < jSt_c σ) (hus : 0 < U s) (hQ : jQ σ U Qv) {K : Nat} (hU : ∀ i, i < jSt_c σ → U i ≤ K) (hK : K < 2 ^ 20) (ho : jT_op (jSt_T σ s) = nI 43) (ha : jT_a (jSt_T σ s) = nI a) (hta : a < jSt_c σ) (hb : jT_b (jSt_T σ s) = nI b) (htb : b < jSt_c σ) : jb_M l jy_Y_passOn jc_Y_passOn 6 none 4 115 0 0 D H0 (jt_all cI cJ cT cX) [.ref y, .int (nI s)] w sz
    (fun v w' sz' => v = none ∧ jPs cI cJ y A n n2 σ w th rk N (K + 2) w' ∧ sz' = sz) := by
  refine jb_meth_v (by decide) (Nat.le_of_ble_eq_true rfl) (fun u C X hnm E => ?_)
  have hn := h.toN.cn
  obtain ⟨os1, os2, os3, os4, os5, os6, os7, os8, os9, os10⟩ := h.toN.ok hs
  have cs1 := jl_cells_pos (f := jT_S (jSt_T σ s)) (k := jT_k (jSt_T σ s)) (fun j hj => (os2 j (by omega)).1)
  have s0 := os2 0 (by decide)
  have s1 := os2 1 (by decide)
  have s2 := os2 2 (by decide)
  obtain ⟨oa1, oa2, oa3, oa4, oa5, oa6, oa7, oa8, oa9, oa10⟩ := h.toN.ok hta
  have ca1 := jl_cells_pos (f := jT_S (jSt_T σ a)) (k := jT_k (jSt_T σ a)) (fun j hj => (oa2 j (by omega)).1)
  obtain ⟨ob1, ob2, ob3, ob4, ob5, ob6, ob7, ob8, ob9, ob10⟩ := h.toN.ok htb
  have cb1 := jl_cells_pos (f := jT_S (jSt_T σ b)) (k := jT_k (jSt_T σ b)) (fun j hj => (ob2 j (by omega)).1)
  have b0 := ob2 0 (by decide)
  have b1 := ob2 1 (by decide)
  have b2 := ob2 2 (by decide)
  have b3 := ob2 3 (by decide)
  have d1 := Nat.div_le_self (jl_cells (jT_S (jSt_T σ b)) (jT_k (jSt_T σ b))) (jT_S (jSt_T σ b) 0)
  have d2 := Nat.div_le_self (jl_cells (jT_S (jSt_T σ a)) (jT_k (jSt_T σ a))) (jT_S (jSt_T σ b) 0)
  refine ja_aload_n C jd_Y_passOn_0 0 rfl ?_
  refine jN_ga C jfl_one jd_Y_passOn_1 h.toN (fun _ _ => rfl) ?_
  refine ja_iload_n C jd_Y_passOn_4 1 rfl ?_
  refine jN_ia C (by decide) (fun _ _ => rfl) jd_Y_passOn_5 h.toN hs (fun _ _ q => q.one) ?_
  rw [ha]
  refine ja_istore_n C [(2, .int (nI a)), (0, .ref y), (1, .int (nI s))] jd_Y_passOn_6 rfl (Nat.le_of_ble_eq_true rfl) rfl ?_
  refine ja_aload_n C jd_Y_passOn_7 1 rfl ?_
  refine jN_ga C jfl_two jd_Y_passOn_8 h.toN (fun _ _ => rfl) ?_
  refine ja_iload_n C jd_Y_passOn_11 2 rfl ?_
  refine jN_ia C (by decide) (fun _ _ => rfl) jd_Y_passOn_12 h.toN hs (fun _ _ q => q.two) ?_
  rw [hb]
  refine ja_istore_n C [(3, .int (nI b)), (2, .int (nI a)), (0, .ref y), (1, .int (nI s))] jd_Y_passOn_13 rfl (Nat.le_of_ble_eq_true rfl) rfl ?_
  refine ja_aload_n C jd_Y_passOn_14 2 rfl ?_
  refine jN_ga C jfl_op jd_Y_passOn_15 h.toN (fun _ _ => rfl) ?_
  refine ja_iload_n C jd_Y_passOn_18 3 rfl ?_
  refine jN_ia C (by decide) (fun _ _ => rfl) jd_Y_passOn_19 h.toN hs (fun _ _ q => q.op) ?_
  rw [ho]
  refine ja_tableIn C 357 jd_Y_passOn_20 (by decide) (by decide) rfl (by decide) ?_
  refine ja_aload_n C jd_Y_passOn_357 2 rfl ?_
  refine ja_iload_n C jd_Y_passOn_358 3 rfl ?_
  refine ja_iload_n C jd_Y_passOn_359 1 rfl ?_
  refine ja_aload_n C jd_Y_passOn_360 2 rfl ?_
  refine jN_ga C jfl_range jd_Y_passOn_361 h.toN (fun _ _ => rfl) ?_
  refine ja_iload_n C jd_Y_passOn_364 0 rfl ?_
  refine jN_ia C (by decide) (fun _ _ => rfl) jd_Y_passOn_365 h.toN htb (fun _ _ q => q.range) ?_
  refine ja_aload_n C jd_Y_passOn_366 2 rfl ?_
  refine jN_ga C jfl_depth jd_Y_passOn_367 h.toN (fun _ _ => rfl) ?_
  refine ja_iload_n C jd_Y_passOn_370 0 rfl ?_
  refine jN_ia C (by decide) (fun _ _ => rfl) jd_Y_passOn_371 h.toN htb (fun _ _ q => q.depth) ?_
  refine ja_aload_n C jd_Y_passOn_372 2 rfl ?_
  refine jN_ga C jfl_odd jd_Y_passOn_373 h.toN (fun _ _ => rfl) ?_
  refine ja_iload_n C jd_Y_passOn_376 0 rfl ?_
  refine jN_la C jd_Y_passOn_377 h.toN htb ?_
  refine ja_aload_n C jd_Y_passOn_378 2 rfl ?_
  refine jN_ga C jfl_cells jd_Y_passOn_379 h.toN (fun _ _ => rfl) ?_
  refine ja_iload_n C jd_Y_passOn_382 0 rfl ?_
  refine jN_ia C (by decide) (fun _ _ => rfl) jd_Y_passOn_383 h.toN htb (fun _ _ q => q.cells) ?_
  refine ja_aload_n C jd_Y_passOn_384 2 rfl ?_
  refine ja_iload_n C jd_Y_passOn_385 0 rfl ?_
  refine ja_iconst C (nI 0) jd_Y_passOn_386 (by decide) ?_
  refine jN_pV 8 C X jk_side h.toN rfl (jn_side h.toN htb (by decide)) jd_Y_passOn_387 rfl rfl ⟨by decide, by decide⟩ (Nat.le_of_ble_eq_true rfl) ?_
  refine ja_idivN C jd_Y_passOn_390 (by omega) (by omega) (by omega) ?_
  refine jN_vV 8 C X jk_pass h.toN rfl (jv_pass h hs hta (by have := hU _ hta; omega) (by omega) (by omega) hQ hus) jd_Y_passOn_391 rfl rfl ⟨by decide, by decide⟩ (Nat.le_of_ble_eq_true rfl) (fun w1 hp1 => ?_)
  obtain ⟨Q1, u1, hQ1, r1⟩ := hp1
  have hU1 := jl_upB hU hta
  have hs1 := jl_upP (t := a) hus
  refine ja_aload_n C jd_Y_passOn_394 2 rfl ?_
  refine ja_iload_n C jd_Y_passOn_395 3 rfl ?_
  refine ja_iload_n C jd_Y_passOn_396 0 rfl ?_
  refine ja_aload_n C jd_Y_passOn_397 2 rfl ?_
  refine jN_ga C jfl_range jd_Y_passOn_398 u1.toN (fun _ _ => rfl) ?_
  refine ja_iload_n C jd_Y_passOn_401 1 rfl ?_
  refine jN_ia C (by decide) (fun _ _ => rfl) jd_Y_passOn_402 u1.toN hta (fun _ _ q => q.range) ?_
  refine ja_aload_n C jd_Y_passOn_403 2 rfl ?_
  refine jN_ga C jfl_depth jd_Y_passOn_404 u1.toN (fun _ _ => rfl) ?_
  refine ja_iload_n C jd_Y_passOn_407 1 rfl ?_
  refine jN_ia C (by decide) (fun _ _ => rfl) jd_Y_passOn_408 u1.toN hta (fun _ _ q => q.depth) ?_
  refine ja_aload_n C jd_Y_passOn_409 2 rfl ?_
  refine jN_ga C jfl_odd jd_Y_passOn_410 u1.toN (fun _ _ => rfl) ?_
  refine ja_iload_n C jd_Y_passOn_413 1 rfl ?_
  refine jN_la C jd_Y_passOn_414 u1.toN hta ?_
  refine ja_aload_n C jd_Y_passOn_415 2 rfl ?_
  refine jN_ga C jfl_cells jd_Y_passOn_416 u1.toN (fun _ _ => rfl) ?_
  refine ja_iload_n C jd_Y_passOn_419 1 rfl ?_
  refine jN_ia C (by decide) (fun _ _ => rfl) jd_Y_passOn_420 u1.toN hta (fun _ _ q => q.cells) ?_
  refine ja_aload_n C jd_Y_passOn_421 2 rfl ?_
  refine ja_iload_n C jd_Y_passOn_422 0 rfl ?_
  refine ja_iconst C (nI 0) jd_Y_passOn_423 (by decide) ?_
  refine jN_pV 8 C X jk_side u1.toN rfl (jn_side u1.toN htb (by decide)) jd_Y_passOn_424 rfl rfl ⟨by decide, by decide⟩ (Nat.le_of_ble_eq_true rfl) ?_
  refine ja_idivN C jd_Y_passOn_427 (by omega) (by omega) (by omega) ?_
  refine jN_vV 8 C X jk_pass u1.toN rfl (jv_pass u1 hs htb (by have := hU1 _ htb; omega) (by omega) (by omega) hQ1 hs1) jd_Y_passOn_428 rfl rfl ⟨by decide, by decide⟩ (Nat.le_of_ble_eq_true rfl) (fun w2 hp2 => ?_)
  obtain ⟨Q2, u2, hQ2, r2⟩ := hp2
  have hU2 := jl_upB hU1 htb
  have hs2 := jl_upP (t := b) hs1
  exact E jd_Y_passOn_431 ⟨rfl, ⟨_, _, u2, hQ2, fun t ht => by have := hU2 t ht; omega, (r1.tr r2)⟩, rfl⟩
theorem jv_passOn_50 {s a : Nat} (h : jV cI cJ y A n n2 σ w th rk N U Qv) (hs : s < jSt_c σ) (hus : 0 < U s) (hQ : jQ σ U Qv) {K : Nat} (hU : ∀ i, i < jSt_c σ → U i ≤ K) (hK : K < 2 ^ 20) (ho : jT_op (jSt_T σ s) = nI 50) (ha : jT_a (jSt_T σ s) = nI a) (hta : a < jSt_c σ) : jb_M l jy_Y_passOn jc_Y_passOn 6 none 4 115 0 0 D H0 (jt_all cI cJ cT cX) [.ref y, .int (nI s)] w sz
    (fun v w' sz' => v = none ∧ jPs cI cJ y A n n2 σ w th rk N (K + 2) w' ∧ sz' = sz) := by
  refine jb_meth_v (by decide) (Nat.le_of_ble_eq_true rfl) (fun u C X hnm E => ?_)
  have hn := h.toN.cn
  obtain ⟨os1, os2, os3, os4, os5, os6, os7, os8, os9, os10⟩ := h.toN.ok hs
  have cs1 := jl_cells_pos (f := jT_S (jSt_T σ s)) (k := jT_k (jSt_T σ s)) (fun j hj => (os2 j (by omega)).1)
  have s0 := os2 0 (by decide)
  have s1 := os2 1 (by decide)
  have s2 := os2 2 (by decide)
  obtain ⟨oa1, oa2, oa3, oa4, oa5, oa6, oa7, oa8, oa9, oa10⟩ := h.toN.ok hta
  have ca1 := jl_cells_pos (f := jT_S (jSt_T σ a)) (k := jT_k (jSt_T σ a)) (fun j hj => (oa2 j (by omega)).1)
  refine ja_aload_n C jd_Y_passOn_0 0 rfl ?_
  refine jN_ga C jfl_one jd_Y_passOn_1 h.toN (fun _ _ => rfl) ?_
  refine ja_iload_n C jd_Y_passOn_4 1 rfl ?_
  refine jN_ia C (by decide) (fun _ _ => rfl) jd_Y_passOn_5 h.toN hs (fun _ _ q => q.one) ?_
  rw [ha]
  refine ja_istore_n C [(2, .int (nI a)), (0, .ref y), (1, .int (nI s))] jd_Y_passOn_6 rfl (Nat.le_of_ble_eq_true rfl) rfl ?_
  refine ja_aload_n C jd_Y_passOn_7 1 rfl ?_
  refine jN_ga C jfl_two jd_Y_passOn_8 h.toN (fun _ _ => rfl) ?_
  refine ja_iload_n C jd_Y_passOn_11 2 rfl ?_
  refine jN_ia C (by decide) (fun _ _ => rfl) jd_Y_passOn_12 h.toN hs (fun _ _ q => q.two) ?_
  refine ja_istore_n C [(3, .int (jT_b (jSt_T σ s))), (2, .int (nI a)), (0, .ref y), (1, .int (nI s))] jd_Y_passOn_13 rfl (Nat.le_of_ble_eq_true rfl) rfl ?_
  refine ja_aload_n C jd_Y_passOn_14 2 rfl ?_
  refine jN_ga C jfl_op jd_Y_passOn_15 h.toN (fun _ _ => rfl) ?_
  refine ja_iload_n C jd_Y_passOn_18 3 rfl ?_
  refine jN_ia C (by decide) (fun _ _ => rfl) jd_Y_passOn_19 h.toN hs (fun _ _ q => q.op) ?_
  rw [ho]
  refine ja_tableIn C 753 jd_Y_passOn_20 (by decide) (by decide) rfl (by decide) ?_
  refine ja_aload_n C jd_Y_passOn_753 2 rfl ?_
  refine ja_iload_n C jd_Y_passOn_754 3 rfl ?_
  refine ja_iload_n C jd_Y_passOn_755 1 rfl ?_
  refine ja_iconst C (nI 0) jd_Y_passOn_756 (by decide) ?_
  refine ja_iconst C (nI 0) jd_Y_passOn_757 (by decide) ?_
  refine ja_lconst C (lN 1) jd_Y_passOn_758 (by decide) ?_
  refine ja_iconst C (nI 1) jd_Y_passOn_759 (by decide) ?_
  refine jN_vV 8 C X jk_pass h.toN rfl (jv_pass h hs hta (by have := hU _ hta; omega) (by omega) (by omega) hQ hus) jd_Y_passOn_760 rfl rfl ⟨by decide, by decide⟩ (Nat.le_of_ble_eq_true rfl) (fun w1 hp1 => ?_)
  obtain ⟨Q1, u1, hQ1, r1⟩ := hp1
  have hU1 := jl_upB hU hta
  have hs1 := jl_upP (t := a) hus
  exact E jd_Y_passOn_763 ⟨rfl, ⟨_, _, u1, hQ1, fun t ht => by have := hU1 t ht; omega, r1⟩, rfl⟩
theorem jv_passOn_51 {s a : Nat} (h : jV cI cJ y A n n2 σ w th rk N U Qv) (hs : s < jSt_c σ) (hus : 0 < U s) (hQ : jQ σ U Qv) {K : Nat} (hU : ∀ i, i < jSt_c σ → U i ≤ K) (hK : K < 2 ^ 20) (ho : jT_op (jSt_T σ s) = nI 51) (ha : jT_a (jSt_T σ s) = nI a) (hta : a < jSt_c σ) : jb_M l jy_Y_passOn jc_Y_passOn 6 none 4 115 0 0 D H0 (jt_all cI cJ cT cX) [.ref y, .int (nI s)] w sz
    (fun v w' sz' => v = none ∧ jPs cI cJ y A n n2 σ w th rk N (K + 2) w' ∧ sz' = sz) := by
  refine jb_meth_v (by decide) (Nat.le_of_ble_eq_true rfl) (fun u C X hnm E => ?_)
  have hn := h.toN.cn
  obtain ⟨os1, os2, os3, os4, os5, os6, os7, os8, os9, os10⟩ := h.toN.ok hs
  have cs1 := jl_cells_pos (f := jT_S (jSt_T σ s)) (k := jT_k (jSt_T σ s)) (fun j hj => (os2 j (by omega)).1)
  have s0 := os2 0 (by decide)
  have s1 := os2 1 (by decide)
  have s2 := os2 2 (by decide)
  obtain ⟨oa1, oa2, oa3, oa4, oa5, oa6, oa7, oa8, oa9, oa10⟩ := h.toN.ok hta
  have ca1 := jl_cells_pos (f := jT_S (jSt_T σ a)) (k := jT_k (jSt_T σ a)) (fun j hj => (oa2 j (by omega)).1)
  refine ja_aload_n C jd_Y_passOn_0 0 rfl ?_
  refine jN_ga C jfl_one jd_Y_passOn_1 h.toN (fun _ _ => rfl) ?_
  refine ja_iload_n C jd_Y_passOn_4 1 rfl ?_
  refine jN_ia C (by decide) (fun _ _ => rfl) jd_Y_passOn_5 h.toN hs (fun _ _ q => q.one) ?_
  rw [ha]
  refine ja_istore_n C [(2, .int (nI a)), (0, .ref y), (1, .int (nI s))] jd_Y_passOn_6 rfl (Nat.le_of_ble_eq_true rfl) rfl ?_
  refine ja_aload_n C jd_Y_passOn_7 1 rfl ?_
  refine jN_ga C jfl_two jd_Y_passOn_8 h.toN (fun _ _ => rfl) ?_
  refine ja_iload_n C jd_Y_passOn_11 2 rfl ?_
  refine jN_ia C (by decide) (fun _ _ => rfl) jd_Y_passOn_12 h.toN hs (fun _ _ q => q.two) ?_
  refine ja_istore_n C [(3, .int (jT_b (jSt_T σ s))), (2, .int (nI a)), (0, .ref y), (1, .int (nI s))] jd_Y_passOn_13 rfl (Nat.le_of_ble_eq_true rfl) rfl ?_
  refine ja_aload_n C jd_Y_passOn_14 2 rfl ?_
  refine jN_ga C jfl_op jd_Y_passOn_15 h.toN (fun _ _ => rfl) ?_
  refine ja_iload_n C jd_Y_passOn_18 3 rfl ?_
  refine jN_ia C (by decide) (fun _ _ => rfl) jd_Y_passOn_19 h.toN hs (fun _ _ q => q.op) ?_
  rw [ho]
  refine ja_tableIn C 542 jd_Y_passOn_20 (by decide) (by decide) rfl (by decide) ?_
  refine ja_aload_n C jd_Y_passOn_542 2 rfl ?_
  refine ja_iload_n C jd_Y_passOn_543 3 rfl ?_
  refine ja_iload_n C jd_Y_passOn_544 1 rfl ?_
  refine ja_aload_n C jd_Y_passOn_545 2 rfl ?_
  refine jN_ga C jfl_lower jd_Y_passOn_546 h.toN (fun _ _ => rfl) ?_
  refine ja_iload_n C jd_Y_passOn_549 3 rfl ?_
  have fr : ∀ V VL, jT_row V VL s (jSt_T σ s) → V 10 s = nI (jT_u (jSt_T σ s)) ∧ V 11 s = nI (jT_l (jSt_T σ s)) := fun V VL q => by have := q.frac ho; exact ⟨this.1, this.2.1⟩
  obtain ⟨f1, f2, f3, f4⟩ : 1 ≤ jT_u (jSt_T σ s) ∧ 1 ≤ jT_l (jSt_T σ s) ∧ jT_u (jSt_T σ s) < 2 ^ 31 ∧ jT_l (jSt_T σ s) < 2 ^ 31 := by
    obtain ⟨s', V', VL', hM, -⟩ := h
    exact ((hM.2.2.2.2.2.2.2.2.2.2.2.1 s hs).2.frac ho).2.2
  refine jN_u10 C (Or.inr rfl) jd_Y_passOn_550 h.toN hs (fun V VL q => (fr V VL q).2) ?_
  have hlg := jl_log_le (m := jT_l (jSt_T σ s) + 1) (by omega)
  have htw := jl_twos_le 40 (jT_u (jSt_T σ s))
  have hod := jl_odd_le 40 (jT_u (jSt_T σ s))
  refine ja_i2lN C jd_Y_passOn_551 (by omega) ?_
  refine ja_lconst C (lN 1) jd_Y_passOn_552 (by decide) ?_
  refine ja_laddN C jd_Y_passOn_553 ?_
  refine jb_pS 8 C X jk_log (jy_log (by omega)) jd_Y_passOn_554 rfl rfl ⟨by decide, by decide⟩ (Nat.le_of_ble_eq_true rfl) ?_
  refine ja_aload_n C jd_Y_passOn_557 2 rfl ?_
  refine jN_ga C jfl_upper jd_Y_passOn_558 h.toN (fun _ _ => rfl) ?_
  refine ja_iload_n C jd_Y_passOn_561 3 rfl ?_
  refine jN_u10 C (Or.inl rfl) jd_Y_passOn_562 h.toN hs (fun V VL q => (fr V VL q).1) ?_
  refine ja_i2lN C jd_Y_passOn_563 (by omega) ?_
  refine jb_pS 8 C X jk_twos (jy_twos (by omega) (by omega)) jd_Y_passOn_564 rfl rfl ⟨by decide, by decide⟩ (Nat.le_of_ble_eq_true rfl) ?_
  refine ja_aload_n C jd_Y_passOn_567 2 rfl ?_
  refine jN_ga C jfl_upper jd_Y_passOn_568 h.toN (fun _ _ => rfl) ?_
  refine ja_iload_n C jd_Y_passOn_571 3 rfl ?_
  refine jN_u10 C (Or.inl rfl) jd_Y_passOn_572 h.toN hs (fun V VL q => (fr V VL q).1) ?_
  refine ja_i2lN C jd_Y_passOn_573 (by omega) ?_
  refine jb_pS 8 C X jk_oddPart (jy_oddPart (by omega) (by omega)) jd_Y_passOn_574 rfl rfl ⟨by decide, by decide⟩ (Nat.le_of_ble_eq_true rfl) ?_
  refine ja_iconst C (nI 1) jd_Y_passOn_577 (by decide) ?_
  refine jN_vV 8 C X jk_pass h.toN rfl (jv_pass h hs hta (by have := hU _ hta; omega) (by omega) (by omega) hQ hus) jd_Y_passOn_578 rfl rfl ⟨by decide, by decide⟩ (Nat.le_of_ble_eq_true rfl) (fun w1 hp1 => ?_)
  obtain ⟨Q1, u1, hQ1, r1⟩ := hp1
  have hU1 := jl_upB hU hta
  have hs1 := jl_upP (t := a) hus
  exact E jd_Y_passOn_581 ⟨rfl, ⟨_, _, u1, hQ1, fun t ht => by have := hU1 t ht; omega, r1⟩, rfl⟩
end Y51
