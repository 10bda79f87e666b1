/-! SHAPES -/
/-- a shape: k sides, S (1 where there is none) -/
def jSh (k : Nat) (f : Nat → Int32) (S : Nat → Nat) : Prop := k ≤ 4 ∧ (∀ j, j < k → f j = nI (S j) ∧ 1 ≤ S j ∧ S j ≤ 8192) ∧ ∀ j, k ≤ j → S j = 1
theorem jSh.bd {k : Nat} {f : Nat → Int32} {S : Nat → Nat} (h : jSh k f S) (j : Nat) : 1 ≤ S j ∧ S j ≤ 8192 := by
  rcases Nat.lt_or_ge j k with z | z
  · exact (h.2.1 j z).2
  · rw [h.2.2 j z]; exact ⟨Nat.le_refl 1, by decide⟩
/-- the cells, 65537 for all that is more than 65536 -/
def jl_cl (S : Nat → Nat) (k : Nat) : Nat := if jl_cells S k ≤ 65536 then jl_cells S k else 65537
theorem jl_cells_mono {S : Nat → Nat} (h : ∀ j, 1 ≤ S j) {i k : Nat} (hk : i ≤ k) : jl_cells S i ≤ jl_cells S k := by
  induction k with
  | zero => rw [show i = 0 by omega]; exact Nat.le_refl _
  | succ k ih =>
    rcases Nat.lt_or_ge i (k + 1) with z | z
    · rw [jl_cells]; exact Nat.le_trans (ih (by omega)) (Nat.le_mul_of_pos_right _ (h k))
    · rw [show i = k + 1 by omega]; exact Nat.le_refl _
theorem jl_long_le {N : Nat → Nat} {r : Nat} (h : ∀ k, k < r → N k ≤ 4096) : jl_long N r = false := by
  induction r with
  | zero => rfl
  | succ r ih => rw [jl_long, ih (fun k hk => h k (by omega))]; have := h r (by omega); simp; omega
theorem jl_long_gt {N : Nat → Nat} {r k : Nat} (hk : k < r) (h : 4096 < N k) : jl_long N r = true := by
  induction r with
  | zero => omega
  | succ r ih =>
    rw [jl_long]
    rcases Nat.lt_or_ge k r with z | z
    · rw [ih z, Bool.true_or]
    · have : k = r := by omega
      subst this
      simp [h]
theorem jg_S_15 : ja_FL jcl "MeasuredTensors$Shape" 15 1 1 := ⟨_, rfl, by decide, jw_S, jw_in (by decide +kernel) (by decide +kernel)⟩
theorem jg_S_9 : ja_FL jcl "MeasuredTensors$Shape" 9 1 0 := ⟨_, rfl, by decide, jw_S, jw_in (by decide +kernel) (by decide +kernel)⟩
theorem jp_S_15 : ja_FP jcl "MeasuredTensors$Shape" 15 1 1 .int := ⟨_, jt_S, rfl, by decide, jw_S, jw_in (by decide +kernel) (by decide +kernel), jf_S_ty, jf_S_nm, rfl⟩
theorem jnf_S_1 : ∀ r, jcl[1]? = some r → (r.2.1 1).2.2.2 = false := fun r h => by cases h; rfl
theorem jk_S_19 : jb_KV "MeasuredTensors$Shape" 19 jy_S_side jc_S_side 2 (some .int) 1 := ⟨jw_in (by decide +kernel) (by decide +kernel), jw_in (by decide +kernel) (by decide +kernel), jw_in (by decide +kernel) (by decide +kernel), jw_in (by decide +kernel) (by decide +kernel), jw_in (by decide +kernel) (by decide +kernel), by decide +kernel⟩
theorem jk_S_23 : jb_KV "MeasuredTensors$Shape" 23 jy_S_set jc_S_set 6 none 5 := ⟨jw_in (by decide +kernel) (by decide +kernel), jw_in (by decide +kernel) (by decide +kernel), jw_in (by decide +kernel) (by decide +kernel), jw_in (by decide +kernel) (by decide +kernel), jw_in (by decide +kernel) (by decide +kernel), by decide +kernel⟩
theorem jq_S_27 : Cond.constantLong "MeasuredTensors$Shape" 27 (lN 65536) ∈ jw_all := jw_in (by decide +kernel) (by decide +kernel)
theorem jq_S_29 : Cond.constant "MeasuredTensors$Shape" 29 (nI 65537) ∈ jw_all := jw_in (by decide +kernel) (by decide +kernel)
theorem jk_S_30 : jb_KV "MeasuredTensors$Shape" 30 jy_S_cells jc_S_cells 4 (some .int) 0 := ⟨jw_in (by decide +kernel) (by decide +kernel), jw_in (by decide +kernel) (by decide +kernel), jw_in (by decide +kernel) (by decide +kernel), jw_in (by decide +kernel) (by decide +kernel), jw_in (by decide +kernel) (by decide +kernel), by decide +kernel⟩
theorem jq_S_34 : Cond.constant "MeasuredTensors$Shape" 34 (nI 65536) ∈ jw_all := jw_in (by decide +kernel) (by decide +kernel)
section X69
variable {l : Launch} {D : va_G} {H0 : Heap} {cI cJ cT cX : ClassId} {w : jb_W} {sz : Nat}
theorem js_side {s le k : Nat} {f : Nat → Int32} {S : Nat → Nat} {i : Nat} (hs : w s = some (.inr (1, [.ref le, .int (nI k)]))) (hl : w le = some (.inl (cI, 4, .inl f))) (h : jSh k f S) (hi : i < 2 ^ 31) : jb_M l jy_S_side jc_S_side 2 (some .int) 0 0 0 0 D H0 (jt_all cI cJ cT cX) [.ref s, .int (nI i)] w sz
    (fun v w' sz' => v = some (.int (nI (S i))) ∧ w' = w ∧ sz' = sz) := by
  refine jb_meth_i (by decide) (Nat.le_of_ble_eq_true rfl) (fun u C X E => ?_)
  have hk := h.1
  have no : ∀ (hf : k ≤ i), ja (jb_mk l (jb_rm 0 0 0 0) 2 "MeasuredTensors$Shape" D H0 (jt_all cI cJ cT cX) u) w sz 0 0 21 [(0, .ref s), (1, .int (nI i))] [] := by
    intro hf
    refine ja_iconst C (nI 1) jd_S_side_21 (by decide) ?_
    refine ja_goto C 31 jd_S_side_22 (by decide) ?_
    exact E jd_S_side_31 ⟨by rw [h.2.2 i hf], rfl, rfl⟩
  refine ja_iload_n C jd_S_side_0 1 rfl ?_
  refine ja_if_ltN C 21 jd_S_side_1 (by decide) (by omega) ?_
  refine ja_iload_n C jd_S_side_4 1 rfl ?_
  refine ja_aload_n C jd_S_side_5 0 rfl ?_
  refine ja_get C jg_S_15 jd_S_side_6 hs rfl ?_
  refine ja_icmp_geN C 21 jd_S_side_9 (by decide) (by omega) (by omega) (fun c1 => no c1) (fun c1 => ?_)
  refine ja_iload_n C jd_S_side_12 1 rfl ?_
  refine ja_aload_n C jd_S_side_13 0 rfl ?_
  refine ja_get C jg_S_9 jd_S_side_14 hs rfl ?_
  refine ja_alen C 0 rfl jd_S_side_17 hl (nI 4) rfl ?_
  refine ja_icmp_ltN C 25 jd_S_side_18 (by decide) (by omega) (by decide) (fun c2 => ?_) (fun c2 => no (by omega))
  refine ja_aload_n C jd_S_side_25 0 rfl ?_
  refine ja_get C jg_S_9 jd_S_side_26 hs rfl ?_
  refine ja_iload_n C jd_S_side_29 1 rfl ?_
  refine ja_iaN C rfl jd_S_side_30 hl (by omega) (by decide) rfl ?_
  exact E jd_S_side_31 ⟨by rw [(h.2.1 i c1).1], rfl, rfl⟩
theorem js_clear {s le k : Nat} {f : Nat → Int32} (hs : w s = some (.inr (1, [.ref le, .int (nI k)]))) (hl : w le = some (.inl (cI, 4, .inl f))) : jb_M l jy_S_clear jc_S_clear 1 none 0 0 0 0 D H0 (jt_all cI cJ cT cX) [.ref s] w sz
    (fun v w' sz' => v = none ∧ (w' s = some (.inr (1, [.ref le, .int (nI 0)])) ∧ jF s w w') ∧ sz' = sz) := by
  refine jb_meth_v (by decide) (Nat.le_of_ble_eq_true rfl) (fun u C X hnm E => ?_)
  refine ja_aload_n C jd_S_clear_0 0 rfl ?_
  refine ja_iconst C (nI 0) jd_S_clear_1 (by decide) ?_
  refine jo_put C jp_S_15 jnf_S_1 jd_S_clear_2 hs rfl rfl (Nat.le_of_ble_eq_true rfl) [.ref le, .int (nI 0)] rfl (fun w1 g1 f1 => ?_)
  exact E jd_S_clear_5 ⟨rfl, ⟨g1, (fun c n0 => (f1 c n0))⟩, rfl⟩
theorem js_set {s le k : Nat} {f : Nat → Int32} {x a b c d : Int32} (hs : w s = some (.inr (1, [.ref le, .int (nI k)]))) (hl : w le = some (.inl (cI, 4, .inl f))) : jb_M l jy_S_set jc_S_set 6 none 0 0 0 0 D H0 (jt_all cI cJ cT cX) [.ref s, .int x, .int a, .int b, .int c, .int d] w sz
    (fun v w' sz' => v = none ∧ (w' s = some (.inr (1, [.ref le, .int (x)])) ∧ w' le = some (.inl (cI, 4, .inl (upd (upd (upd (upd f 0 a) 1 b) 2 c) 3 d))) ∧ ∀ q, q ≠ s → q ≠ le → w' q = w q) ∧ sz' = sz) := by
  refine jb_meth_v (by decide) (Nat.le_of_ble_eq_true rfl) (fun u C X hnm E => ?_)
  have hne : le ≠ s := fun e => by rw [e, hs] at hl; cases hl
  refine ja_aload_n C jd_S_set_0 0 rfl ?_
  refine ja_get C jg_S_9 jd_S_set_1 hs rfl ?_
  refine ja_iconst C (nI 0) jd_S_set_4 (by decide) ?_
  refine ja_iload_n C jd_S_set_5 2 rfl ?_
  refine jo_iast C rfl jd_S_set_6 hl (by decide) (by decide) (fun w1 g1 f1 => ?_)
  refine ja_aload_n C jd_S_set_7 0 rfl ?_
  refine ja_get C jg_S_9 jd_S_set_8 ((f1 _ (by omega)).trans hs) rfl ?_
  refine ja_iconst C (nI 1) jd_S_set_11 (by decide) ?_
  refine ja_iload_n C jd_S_set_12 3 rfl ?_
  refine jo_iast C rfl jd_S_set_13 g1 (by decide) (by decide) (fun w2 g2 f2 => ?_)
  refine ja_aload_n C jd_S_set_14 0 rfl ?_
  refine ja_get C jg_S_9 jd_S_set_15 ((f2 _ (by omega)).trans ((f1 _ (by omega)).trans hs)) rfl ?_
  refine ja_iconst C (nI 2) jd_S_set_18 (by decide) ?_
  refine ja_iload C jd_S_set_19 4 rfl ?_
  refine jo_iast C rfl jd_S_set_21 g2 (by decide) (by decide) (fun w3 g3 f3 => ?_)
  refine ja_aload_n C jd_S_set_22 0 rfl ?_
  refine ja_get C jg_S_9 jd_S_set_23 ((f3 _ (by omega)).trans ((f2 _ (by omega)).trans ((f1 _ (by omega)).trans hs))) rfl ?_
  refine ja_iconst C (nI 3) jd_S_set_26 (by decide) ?_
  refine ja_iload C jd_S_set_27 5 rfl ?_
  refine jo_iast C rfl jd_S_set_29 g3 (by decide) (by decide) (fun w4 g4 f4 => ?_)
  refine ja_aload_n C jd_S_set_30 0 rfl ?_
  refine ja_iload_n C jd_S_set_31 1 rfl ?_
  refine jo_put C jp_S_15 jnf_S_1 jd_S_set_32 ((f4 _ (by omega)).trans ((f3 _ (by omega)).trans ((f2 _ (by omega)).trans ((f1 _ (by omega)).trans hs)))) rfl rfl (Nat.le_of_ble_eq_true rfl) [.ref le, .int x] rfl (fun w5 g5 f5 => ?_)
  exact E jd_S_set_35 ⟨rfl, ⟨g5, ((f5 _ (by omega)).trans g4), (fun c n0 n1 => ((f5 c n0).trans ((f4 c n1).trans ((f3 c n1).trans ((f2 c n1).trans (f1 c n1))))))⟩, rfl⟩
theorem js_setFirst {s le k : Nat} {f : Nat → Int32} {x : Int32} (hs : w s = some (.inr (1, [.ref le, .int (nI k)]))) (hl : w le = some (.inl (cI, 4, .inl f))) : jb_M l jy_S_setFirst jc_S_setFirst 2 none 0 0 0 0 D H0 (jt_all cI cJ cT cX) [.ref s, .int x] w sz
    (fun v w' sz' => v = none ∧ (w' le = some (.inl (cI, 4, .inl (upd f 0 x))) ∧ jF le w w') ∧ sz' = sz) := by
  refine jb_meth_v (by decide) (Nat.le_of_ble_eq_true rfl) (fun u C X hnm E => ?_)
  have hne : le ≠ s := fun e => by rw [e, hs] at hl; cases hl
  refine ja_aload_n C jd_S_setFirst_0 0 rfl ?_
  refine ja_get C jg_S_9 jd_S_setFirst_1 hs rfl ?_
  refine ja_iconst C (nI 0) jd_S_setFirst_4 (by decide) ?_
  refine ja_iload_n C jd_S_setFirst_5 1 rfl ?_
  refine jo_iast C rfl jd_S_setFirst_6 hl (by decide) (by decide) (fun w1 g1 f1 => ?_)
  exact E jd_S_setFirst_7 ⟨rfl, ⟨g1, (fun c n0 => (f1 c n0))⟩, rfl⟩
theorem js_append {s le k : Nat} {f : Nat → Int32} {x : Int32} (hs : w s = some (.inr (1, [.ref le, .int (nI k)]))) (hl : w le = some (.inl (cI, 4, .inl f))) (hk : k < 4) : jb_M l jy_S_append jc_S_append 2 none 0 0 0 0 D H0 (jt_all cI cJ cT cX) [.ref s, .int x] w sz
    (fun v w' sz' => v = none ∧ (w' s = some (.inr (1, [.ref le, .int (nI (k + 1))])) ∧ w' le = some (.inl (cI, 4, .inl (upd f k x))) ∧ ∀ c, c ≠ s → c ≠ le → w' c = w c) ∧ sz' = sz) := by
  refine jb_meth_v (by decide) (Nat.le_of_ble_eq_true rfl) (fun u C X hnm E => ?_)
  have hne : le ≠ s := fun e => by rw [e, hs] at hl; cases hl
  refine ja_aload_n C jd_S_append_0 0 rfl ?_
  refine ja_get C jg_S_15 jd_S_append_1 hs rfl ?_
  refine ja_if_ltN C 39 jd_S_append_4 (by decide) (by omega) ?_
  refine ja_aload_n C jd_S_append_7 0 rfl ?_
  refine ja_get C jg_S_15 jd_S_append_8 hs rfl ?_
  refine ja_aload_n C jd_S_append_11 0 rfl ?_
  refine ja_get C jg_S_9 jd_S_append_12 hs rfl ?_
  refine ja_alen C 0 rfl jd_S_append_15 hl (nI 4) rfl ?_
  refine ja_icmp_geN C 39 jd_S_append_16 (by decide) (by omega) (by decide) (fun c1 => absurd c1 (by omega)) (fun c1 => ?_)
  refine ja_aload_n C jd_S_append_19 0 rfl ?_
  refine ja_get C jg_S_9 jd_S_append_20 hs rfl ?_
  refine ja_aload_n C jd_S_append_23 0 rfl ?_
  refine ja_get C jg_S_15 jd_S_append_24 hs rfl ?_
  refine ja_iload_n C jd_S_append_27 1 rfl ?_
  refine jo_iast C rfl jd_S_append_28 hl (by omega) (by decide) (fun w1 g1 f1 => ?_)
  refine ja_aload_n C jd_S_append_29 0 rfl ?_
  refine ja_dup C jd_S_append_30 rfl ?_
  refine ja_get C jg_S_15 jd_S_append_31 ((f1 _ (by omega)).trans hs) rfl ?_
  refine ja_iconst C (nI 1) jd_S_append_34 (by decide) ?_
  refine ja_iaddN C jd_S_append_35 ?_
  refine jo_put C jp_S_15 jnf_S_1 jd_S_append_36 ((f1 _ (by omega)).trans hs) rfl rfl (Nat.le_of_ble_eq_true rfl) [.ref le, .int (nI (k + 1))] rfl (fun w2 g2 f2 => ?_)
  exact E jd_S_append_39 ⟨rfl, ⟨g2, ((f2 _ (by omega)).trans g1), (fun c n0 n1 => ((f2 c n0).trans (f1 c n1)))⟩, rfl⟩
theorem js_copy {s le k : Nat} {f : Nat → Int32} {s2 le2 k2 : Nat} {f2 : Nat → Int32} {S : Nat → Nat} (hs : w s = some (.inr (1, [.ref le, .int (nI k)]))) (hl : w le = some (.inl (cI, 4, .inl f))) (hs2 : w s2 = some (.inr (1, [.ref le2, .int (nI k2)]))) (hl2 : w le2 = some (.inl (cI, 4, .inl f2))) (h : jSh k2 f2 S) : jb_M l jy_S_copy jc_S_copy 2 none 1 25 0 0 D H0 (jt_all cI cJ cT cX) [.ref s, .ref s2] w sz
    (fun v w' sz' => v = none ∧ (w' s = some (.inr (1, [.ref le, .int (nI k2)])) ∧ w' le = some (.inl (cI, 4, .inl (upd (upd (upd (upd f 0 (nI (S 0))) 1 (nI (S 1))) 2 (nI (S 2))) 3 (nI (S 3))))) ∧ ∀ c, c ≠ s → c ≠ le → w' c = w c) ∧ sz' = sz) := by
  refine jb_meth_v (by decide) (Nat.le_of_ble_eq_true rfl) (fun u C X hnm E => ?_)
  refine ja_aload_n C jd_S_copy_0 0 rfl ?_
  refine ja_aload_n C jd_S_copy_1 1 rfl ?_
  refine ja_get C jg_S_15 jd_S_copy_2 hs2 rfl ?_
  refine ja_aload_n C jd_S_copy_5 1 rfl ?_
  refine ja_iconst C (nI 0) jd_S_copy_6 (by decide) ?_
  refine jb_pV 8 C X jk_S_19 hs2 rfl (js_side hs2 hl2 h (by decide)) jd_S_copy_7 rfl rfl ⟨by decide, by decide⟩ (Nat.le_of_ble_eq_true rfl) ?_
  refine ja_aload_n C jd_S_copy_10 1 rfl ?_
  refine ja_iconst C (nI 1) jd_S_copy_11 (by decide) ?_
  refine jb_pV 8 C X jk_S_19 hs2 rfl (js_side hs2 hl2 h (by decide)) jd_S_copy_12 rfl rfl ⟨by decide, by decide⟩ (Nat.le_of_ble_eq_true rfl) ?_
  refine ja_aload_n C jd_S_copy_15 1 rfl ?_
  refine ja_iconst C (nI 2) jd_S_copy_16 (by decide) ?_
  refine jb_pV 8 C X jk_S_19 hs2 rfl (js_side hs2 hl2 h (by decide)) jd_S_copy_17 rfl rfl ⟨by decide, by decide⟩ (Nat.le_of_ble_eq_true rfl) ?_
  refine ja_aload_n C jd_S_copy_20 1 rfl ?_
  refine ja_iconst C (nI 3) jd_S_copy_21 (by decide) ?_
  refine jb_pV 8 C X jk_S_19 hs2 rfl (js_side hs2 hl2 h (by decide)) jd_S_copy_22 rfl rfl ⟨by decide, by decide⟩ (Nat.le_of_ble_eq_true rfl) ?_
  refine jo_vV 8 C X jk_S_23 hs rfl (js_set hs hl) jd_S_copy_25 rfl rfl ⟨by decide, by decide⟩ (Nat.le_of_ble_eq_true rfl) (fun w1 hp1 => ?_)
  obtain ⟨g1a, g1b, f1⟩ := hp1
  exact E jd_S_copy_28 ⟨rfl, ⟨g1a, g1b, (fun c n0 n1 => (f1 c n0 n1))⟩, rfl⟩
theorem js_remove0 {s le k : Nat} {f : Nat → Int32} {i : Nat} (hs : w s = some (.inr (1, [.ref le, .int (nI k)]))) (hl : w le = some (.inl (cI, 4, .inl f))) (hk : k ≤ 4) (hi : k ≤ i) (hi2 : i < 2 ^ 31) : jb_M l jy_S_remove jc_S_remove 3 (some .boolean) 0 0 0 0 D H0 (jt_all cI cJ cT cX) [.ref s, .int (nI i)] w sz
    (fun v w' sz' => v = some (.int (nI 0)) ∧ w' = w ∧ sz' = sz) := by
  refine jb_meth_z (by decide) (Nat.le_of_ble_eq_true rfl) (fun u C X E => ?_)
  refine ja_iload_n C jd_S_remove_0 1 rfl ?_
  refine ja_if_ltN C 12 jd_S_remove_1 (by decide) (by omega) ?_
  refine ja_iload_n C jd_S_remove_4 1 rfl ?_
  refine ja_aload_n C jd_S_remove_5 0 rfl ?_
  refine ja_get C jg_S_15 jd_S_remove_6 hs rfl ?_
  refine ja_icmp_ltN C 14 jd_S_remove_9 (by decide) (by omega) (by omega) (fun c1 => absurd c1 (by omega)) (fun c1 => ?_)
  refine ja_iconst C (nI 0) jd_S_remove_12 (by decide) ?_
  exact E jd_S_remove_13 (Or.inl rfl) ⟨rfl, rfl, rfl⟩
theorem js_remove {s le k : Nat} {f : Nat → Int32} {i : Nat} (hs : w s = some (.inr (1, [.ref le, .int (nI k)]))) (hl : w le = some (.inl (cI, 4, .inl f))) (hk : k ≤ 4) (hi : i < k) : jb_M l jy_S_remove jc_S_remove 3 (some .boolean) 0 0 0 0 D H0 (jt_all cI cJ cT cX) [.ref s, .int (nI i)] w sz
    (fun v w' sz' => v = some (.int (nI 1)) ∧ (∃ f', w' s = some (.inr (1, [.ref le, .int (nI (k - 1))])) ∧ w' le = some (.inl (cI, 4, .inl f')) ∧ (∀ j, j < k - 1 → f' j = if j < i then f j else f (j + 1)) ∧ ∀ c, c ≠ s → c ≠ le → w' c = w c) ∧ sz' = sz) := by
  refine jb_meth_z (by decide) (Nat.le_of_ble_eq_true rfl) (fun u C X E => ?_)
  have hne : le ≠ s := fun e => by rw [e, hs] at hl; cases hl
  refine ja_iload_n C jd_S_remove_0 1 rfl ?_
  refine ja_if_ltN C 12 jd_S_remove_1 (by decide) (by omega) ?_
  refine ja_iload_n C jd_S_remove_4 1 rfl ?_
  refine ja_aload_n C jd_S_remove_5 0 rfl ?_
  refine ja_get C jg_S_15 jd_S_remove_6 hs rfl ?_
  refine ja_icmp_ltN C 14 jd_S_remove_9 (by decide) (by omega) (by omega) (fun c1 => ?_) (fun c1 => absurd c1 (by omega))
  have lp : ∀ (m j : Nat) (hj : j + m + 1 = k) (hij : i ≤ j) (w2 : jb_W) (fz : Nat → Int32) (hs2 : w2 s = some (.inr (1, [.ref le, .int (nI k)]))) (hl2 : w2 le = some (.inl (cI, 4, .inl fz))) (hf : ∀ q, fz q = if i ≤ q ∧ q < j then f (q + 1) else f q) (hw2 : ∀ c, c ≠ s → c ≠ le → w2 c = w c), ja (jb_mk l (jb_rm 0 0 0 0) 3 "MeasuredTensors$Shape" D H0 (jt_all cI cJ cT cX) u) w2 sz 0 0 16 [(2, .int (nI j)), (0, .ref s), (1, .int (nI i))] [] := by
    intro m
    induction m with
    | zero =>
      intro j hj hij w2 fz hs2 hl2 hf hw2
      have fin : ∀ (_ : True), ja (jb_mk l (jb_rm 0 0 0 0) 3 "MeasuredTensors$Shape" D H0 (jt_all cI cJ cT cX) u) w2 sz 0 0 57 [(2, .int (nI j)), (0, .ref s), (1, .int (nI i))] [] := by
        intro _
        refine ja_aload_n C jd_S_remove_57 1 rfl ?_
        refine ja_dup C jd_S_remove_58 rfl ?_
        refine ja_get C jg_S_15 jd_S_remove_59 hs2 rfl ?_
        refine ja_iconst C (nI 1) jd_S_remove_62 (by decide) ?_
        refine ja_isubN C jd_S_remove_63 (by omega) ?_
        refine jo_put C jp_S_15 jnf_S_1 jd_S_remove_64 hs2 rfl rfl (Nat.le_of_ble_eq_true rfl) [.ref le, .int (nI (k - 1))] rfl (fun w1 g1 f1 => ?_)
        refine ja_iconst C (nI 1) jd_S_remove_67 (by decide) ?_
        refine E jd_S_remove_68 (Or.inr rfl) ⟨rfl, ⟨fz, ?_, ?_, fun q hq => ?_, fun c n0 n1 => ?_⟩, rfl⟩
        · exact g1
        · exact (f1 _ hne).trans hl2
        · rw [hf q]
          by_cases z : q < i
          · rw [if_pos z, if_neg (by omega)]
          · rw [if_neg z, if_pos (by omega)]
        · exact (f1 c n0).trans (hw2 c n0 n1)
      refine ja_iload_n C jd_S_remove_16 0 rfl ?_
      refine ja_iconst C (nI 1) jd_S_remove_17 (by decide) ?_
      refine ja_iaddN C jd_S_remove_18 ?_
      refine ja_aload_n C jd_S_remove_19 1 rfl ?_
      refine ja_get C jg_S_15 jd_S_remove_20 hs2 rfl ?_
      refine ja_icmp_geN C 57 jd_S_remove_23 (by decide) (by omega) (by omega) (fun c2 => fin trivial) (fun c2 => ?_)
      exact absurd c2 (by omega)
    | succ m ih =>
      intro j hj hij w2 fz hs2 hl2 hf hw2
      refine ja_iload_n C jd_S_remove_16 0 rfl ?_
      refine ja_iconst C (nI 1) jd_S_remove_17 (by decide) ?_
      refine ja_iaddN C jd_S_remove_18 ?_
      refine ja_aload_n C jd_S_remove_19 1 rfl ?_
      refine ja_get C jg_S_15 jd_S_remove_20 hs2 rfl ?_
      refine ja_icmp_geN C 57 jd_S_remove_23 (by decide) (by omega) (by omega) (fun c2 => absurd c2 (by omega)) (fun c2 => ?_)
      refine ja_iload_n C jd_S_remove_26 0 rfl ?_
      refine ja_iconst C (nI 1) jd_S_remove_27 (by decide) ?_
      refine ja_iaddN C jd_S_remove_28 ?_
      refine ja_aload_n C jd_S_remove_29 1 rfl ?_
      refine ja_get C jg_S_9 jd_S_remove_30 hs2 rfl ?_
      refine ja_alen C 0 rfl jd_S_remove_33 hl2 (nI 4) rfl ?_
      refine ja_icmp_geN C 57 jd_S_remove_34 (by decide) (by omega) (by decide) (fun c3 => absurd c3 (by omega)) (fun c3 => ?_)
      refine ja_aload_n C jd_S_remove_37 1 rfl ?_
      refine ja_get C jg_S_9 jd_S_remove_38 hs2 rfl ?_
      refine ja_iload_n C jd_S_remove_41 0 rfl ?_
      refine ja_aload_n C jd_S_remove_42 1 rfl ?_
      refine ja_get C jg_S_9 jd_S_remove_43 hs2 rfl ?_
      refine ja_iload_n C jd_S_remove_46 0 rfl ?_
      refine ja_iconst C (nI 1) jd_S_remove_47 (by decide) ?_
      refine ja_iaddN C jd_S_remove_48 ?_
      refine ja_iaN C rfl jd_S_remove_49 hl2 (by omega) (by decide) rfl ?_
      refine jo_iast C rfl jd_S_remove_50 hl2 (by omega) (by decide) (fun w2 g2 f2 => ?_)
      refine ja_iincN (c := 1) C [(2, .int (nI (j + 1))), (0, .ref s), (1, .int (nI i))] jd_S_remove_51 0 rfl (by decide) (Nat.le_of_ble_eq_true rfl) rfl ?_
      refine ja_goto C 16 jd_S_remove_54 (by decide) ?_
      refine ih (j + 1) (by omega) (by omega) w2 _ ((f2 _ (Ne.symm hne)).trans hs2) g2 (fun q => ?_) (fun c n0 n1 => (f2 c n1).trans (hw2 c n0 n1))
      by_cases e : q = j
      · rw [e, pk_us, hf (j + 1), if_neg (by omega), if_pos (by omega)]
      · rw [pk_un e, hf q]
        by_cases z : i ≤ q ∧ q < j
        · rw [if_pos z, if_pos (by omega)]
        · rw [if_neg z, if_neg (by omega)]
  refine ja_iload_n C jd_S_remove_14 1 rfl ?_
  refine ja_istore_n C [(2, .int (nI i)), (0, .ref s), (1, .int (nI i))] jd_S_remove_15 rfl (Nat.le_of_ble_eq_true rfl) rfl ?_
  exact lp (k - 1 - i) i (by omega) (Nat.le_refl _) w f hs hl (fun q => by rw [if_neg (by omega)]) (fun _ _ _ => rfl)
theorem js_cells {s le k : Nat} {f : Nat → Int32} {S : Nat → Nat} (hs : w s = some (.inr (1, [.ref le, .int (nI k)]))) (hl : w le = some (.inl (cI, 4, .inl f))) (h : jSh k f S) : jb_M l jy_S_cells jc_S_cells 4 (some .int) 1 21 0 0 D H0 (jt_all cI cJ cT cX) [.ref s] w sz
    (fun v w' sz' => v = some (.int (nI (jl_cl S k))) ∧ w' = w ∧ sz' = sz) := by
  refine jb_meth_i (by decide) (Nat.le_of_ble_eq_true rfl) (fun u C X E => ?_)
  have hk := h.1
  have hS := fun j => h.bd j
  have c52 := jl_cells_52 (N := S) hk (fun j _ => (hS j).2)
  have fin : ∀ (j c : Nat) (hc : c < 2 ^ 62) (he : (65536 < c ∧ 65536 < jl_cells S k) ∨ c = jl_cells S k), ja (jb_mk l (jb_rm 1 21 0 0) 4 "MeasuredTensors$Shape" D H0 (jt_all cI cJ cT cX) u) w sz 0 0 35 [(3, .int (nI j)), (1, .long (lN c)), (0, .ref s)] [] := by
    intro j c hc he
    refine ja_lload_n C jd_S_cells_35 1 rfl ?_
    refine ja_ldc2 C (lN 65536) jq_S_27 jd_S_cells_36 ?_
    refine ja_lc_le C 48 jd_S_cells_39 jd_S_cells_40 (by decide) (by omega) (by omega) (fun c1 => ?_) (fun c1 => ?_)
    · refine ja_lload_n C jd_S_cells_48 1 rfl ?_
      refine ja_l2iN C jd_S_cells_49 ?_
      exact E jd_S_cells_50 ⟨by unfold jl_cl; rw [show c = jl_cells S k by omega, if_pos (by omega)], rfl, rfl⟩
    · refine ja_ldc C (nI 65537) jq_S_29 jd_S_cells_43 ?_
      refine ja_goto C 50 jd_S_cells_45 (by decide) ?_
      exact E jd_S_cells_50 ⟨by unfold jl_cl; rw [if_neg (by omega)], rfl, rfl⟩
  have lp : ∀ (m j : Nat) (hj : j + m = k), ja (jb_mk l (jb_rm 1 21 0 0) 4 "MeasuredTensors$Shape" D H0 (jt_all cI cJ cT cX) u) w sz 0 0 4 [(3, .int (nI j)), (1, .long (lN (jl_cells S j))), (0, .ref s)] [] := by
    intro m
    induction m with
    | zero =>
      intro j hj
      have c9 : jl_cells S j ≤ jl_cells S k := jl_cells_mono (fun j => (hS j).1) (by omega)
      refine ja_iload_n C jd_S_cells_4 0 rfl ?_
      refine ja_aload_n C jd_S_cells_5 2 rfl ?_
      refine ja_get C jg_S_15 jd_S_cells_6 hs rfl ?_
      refine ja_icmp_geN C 35 jd_S_cells_9 (by decide) (by omega) (by omega) (fun c1 => ?_) (fun c1 => absurd c1 (by omega))
      exact fin j _ (by omega) (Or.inr (by rw [show j = k by omega]))
    | succ m ih =>
      intro j hj
      have c9 : jl_cells S j ≤ jl_cells S k := jl_cells_mono (fun j => (hS j).1) (by omega)
      have c8 := hS j
      refine ja_iload_n C jd_S_cells_4 0 rfl ?_
      refine ja_aload_n C jd_S_cells_5 2 rfl ?_
      refine ja_get C jg_S_15 jd_S_cells_6 hs rfl ?_
      refine ja_icmp_geN C 35 jd_S_cells_9 (by decide) (by omega) (by omega) (fun c1 => absurd c1 (by omega)) (fun c1 => ?_)
      refine ja_lload_n C jd_S_cells_12 1 rfl ?_
      refine ja_ldc2 C (lN 65536) jq_S_27 jd_S_cells_13 ?_
      refine ja_lc_gt C 35 jd_S_cells_16 jd_S_cells_17 (by decide) (by omega) (by omega) (fun c2 => fin j _ (by omega) (Or.inl ⟨c2, by omega⟩)) (fun c2 => ?_)
      refine ja_lload_n C jd_S_cells_20 1 rfl ?_
      refine ja_aload_n C jd_S_cells_21 2 rfl ?_
      refine ja_iload_n C jd_S_cells_22 0 rfl ?_
      refine jb_pV 8 C X jk_S_19 hs rfl (js_side hs hl h (by omega)) jd_S_cells_23 rfl rfl ⟨by decide, by decide⟩ (Nat.le_of_ble_eq_true rfl) ?_
      refine ja_i2lN C jd_S_cells_26 (by omega) ?_
      refine ja_lmulN C jd_S_cells_27 ?_
      refine ja_lstore_n C [(1, .long (lN ((jl_cells S j) * (S j)))), (3, .int (nI j)), (0, .ref s)] jd_S_cells_28 rfl (Nat.le_of_ble_eq_true rfl) rfl ?_
      refine ja_iincN (c := 1) C [(3, .int (nI (j + 1))), (1, .long (lN ((jl_cells S j) * (S j)))), (0, .ref s)] jd_S_cells_29 1 rfl (by decide) (Nat.le_of_ble_eq_true rfl) rfl ?_
      refine ja_goto C 4 jd_S_cells_32 (by decide) ?_
      exact ih (j + 1) (by omega)
  refine ja_lconst C (lN 1) jd_S_cells_0 (by decide) ?_
  refine ja_lstore_n C [(1, .long (lN 1)), (0, .ref s)] jd_S_cells_1 rfl (Nat.le_of_ble_eq_true rfl) rfl ?_
  refine ja_iconst C (nI 0) jd_S_cells_2 (by decide) ?_
  refine ja_istore_n C [(3, .int (nI 0)), (1, .long (lN 1)), (0, .ref s)] jd_S_cells_3 rfl (Nat.le_of_ble_eq_true rfl) rfl ?_
  exact lp k 0 (Nat.zero_add _)
theorem js_tooLarge {s le k : Nat} {f : Nat → Int32} {S : Nat → Nat} (hs : w s = some (.inr (1, [.ref le, .int (nI k)]))) (hl : w le = some (.inl (cI, 4, .inl f))) (h : jSh k f S) : jb_M l jy_S_isTooLarge jc_S_isTooLarge 2 (some .boolean) 2 44 0 0 D H0 (jt_all cI cJ cT cX) [.ref s] w sz
    (fun v w' sz' => v = some (.int (if 65536 < jl_cells S k ∨ jl_long S k = true then 1 else 0)) ∧ w' = w ∧ sz' = sz) := by
  refine jb_meth_z (by decide) (Nat.le_of_ble_eq_true rfl) (fun u C X E => ?_)
  have hk := h.1
  have hS := fun j => h.bd j
  have lp : ∀ (m j : Nat) (hj : j + m = k) (hi : ∀ i, i < j → S i ≤ 4096), ja (jb_mk l (jb_rm 2 44 0 0) 2 "MeasuredTensors$Shape" D H0 (jt_all cI cJ cT cX) u) w sz 0 0 2 [(1, .int (nI j)), (0, .ref s)] [] := by
    intro m
    induction m with
    | zero =>
      intro j hj hi
      have hlg : jl_long S k = false := jl_long_le (fun i hi2 => hi i (by omega))
      refine ja_iload_n C jd_S_isTooLarge_2 0 rfl ?_
      refine ja_aload_n C jd_S_isTooLarge_3 1 rfl ?_
      refine ja_get C jg_S_15 jd_S_isTooLarge_4 hs rfl ?_
      refine ja_icmp_geN C 29 jd_S_isTooLarge_7 (by decide) (by omega) (by omega) (fun c1 => ?_) (fun c1 => absurd c1 (by omega))
      refine ja_aload_n C jd_S_isTooLarge_29 1 rfl ?_
      refine jb_pV 8 C X jk_S_30 hs rfl (js_cells hs hl h) jd_S_isTooLarge_30 rfl rfl ⟨by decide, by decide⟩ (Nat.le_of_ble_eq_true rfl) ?_
      have hb : jl_cl S k ≤ 65537 := by unfold jl_cl; split <;> omega
      refine ja_ldc C (nI 65536) jq_S_34 jd_S_isTooLarge_33 ?_
      refine ja_icmp_leN C 42 jd_S_isTooLarge_35 (by decide) (by omega) (by decide) (fun c2 => ?_) (fun c2 => ?_)
      · have c3 : jl_cells S k ≤ 65536 := by unfold jl_cl at c2; split at c2 <;> omega
        refine ja_iconst C (nI 0) jd_S_isTooLarge_42 (by decide) ?_
        exact E jd_S_isTooLarge_43 (Or.inl rfl) ⟨by rw [if_neg (fun z => z.elim (fun z => by omega) (fun z => by rw [hlg] at z; cases z))]; rfl, rfl, rfl⟩
      · have c3 : 65536 < jl_cells S k := by unfold jl_cl at c2; split at c2 <;> omega
        refine ja_iconst C (nI 1) jd_S_isTooLarge_38 (by decide) ?_
        refine ja_goto C 43 jd_S_isTooLarge_39 (by decide) ?_
        exact E jd_S_isTooLarge_43 (Or.inr rfl) ⟨by rw [if_pos (Or.inl c3)]; rfl, rfl, rfl⟩
    | succ m ih =>
      intro j hj hi
      have c8 := hS j
      refine ja_iload_n C jd_S_isTooLarge_2 0 rfl ?_
      refine ja_aload_n C jd_S_isTooLarge_3 1 rfl ?_
      refine ja_get C jg_S_15 jd_S_isTooLarge_4 hs rfl ?_
      refine ja_icmp_geN C 29 jd_S_isTooLarge_7 (by decide) (by omega) (by omega) (fun c1 => absurd c1 (by omega)) (fun c1 => ?_)
      refine ja_aload_n C jd_S_isTooLarge_10 1 rfl ?_
      refine ja_iload_n C jd_S_isTooLarge_11 0 rfl ?_
      refine jb_pV 8 C X jk_S_19 hs rfl (js_side hs hl h (by omega)) jd_S_isTooLarge_12 rfl rfl ⟨by decide, by decide⟩ (Nat.le_of_ble_eq_true rfl) ?_
      refine ja_sipush C (nI 4096) jd_S_isTooLarge_15 (by decide) ?_
      refine ja_icmp_leN C 23 jd_S_isTooLarge_18 (by decide) (by omega) (by decide) (fun c2 => ?_) (fun c2 => ?_)
      · refine ja_iincN (c := 1) C [(1, .int (nI (j + 1))), (0, .ref s)] jd_S_isTooLarge_23 0 rfl (by decide) (Nat.le_of_ble_eq_true rfl) rfl ?_
        refine ja_goto C 2 jd_S_isTooLarge_26 (by decide) ?_
        exact ih (j + 1) (by omega) (fun i hi2 => by rcases Nat.lt_or_ge i j with z | z; exact hi i z; rw [show i = j by omega]; exact c2)
      · refine ja_iconst C (nI 1) jd_S_isTooLarge_21 (by decide) ?_
        exact E jd_S_isTooLarge_22 (Or.inr rfl) ⟨by rw [if_pos (Or.inr (jl_long_gt (show j < k by omega) c2))]; rfl, rfl, rfl⟩
  refine ja_iconst C (nI 0) jd_S_isTooLarge_0 (by decide) ?_
  refine ja_istore_n C [(1, .int (nI 0)), (0, .ref s)] jd_S_isTooLarge_1 rfl (Nat.le_of_ble_eq_true rfl) rfl ?_
  exact lp k 0 (Nat.zero_add _) (fun i hi => absurd hi (Nat.not_lt_zero i))
theorem js_endsWith {s le k : Nat} {f : Nat → Int32} {s2 le2 k2 : Nat} {f2 : Nat → Int32} {S S2 : Nat → Nat} (hs : w s = some (.inr (1, [.ref le, .int (nI k)]))) (hl : w le = some (.inl (cI, 4, .inl f))) (h : jSh k f S) (hs2 : w s2 = some (.inr (1, [.ref le2, .int (nI k2)]))) (hl2 : w le2 = some (.inl (cI, 4, .inl f2))) (h2 : jSh k2 f2 S2) : jb_M l jy_S_endsWith jc_S_endsWith 4 (some .boolean) 1 21 0 0 D H0 (jt_all cI cJ cT cX) [.ref s, .ref s2] w sz
    (fun v w' sz' => v = some (.int (if jl_tail S k S2 k2 = true then 1 else 0)) ∧ w' = w ∧ sz' = sz) := by
  refine jb_meth_z (by decide) (Nat.le_of_ble_eq_true rfl) (fun u C X E => ?_)
  have hk := h.1
  have hk2 := h2.1
  have hS := fun j => h.bd j
  have hS2 := fun j => h2.bd j
  refine ja_aload_n C jd_S_endsWith_0 0 rfl ?_
  refine ja_get C jg_S_15 jd_S_endsWith_1 hs rfl ?_
  refine ja_aload_n C jd_S_endsWith_4 1 rfl ?_
  refine ja_get C jg_S_15 jd_S_endsWith_5 hs2 rfl ?_
  rcases Nat.lt_or_ge k k2 with hlt | hge
  · refine ja_isub C jd_S_endsWith_8 ?_
    have hneg : nI k - nI k2 < 0 := pk_sneg (by omega) hlt
    refine ja_istore_n C [(2, .int ((nI k) - (nI k2))), (0, .ref s), (1, .ref s2)] jd_S_endsWith_9 rfl (Nat.le_of_ble_eq_true rfl) rfl ?_
    refine ja_iconst C (nI 0) jd_S_endsWith_10 (by decide) ?_
    refine ja_istore_n C [(3, .int (nI 0)), (2, .int ((nI k) - (nI k2))), (0, .ref s), (1, .ref s2)] jd_S_endsWith_11 rfl (Nat.le_of_ble_eq_true rfl) rfl ?_
    refine ja_iload_n C jd_S_endsWith_12 0 rfl ?_
    refine ja_aload_n C jd_S_endsWith_13 3 rfl ?_
    refine ja_get C jg_S_15 jd_S_endsWith_14 hs2 rfl ?_
    refine ja_icmp_geN C 47 jd_S_endsWith_17 (by decide) (by decide) (by omega) (fun c1 => absurd c1 (by omega)) (fun c1 => ?_)
    refine ja_iload_n C jd_S_endsWith_20 1 rfl ?_
    refine ja_if_lt C 39 jd_S_endsWith_21 (by decide) (fun c2 => ?_) (fun c2 => absurd hneg c2)
    refine ja_iconst C (nI 0) jd_S_endsWith_39 (by decide) ?_
    exact E jd_S_endsWith_40 (Or.inl rfl) ⟨by rw [if_neg (fun z => by have := (jl_tail_iff.mp z).1; omega)]; rfl, rfl, rfl⟩
  · refine ja_isubN C jd_S_endsWith_8 (by omega) ?_
    refine ja_istore_n C [(2, .int (nI (k - k2))), (0, .ref s), (1, .ref s2)] jd_S_endsWith_9 rfl (Nat.le_of_ble_eq_true rfl) rfl ?_
    refine ja_iconst C (nI 0) jd_S_endsWith_10 (by decide) ?_
    refine ja_istore_n C [(3, .int (nI 0)), (2, .int (nI (k - k2))), (0, .ref s), (1, .ref s2)] jd_S_endsWith_11 rfl (Nat.le_of_ble_eq_true rfl) rfl ?_
    have lp : ∀ (m j : Nat) (hj : j + m = k2) (hi : ∀ i, i < j → S (k - k2 + i) = S2 i), ja (jb_mk l (jb_rm 1 21 0 0) 4 "MeasuredTensors$Shape" D H0 (jt_all cI cJ cT cX) u) w sz 0 0 12 [(3, .int (nI j)), (2, .int (nI (k - k2))), (0, .ref s), (1, .ref s2)] [] := by
      intro m
      induction m with
      | zero =>
        intro j hj hi
        refine ja_iload_n C jd_S_endsWith_12 0 rfl ?_
        refine ja_aload_n C jd_S_endsWith_13 3 rfl ?_
        refine ja_get C jg_S_15 jd_S_endsWith_14 hs2 rfl ?_
        refine ja_icmp_geN C 47 jd_S_endsWith_17 (by decide) (by omega) (by omega) (fun c1 => ?_) (fun c1 => absurd c1 (by omega))
        refine ja_iconst C (nI 1) jd_S_endsWith_47 (by decide) ?_
        exact E jd_S_endsWith_48 (Or.inr rfl) ⟨by rw [if_pos (jl_tail_iff.mpr ⟨hge, fun i hi2 => hi i (by omega)⟩)]; rfl, rfl, rfl⟩
      | succ m ih =>
        intro j hj hi
        have q1 := hS (k - k2 + j)
        have q2 := hS2 j
        refine ja_iload_n C jd_S_endsWith_12 0 rfl ?_
        refine ja_aload_n C jd_S_endsWith_13 3 rfl ?_
        refine ja_get C jg_S_15 jd_S_endsWith_14 hs2 rfl ?_
        refine ja_icmp_geN C 47 jd_S_endsWith_17 (by decide) (by omega) (by omega) (fun c1 => absurd c1 (by omega)) (fun c1 => ?_)
        refine ja_iload_n C jd_S_endsWith_20 1 rfl ?_
        refine ja_if_ltN C 39 jd_S_endsWith_21 (by decide) (by omega) ?_
        refine ja_aload_n C jd_S_endsWith_24 2 rfl ?_
        refine ja_iload_n C jd_S_endsWith_25 1 rfl ?_
        refine ja_iload_n C jd_S_endsWith_26 0 rfl ?_
        refine ja_iaddN C jd_S_endsWith_27 ?_
        refine jb_pV 8 C X jk_S_19 hs rfl (js_side hs hl h (by omega)) jd_S_endsWith_28 rfl rfl ⟨by decide, by decide⟩ (Nat.le_of_ble_eq_true rfl) ?_
        refine ja_aload_n C jd_S_endsWith_31 3 rfl ?_
        refine ja_iload_n C jd_S_endsWith_32 0 rfl ?_
        refine jb_pV 8 C X jk_S_19 hs2 rfl (js_side hs2 hl2 h2 (by omega)) jd_S_endsWith_33 rfl rfl ⟨by decide, by decide⟩ (Nat.le_of_ble_eq_true rfl) ?_
        refine ja_icmp_eqN C 41 jd_S_endsWith_36 (by decide) (by omega) (by omega) (fun c2 => ?_) (fun c2 => ?_)
        · refine ja_iincN (c := 1) C [(3, .int (nI (j + 1))), (2, .int (nI (k - k2))), (0, .ref s), (1, .ref s2)] jd_S_endsWith_41 0 rfl (by decide) (Nat.le_of_ble_eq_true rfl) rfl ?_
          refine ja_goto C 12 jd_S_endsWith_44 (by decide) ?_
          exact ih (j + 1) (by omega) (fun i hi2 => by rcases Nat.lt_or_ge i j with z | z; exact hi i z; rw [show i = j by omega]; exact c2)
        · refine ja_iconst C (nI 0) jd_S_endsWith_39 (by decide) ?_
          exact E jd_S_endsWith_40 (Or.inl rfl) ⟨by rw [if_neg (fun z => c2 ((jl_tail_iff.mp z).2 j (by omega)))]; rfl, rfl, rfl⟩
    exact lp k2 0 (Nat.zero_add _) (fun i hi => absurd hi (Nat.not_lt_zero i))
theorem js_equals {s le k : Nat} {f : Nat → Int32} {s2 le2 k2 : Nat} {f2 : Nat → Int32} {S S2 : Nat → Nat} (hs : w s = some (.inr (1, [.ref le, .int (nI k)]))) (hl : w le = some (.inl (cI, 4, .inl f))) (h : jSh k f S) (hs2 : w s2 = some (.inr (1, [.ref le2, .int (nI k2)]))) (hl2 : w le2 = some (.inl (cI, 4, .inl f2))) (h2 : jSh k2 f2 S2) : jb_M l jy_S_equalsBehindFirst jc_S_equalsBehindFirst 2 (some .boolean) 1 21 0 0 D H0 (jt_all cI cJ cT cX) [.ref s, .ref s2] w sz
    (fun v w' sz' => v = some (.int (if k = k2 ∧ S 1 = S2 1 ∧ S 2 = S2 2 ∧ S 3 = S2 3 then 1 else 0)) ∧ w' = w ∧ sz' = sz) := by
  refine jb_meth_z (by decide) (Nat.le_of_ble_eq_true rfl) (fun u C X E => ?_)
  have hk := h.1
  have hk2 := h2.1
  have a1 := h.bd 1
  have a2 := h.bd 2
  have a3 := h.bd 3
  have b1 := h2.bd 1
  have b2 := h2.bd 2
  have b3 := h2.bd 3
  have no : ∀ (hf : ¬ (k = k2 ∧ S 1 = S2 1 ∧ S 2 = S2 2 ∧ S 3 = S2 3)), ja (jb_mk l (jb_rm 1 21 0 0) 2 "MeasuredTensors$Shape" D H0 (jt_all cI cJ cT cX) u) w sz 0 0 54 [(0, .ref s), (1, .ref s2)] [] := by
    intro hf
    refine ja_iconst C (nI 0) jd_S_equalsBehindFirst_54 (by decide) ?_
    exact E jd_S_equalsBehindFirst_55 (Or.inl rfl) ⟨by rw [if_neg hf]; rfl, rfl, rfl⟩
  refine ja_aload_n C jd_S_equalsBehindFirst_0 0 rfl ?_
  refine ja_get C jg_S_15 jd_S_equalsBehindFirst_1 hs rfl ?_
  refine ja_aload_n C jd_S_equalsBehindFirst_4 1 rfl ?_
  refine ja_get C jg_S_15 jd_S_equalsBehindFirst_5 hs2 rfl ?_
  refine ja_icmp_neN C 54 jd_S_equalsBehindFirst_8 (by decide) (by omega) (by omega) (fun c1 => no (fun z => c1 z.1)) (fun c1 => ?_)
  refine ja_aload_n C jd_S_equalsBehindFirst_11 0 rfl ?_
  refine ja_iconst C (nI 1) jd_S_equalsBehindFirst_12 (by decide) ?_
  refine jb_pV 8 C X jk_S_19 hs rfl (js_side hs hl h (by decide)) jd_S_equalsBehindFirst_13 rfl rfl ⟨by decide, by decide⟩ (Nat.le_of_ble_eq_true rfl) ?_
  refine ja_aload_n C jd_S_equalsBehindFirst_16 1 rfl ?_
  refine ja_iconst C (nI 1) jd_S_equalsBehindFirst_17 (by decide) ?_
  refine jb_pV 8 C X jk_S_19 hs2 rfl (js_side hs2 hl2 h2 (by decide)) jd_S_equalsBehindFirst_18 rfl rfl ⟨by decide, by decide⟩ (Nat.le_of_ble_eq_true rfl) ?_
  refine ja_icmp_neN C 54 jd_S_equalsBehindFirst_21 (by decide) (by omega) (by omega) (fun c2 => no (fun z => c2 z.2.1)) (fun c2 => ?_)
  refine ja_aload_n C jd_S_equalsBehindFirst_24 0 rfl ?_
  refine ja_iconst C (nI 2) jd_S_equalsBehindFirst_25 (by decide) ?_
  refine jb_pV 8 C X jk_S_19 hs rfl (js_side hs hl h (by decide)) jd_S_equalsBehindFirst_26 rfl rfl ⟨by decide, by decide⟩ (Nat.le_of_ble_eq_true rfl) ?_
  refine ja_aload_n C jd_S_equalsBehindFirst_29 1 rfl ?_
  refine ja_iconst C (nI 2) jd_S_equalsBehindFirst_30 (by decide) ?_
  refine jb_pV 8 C X jk_S_19 hs2 rfl (js_side hs2 hl2 h2 (by decide)) jd_S_equalsBehindFirst_31 rfl rfl ⟨by decide, by decide⟩ (Nat.le_of_ble_eq_true rfl) ?_
  refine ja_icmp_neN C 54 jd_S_equalsBehindFirst_34 (by decide) (by omega) (by omega) (fun c3 => no (fun z => c3 z.2.2.1)) (fun c3 => ?_)
  refine ja_aload_n C jd_S_equalsBehindFirst_37 0 rfl ?_
  refine ja_iconst C (nI 3) jd_S_equalsBehindFirst_38 (by decide) ?_
  refine jb_pV 8 C X jk_S_19 hs rfl (js_side hs hl h (by decide)) jd_S_equalsBehindFirst_39 rfl rfl ⟨by decide, by decide⟩ (Nat.le_of_ble_eq_true rfl) ?_
  refine ja_aload_n C jd_S_equalsBehindFirst_42 1 rfl ?_
  refine ja_iconst C (nI 3) jd_S_equalsBehindFirst_43 (by decide) ?_
  refine jb_pV 8 C X jk_S_19 hs2 rfl (js_side hs2 hl2 h2 (by decide)) jd_S_equalsBehindFirst_44 rfl rfl ⟨by decide, by decide⟩ (Nat.le_of_ble_eq_true rfl) ?_
  refine ja_icmp_neN C 54 jd_S_equalsBehindFirst_47 (by decide) (by omega) (by omega) (fun c4 => no (fun z => c4 z.2.2.2)) (fun c4 => ?_)
  refine ja_iconst C (nI 1) jd_S_equalsBehindFirst_50 (by decide) ?_
  refine ja_goto C 55 jd_S_equalsBehindFirst_51 (by decide) ?_
  exact E jd_S_equalsBehindFirst_55 (Or.inr rfl) ⟨by rw [if_pos ⟨c1, c2, c3, c4⟩]; rfl, rfl, rfl⟩
end X69
