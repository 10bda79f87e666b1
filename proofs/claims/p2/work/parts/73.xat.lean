/-! THE CLASS: where its things are -/
theorem jXd.gF {cI cT cX : ClassId} {x : Nat} {P : Nat → Prop} {σ : jSt} {dr : Nat} {F G : Nat → Option Nat} {own : Nat → Nat} {fT : Nat → Nat → Int32} {ls : Int32} {w : jb_W} {k : Nat} {f : Nat → Int32} {m : Int32 × Int32 × Int64} {tm : Int32} (h : jXd cI cT cX x P σ dr F G own fT ls w k f m tm) {i : Nat} (hi : i < jSt_i σ) : ∃ ib, G i = some ib := by
  obtain ⟨ib, fi, g, -⟩ := h.2.2.2.2.2.2.2.2.2.2.1 i hi
  exact ⟨ib, g⟩
theorem jg_X_36 : ja_FL jcl "MeasuredTensors" 36 4 5 := ⟨_, rfl, by decide, jw_X, jw_in (by decide +kernel) (by decide +kernel)⟩
theorem jg_X_11 : ja_FL jcl "MeasuredTensors" 11 4 0 := ⟨_, rfl, by decide, jw_X, jw_in (by decide +kernel) (by decide +kernel)⟩
theorem jg_X_40 : ja_FL jcl "MeasuredTensors" 40 4 6 := ⟨_, rfl, by decide, jw_X, jw_in (by decide +kernel) (by decide +kernel)⟩
theorem jg_X_17 : ja_FL jcl "MeasuredTensors" 17 4 1 := ⟨_, rfl, by decide, jw_X, jw_in (by decide +kernel) (by decide +kernel)⟩
theorem jk_X_122 : jb_KV "MeasuredTensors" 122 jy_X_tensorAt jc_X_tensorAt 2 (some (.object "MeasuredTensors$Tensor")) 1 := ⟨jw_in (by decide +kernel) (by decide +kernel), jw_in (by decide +kernel) (by decide +kernel), jw_in (by decide +kernel) (by decide +kernel), jw_in (by decide +kernel) (by decide +kernel), jw_in (by decide +kernel) (by decide +kernel), by decide +kernel⟩
theorem jk_X_175 : jb_KV "MeasuredTensors" 175 jy_X_indexAt jc_X_indexAt 2 (some (.object "MeasuredTensors$Index")) 1 := ⟨jw_in (by decide +kernel) (by decide +kernel), jw_in (by decide +kernel) (by decide +kernel), jw_in (by decide +kernel) (by decide +kernel), jw_in (by decide +kernel) (by decide +kernel), jw_in (by decide +kernel) (by decide +kernel), by decide +kernel⟩
section X73
variable {l : Launch} {D : va_G} {H0 : Heap} {cI cJ cT cX : ClassId} {w : jb_W} {sz : Nat}
variable {x : Nat} {P : Nat → Prop} {σ : jSt} {dr : Nat} {F G : Nat → Option Nat} {own : Nat → Nat} {fT : Nat → Nat → Int32} {ls : Int32} {k : Nat} {f : Nat → Int32} {m : Int32 × Int32 × Int64} {tm : Int32}
theorem jx_tensorAt {t b : Nat} (h : jXd cI cT cX x P σ dr F G own fT ls w k f m tm) (ht : t < jSt_c σ) (eb : F t = some b) : jb_M l jy_X_tensorAt jc_X_tensorAt 2 (some (.object "MeasuredTensors$Tensor")) 0 0 0 0 D H0 (jt_all cI cJ cT cX) [.ref x, .int (nI t)] w sz
    (fun v w' sz' => v = some (.ref b) ∧ w' = w ∧ sz' = sz) := by
  refine jb_meth_r (by decide) (Nat.le_of_ble_eq_true rfl) (fun u C X E => ?_)
  have hc := h.cn
  refine ja_iload_n C jd_X_tensorAt_0 1 rfl ?_
  refine ja_if_ltN C 21 jd_X_tensorAt_1 (by decide) (by omega) ?_
  refine ja_iload_n C jd_X_tensorAt_4 1 rfl ?_
  refine ja_aload_n C jd_X_tensorAt_5 0 rfl ?_
  refine ja_get C jg_X_36 jd_X_tensorAt_6 h.obj rfl ?_
  refine ja_icmp_geN C 21 jd_X_tensorAt_9 (by decide) (by omega) (by omega) (fun c1 => absurd c1 (by omega)) (fun c1 => ?_)
  refine ja_iload_n C jd_X_tensorAt_12 1 rfl ?_
  refine ja_aload_n C jd_X_tensorAt_13 0 rfl ?_
  refine ja_get C jg_X_11 jd_X_tensorAt_14 h.obj rfl ?_
  refine ja_alen C 2 rfl jd_X_tensorAt_17 h.ten (nI 4000) rfl ?_
  refine ja_icmp_ltN C 25 jd_X_tensorAt_18 (by decide) (by omega) (by decide) (fun c2 => ?_) (fun c2 => absurd c2 (by omega))
  refine ja_aload_n C jd_X_tensorAt_25 0 rfl ?_
  refine ja_get C jg_X_11 jd_X_tensorAt_26 h.obj rfl ?_
  refine ja_iload_n C jd_X_tensorAt_29 1 rfl ?_
  refine jo_aald C 2 rfl (some b) jd_X_tensorAt_30 h.ten (by omega) (by decide) eb ?_
  exact E (v := some b) jd_X_tensorAt_31 ⟨rfl, rfl, rfl⟩
theorem jx_tensorAtN {a : Int32} (h : jXd cI cT cX x P σ dr F G own fT ls w k f m tm) (hn : a < 0 ∨ nI (jSt_c σ) ≤ a) : jb_M l jy_X_tensorAt jc_X_tensorAt 2 (some (.object "MeasuredTensors$Tensor")) 0 0 0 0 D H0 (jt_all cI cJ cT cX) [.ref x, .int a] w sz
    (fun v w' sz' => v = some (.null) ∧ w' = w ∧ sz' = sz) := by
  refine jb_meth_r (by decide) (Nat.le_of_ble_eq_true rfl) (fun u C X E => ?_)
  have hc := h.cn
  have no : ∀ (_ : True), ja (jb_mk l (jb_rm 0 0 0 0) 2 "MeasuredTensors" D H0 (jt_all cI cJ cT cX) u) w sz 0 0 21 [(0, .ref x), (1, .int a)] [] := by
    intro _
    refine ja_null C jd_X_tensorAt_21 ?_
    refine ja_goto C 31 jd_X_tensorAt_22 (by decide) ?_
    exact E (v := none) jd_X_tensorAt_31 ⟨rfl, rfl, rfl⟩
  refine ja_iload_n C jd_X_tensorAt_0 1 rfl ?_
  refine ja_if_lt C 21 jd_X_tensorAt_1 (by decide) (fun c0 => no trivial) (fun c0 => ?_)
  refine ja_iload_n C jd_X_tensorAt_4 1 rfl ?_
  refine ja_aload_n C jd_X_tensorAt_5 0 rfl ?_
  refine ja_get C jg_X_36 jd_X_tensorAt_6 h.obj rfl ?_
  refine ja_icmp_ge C 21 jd_X_tensorAt_9 (by decide) (fun c1 => no trivial) (fun c1 => ?_)
  exact absurd (hn.resolve_left c0) c1
theorem jx_indexAt {i ib : Nat} (h : jXd cI cT cX x P σ dr F G own fT ls w k f m tm) (hi : i < jSt_i σ) (eb : G i = some ib) : jb_M l jy_X_indexAt jc_X_indexAt 2 (some (.object "MeasuredTensors$Index")) 0 0 0 0 D H0 (jt_all cI cJ cT cX) [.ref x, .int (nI i)] w sz
    (fun v w' sz' => v = some (.ref ib) ∧ w' = w ∧ sz' = sz) := by
  refine jb_meth_r (by decide) (Nat.le_of_ble_eq_true rfl) (fun u C X E => ?_)
  have hc := h.cn
  refine ja_iload_n C jd_X_indexAt_0 1 rfl ?_
  refine ja_if_ltN C 21 jd_X_indexAt_1 (by decide) (by omega) ?_
  refine ja_iload_n C jd_X_indexAt_4 1 rfl ?_
  refine ja_aload_n C jd_X_indexAt_5 0 rfl ?_
  refine ja_get C jg_X_40 jd_X_indexAt_6 h.obj rfl ?_
  refine ja_icmp_geN C 21 jd_X_indexAt_9 (by decide) (by omega) (by omega) (fun c1 => absurd c1 (by omega)) (fun c1 => ?_)
  refine ja_iload_n C jd_X_indexAt_12 1 rfl ?_
  refine ja_aload_n C jd_X_indexAt_13 0 rfl ?_
  refine ja_get C jg_X_17 jd_X_indexAt_14 h.obj rfl ?_
  refine ja_alen C 3 rfl jd_X_indexAt_17 h.ind (nI 1000) rfl ?_
  refine ja_icmp_ltN C 25 jd_X_indexAt_18 (by decide) (by omega) (by decide) (fun c2 => ?_) (fun c2 => absurd c2 (by omega))
  refine ja_aload_n C jd_X_indexAt_25 0 rfl ?_
  refine ja_get C jg_X_17 jd_X_indexAt_26 h.obj rfl ?_
  refine ja_iload_n C jd_X_indexAt_29 1 rfl ?_
  refine jo_aald C 3 rfl (some ib) jd_X_indexAt_30 h.ind (by omega) (by decide) eb ?_
  exact E (v := some ib) jd_X_indexAt_31 ⟨rfl, rfl, rfl⟩
theorem jx_indexAtN {a : Int32} (h : jXd cI cT cX x P σ dr F G own fT ls w k f m tm) (hn : a < 0 ∨ nI (jSt_i σ) ≤ a) : jb_M l jy_X_indexAt jc_X_indexAt 2 (some (.object "MeasuredTensors$Index")) 0 0 0 0 D H0 (jt_all cI cJ cT cX) [.ref x, .int a] w sz
    (fun v w' sz' => v = some (.null) ∧ w' = w ∧ sz' = sz) := by
  refine jb_meth_r (by decide) (Nat.le_of_ble_eq_true rfl) (fun u C X E => ?_)
  have hc := h.cn
  have no : ∀ (_ : True), ja (jb_mk l (jb_rm 0 0 0 0) 2 "MeasuredTensors" D H0 (jt_all cI cJ cT cX) u) w sz 0 0 21 [(0, .ref x), (1, .int a)] [] := by
    intro _
    refine ja_null C jd_X_indexAt_21 ?_
    refine ja_goto C 31 jd_X_indexAt_22 (by decide) ?_
    exact E (v := none) jd_X_indexAt_31 ⟨rfl, rfl, rfl⟩
  refine ja_iload_n C jd_X_indexAt_0 1 rfl ?_
  refine ja_if_lt C 21 jd_X_indexAt_1 (by decide) (fun c0 => no trivial) (fun c0 => ?_)
  refine ja_iload_n C jd_X_indexAt_4 1 rfl ?_
  refine ja_aload_n C jd_X_indexAt_5 0 rfl ?_
  refine ja_get C jg_X_40 jd_X_indexAt_6 h.obj rfl ?_
  refine ja_icmp_ge C 21 jd_X_indexAt_9 (by decide) (fun c1 => no trivial) (fun c1 => ?_)
  exact absurd (hn.resolve_left c0) c1
theorem jx_isThere {a : Int32} (h : jXd cI cT cX x P σ dr F G own fT ls w k f m tm) : jb_M l jy_X_isThere jc_X_isThere 2 (some .boolean) 1 21 0 0 D H0 (jt_all cI cJ cT cX) [.ref x, .int a] w sz
    (fun v w' sz' => (∃ z : Int32, v = some (.int z) ∧ (z = 0 ∨ z = 1) ∧ (z = 0 ↔ jl_none σ a)) ∧ w' = w ∧ sz' = sz) := by
  refine jb_meth_z (by decide) (Nat.le_of_ble_eq_true rfl) (fun u C X E => ?_)
  have hc := h.cn
  refine ja_iload_n C jd_X_isThere_0 1 rfl ?_
  refine ja_if_ge C 22 jd_X_isThere_1 (by decide) (fun c1 => ?_) (fun c1 => ?_)
  · refine ja_aload_n C jd_X_isThere_22 0 rfl ?_
    refine ja_iload_n C jd_X_isThere_23 1 rfl ?_
    rcases Classical.em (jl_none σ a) with hn | hn
    · refine jb_pV 8 C X jk_X_122 h.obj rfl (jx_tensorAtN h (Or.inr (by unfold jl_none at hn; rw [if_neg (k2_nlt c1)] at hn; exact hn))) jd_X_isThere_24 rfl rfl ⟨by decide, by decide⟩ (Nat.le_of_ble_eq_true rfl) ?_
      refine ja_ifnullN C 34 jd_X_isThere_27 (by decide) ?_
      refine ja_iconst C (nI 0) jd_X_isThere_34 (by decide) ?_
      exact E jd_X_isThere_35 (Or.inl rfl) ⟨⟨_, rfl, Or.inl rfl, fun _ => hn, fun _ => rfl⟩, rfl, rfl⟩
    · obtain ⟨t, ht, et⟩ := jl_tens (by omega) (k2_nlt c1) hn
      obtain ⟨b, eb⟩ := h.tF ht
      subst et
      refine jb_pV 8 C X jk_X_122 h.obj rfl (jx_tensorAt h ht eb) jd_X_isThere_24 rfl rfl ⟨by decide, by decide⟩ (Nat.le_of_ble_eq_true rfl) ?_
      refine ja_ifnull C jd_X_isThere_27 ?_
      refine ja_iconst C (nI 1) jd_X_isThere_30 (by decide) ?_
      refine ja_goto C 35 jd_X_isThere_31 (by decide) ?_
      exact E jd_X_isThere_35 (Or.inr rfl) ⟨⟨_, rfl, Or.inr rfl, fun z => absurd z (by decide), fun z => absurd z hn⟩, rfl, rfl⟩
  · have c2 : a < 0 := k2_lt c1
    refine ja_aload_n C jd_X_isThere_4 0 rfl ?_
    refine ja_iconst C (-1) jd_X_isThere_5 (by decide) ?_
    refine ja_iload_n C jd_X_isThere_6 1 rfl ?_
    refine ja_isub C jd_X_isThere_7 ?_
    rcases Classical.em (jl_none σ a) with hn | hn
    · refine jb_pV 8 C X jk_X_175 h.obj rfl (jx_indexAtN h (Or.inr (by unfold jl_none at hn; rw [if_pos c2] at hn; exact hn))) jd_X_isThere_8 rfl rfl ⟨by decide, by decide⟩ (Nat.le_of_ble_eq_true rfl) ?_
      refine ja_ifnullN C 18 jd_X_isThere_11 (by decide) ?_
      refine ja_iconst C (nI 0) jd_X_isThere_18 (by decide) ?_
      refine ja_goto C 35 jd_X_isThere_19 (by decide) ?_
      exact E jd_X_isThere_35 (Or.inl rfl) ⟨⟨_, rfl, Or.inl rfl, fun _ => hn, fun _ => rfl⟩, rfl, rfl⟩
    · obtain ⟨i, hi, ei⟩ := jl_indx (by omega) c2 hn
      obtain ⟨ib, eb⟩ := h.gF hi
      rw [ei]
      refine jb_pV 8 C X jk_X_175 h.obj rfl (jx_indexAt h hi eb) jd_X_isThere_8 rfl rfl ⟨by decide, by decide⟩ (Nat.le_of_ble_eq_true rfl) ?_
      refine ja_ifnull C jd_X_isThere_11 ?_
      refine ja_iconst C (nI 1) jd_X_isThere_14 (by decide) ?_
      refine ja_goto C 35 jd_X_isThere_15 (by decide) ?_
      exact E jd_X_isThere_35 (Or.inr rfl) ⟨⟨_, rfl, Or.inr rfl, fun z => absurd z (by decide), fun z => absurd z hn⟩, rfl, rfl⟩
end X73
