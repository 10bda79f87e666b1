/-! THE REFERENCE: shapeOf, isNone, hasSlope -/
/-- the first k places are those of g, the others of f -/
def jl_cp (g f : Nat → Int32) (k : Nat) : Nat → Int32 := fun j => if j < k then g j else f j
theorem jl_cp_0 (g f : Nat → Int32) : jl_cp g f 0 = f := funext fun j => by simp [jl_cp]
theorem jl_cp_s (g f : Nat → Int32) (k : Nat) : upd (jl_cp g f k) k (g k) = jl_cp g f (k + 1) := funext fun j => by
  unfold upd jl_cp
  by_cases h : j = k
  · subst h
    rw [if_pos rfl, if_pos (Nat.lt_succ_self j)]
  · rw [if_neg h]
    by_cases h2 : j < k
    · rw [if_pos h2, if_pos (by omega)]
    · rw [if_neg h2, if_neg (by omega)]
section YV
variable {l : Launch} {D : va_G} {H0 : Heap} {cI cJ cT cX : ClassId} {w : jb_W} {sz : Nat}
variable {y : Nat} {A : Nat → Nat} {n n2 : Nat} {s : Nat → Int32} {V : Nat → Nat → Int32} {VL : Nat → Nat → Int64} {wk : Int64}
theorem jy_shapeOf {t : Nat} (ht : t < n) (hn : n ≤ 8192) (h : jY cI cJ w y A n n2 s V VL wk) : jb_M l jy_Y_shapeOf jc_Y_shapeOf 3 none 1 22 0 0 D H0 (jt_all cI cJ cT cX) [.ref y, .int (nI t)] w sz (fun v w' sz' => v = none ∧ jY cI cJ w' y A n n2 (upd s 5 (V 3 t)) (va_up V 19 (jl_cp (fun j => V 4 (4 * t + j)) (V 19) 4)) VL wk ∧ jR y A w w' ∧ sz' = sz) := by
  refine jb_meth_v (by decide) (Nat.le_of_ble_eq_true rfl) (fun u C X hnm E => ?_)
  have head : ∀ (f k : Nat), k + f = 4 → ∀ w1 : jb_W, jY cI cJ w1 y A n n2 (upd s 5 (V 3 t)) (va_up V 19 (jl_cp (fun j => V 4 (4 * t + j)) (V 19) k)) VL wk → jR y A w w1 → ja (jb_mk l (jb_rm 1 22 0 0) 3 "MeasuredTensorsModel" D H0 (jt_all cI cJ cT cX) u) w1 sz 0 0 12 [(2, .int (nI k)), (0, .ref y), (1, .int (nI t))] [] := by
    intro f
    induction f with
    | zero =>
      intro k hk w1 h1 r1
      have hk : k = 4 := by omega
      subst hk
      refine ja_iload_n C jd_Y_shapeOf_12 0 rfl ?_
      refine ja_iconst C 4 jd_Y_shapeOf_13 (by decide) ?_
      refine ja_icmp_ge C 35 jd_Y_shapeOf_14 (by decide) (fun c => ?_) (fun c => absurd (by decide) c)
      exact E jd_Y_shapeOf_35 ⟨rfl, h1, r1, rfl⟩
    | succ f ih =>
      intro k hk w1 h1 r1
      refine ja_iload_n C jd_Y_shapeOf_12 0 rfl ?_
      refine ja_iconst C 4 jd_Y_shapeOf_13 (by decide) ?_
      refine ja_icmp_ge C 35 jd_Y_shapeOf_14 (by decide) (fun c => absurd c (by rw [show (4 : Int32) = nI 4 by decide]; exact nI_ge (by omega) (by omega))) (fun c => ?_)
      refine ja_aload_n C jd_Y_shapeOf_17 1 rfl ?_
      refine ja_get C jfl_newSides jd_Y_shapeOf_18 h1.1 rfl ?_
      refine ja_iload_n C jd_Y_shapeOf_21 0 rfl ?_
      refine ja_aload_n C jd_Y_shapeOf_22 1 rfl ?_
      refine ja_iload_n C jd_Y_shapeOf_23 2 rfl ?_
      refine ja_iload_n C jd_Y_shapeOf_24 0 rfl ?_
      refine jb_callV (kc := 0) (ks := 0) (mc := 0) (ms := 0) (As := [.int (nI t), .int (nI k)]) (rest := [.int (nI k), .ref (A 19)]) C X jk_side h1.1 rfl (jy_side (l := l) (D := D) (H0 := H0) (cI := cI) (cJ := cJ) (cT := cT) (cX := cX) (w := w1) (sz := sz) ht (show k < 4 by omega) hn h1) jd_Y_shapeOf_25 rfl rfl ⟨by decide, by decide⟩ (Nat.le_of_ble_eq_true rfl) (fun v w' sz' hp => ?_)
      obtain ⟨rfl, rfl, rfl⟩ := hp
      show ja _ _ _ 0 0 28 _ [.int (va_up V 19 _ 4 (4 * t + k)), .int (nI k), .ref (A 19)]
      refine jY_iast C 19 (by decide) (by decide) jd_Y_shapeOf_28 h1 (vp_in_nI (N := 4) (show k < 4 by omega) (by decide)) (fun w2 h2 r2 => ?_)
      refine ja_iinc C (nI k + 1) [(2, .int (nI k + 1)), (0, .ref y), (1, .int (nI t))] jd_Y_shapeOf_29 0 rfl rfl (Nat.le_of_ble_eq_true rfl) rfl ?_
      refine ja_goto C 12 jd_Y_shapeOf_32 (by decide) ?_
      rw [nI_1]
      refine ih (k + 1) (by omega) w2 ?_ (r1.tr r2)
      rw [va_up_self, nI_clamp (by omega), va_up_ne _ _ (show (4 : Nat) ≠ 19 by decide), bx_uu] at h2
      rw [← jl_cp_s]
      exact h2
  refine ja_aload_n C jd_Y_shapeOf_0 0 rfl ?_
  refine ja_aload_n C jd_Y_shapeOf_1 0 rfl ?_
  refine ja_get C jfl_rank jd_Y_shapeOf_2 h.1 rfl ?_
  refine ja_iload_n C jd_Y_shapeOf_5 1 rfl ?_
  refine ja_iald C 0 rfl jd_Y_shapeOf_6 h.a_rank (vp_in_nI ht (by omega)) ?_
  rw [nI_clamp (by omega)]
  refine jY_put (s' := upd s 5 (V 3 t)) (wk' := wk) C jfp_newRank jfn_newRank jd_Y_shapeOf_7 h rfl rfl (by decide) rfl (fun w1 h1 r1 => ?_)
  refine ja_iconst C 0 jd_Y_shapeOf_10 (by decide) ?_
  refine ja_istore_n C [(2, .int 0), (0, .ref y), (1, .int (nI t))] jd_Y_shapeOf_11 rfl (Nat.le_of_ble_eq_true rfl) rfl ?_
  refine head 4 0 (by omega) w1 ?_ r1
  rw [jl_cp_0, show va_up V 19 (V 19) = V from funext fun j => by by_cases e : j = 19 <;> simp [va_up, e]]
  exact h1
theorem jy_isNone {t : Int32} (h : jY cI cJ w y A n n2 s V VL wk) : jb_M l jy_Y_isNone jc_Y_isNone 2 (some .boolean) 0 0 0 0 D H0 (jt_all cI cJ cT cX) [.ref y, .int t] w sz (fun v w' sz' => v = some (.int (if (if t < 0 then s 3 ≤ -1 - t else s 2 ≤ t) then 1 else 0)) ∧ w' = w ∧ sz' = sz) := by
  refine jb_meth_z (by decide) (Nat.le_of_ble_eq_true rfl) (fun u C X E => ?_)
  refine ja_iload_n C jd_Y_isNone_0 1 rfl ?_
  refine ja_if_lt C 20 jd_Y_isNone_1 (by decide) (fun c_1 => ?_) (fun c_1 => ?_)
  · refine ja_iconst C (-1) jd_Y_isNone_20 (by decide) ?_
    refine ja_iload_n C jd_Y_isNone_21 1 rfl ?_
    refine ja_isub C jd_Y_isNone_22 ?_
    refine ja_aload_n C jd_Y_isNone_23 0 rfl ?_
    refine ja_get C jfl_indices jd_Y_isNone_24 h.1 rfl ?_
    refine ja_icmp_lt C 34 jd_Y_isNone_27 (by decide) (fun c => ?_) (fun c => ?_)
    · refine ja_iconst C 0 jd_Y_isNone_34 (by decide) ?_
      exact E jd_Y_isNone_35 (Or.inl rfl) ⟨by rw [if_neg (by rw [if_pos c_1]; exact k2_nle c)], rfl, rfl⟩
    · refine ja_iconst C 1 jd_Y_isNone_30 (by decide) ?_
      refine ja_goto C 35 jd_Y_isNone_31 (by decide) ?_
      exact E jd_Y_isNone_35 (Or.inr rfl) ⟨by rw [if_pos (by rw [if_pos c_1]; exact k2_le c)], rfl, rfl⟩
  · refine ja_iload_n C jd_Y_isNone_4 1 rfl ?_
    refine ja_aload_n C jd_Y_isNone_5 0 rfl ?_
    refine ja_get C jfl_count jd_Y_isNone_6 h.1 rfl ?_
    refine ja_icmp_lt C 16 jd_Y_isNone_9 (by decide) (fun c => ?_) (fun c => ?_)
    · refine ja_iconst C 0 jd_Y_isNone_16 (by decide) ?_
      refine ja_goto C 35 jd_Y_isNone_17 (by decide) ?_
      exact E jd_Y_isNone_35 (Or.inl rfl) ⟨by rw [if_neg (by rw [if_neg c_1]; exact k2_nle c)], rfl, rfl⟩
    · refine ja_iconst C 1 jd_Y_isNone_12 (by decide) ?_
      refine ja_goto C 35 jd_Y_isNone_13 (by decide) ?_
      exact E jd_Y_isNone_35 (Or.inr rfl) ⟨by rw [if_pos (by rw [if_neg c_1]; exact k2_le c)], rfl, rfl⟩
theorem jy_hasSlope {t : Nat} (ht : t < n) (hn : n ≤ 8192) (h : jY cI cJ w y A n n2 s V VL wk) : jb_M l jy_Y_hasSlope jc_Y_hasSlope 2 (some .boolean) 0 0 0 0 D H0 (jt_all cI cJ cT cX) [.ref y, .int (nI t)] w sz (fun v w' sz' => v = some (.int (if 0 < V 15 t ∧ V 0 t ≠ 3 ∧ V 0 t ≠ 4 then 1 else 0)) ∧ w' = w ∧ sz' = sz) := by
  refine jb_meth_z (by decide) (Nat.le_of_ble_eq_true rfl) (fun u C X E => ?_)
  have no : ¬ (0 < V 15 t ∧ V 0 t ≠ 3 ∧ V 0 t ≠ 4) → ja (jb_mk l (jb_rm 0 0 0 0) 2 "MeasuredTensorsModel" D H0 (jt_all cI cJ cT cX) u) w sz 0 0 33 (lv_args 0 [.ref y, .int (nI t)]) [] := fun hc => by
    refine ja_iconst C 0 jd_Y_hasSlope_33 (by decide) ?_
    exact E jd_Y_hasSlope_34 (Or.inl rfl) ⟨by rw [if_neg hc], rfl, rfl⟩
  refine ja_aload_n C jd_Y_hasSlope_0 0 rfl ?_
  refine ja_get C jfl_uses jd_Y_hasSlope_1 h.1 rfl ?_
  refine ja_iload_n C jd_Y_hasSlope_4 1 rfl ?_
  refine ja_iald C 0 rfl jd_Y_hasSlope_5 h.a_uses (vp_in_nI ht (by omega)) ?_
  rw [nI_clamp (by omega)]
  refine ja_if_le C 33 jd_Y_hasSlope_6 (by decide) (fun c_6 => no (fun z => k2_nlt c_6 z.1)) (fun c_6 => ?_)
  refine ja_aload_n C jd_Y_hasSlope_9 0 rfl ?_
  refine ja_get C jfl_op jd_Y_hasSlope_10 h.1 rfl ?_
  refine ja_iload_n C jd_Y_hasSlope_13 1 rfl ?_
  refine ja_iald C 0 rfl jd_Y_hasSlope_14 h.a_op (vp_in_nI ht (by omega)) ?_
  rw [nI_clamp (by omega)]
  refine ja_iconst C 3 jd_Y_hasSlope_15 (by decide) ?_
  refine ja_icmp_eq C 33 jd_Y_hasSlope_16 (by decide) (fun c_16 => no (fun z => z.2.1 c_16)) (fun c_16 => ?_)
  refine ja_aload_n C jd_Y_hasSlope_19 0 rfl ?_
  refine ja_get C jfl_op jd_Y_hasSlope_20 h.1 rfl ?_
  refine ja_iload_n C jd_Y_hasSlope_23 1 rfl ?_
  refine ja_iald C 0 rfl jd_Y_hasSlope_24 h.a_op (vp_in_nI ht (by omega)) ?_
  rw [nI_clamp (by omega)]
  refine ja_iconst C 4 jd_Y_hasSlope_25 (by decide) ?_
  refine ja_icmp_eq C 33 jd_Y_hasSlope_26 (by decide) (fun c_26 => no (fun z => z.2.2 c_26)) (fun c_26 => ?_)
  refine ja_iconst C 1 jd_Y_hasSlope_29 (by decide) ?_
  refine ja_goto C 34 jd_Y_hasSlope_30 (by decide) ?_
  exact E jd_Y_hasSlope_34 (Or.inr rfl) ⟨by rw [if_pos ⟨k2_lt c_6, c_16, c_26⟩], rfl, rfl⟩
end YV
