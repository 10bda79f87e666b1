/-! THE REFERENCE: newCells, begin, isLeast, shapeOf, isNone, hasSlope -/
def jl_cells (N : Nat → Nat) : Nat → Nat
  | 0 => 1
  | r + 1 => jl_cells N r * N r
theorem jl_cells_le {N : Nat → Nat} {r : Nat} (h : ∀ k, k < r → N k ≤ 8192) : jl_cells N r ≤ 8192 ^ r := by
  induction r with
  | zero => exact Nat.le_refl 1
  | succ r ih =>
    rw [jl_cells, Nat.pow_succ]
    exact Nat.mul_le_mul (ih fun k hk => h k (by omega)) (h r (by omega))
theorem jl_cells_52 {N : Nat → Nat} {r : Nat} (hr : r ≤ 4) (h : ∀ k, k < r → N k ≤ 8192) : jl_cells N r ≤ 2 ^ 52 :=
  Nat.le_trans (jl_cells_le h) (Nat.le_trans (Nat.pow_le_pow_right (by omega) hr) (by decide))
theorem jl_small : ∀ k, k < 65 → ∀ j, j < 65 → (nI k ≤ nI j ↔ k ≤ j) := fun k hk j hj => nI_leI (by omega) (by omega)
theorem jk_side : jb_KV "MeasuredTensorsModel" 105 jy_Y_side jc_Y_side 3 (some .int) 2 := ⟨jw_in (by decide +kernel) (by decide +kernel), jw_in (by decide +kernel) (by decide +kernel), jw_in (by decide +kernel) (by decide +kernel), jw_in (by decide +kernel) (by decide +kernel), jw_in (by decide +kernel) (by decide +kernel), by decide +kernel⟩
section YU
variable {l : Launch} {D : va_G} {H0 : Heap} {cI cJ cT cX : ClassId} {w : jb_W} {sz : Nat}
variable {y : Nat} {A : Nat → Nat} {n n2 : Nat} {s : Nat → Int32} {V : Nat → Nat → Int32} {VL : Nat → Nat → Int64} {wk : Int64}
theorem jy_newCells {r : Nat} {N : Nat → Nat} (hr : r ≤ 4) (hs : s 5 = nI r) (hN : ∀ k, k < r → V 19 k = nI (N k) ∧ N k ≤ 8192) (h : jY cI cJ w y A n n2 s V VL wk) : jb_M l jy_Y_newCells jc_Y_newCells 4 (some .long) 0 0 0 0 D H0 (jt_all cI cJ cT cX) [.ref y] w sz (fun v w' sz' => v = some (.long (lN (jl_cells N r))) ∧ w' = w ∧ sz' = sz) := by
  refine jb_meth_l (by decide) (Nat.le_of_ble_eq_true rfl) (fun u C X E => ?_)
  have head : ∀ (f k : Nat), k + f = r → ja (jb_mk l (jb_rm 0 0 0 0) 4 "MeasuredTensorsModel" D H0 (jt_all cI cJ cT cX) u) w sz 0 0 4 [(3, .int (nI k)), (1, .long (lN (jl_cells N k))), (0, .ref y)] [] := by
    intro f
    induction f with
    | zero =>
      intro k hk
      refine ja_iload_n C jd_Y_newCells_4 0 rfl ?_
      refine ja_aload_n C jd_Y_newCells_5 2 rfl ?_
      refine ja_get C jfl_newRank jd_Y_newCells_6 h.1 rfl ?_
      refine ja_icmp_ge C 28 jd_Y_newCells_9 (by decide) (fun c_9 => ?_) (fun c_9 => ?_)
      · refine ja_lload_n C jd_Y_newCells_28 1 rfl ?_
        exact E jd_Y_newCells_29 ⟨by rw [show k = r by omega], rfl, rfl⟩
      · exact absurd (by rw [hs]; exact nI_le (by omega) (by omega)) c_9
    | succ f ih =>
      intro k hk
      have hb := jl_cells_52 (N := N) (r := k) (by omega) (fun j hj => (hN j (by omega)).2)
      refine ja_iload_n C jd_Y_newCells_4 0 rfl ?_
      refine ja_aload_n C jd_Y_newCells_5 2 rfl ?_
      refine ja_get C jfl_newRank jd_Y_newCells_6 h.1 rfl ?_
      refine ja_icmp_ge C 28 jd_Y_newCells_9 (by decide) (fun c_9 => ?_) (fun c_9 => ?_)
      · exact absurd (by rw [hs] at c_9; exact c_9) (nI_ge (show k < r by omega) (by omega))
      · refine ja_lload_n C jd_Y_newCells_12 1 rfl ?_
        refine ja_aload_n C jd_Y_newCells_13 2 rfl ?_
        refine ja_get C jfl_newSides jd_Y_newCells_14 h.1 rfl ?_
        refine ja_iload_n C jd_Y_newCells_17 0 rfl ?_
        refine ja_iald C 0 rfl jd_Y_newCells_18 h.a_newSides (vp_in_nI (by omega) (by omega)) ?_
        refine ja_i2l C jd_Y_newCells_19 ?_
        refine ja_lmul C jd_Y_newCells_20 ?_
        have hk9 := hN k (by omega)
        rw [nI_clamp (by omega), hk9.1, nI_l (by omega), lN_mul]
        refine ja_lstore_n C [(1, .long (lN (jl_cells N k * N k))), (3, .int (nI k)), (0, .ref y)] jd_Y_newCells_21 rfl (Nat.le_of_ble_eq_true rfl) rfl ?_
        refine ja_iinc C (nI k + 1) [(3, .int (nI k + 1)), (1, .long (lN (jl_cells N k * N k))), (0, .ref y)] jd_Y_newCells_22 1 rfl rfl (Nat.le_of_ble_eq_true rfl) rfl ?_
        refine ja_goto C 4 jd_Y_newCells_25 (by decide) ?_
        rw [nI_1]
        exact ih (k + 1) (by omega)
  refine ja_lconst C 1 jd_Y_newCells_0 (by decide) ?_
  refine ja_lstore_n C [(1, .long 1), (0, .ref y)] jd_Y_newCells_1 rfl (Nat.le_of_ble_eq_true rfl) rfl ?_
  refine ja_iconst C 0 jd_Y_newCells_2 (by decide) ?_
  refine ja_istore_n C [(3, .int 0), (1, .long 1), (0, .ref y)] jd_Y_newCells_3 rfl (Nat.le_of_ble_eq_true rfl) rfl ?_
  exact head r 0 (by omega)
theorem jy_isLeast {a b : Nat} (ha : a < 2 ^ 31) (hb : b < 2 ^ 31) : jb_M l jy_Y_isLeast jc_Y_isLeast 3 (some .boolean) 1 29 0 0 D H0 (jt_all cI cJ cT cX) [.ref y, .int (nI a), .int (nI b)] w sz (fun v w' sz' => v = some (.int (if Nat.gcd a b = 1 then 1 else 0)) ∧ w' = w ∧ sz' = sz) := by
  refine jb_meth_z (by decide) (Nat.le_of_ble_eq_true rfl) (fun u C X E => ?_)
  refine ja_iload_n C jd_Y_isLeast_0 2 rfl ?_
  refine ja_i2l C jd_Y_isLeast_1 ?_
  refine ja_iload_n C jd_Y_isLeast_2 1 rfl ?_
  refine ja_i2l C jd_Y_isLeast_3 ?_
  rw [nI_l ha, nI_l hb]
  refine jb_callS (kc := 0) (ks := 0) (mc := 0) (ms := 0) C X jk_gcd (jy_gcd (l := l) (D := D) (H0 := H0) (tys := jt_all cI cJ cT cX) (w := w) (sz := sz) (show b < 2 ^ 63 by omega) (show a < 2 ^ 63 by omega)) jd_Y_isLeast_4 rfl rfl ⟨by decide, by decide⟩ (Nat.le_of_ble_eq_true rfl) (fun v w' sz' hp => ?_)
  obtain ⟨rfl, rfl, rfl⟩ := hp
  show ja _ _ _ 0 0 7 _ [.long (lN (Nat.gcd a b))]
  have hg : Nat.gcd a b < 2 ^ 63 := by
    rcases Nat.eq_zero_or_pos a with h | h
    · subst h; rw [Nat.gcd_zero_left]; omega
    · exact Nat.lt_of_le_of_lt (Nat.gcd_le_left b h) (by omega)
  have he : lg_cmp (lN (Nat.gcd a b)) 1 = 0 ↔ Nat.gcd a b = 1 := by
    rw [lg_cmp_eq, jl_1]
    exact pk_lEQ hg (by omega)
  refine ja_lconst C 1 jd_Y_isLeast_7 (by decide) ?_
  refine ja_lcmp C jd_Y_isLeast_8 ?_
  refine ja_if_ne C 16 jd_Y_isLeast_9 (by decide) (fun c_9 => ?_) (fun c_9 => ?_)
  · refine ja_iconst C 0 jd_Y_isLeast_16 (by decide) ?_
    exact E jd_Y_isLeast_17 (Or.inl rfl) ⟨by rw [if_neg (fun z => c_9 (he.mpr z))], rfl, rfl⟩
  · refine ja_iconst C 1 jd_Y_isLeast_12 (by decide) ?_
    refine ja_goto C 17 jd_Y_isLeast_13 (by decide) ?_
    exact E jd_Y_isLeast_17 (Or.inr rfl) ⟨by rw [if_pos (he.mp c_9)], rfl, rfl⟩
/-- begin: refused, or all goes and p is told -/
def jl_begin (p : Int32) (s : Nat → Int32) : Nat → Int32 := if p < 0 ∨ 64 < p then upd s 0 1 else upd (upd (upd (upd (upd s 0 0) 1 p) 2 0) 3 0) 4 (-1)
theorem jy_begin {p : Int32} (h : jY cI cJ w y A n n2 s V VL wk) : jb_M l jy_Y_begin jc_Y_begin 2 none 0 0 0 0 D H0 (jt_all cI cJ cT cX) [.ref y, .int p] w sz (fun v w' sz' => v = none ∧ jY cI cJ w' y A n n2 (jl_begin p s) V VL (if p < 0 ∨ 64 < p then wk else 0) ∧ jR y A w w' ∧ sz' = sz) := by
  refine jb_meth_v (by decide) (Nat.le_of_ble_eq_true rfl) (fun u C X hnm E => ?_)
  have bad : (p < 0 ∨ 64 < p) → ja (jb_mk l (jb_rm 0 0 0 0) 2 "MeasuredTensorsModel" D H0 (jt_all cI cJ cT cX) u) w sz 0 0 11 (lv_args 0 [.ref y, .int p]) [.ref y] := fun hc => by
    refine ja_iconst C 1 jd_Y_begin_11 (by decide) ?_
    refine ja_goto C 16 jd_Y_begin_12 (by decide) ?_
    refine jY_put (s' := upd s 0 1) (wk' := wk) C jfp_thrown jfn_thrown jd_Y_begin_16 h rfl rfl (by decide) rfl (fun w1 h1 r1 => ?_)
    refine ja_aload_n C jd_Y_begin_19 0 rfl ?_
    refine ja_get C jfl_thrown jd_Y_begin_20 h1.1 rfl ?_
    refine ja_if_le C 27 jd_Y_begin_23 (by decide) (fun c => absurd c (by rw [pk_us]; decide)) (fun c => ?_)
    exact E jd_Y_begin_26 ⟨rfl, by unfold jl_begin; rw [if_pos hc, if_pos hc]; exact h1, r1, rfl⟩
  refine ja_aload_n C jd_Y_begin_0 0 rfl ?_
  refine ja_iload_n C jd_Y_begin_1 1 rfl ?_
  refine ja_if_lt C 11 jd_Y_begin_2 (by decide) (fun c_2 => bad (Or.inl c_2)) (fun c_2 => ?_)
  refine ja_iload_n C jd_Y_begin_5 1 rfl ?_
  refine ja_bipush C 64 jd_Y_begin_6 (by decide) ?_
  refine ja_icmp_le C 15 jd_Y_begin_8 (by decide) (fun c_8 => ?_) (fun c_8 => bad (Or.inr (k2_lt c_8)))
  have hc : ¬ (p < 0 ∨ 64 < p) := fun z => z.elim c_2 (fun q => k2_nle q c_8)
  refine ja_iconst C 0 jd_Y_begin_15 (by decide) ?_
  refine jY_put (s' := upd s 0 0) (wk' := wk) C jfp_thrown jfn_thrown jd_Y_begin_16 h rfl rfl (by decide) rfl (fun w1 h1 r1 => ?_)
  refine ja_aload_n C jd_Y_begin_19 0 rfl ?_
  refine ja_get C jfl_thrown jd_Y_begin_20 h1.1 rfl ?_
  refine ja_if_le C 27 jd_Y_begin_23 (by decide) (fun c => ?_) (fun c => absurd (by rw [pk_us]; decide) c)
  refine ja_aload_n C jd_Y_begin_27 0 rfl ?_
  refine ja_iload_n C jd_Y_begin_28 1 rfl ?_
  refine jY_put (s' := upd (upd s 0 0) 1 p) (wk' := wk) C jfp_places jfn_places jd_Y_begin_29 h1 rfl rfl (by decide) rfl (fun w2 h2 r2 => ?_)
  refine ja_aload_n C jd_Y_begin_32 0 rfl ?_
  refine ja_iconst C 0 jd_Y_begin_33 (by decide) ?_
  refine jY_put (s' := upd (upd (upd s 0 0) 1 p) 2 0) (wk' := wk) C jfp_count jfn_count jd_Y_begin_34 h2 rfl rfl (by decide) rfl (fun w3 h3 r3 => ?_)
  refine ja_aload_n C jd_Y_begin_37 0 rfl ?_
  refine ja_lconst C 0 jd_Y_begin_38 (by decide) ?_
  refine jY_put (s' := upd (upd (upd s 0 0) 1 p) 2 0) (wk' := 0) C jfp_work jfn_work jd_Y_begin_39 h3 rfl rfl (by decide) rfl (fun w4 h4 r4 => ?_)
  refine ja_aload_n C jd_Y_begin_42 0 rfl ?_
  refine ja_iconst C 0 jd_Y_begin_43 (by decide) ?_
  refine jY_put (s' := upd (upd (upd (upd s 0 0) 1 p) 2 0) 3 0) (wk' := 0) C jfp_indices jfn_indices jd_Y_begin_44 h4 rfl rfl (by decide) rfl (fun w5 h5 r5 => ?_)
  refine ja_aload_n C jd_Y_begin_47 0 rfl ?_
  refine ja_iconst C (-1) jd_Y_begin_48 (by decide) ?_
  refine jY_put (s' := upd (upd (upd (upd (upd s 0 0) 1 p) 2 0) 3 0) 4 (-1)) (wk' := 0) C jfp_loss jfn_loss jd_Y_begin_49 h5 rfl rfl (by decide) rfl (fun w6 h6 r6 => ?_)
  exact E jd_Y_begin_52 ⟨rfl, by unfold jl_begin; rw [if_neg hc, if_neg hc]; exact h6, ((((r1.tr r2).tr r3).tr r4).tr r5).tr r6, rfl⟩
end YU
