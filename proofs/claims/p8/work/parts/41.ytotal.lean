/-! THE REFERENCE: total, pool, along -/
theorem jl_cells_pos {f : Nat → Nat} {k : Nat} (h : ∀ j, j < k → 1 ≤ f j) : 1 ≤ jl_cells f k := by
  induction k with
  | zero => exact Nat.le_refl 1
  | succ k ih => rw [jl_cells]; exact Nat.mul_pos (ih (fun j hj => h j (by omega))) (h k (by omega))
def jA_total (σ : jSt) (M : Nat → Nat) (rn wt a m : Nat) (x : Int32) (σ' : jSt) : Prop := if wt = 5 then jA σ M rn (nI wt) (nI a) (-1) m (jT_r (jSt_T σ a) + jl_log m) (jT_e (jSt_T σ a)) (jT_q (jSt_T σ a)) x σ' else jA σ M rn (nI wt) (nI a) (-1) m (jT_r (jSt_T σ a) + jl_log m + 1) (jT_e (jSt_T σ a) + jl_twos 40 m) (jl_prod (jT_q (jSt_T σ a)) (jl_odd 40 m)) x σ'
def jA_along (σ : jSt) (M : Nat → Nat) (rn wt a m : Nat) (x : Int32) (σ' : jSt) : Prop := if wt = 7 then jA σ M rn (nI wt) (nI a) (-1) 1 (jT_r (jSt_T σ a)) (jT_e (jSt_T σ a)) (jT_q (jSt_T σ a)) x σ' else jA_total σ M rn wt a m x σ'
/-- the sides without the k-th -/
def jl_drop (f : Nat → Nat) (k : Nat) : Nat → Nat := fun j => if j < k then f j else f (j + 1)
def jA_pool (σ : jSt) (M : Nat → Nat) (rn wt a p : Nat) (x : Int32) (σ' : jSt) : Prop := if wt = 10 then jA σ M rn (nI wt) (nI a) (-1) 1 (jT_r (jSt_T σ a)) (jT_e (jSt_T σ a)) (jT_q (jSt_T σ a)) x σ' else jA_total σ M rn wt a (p * p) x σ' 
theorem jk_total : jb_KV "MeasuredTensorsModel" 212 jy_Y_total jc_Y_total 6 (some .int) 3 := ⟨jw_in (by decide +kernel) (by decide +kernel), jw_in (by decide +kernel) (by decide +kernel), jw_in (by decide +kernel) (by decide +kernel), jw_in (by decide +kernel) (by decide +kernel), jw_in (by decide +kernel) (by decide +kernel), by decide +kernel⟩
section Y41
variable {l : Launch} {D : va_G} {H0 : Heap} {cI cJ cT cX : ClassId} {w : jb_W} {sz : Nat}
variable {y : Nat} {A : Nat → Nat} {n n2 : Nat} {σ : jSt} {th rk : Int32} {N : Nat → Int32}
theorem jn_total {wt a m rn : Nat} {M : Nat → Nat} (h : jN cI cJ y A n n2 σ w th rk N) (hct : jSt_c σ < 512) (hta : a < jSt_c σ) (hw : wt ≤ 18) (hm : 1 ≤ m ∧ m ≤ 2 ^ 24) (hrn : rn ≤ 4) (hrk : rk = nI rn) (hN : ∀ k, k < rn → N k = nI (M k) ∧ 1 ≤ M k ∧ M k ≤ 8192) : jb_M l jy_Y_total jc_Y_total 6 (some .int) 4 144 16 9728 D H0 (jt_all cI cJ cT cX) [.ref y, .int (nI wt), .int (nI a), .int (nI m)] w sz
    (fun v w' sz' => ∃ (x : Int32) (σ' : jSt), v = some (.int x) ∧ jA_total σ M rn wt a m x σ' ∧ jP cI cJ y A w sz σ' th w' sz') := by
  refine jb_meth_i (by decide) (Nat.le_of_ble_eq_true rfl) (fun u C X E => ?_)
  have hn := h.cn
  obtain ⟨oa1, oa2, oa3, oa4, oa5, oa6, oa7, oa8, oa9, oa10⟩ := h.ok hta
  have hlg := jl_log_le (m := m) (by omega)
  have htw := jl_twos_le 40 m
  have hod := jl_odd_le 40 m
  have h51 : nI wt = 51 → False := fun z => by have := (nI_eq (a := wt) (b := 51) (by omega) (by decide)).mp z; omega
  refine ja_aload_n C jd_Y_total_0 0 rfl ?_
  refine jN_ga C jfl_range jd_Y_total_1 h (fun _ _ => rfl) ?_
  refine ja_iload_n C jd_Y_total_4 2 rfl ?_
  refine jN_ia C (by decide) (fun _ _ => rfl) jd_Y_total_5 h hta (fun _ _ q => q.range) ?_
  refine ja_iload_n C jd_Y_total_6 3 rfl ?_
  refine ja_i2lN C jd_Y_total_7 (by omega) ?_
  refine jb_pS 8 C X jk_log (jy_log (by omega)) jd_Y_total_8 rfl rfl ⟨by decide, by decide⟩ (Nat.le_of_ble_eq_true rfl) ?_
  refine ja_iaddN C jd_Y_total_11 ?_
  refine ja_i2lN C jd_Y_total_12 (by omega) ?_
  refine ja_lstore C [(4, .long (lN ((jT_r (jSt_T σ a)) + (jl_log m)))), (0, .ref y), (1, .int (nI wt)), (2, .int (nI a)), (3, .int (nI m))] jd_Y_total_13 (Nat.le_of_ble_eq_true rfl) rfl ?_
  refine ja_iload_n C jd_Y_total_15 2 rfl ?_
  refine ja_iconst C (nI 5) jd_Y_total_16 (by decide) ?_
  refine ja_icmp_neN C 44 jd_Y_total_17 (by decide) (by omega) (by decide) (fun c17 => ?_) (fun c17 => ?_)
  · refine ja_aload_n C jd_Y_total_44 1 rfl ?_
    refine ja_iload_n C jd_Y_total_45 2 rfl ?_
    refine ja_iload_n C jd_Y_total_46 3 rfl ?_
    refine ja_iconst C (-1) jd_Y_total_47 (by decide) ?_
    refine ja_lload C jd_Y_total_48 0 rfl ?_
    refine ja_lconst C (lN 1) jd_Y_total_50 (by decide) ?_
    refine ja_laddN C jd_Y_total_51 ?_
    refine ja_aload_n C jd_Y_total_52 1 rfl ?_
    refine jN_ga C jfl_depth jd_Y_total_53 h (fun _ _ => rfl) ?_
    refine ja_iload_n C jd_Y_total_56 3 rfl ?_
    refine jN_ia C (by decide) (fun _ _ => rfl) jd_Y_total_57 h hta (fun _ _ q => q.depth) ?_
    refine ja_iload_n C jd_Y_total_58 4 rfl ?_
    refine ja_i2lN C jd_Y_total_59 (by omega) ?_
    refine jb_pS 8 C X jk_twos (jy_twos (by omega) (by omega)) jd_Y_total_60 rfl rfl ⟨by decide, by decide⟩ (Nat.le_of_ble_eq_true rfl) ?_
    refine ja_iaddN C jd_Y_total_63 ?_
    refine ja_i2lN C jd_Y_total_64 (by omega) ?_
    refine ja_aload_n C jd_Y_total_65 1 rfl ?_
    refine jN_ga C jfl_odd jd_Y_total_66 h (fun _ _ => rfl) ?_
    refine ja_iload_n C jd_Y_total_69 3 rfl ?_
    refine jN_la C jd_Y_total_70 h hta ?_
    refine ja_iload_n C jd_Y_total_71 4 rfl ?_
    refine ja_i2lN C jd_Y_total_72 (by omega) ?_
    refine jb_pS 10 C X jk_oddPart (jy_oddPart (by omega) (by omega)) jd_Y_total_73 rfl rfl ⟨by decide, by decide⟩ (Nat.le_of_ble_eq_true rfl) ?_
    refine jb_pS 8 C X jk_product (jy_product (by omega) (by omega)) jd_Y_total_76 rfl rfl ⟨by decide, by decide⟩ (Nat.le_of_ble_eq_true rfl) ?_
    refine ja_iload_n C jd_Y_total_79 4 rfl ?_
    refine jN_mV 8 C X jk_make h rfl (jn_make h hct (by omega) (by omega) (jl_prod_lt _ _) ⟨by omega, by omega⟩ hrn hrk hN h51) jd_Y_total_80 rfl rfl ⟨by decide, by decide⟩ (Nat.le_of_ble_eq_true rfl) (Nat.le_of_ble_eq_true rfl) (Nat.le_of_ble_eq_true rfl) (fun x1 σ1 w1 z1 hp1 => ?_)
    obtain ⟨ha1, hq1⟩ := hp1
    exact E jd_Y_total_83 ⟨x1, σ1, rfl, by unfold jA_total; rw [if_neg c17]; exact ha1, jP.from jR.rf hq1⟩
  · refine ja_aload_n C jd_Y_total_20 1 rfl ?_
    refine ja_iload_n C jd_Y_total_21 2 rfl ?_
    refine ja_iload_n C jd_Y_total_22 3 rfl ?_
    refine ja_iconst C (-1) jd_Y_total_23 (by decide) ?_
    refine ja_lload C jd_Y_total_24 0 rfl ?_
    refine ja_aload_n C jd_Y_total_26 1 rfl ?_
    refine jN_ga C jfl_depth jd_Y_total_27 h (fun _ _ => rfl) ?_
    refine ja_iload_n C jd_Y_total_30 3 rfl ?_
    refine jN_ia C (by decide) (fun _ _ => rfl) jd_Y_total_31 h hta (fun _ _ q => q.depth) ?_
    refine ja_i2lN C jd_Y_total_32 (by omega) ?_
    refine ja_aload_n C jd_Y_total_33 1 rfl ?_
    refine jN_ga C jfl_odd jd_Y_total_34 h (fun _ _ => rfl) ?_
    refine ja_iload_n C jd_Y_total_37 3 rfl ?_
    refine jN_la C jd_Y_total_38 h hta ?_
    refine ja_iload_n C jd_Y_total_39 4 rfl ?_
    refine jN_mV 8 C X jk_make h rfl (jn_make h hct (by omega) (by omega) (by omega) ⟨by omega, by omega⟩ hrn hrk hN h51) jd_Y_total_40 rfl rfl ⟨by decide, by decide⟩ (Nat.le_of_ble_eq_true rfl) (Nat.le_of_ble_eq_true rfl) (Nat.le_of_ble_eq_true rfl) (fun x2 σ2 w2 z2 hp2 => ?_)
    obtain ⟨ha2, hq2⟩ := hp2
    exact E jd_Y_total_43 ⟨x2, σ2, rfl, by unfold jA_total; rw [if_pos c17]; exact ha2, jP.from jR.rf hq2⟩
theorem jn_pool {wt a p : Nat} (h : jN cI cJ y A n n2 σ w th rk N) (hct : jSt_c σ < 512) (hta : a < jSt_c σ) (hw : wt ≤ 18) (hk3 : jT_k (jSt_T σ a) = 3) (hp : 1 ≤ p) (hp1 : jT_S (jSt_T σ a) 1 % p = 0) (hp2 : jT_S (jSt_T σ a) 2 % p = 0) (hrk : rk = nI 3) (hN : jNS N (jT_S (jSt_T σ a))) : jb_M l jy_Y_pool jc_Y_pool 4 (some .int) 5 169 16 9728 D H0 (jt_all cI cJ cT cX) [.ref y, .int (nI wt), .int (nI a), .int (nI p)] w sz
    (fun v w' sz' => ∃ (x : Int32) (σ' : jSt), v = some (.int x) ∧ jA_pool σ (va_up (va_up (jT_S (jSt_T σ a)) 1 (jT_S (jSt_T σ a) 1 / p)) 2 (jT_S (jSt_T σ a) 2 / p)) 3 wt a p x σ' ∧ jP cI cJ y A w sz σ' th w' sz') := by
  refine jb_meth_i (by decide) (Nat.le_of_ble_eq_true rfl) (fun u C X E => ?_)
  have hn := h.cn
  obtain ⟨oa1, oa2, oa3, oa4, oa5, oa6, oa7, oa8, oa9, oa10⟩ := h.ok hta
  have s1 := oa2 1 (by decide)
  have s2 := oa2 2 (by decide)
  have s0 := oa2 0 (by decide)
  have p1 : p ≤ jT_S (jSt_T σ a) 1 := Nat.le_of_dvd (by omega) (Nat.dvd_of_mod_eq_zero hp1)
  have p2 : p ≤ jT_S (jSt_T σ a) 2 := Nat.le_of_dvd (by omega) (Nat.dvd_of_mod_eq_zero hp2)
  have d1 : 1 ≤ jT_S (jSt_T σ a) 1 / p := Nat.div_pos p1 (by omega)
  have d2 : 1 ≤ jT_S (jSt_T σ a) 2 / p := Nat.div_pos p2 (by omega)
  have e1 : jT_S (jSt_T σ a) 1 / p ≤ jT_S (jSt_T σ a) 1 := Nat.div_le_self _ _
  have e2 : jT_S (jSt_T σ a) 2 / p ≤ jT_S (jSt_T σ a) 2 := Nat.div_le_self _ _
  have pp : p * p ≤ 4096 * 4096 := Nat.mul_le_mul (by omega) (by omega)
  have pp1 : 1 ≤ p * p := Nat.mul_pos hp hp
  have hM : ∀ k, k < 3 → (upd (upd N 1 (nI (jT_S (jSt_T σ a) 1 / p))) 2 (nI (jT_S (jSt_T σ a) 2 / p))) k = nI ((va_up (va_up (jT_S (jSt_T σ a)) 1 (jT_S (jSt_T σ a) 1 / p)) 2 (jT_S (jSt_T σ a) 2 / p)) k) ∧ 1 ≤ (va_up (va_up (jT_S (jSt_T σ a)) 1 (jT_S (jSt_T σ a) 1 / p)) 2 (jT_S (jSt_T σ a) 2 / p)) k ∧ (va_up (va_up (jT_S (jSt_T σ a)) 1 (jT_S (jSt_T σ a) 1 / p)) 2 (jT_S (jSt_T σ a) 2 / p)) k ≤ 8192 := fun k hk => by
    refine ⟨((hN.st 1 _).st 2 _) k (by omega), ?_⟩
    match k, hk with
    | 0, _ => exact ⟨s0.1, by show jT_S (jSt_T σ a) 0 ≤ 8192; omega⟩
    | 1, _ => exact ⟨d1, by show jT_S (jSt_T σ a) 1 / p ≤ 8192; omega⟩
    | 2, _ => exact ⟨d2, by show jT_S (jSt_T σ a) 2 / p ≤ 8192; omega⟩
    | k + 3, z => omega
  have h51 : nI wt = 51 → False := fun z => by have := (nI_eq (a := wt) (b := 51) (by omega) (by decide)).mp z; omega
  refine ja_aload_n C jd_Y_pool_0 0 rfl ?_
  refine jN_ga C jfl_newSides jd_Y_pool_1 h (fun _ _ => rfl) ?_
  refine ja_iconst C (nI 1) jd_Y_pool_4 (by decide) ?_
  refine ja_aload_n C jd_Y_pool_5 0 rfl ?_
  refine ja_iload_n C jd_Y_pool_6 2 rfl ?_
  refine ja_iconst C (nI 1) jd_Y_pool_7 (by decide) ?_
  refine jN_pV 8 C X jk_side h rfl (jn_side h hta (by decide)) jd_Y_pool_8 rfl rfl ⟨by decide, by decide⟩ (Nat.le_of_ble_eq_true rfl) ?_
  refine ja_iload_n C jd_Y_pool_11 3 rfl ?_
  refine ja_idivN C jd_Y_pool_12 (by omega) (by omega) (by omega) ?_
  refine jN_st C jd_Y_pool_13 h (by decide) (fun w1 h1 r1 => ?_)
  refine ja_aload_n C jd_Y_pool_14 0 rfl ?_
  refine jN_ga C jfl_newSides jd_Y_pool_15 h1 (fun _ _ => rfl) ?_
  refine ja_iconst C (nI 2) jd_Y_pool_18 (by decide) ?_
  refine ja_aload_n C jd_Y_pool_19 0 rfl ?_
  refine ja_iload_n C jd_Y_pool_20 2 rfl ?_
  refine ja_iconst C (nI 2) jd_Y_pool_21 (by decide) ?_
  refine jN_pV 8 C X jk_side h1 rfl (jn_side h1 hta (by decide)) jd_Y_pool_22 rfl rfl ⟨by decide, by decide⟩ (Nat.le_of_ble_eq_true rfl) ?_
  refine ja_iload_n C jd_Y_pool_25 3 rfl ?_
  refine ja_idivN C jd_Y_pool_26 (by omega) (by omega) (by omega) ?_
  refine jN_st C jd_Y_pool_27 h1 (by decide) (fun w2 h2 r2 => ?_)
  refine ja_iload_n C jd_Y_pool_28 1 rfl ?_
  refine ja_bipush C (nI 10) jd_Y_pool_29 (by decide) ?_
  refine ja_icmp_neN C 43 jd_Y_pool_31 (by decide) (by omega) (by decide) (fun c31 => ?_) (fun c31 => ?_)
  · refine ja_aload_n C jd_Y_pool_43 0 rfl ?_
    refine ja_iload_n C jd_Y_pool_44 1 rfl ?_
    refine ja_iload_n C jd_Y_pool_45 2 rfl ?_
    refine ja_iload_n C jd_Y_pool_46 3 rfl ?_
    refine ja_iload_n C jd_Y_pool_47 3 rfl ?_
    refine ja_imulN C jd_Y_pool_48 ?_
    refine jN_mV 8 C X jk_total h2 rfl (jn_total h2 hct hta hw ⟨pp1, by omega⟩ (by decide) hrk hM) jd_Y_pool_49 rfl rfl ⟨by decide, by decide⟩ (Nat.le_of_ble_eq_true rfl) (Nat.le_of_ble_eq_true rfl) (Nat.le_of_ble_eq_true rfl) (fun x3 σ3 w3 z3 hp3 => ?_)
    obtain ⟨ha3, hq3⟩ := hp3
    exact E jd_Y_pool_52 ⟨x3, σ3, rfl, by unfold jA_pool; rw [if_neg c31]; exact ha3, jP.from (r1.tr r2) hq3⟩
  · refine ja_aload_n C jd_Y_pool_34 0 rfl ?_
    refine ja_iload_n C jd_Y_pool_35 1 rfl ?_
    refine ja_iload_n C jd_Y_pool_36 2 rfl ?_
    refine jN_mV 8 C X jk_makeLike h2 rfl (jn_makeLike h2 hct hta (by decide) hrk hM h51) jd_Y_pool_37 rfl rfl ⟨by decide, by decide⟩ (Nat.le_of_ble_eq_true rfl) (Nat.le_of_ble_eq_true rfl) (Nat.le_of_ble_eq_true rfl) (fun x4 σ4 w4 z4 hp4 => ?_)
    obtain ⟨ha4, hq4⟩ := hp4
    refine ja_goto C 52 jd_Y_pool_40 (by decide) ?_
    exact E jd_Y_pool_52 ⟨x4, σ4, rfl, by unfold jA_pool; rw [if_pos c31]; exact ha4, jP.from (r1.tr r2) hq4⟩
theorem jn_along0 {wt a : Nat} (h : jN cI cJ y A n n2 σ w th rk N) (hct : jSt_c σ < 512) (hta : a < jSt_c σ) (hw : wt ≤ 18) : jb_M l jy_Y_along jc_Y_along 6 (some .int) 5 169 16 9728 D H0 (jt_all cI cJ cT cX) [.ref y, .int (nI wt), .int (nI a), .int (-1)] w sz
    (fun v w' sz' => ∃ (x : Int32) (σ' : jSt), v = some (.int x) ∧ jA_along σ (fun _ => 1) 0 wt a (jl_cells (jT_S (jSt_T σ a)) (jT_k (jSt_T σ a))) x σ' ∧ jP cI cJ y A w sz σ' th w' sz') := by
  refine jb_meth_i (by decide) (Nat.le_of_ble_eq_true rfl) (fun u C X E => ?_)
  have hn := h.cn
  obtain ⟨oa1, oa2, oa3, oa4, oa5, oa6, oa7, oa8, oa9, oa10⟩ := h.ok hta
  have hcp := jl_cells_pos (f := jT_S (jSt_T σ a)) (k := jT_k (jSt_T σ a)) (fun j hj => (oa2 j (by omega)).1)
  have h51 : nI wt = 51 → False := fun z => by have := (nI_eq (a := wt) (b := 51) (by omega) (by decide)).mp z; omega
  refine ja_iload_n C jd_Y_along_0 3 rfl ?_
  refine ja_if_ge C 13 jd_Y_along_1 (by decide) (fun c1 => absurd c1 (by decide)) (fun c1 => ?_)
  refine ja_aload_n C jd_Y_along_4 0 rfl ?_
  refine jN_ga C jfl_cells jd_Y_along_5 h (fun _ _ => rfl) ?_
  refine ja_iload_n C jd_Y_along_8 2 rfl ?_
  refine jN_ia C (by decide) (fun _ _ => rfl) jd_Y_along_9 h hta (fun _ _ q => q.cells) ?_
  refine ja_goto C 19 jd_Y_along_10 (by decide) ?_
  refine ja_istore C [(4, .int (nI (jl_cells (jT_S (jSt_T σ a)) (jT_k (jSt_T σ a))))), (0, .ref y), (1, .int (nI wt)), (2, .int (nI a)), (3, .int (-1))] jd_Y_along_19 (Nat.le_of_ble_eq_true rfl) rfl ?_
  refine ja_aload_n C jd_Y_along_21 1 rfl ?_
  refine ja_iconst C (nI 0) jd_Y_along_22 (by decide) ?_
  refine jN_p5 C jd_Y_along_23 h (fun w1 h1 r1 => ?_)
  refine ja_iconst C (nI 0) jd_Y_along_26 (by decide) ?_
  refine ja_istore C [(5, .int (nI 0)), (4, .int (nI (jl_cells (jT_S (jSt_T σ a)) (jT_k (jSt_T σ a))))), (0, .ref y), (1, .int (nI wt)), (2, .int (nI a)), (3, .int (-1))] jd_Y_along_27 (Nat.le_of_ble_eq_true rfl) rfl ?_
  have nz : ∀ k, k < 0 → N k = nI 1 ∧ 1 ≤ 1 ∧ 1 ≤ 8192 := fun k hk => absurd hk (Nat.not_lt_zero k)
  have fin : ∀ (_ : True), ja (jb_mk l (jb_rm 5 169 16 9728) 6 "MeasuredTensorsModel" D H0 (jt_all cI cJ cT cX) u) w1 sz 16 9728 79 [(5, .int (nI 0)), (4, .int (nI (jl_cells (jT_S (jSt_T σ a)) (jT_k (jSt_T σ a))))), (0, .ref y), (1, .int (nI wt)), (2, .int (nI a)), (3, .int (-1))] [] := by
    intro _
    refine ja_iload_n C jd_Y_along_79 3 rfl ?_
    refine ja_bipush C (nI 7) jd_Y_along_80 (by decide) ?_
    refine ja_icmp_neN C 94 jd_Y_along_82 (by decide) (by omega) (by decide) (fun c82 => ?_) (fun c82 => ?_)
    · refine ja_aload_n C jd_Y_along_94 2 rfl ?_
      refine ja_iload_n C jd_Y_along_95 3 rfl ?_
      refine ja_iload_n C jd_Y_along_96 4 rfl ?_
      refine ja_iload C jd_Y_along_97 1 rfl ?_
      refine jN_mV 8 C X jk_total h1 rfl (jn_total h1 hct hta hw ⟨hcp, by omega⟩ (by decide) rfl nz) jd_Y_along_99 rfl rfl ⟨by decide, by decide⟩ (Nat.le_of_ble_eq_true rfl) (Nat.le_of_ble_eq_true rfl) (Nat.le_of_ble_eq_true rfl) (fun x2 σ2 w2 z2 hp2 => ?_)
      obtain ⟨ha2, hq2⟩ := hp2
      exact E jd_Y_along_102 ⟨x2, σ2, rfl, by unfold jA_along; rw [if_neg c82]; exact ha2, jP.from r1 hq2⟩
    · refine ja_aload_n C jd_Y_along_85 2 rfl ?_
      refine ja_iload_n C jd_Y_along_86 3 rfl ?_
      refine ja_iload_n C jd_Y_along_87 4 rfl ?_
      refine jN_mV 8 C X jk_makeLike h1 rfl (jn_makeLike h1 hct hta (by decide) rfl nz h51) jd_Y_along_88 rfl rfl ⟨by decide, by decide⟩ (Nat.le_of_ble_eq_true rfl) (Nat.le_of_ble_eq_true rfl) (Nat.le_of_ble_eq_true rfl) (fun x3 σ3 w3 z3 hp3 => ?_)
      obtain ⟨ha3, hq3⟩ := hp3
      refine ja_goto C 102 jd_Y_along_91 (by decide) ?_
      exact E jd_Y_along_102 ⟨x3, σ3, rfl, by unfold jA_along; rw [if_pos c82]; exact ha3, jP.from r1 hq3⟩
  refine ja_iload C jd_Y_along_29 0 rfl ?_
  refine ja_aload_n C jd_Y_along_31 2 rfl ?_
  refine jN_ga C jfl_rank jd_Y_along_32 h1 (fun _ _ => rfl) ?_
  refine ja_iload_n C jd_Y_along_35 4 rfl ?_
  refine jN_ia C (by decide) (fun _ _ => rfl) jd_Y_along_36 h1 hta (fun _ _ q => q.rank) ?_
  refine ja_icmp_geN C 79 jd_Y_along_37 (by decide) (by decide) (by omega) (fun c37 => fin trivial) (fun c37 => ?_)
  refine ja_iload_n C jd_Y_along_40 5 rfl ?_
  refine ja_if_lt C 79 jd_Y_along_41 (by decide) (fun c41 => ?_) (fun c41 => absurd (by decide) c41)
  exact fin trivial
theorem jn_along {wt a k : Nat} (h : jN cI cJ y A n n2 σ w th rk N) (hct : jSt_c σ < 512) (hta : a < jSt_c σ) (hw : wt ≤ 18) (hk : k < jT_k (jSt_T σ a)) : jb_M l jy_Y_along jc_Y_along 6 (some .int) 5 169 16 9728 D H0 (jt_all cI cJ cT cX) [.ref y, .int (nI wt), .int (nI a), .int (nI k)] w sz
    (fun v w' sz' => ∃ (x : Int32) (σ' : jSt), v = some (.int x) ∧ jA_along σ (jl_drop (jT_S (jSt_T σ a)) k) (jT_k (jSt_T σ a) - 1) wt a (jT_S (jSt_T σ a) k) x σ' ∧ jP cI cJ y A w sz σ' th w' sz') := by
  refine jb_meth_i (by decide) (Nat.le_of_ble_eq_true rfl) (fun u C X E => ?_)
  have hn := h.cn
  obtain ⟨oa1, oa2, oa3, oa4, oa5, oa6, oa7, oa8, oa9, oa10⟩ := h.ok hta
  have sk := oa2 k (by omega)
  have h51 : nI wt = 51 → False := fun z => by have := (nI_eq (a := wt) (b := 51) (by omega) (by decide)).mp z; omega
  have lp : ∀ (f i r : Nat) (hi : i + f = jT_k (jSt_T σ a)) (hr : (i ≤ k ∧ r = i) ∨ (k < i ∧ r + 1 = i)) (w2 : jb_W) (N2 : Nat → Int32) (hh : jN cI cJ y A n n2 σ w2 th (nI r) N2) (hM : ∀ j, j < r → N2 j = nI (jl_drop (jT_S (jSt_T σ a)) k j)) (hw2 : jR y A w w2), ja (jb_mk l (jb_rm 5 169 16 9728) 6 "MeasuredTensorsModel" D H0 (jt_all cI cJ cT cX) u) w2 sz 16 9728 29 [(5, .int (nI i)), (4, .int (nI (jT_S (jSt_T σ a) k))), (0, .ref y), (1, .int (nI wt)), (2, .int (nI a)), (3, .int (nI k))] [] := by
    intro f
    induction f with
    | zero =>
      intro i r hi hr w2 N2 hh hM hw2
      have hM2 : ∀ j, j < jT_k (jSt_T σ a) - 1 → N2 j = nI (jl_drop (jT_S (jSt_T σ a)) k j) ∧ 1 ≤ jl_drop (jT_S (jSt_T σ a)) k j ∧ jl_drop (jT_S (jSt_T σ a)) k j ≤ 8192 := fun j hj => by
        refine ⟨hM j (by omega), ?_⟩
        unfold jl_drop
        have q1 := oa2 j (by omega)
        have q2 := oa2 (j + 1) (by omega)
        split <;> omega
      have er : r = jT_k (jSt_T σ a) - 1 := by omega
      refine ja_iload C jd_Y_along_29 0 rfl ?_
      refine ja_aload_n C jd_Y_along_31 2 rfl ?_
      refine jN_ga C jfl_rank jd_Y_along_32 hh (fun _ _ => rfl) ?_
      refine ja_iload_n C jd_Y_along_35 4 rfl ?_
      refine jN_ia C (by decide) (fun _ _ => rfl) jd_Y_along_36 hh hta (fun _ _ q => q.rank) ?_
      refine ja_icmp_geN C 79 jd_Y_along_37 (by decide) (by omega) (by omega) (fun c37 => ?_) (fun c37 => absurd c37 (by omega))
      refine ja_iload_n C jd_Y_along_79 3 rfl ?_
      refine ja_bipush C (nI 7) jd_Y_along_80 (by decide) ?_
      refine ja_icmp_neN C 94 jd_Y_along_82 (by decide) (by omega) (by decide) (fun c82 => ?_) (fun c82 => ?_)
      · refine ja_aload_n C jd_Y_along_94 2 rfl ?_
        refine ja_iload_n C jd_Y_along_95 3 rfl ?_
        refine ja_iload_n C jd_Y_along_96 4 rfl ?_
        refine ja_iload C jd_Y_along_97 1 rfl ?_
        refine jN_mV 8 C X jk_total hh rfl (jn_total hh hct hta hw ⟨sk.1, by omega⟩ (by omega) (by rw [er]) hM2) jd_Y_along_99 rfl rfl ⟨by decide, by decide⟩ (Nat.le_of_ble_eq_true rfl) (Nat.le_of_ble_eq_true rfl) (Nat.le_of_ble_eq_true rfl) (fun x1 σ1 w1 z1 hp1 => ?_)
        obtain ⟨ha1, hq1⟩ := hp1
        exact E jd_Y_along_102 ⟨x1, σ1, rfl, by unfold jA_along; rw [if_neg c82]; exact ha1, jP.from hw2 hq1⟩
      · refine ja_aload_n C jd_Y_along_85 2 rfl ?_
        refine ja_iload_n C jd_Y_along_86 3 rfl ?_
        refine ja_iload_n C jd_Y_along_87 4 rfl ?_
        refine jN_mV 8 C X jk_makeLike hh rfl (jn_makeLike hh hct hta (by omega) (by rw [er]) hM2 h51) jd_Y_along_88 rfl rfl ⟨by decide, by decide⟩ (Nat.le_of_ble_eq_true rfl) (Nat.le_of_ble_eq_true rfl) (Nat.le_of_ble_eq_true rfl) (fun x2 σ2 w2 z2 hp2 => ?_)
        obtain ⟨ha2, hq2⟩ := hp2
        refine ja_goto C 102 jd_Y_along_91 (by decide) ?_
        exact E jd_Y_along_102 ⟨x2, σ2, rfl, by unfold jA_along; rw [if_pos c82]; exact ha2, jP.from hw2 hq2⟩
    | succ f ih =>
      intro i r hi hr w2 N2 hh hM hw2
      have si := oa2 i (by omega)
      refine ja_iload C jd_Y_along_29 0 rfl ?_
      refine ja_aload_n C jd_Y_along_31 2 rfl ?_
      refine jN_ga C jfl_rank jd_Y_along_32 hh (fun _ _ => rfl) ?_
      refine ja_iload_n C jd_Y_along_35 4 rfl ?_
      refine jN_ia C (by decide) (fun _ _ => rfl) jd_Y_along_36 hh hta (fun _ _ q => q.rank) ?_
      refine ja_icmp_geN C 79 jd_Y_along_37 (by decide) (by omega) (by omega) (fun c37 => absurd c37 (by omega)) (fun c37 => ?_)
      refine ja_iload_n C jd_Y_along_40 5 rfl ?_
      refine ja_if_ltN C 79 jd_Y_along_41 (by decide) (by omega) ?_
      refine ja_iload C jd_Y_along_44 0 rfl ?_
      refine ja_iload_n C jd_Y_along_46 5 rfl ?_
      refine ja_icmp_eqN C 73 jd_Y_along_47 (by decide) (by omega) (by omega) (fun c47 => ?_) (fun c47 => ?_)
      · refine ja_iincN (c := 1) C [(5, .int (nI (i + 1))), (4, .int (nI (jT_S (jSt_T σ a) k))), (0, .ref y), (1, .int (nI wt)), (2, .int (nI a)), (3, .int (nI k))] jd_Y_along_73 0 rfl (by decide) (Nat.le_of_ble_eq_true rfl) rfl ?_
        refine ja_goto C 29 jd_Y_along_76 (by decide) ?_
        exact ih (i + 1) r (by omega) (by omega) w2 N2 hh hM hw2
      · refine ja_aload_n C jd_Y_along_50 2 rfl ?_
        refine jN_ga C jfl_newSides jd_Y_along_51 hh (fun _ _ => rfl) ?_
        refine ja_aload_n C jd_Y_along_54 2 rfl ?_
        refine ja_dup C jd_Y_along_55 rfl ?_
        refine jN_gr C jd_Y_along_56 hh ?_
        refine ja_dup_x1 C jd_Y_along_59 rfl rfl ?_
        refine ja_iconst C (nI 1) jd_Y_along_60 (by decide) ?_
        refine ja_iaddN C jd_Y_along_61 ?_
        refine jN_p5 C jd_Y_along_62 hh (fun w3 h3 r3 => ?_)
        refine ja_aload_n C jd_Y_along_65 2 rfl ?_
        refine ja_iload_n C jd_Y_along_66 4 rfl ?_
        refine ja_iload C jd_Y_along_67 0 rfl ?_
        refine jN_pV 8 C X jk_side h3 rfl (jn_side h3 hta (by omega)) jd_Y_along_69 rfl rfl ⟨by decide, by decide⟩ (Nat.le_of_ble_eq_true rfl) ?_
        refine jN_st C jd_Y_along_72 h3 (by omega) (fun w4 h4 r4 => ?_)
        refine ja_iincN (c := 1) C [(5, .int (nI (i + 1))), (4, .int (nI (jT_S (jSt_T σ a) k))), (0, .ref y), (1, .int (nI wt)), (2, .int (nI a)), (3, .int (nI k))] jd_Y_along_73 0 rfl (by decide) (Nat.le_of_ble_eq_true rfl) rfl ?_
        refine ja_goto C 29 jd_Y_along_76 (by decide) ?_
        refine ih (i + 1) (r + 1) (by omega) (by omega) w4 _ h4 (fun j hj => ?_) (hw2.tr (r3.tr r4))
        by_cases ej : j = r
        · rw [ej, pk_us]
          unfold jl_drop
          rcases hr with ⟨z1, z2⟩ | ⟨z1, z2⟩
          · rw [if_pos (by omega), z2]
          · rw [if_neg (by omega), z2]
        · rw [pk_un ej]
          exact hM j (by omega)
  refine ja_iload_n C jd_Y_along_0 3 rfl ?_
  refine ja_if_geN C 13 jd_Y_along_1 (by decide) (by omega) ?_
  refine ja_aload_n C jd_Y_along_13 0 rfl ?_
  refine ja_iload_n C jd_Y_along_14 2 rfl ?_
  refine ja_iload_n C jd_Y_along_15 3 rfl ?_
  refine jN_pV 8 C X jk_side h rfl (jn_side h hta (by omega)) jd_Y_along_16 rfl rfl ⟨by decide, by decide⟩ (Nat.le_of_ble_eq_true rfl) ?_
  refine ja_istore C [(4, .int (nI (jT_S (jSt_T σ a) k))), (0, .ref y), (1, .int (nI wt)), (2, .int (nI a)), (3, .int (nI k))] jd_Y_along_19 (Nat.le_of_ble_eq_true rfl) rfl ?_
  refine ja_aload_n C jd_Y_along_21 1 rfl ?_
  refine ja_iconst C (nI 0) jd_Y_along_22 (by decide) ?_
  refine jN_p5 C jd_Y_along_23 h (fun w5 h5 r5 => ?_)
  refine ja_iconst C (nI 0) jd_Y_along_26 (by decide) ?_
  refine ja_istore C [(5, .int (nI 0)), (4, .int (nI (jT_S (jSt_T σ a) k))), (0, .ref y), (1, .int (nI wt)), (2, .int (nI a)), (3, .int (nI k))] jd_Y_along_27 (Nat.le_of_ble_eq_true rfl) rfl ?_
  exact lp (jT_k (jSt_T σ a)) 0 0 (Nat.zero_add _) (Or.inl ⟨Nat.zero_le _, rfl⟩) w5 _ h5 (fun j hj => absurd hj (Nat.not_lt_zero j)) r5
end Y41
