/-! THE REFERENCE: join, gap, conv -/
def jA_join (σ : jSt) (a b : Nat) (x : Int32) (σ' : jSt) : Prop := jW σ ((0 < jT_k (jSt_T σ a) ∧ jT_k (jSt_T σ a) = jT_k (jSt_T σ b)) ∧ ∀ j, 1 ≤ j → j < 4 → jT_S (jSt_T σ a) j = jT_S (jSt_T σ b) j) (jA σ (va_up (jT_S (jSt_T σ a)) 0 (jT_S (jSt_T σ a) 0 + jT_S (jSt_T σ b) 0)) (jT_k (jSt_T σ a)) 14 (nI a) (nI b) 1 (max (jT_r (jSt_T σ a)) (jT_r (jSt_T σ b))) (max (jT_e (jSt_T σ a)) (jT_e (jSt_T σ b))) (jl_comm (jT_q (jSt_T σ a)) (jT_q (jSt_T σ b)))) x σ'
def jA_gap (σ : jSt) (a b : Nat) (x : Int32) (σ' : jSt) : Prop := jW σ (jT_k (jSt_T σ a) = jT_k (jSt_T σ b) ∧ ∀ j, j < 4 → jT_S (jSt_T σ a) j = jT_S (jSt_T σ b) j) (jA σ (fun _ => 1) 0 18 (nI a) (nI b) (jl_cells (jT_S (jSt_T σ a)) (jT_k (jSt_T σ a))) (2 * (max (jT_r (jSt_T σ a)) (jT_r (jSt_T σ b)) + 1) + jl_log (jl_cells (jT_S (jSt_T σ a)) (jT_k (jSt_T σ a))) + 1) (2 * max (jT_e (jSt_T σ a)) (jT_e (jSt_T σ b)) + 1) (jl_prod (jl_comm (jT_q (jSt_T σ a)) (jT_q (jSt_T σ b))) (jl_comm (jT_q (jSt_T σ a)) (jT_q (jSt_T σ b))))) x σ'
def jA_conv (σ : jSt) (a b s : Nat) (x : Int32) (σ' : jSt) : Prop := jW σ ((((jT_k (jSt_T σ a) = 3 ∧ jT_k (jSt_T σ b) = 4) ∧ 1 ≤ s ∧ s ≤ 16) ∧ jT_S (jSt_T σ a) 0 = jT_S (jSt_T σ b) 1) ∧ jT_S (jSt_T σ b) 2 ≤ jT_S (jSt_T σ a) 1 ∧ jT_S (jSt_T σ b) 3 ≤ jT_S (jSt_T σ a) 2) (jA σ (va_up (va_up (va_up (jT_S (jSt_T σ a)) 0 (jT_S (jSt_T σ b) 0)) 1 ((jT_S (jSt_T σ a) 1 - jT_S (jSt_T σ b) 2) / s + 1)) 2 ((jT_S (jSt_T σ a) 2 - jT_S (jSt_T σ b) 3) / s + 1)) 3 8 (nI a) (nI b) (jT_S (jSt_T σ b) 1 * jT_S (jSt_T σ b) 2 * jT_S (jSt_T σ b) 3) (jT_r (jSt_T σ a) + jT_r (jSt_T σ b) + jl_log (jT_S (jSt_T σ b) 1 * jT_S (jSt_T σ b) 2 * jT_S (jSt_T σ b) 3)) (jT_e (jSt_T σ a) + jT_e (jSt_T σ b)) (jl_prod (jT_q (jSt_T σ a)) (jT_q (jSt_T σ b)))) x σ'
theorem jl_cells_4 (f : Nat → Nat) : jl_cells f 4 = f 0 * (f 1 * f 2 * f 3) := by
  show 1 * f 0 * f 1 * f 2 * f 3 = _
  rw [Nat.one_mul, Nat.mul_assoc, Nat.mul_assoc, Nat.mul_assoc] 

section Y42
variable {l : Launch} {D : va_G} {H0 : Heap} {cI cJ cT cX : ClassId} {w : jb_W} {sz : Nat}
variable {y : Nat} {A : Nat → Nat} {n n2 : Nat} {σ : jSt} {th rk : Int32} {N : Nat → Int32}
theorem jn_join {a b : Nat} (h : jN cI cJ y A n n2 σ w th rk N) (hct : jSt_c σ < 512) (hta : a < jSt_c σ) (htb : b < jSt_c σ) (hrk : rk = nI (jT_k (jSt_T σ a))) (hN : jNS N (jT_S (jSt_T σ a))) : jb_M l jy_Y_join jc_Y_join 5 (some .int) 4 144 16 9728 D H0 (jt_all cI cJ cT cX) [.ref y, .int (nI a), .int (nI b)] w sz
    (fun v w' sz' => ∃ (x : Int32) (σ' : jSt), v = some (.int x) ∧ jA_join σ a b x σ' ∧ jP cI cJ y A w sz σ' th w' sz') := by
  refine jb_meth_i (by decide) (Nat.le_of_ble_eq_true rfl) (fun u C X E => ?_)
  have hn := h.cn
  obtain ⟨oa1, oa2, oa3, oa4, oa5, oa6, oa7, oa8, oa9, oa10⟩ := h.ok hta
  obtain ⟨ob1, ob2, ob3, ob4, ob5, ob6, ob7, ob8, ob9, ob10⟩ := h.ok htb
  have a0 := oa2 0 (by decide)
  have b0 := ob2 0 (by decide)
  have lp : ∀ (f k g : Nat) (hk : k + f = 4) (hk1 : 1 ≤ k) (hg : (g = 1 ∧ (0 < jT_k (jSt_T σ a) ∧ jT_k (jSt_T σ a) = jT_k (jSt_T σ b)) ∧ ∀ j, 1 ≤ j → j < k → jT_S (jSt_T σ a) j = jT_S (jSt_T σ b) j) ∨ (g = 0 ∧ ¬ ((0 < jT_k (jSt_T σ a) ∧ jT_k (jSt_T σ a) = jT_k (jSt_T σ b)) ∧ ∀ j, 1 ≤ j → j < 4 → jT_S (jSt_T σ a) j = jT_S (jSt_T σ b) j))), ja (jb_mk l (jb_rm 4 144 16 9728) 5 "MeasuredTensorsModel" D H0 (jt_all cI cJ cT cX) u) w sz 16 9728 33 [(4, .int (nI k)), (3, .int (nI g)), (0, .ref y), (1, .int (nI a)), (2, .int (nI b))] [] := by
    intro f
    induction f with
    | zero =>
      intro k g hk hk1 hg
      refine ja_iload C jd_Y_join_33 0 rfl ?_
      refine ja_iconst C (nI 4) jd_Y_join_35 (by decide) ?_
      refine ja_icmp_geN C 72 jd_Y_join_36 (by decide) (by omega) (by decide) (fun c36 => ?_) (fun c36 => absurd c36 (by omega))
      refine ja_iload_n C jd_Y_join_72 1 rfl ?_
      refine ja_if_neN C 79 jd_Y_join_73 (by decide) (by omega) (fun c73 => ?_) (fun c73 => ?_)
      · obtain ⟨-, hf, hf2⟩ := hg.resolve_right (fun z => by omega)
        have hf : (0 < jT_k (jSt_T σ a) ∧ jT_k (jSt_T σ a) = jT_k (jSt_T σ b)) ∧ ∀ j, 1 ≤ j → j < 4 → jT_S (jSt_T σ a) j = jT_S (jSt_T σ b) j := ⟨hf, fun j j1 j2 => hf2 j j1 (by omega)⟩
        refine ja_aload_n C jd_Y_join_79 2 rfl ?_
        refine jN_ga C jfl_newSides jd_Y_join_80 h (fun _ _ => rfl) ?_
        refine ja_iconst C (nI 0) jd_Y_join_83 (by decide) ?_
        refine ja_aload_n C jd_Y_join_84 2 rfl ?_
        refine ja_iload_n C jd_Y_join_85 3 rfl ?_
        refine ja_iconst C (nI 0) jd_Y_join_86 (by decide) ?_
        refine jN_pV 8 C X jk_side h rfl (jn_side h hta (by decide)) jd_Y_join_87 rfl rfl ⟨by decide, by decide⟩ (Nat.le_of_ble_eq_true rfl) ?_
        refine ja_aload_n C jd_Y_join_90 2 rfl ?_
        refine ja_iload_n C jd_Y_join_91 4 rfl ?_
        refine ja_iconst C (nI 0) jd_Y_join_92 (by decide) ?_
        refine jN_pV 8 C X jk_side h rfl (jn_side h htb (by decide)) jd_Y_join_93 rfl rfl ⟨by decide, by decide⟩ (Nat.le_of_ble_eq_true rfl) ?_
        refine ja_iaddN C jd_Y_join_96 ?_
        refine jN_st C jd_Y_join_97 h (by decide) (fun w1 h1 r1 => ?_)
        refine ja_aload_n C jd_Y_join_98 2 rfl ?_
        refine ja_bipush C (nI 14) jd_Y_join_99 (by decide) ?_
        refine ja_iload_n C jd_Y_join_101 3 rfl ?_
        refine ja_iload_n C jd_Y_join_102 4 rfl ?_
        refine ja_aload_n C jd_Y_join_103 2 rfl ?_
        refine jN_ga C jfl_range jd_Y_join_104 h1 (fun _ _ => rfl) ?_
        refine ja_iload_n C jd_Y_join_107 3 rfl ?_
        refine jN_ia C (by decide) (fun _ _ => rfl) jd_Y_join_108 h1 hta (fun _ _ q => q.range) ?_
        refine ja_aload_n C jd_Y_join_109 2 rfl ?_
        refine jN_ga C jfl_range jd_Y_join_110 h1 (fun _ _ => rfl) ?_
        refine ja_iload_n C jd_Y_join_113 4 rfl ?_
        refine jN_ia C (by decide) (fun _ _ => rfl) jd_Y_join_114 h1 htb (fun _ _ q => q.range) ?_
        refine ja_mmaxN C jq_Y_max ⟨Nat.le_of_ble_eq_true rfl, Nat.le_of_ble_eq_true rfl⟩ (by omega) (by omega) jd_Y_join_115 ?_
        refine ja_i2lN C jd_Y_join_118 (by omega) ?_
        refine ja_aload_n C jd_Y_join_119 2 rfl ?_
        refine jN_ga C jfl_depth jd_Y_join_120 h1 (fun _ _ => rfl) ?_
        refine ja_iload_n C jd_Y_join_123 3 rfl ?_
        refine jN_ia C (by decide) (fun _ _ => rfl) jd_Y_join_124 h1 hta (fun _ _ q => q.depth) ?_
        refine ja_aload_n C jd_Y_join_125 2 rfl ?_
        refine jN_ga C jfl_depth jd_Y_join_126 h1 (fun _ _ => rfl) ?_
        refine ja_iload_n C jd_Y_join_129 4 rfl ?_
        refine jN_ia C (by decide) (fun _ _ => rfl) jd_Y_join_130 h1 htb (fun _ _ q => q.depth) ?_
        refine ja_mmaxN C jq_Y_max ⟨Nat.le_of_ble_eq_true rfl, Nat.le_of_ble_eq_true rfl⟩ (by omega) (by omega) jd_Y_join_131 ?_
        refine ja_i2lN C jd_Y_join_134 (by omega) ?_
        refine ja_aload_n C jd_Y_join_135 2 rfl ?_
        refine jN_ga C jfl_odd jd_Y_join_136 h1 (fun _ _ => rfl) ?_
        refine ja_iload_n C jd_Y_join_139 3 rfl ?_
        refine jN_la C jd_Y_join_140 h1 hta ?_
        refine ja_aload_n C jd_Y_join_141 2 rfl ?_
        refine jN_ga C jfl_odd jd_Y_join_142 h1 (fun _ _ => rfl) ?_
        refine ja_iload_n C jd_Y_join_145 4 rfl ?_
        refine jN_la C jd_Y_join_146 h1 htb ?_
        refine jb_pS 8 C X jk_common (jy_common (by omega) (by omega)) jd_Y_join_147 rfl rfl ⟨by decide, by decide⟩ (Nat.le_of_ble_eq_true rfl) ?_
        refine ja_iconst C (nI 1) jd_Y_join_150 (by decide) ?_
        refine jN_mV 8 C X jk_make h1 rfl (jn_make h1 hct (by omega) (by omega) (jl_comm_lt _ _) ⟨by omega, by omega⟩ oa1 hrk (M := (va_up (jT_S (jSt_T σ a)) 0 (jT_S (jSt_T σ a) 0 + jT_S (jSt_T σ b) 0))) (fun k hk => ⟨(hN.st 0 _) k (by omega), by unfold va_up; have := oa2 k (by omega); split <;> omega, by unfold va_up; have := oa2 k (by omega); split <;> omega⟩) (by decide)) jd_Y_join_151 rfl rfl ⟨by decide, by decide⟩ (Nat.le_of_ble_eq_true rfl) (Nat.le_of_ble_eq_true rfl) (Nat.le_of_ble_eq_true rfl) (fun x2 σ2 w2 z2 hp2 => ?_)
        obtain ⟨ha2, hq2⟩ := hp2
        exact E jd_Y_join_154 ⟨x2, σ2, rfl, ⟨fun _ => ha2, fun z => absurd hf z⟩, jP.from r1 hq2⟩
      · have hf : ¬ ((0 < jT_k (jSt_T σ a) ∧ jT_k (jSt_T σ a) = jT_k (jSt_T σ b)) ∧ ∀ j, 1 ≤ j → j < 4 → jT_S (jSt_T σ a) j = jT_S (jSt_T σ b) j) := (hg.resolve_left (fun z => by omega)).2
        refine ja_bipush C (-5) jd_Y_join_76 (by decide) ?_
        exact E jd_Y_join_78 ⟨-5, σ, rfl, ⟨fun z => absurd z hf, fun _ => ⟨rfl, rfl⟩⟩, h.jP jR.rf⟩
    | succ f ih =>
      intro k g hk hk1 hg
      have q1 := oa2 k (by omega)
      have q2 := ob2 k (by omega)
      have no : ∀ (hf : ¬ ((0 < jT_k (jSt_T σ a) ∧ jT_k (jSt_T σ a) = jT_k (jSt_T σ b)) ∧ ∀ j, 1 ≤ j → j < 4 → jT_S (jSt_T σ a) j = jT_S (jSt_T σ b) j)), ja (jb_mk l (jb_rm 4 144 16 9728) 5 "MeasuredTensorsModel" D H0 (jt_all cI cJ cT cX) u) w sz 16 9728 64 [(4, .int (nI k)), (3, .int (nI g)), (0, .ref y), (1, .int (nI a)), (2, .int (nI b))] [] := by
        intro hf
        refine ja_iconst C (nI 0) jd_Y_join_64 (by decide) ?_
        refine ja_istore_n C [(3, .int (nI 0)), (4, .int (nI k)), (0, .ref y), (1, .int (nI a)), (2, .int (nI b))] jd_Y_join_65 rfl (Nat.le_of_ble_eq_true rfl) rfl ?_
        refine ja_iincN (c := 1) C [(4, .int (nI (k + 1))), (3, .int (nI 0)), (0, .ref y), (1, .int (nI a)), (2, .int (nI b))] jd_Y_join_66 1 rfl (by decide) (Nat.le_of_ble_eq_true rfl) rfl ?_
        refine ja_goto C 33 jd_Y_join_69 (by decide) ?_
        exact ih (k + 1) 0 (by omega) (by omega) (Or.inr ⟨rfl, hf⟩)
      refine ja_iload C jd_Y_join_33 0 rfl ?_
      refine ja_iconst C (nI 4) jd_Y_join_35 (by decide) ?_
      refine ja_icmp_geN C 72 jd_Y_join_36 (by decide) (by omega) (by decide) (fun c36 => absurd c36 (by omega)) (fun c36 => ?_)
      refine ja_iload_n C jd_Y_join_39 1 rfl ?_
      refine ja_if_eqN C 64 jd_Y_join_40 (by decide) (by omega) (fun c40 => no (hg.resolve_left (fun z => by omega)).2) (fun c40 => ?_)
      obtain ⟨-, hf, hf2⟩ := hg.resolve_right (fun z => by omega)
      refine ja_aload_n C jd_Y_join_43 2 rfl ?_
      refine ja_iload_n C jd_Y_join_44 3 rfl ?_
      refine ja_iload C jd_Y_join_45 0 rfl ?_
      refine jN_pV 8 C X jk_side h rfl (jn_side h hta (by omega)) jd_Y_join_47 rfl rfl ⟨by decide, by decide⟩ (Nat.le_of_ble_eq_true rfl) ?_
      refine ja_aload_n C jd_Y_join_50 2 rfl ?_
      refine ja_iload_n C jd_Y_join_51 4 rfl ?_
      refine ja_iload C jd_Y_join_52 0 rfl ?_
      refine jN_pV 8 C X jk_side h rfl (jn_side h htb (by omega)) jd_Y_join_54 rfl rfl ⟨by decide, by decide⟩ (Nat.le_of_ble_eq_true rfl) ?_
      refine ja_icmp_neN C 64 jd_Y_join_57 (by decide) (by omega) (by omega) (fun c57 => no (fun z => c57 (z.2 k hk1 (by omega)))) (fun c57 => ?_)
      refine ja_iconst C (nI 1) jd_Y_join_60 (by decide) ?_
      refine ja_goto C 65 jd_Y_join_61 (by decide) ?_
      refine ja_istore_n C [(3, .int (nI 1)), (4, .int (nI k)), (0, .ref y), (1, .int (nI a)), (2, .int (nI b))] jd_Y_join_65 rfl (Nat.le_of_ble_eq_true rfl) rfl ?_
      refine ja_iincN (c := 1) C [(4, .int (nI (k + 1))), (3, .int (nI 1)), (0, .ref y), (1, .int (nI a)), (2, .int (nI b))] jd_Y_join_66 1 rfl (by decide) (Nat.le_of_ble_eq_true rfl) rfl ?_
      refine ja_goto C 33 jd_Y_join_69 (by decide) ?_
      exact ih (k + 1) 1 (by omega) (by omega) (Or.inl ⟨rfl, hf, fun j j1 j2 => by rcases Nat.lt_or_ge j k with z | z; exact hf2 j j1 z; rw [show j = k by omega]; exact c57⟩)
  have no0 : ∀ (hf : ¬ ((0 < jT_k (jSt_T σ a) ∧ jT_k (jSt_T σ a) = jT_k (jSt_T σ b)) ∧ ∀ j, 1 ≤ j → j < 4 → jT_S (jSt_T σ a) j = jT_S (jSt_T σ b) j)), ja (jb_mk l (jb_rm 4 144 16 9728) 5 "MeasuredTensorsModel" D H0 (jt_all cI cJ cT cX) u) w sz 16 9728 28 [(0, .ref y), (1, .int (nI a)), (2, .int (nI b))] [] := by
    intro hf
    refine ja_iconst C (nI 0) jd_Y_join_28 (by decide) ?_
    refine ja_istore_n C [(3, .int (nI 0)), (0, .ref y), (1, .int (nI a)), (2, .int (nI b))] jd_Y_join_29 rfl (Nat.le_of_ble_eq_true rfl) rfl ?_
    refine ja_iconst C (nI 1) jd_Y_join_30 (by decide) ?_
    refine ja_istore C [(4, .int (nI 1)), (3, .int (nI 0)), (0, .ref y), (1, .int (nI a)), (2, .int (nI b))] jd_Y_join_31 (Nat.le_of_ble_eq_true rfl) rfl ?_
    exact lp 3 1 0 (by omega) (by omega) (Or.inr ⟨rfl, hf⟩)
  refine ja_aload_n C jd_Y_join_0 0 rfl ?_
  refine jN_ga C jfl_rank jd_Y_join_1 h (fun _ _ => rfl) ?_
  refine ja_iload_n C jd_Y_join_4 1 rfl ?_
  refine jN_ia C (by decide) (fun _ _ => rfl) jd_Y_join_5 h hta (fun _ _ q => q.rank) ?_
  refine ja_if_leN C 28 jd_Y_join_6 (by decide) (by omega) (fun c6 => no0 (fun z => by omega)) (fun c6 => ?_)
  refine ja_aload_n C jd_Y_join_9 0 rfl ?_
  refine jN_ga C jfl_rank jd_Y_join_10 h (fun _ _ => rfl) ?_
  refine ja_iload_n C jd_Y_join_13 1 rfl ?_
  refine jN_ia C (by decide) (fun _ _ => rfl) jd_Y_join_14 h hta (fun _ _ q => q.rank) ?_
  refine ja_aload_n C jd_Y_join_15 0 rfl ?_
  refine jN_ga C jfl_rank jd_Y_join_16 h (fun _ _ => rfl) ?_
  refine ja_iload_n C jd_Y_join_19 2 rfl ?_
  refine jN_ia C (by decide) (fun _ _ => rfl) jd_Y_join_20 h htb (fun _ _ q => q.rank) ?_
  refine ja_icmp_neN C 28 jd_Y_join_21 (by decide) (by omega) (by omega) (fun c21 => no0 (fun z => by omega)) (fun c21 => ?_)
  refine ja_iconst C (nI 1) jd_Y_join_24 (by decide) ?_
  refine ja_goto C 29 jd_Y_join_25 (by decide) ?_
  refine ja_istore_n C [(3, .int (nI 1)), (0, .ref y), (1, .int (nI a)), (2, .int (nI b))] jd_Y_join_29 rfl (Nat.le_of_ble_eq_true rfl) rfl ?_
  refine ja_iconst C (nI 1) jd_Y_join_30 (by decide) ?_
  refine ja_istore C [(4, .int (nI 1)), (3, .int (nI 1)), (0, .ref y), (1, .int (nI a)), (2, .int (nI b))] jd_Y_join_31 (Nat.le_of_ble_eq_true rfl) rfl ?_
  exact lp 3 1 1 (by omega) (by omega) (Or.inl ⟨rfl, ⟨c6, c21⟩, fun j j1 j2 => by omega⟩)
theorem jn_gap {a b : Nat} (h : jN cI cJ y A n n2 σ w th rk N) (hct : jSt_c σ < 512) (hta : a < jSt_c σ) (htb : b < jSt_c σ) : jb_M l jy_Y_gap jc_Y_gap 7 (some .int) 4 144 16 9728 D H0 (jt_all cI cJ cT cX) [.ref y, .int (nI a), .int (nI b)] w sz
    (fun v w' sz' => ∃ (x : Int32) (σ' : jSt), v = some (.int x) ∧ jA_gap σ a b x σ' ∧ jP cI cJ y A w sz σ' th w' sz') := by
  refine jb_meth_i (by decide) (Nat.le_of_ble_eq_true rfl) (fun u C X E => ?_)
  have hn := h.cn
  obtain ⟨oa1, oa2, oa3, oa4, oa5, oa6, oa7, oa8, oa9, oa10⟩ := h.ok hta
  obtain ⟨ob1, ob2, ob3, ob4, ob5, ob6, ob7, ob8, ob9, ob10⟩ := h.ok htb
  have hcp := jl_cells_pos (f := jT_S (jSt_T σ a)) (k := jT_k (jSt_T σ a)) (fun j hj => (oa2 j (by omega)).1)
  have hlg := jl_log_le (m := jl_cells (jT_S (jSt_T σ a)) (jT_k (jSt_T σ a))) (by omega)
  have qq := jl_comm_lt (jT_q (jSt_T σ a)) (jT_q (jSt_T σ b))
  have lp : ∀ (f k g : Nat) (hk : k + f = 4) (hg : (g = 1 ∧ jT_k (jSt_T σ a) = jT_k (jSt_T σ b) ∧ ∀ j, j < k → jT_S (jSt_T σ a) j = jT_S (jSt_T σ b) j) ∨ (g = 0 ∧ ¬ (jT_k (jSt_T σ a) = jT_k (jSt_T σ b) ∧ ∀ j, j < 4 → jT_S (jSt_T σ a) j = jT_S (jSt_T σ b) j))), ja (jb_mk l (jb_rm 4 144 16 9728) 7 "MeasuredTensorsModel" D H0 (jt_all cI cJ cT cX) u) w sz 16 9728 24 [(4, .int (nI k)), (3, .int (nI g)), (0, .ref y), (1, .int (nI a)), (2, .int (nI b))] [] := by
    intro f
    induction f with
    | zero =>
      intro k g hk hg
      refine ja_iload C jd_Y_gap_24 0 rfl ?_
      refine ja_iconst C (nI 4) jd_Y_gap_26 (by decide) ?_
      refine ja_icmp_geN C 63 jd_Y_gap_27 (by decide) (by omega) (by decide) (fun c36 => ?_) (fun c36 => absurd c36 (by omega))
      refine ja_iload_n C jd_Y_gap_63 1 rfl ?_
      refine ja_if_neN C 70 jd_Y_gap_64 (by decide) (by omega) (fun c73 => ?_) (fun c73 => ?_)
      · obtain ⟨-, hf, hf2⟩ := hg.resolve_right (fun z => by omega)
        have hf : jT_k (jSt_T σ a) = jT_k (jSt_T σ b) ∧ ∀ j, j < 4 → jT_S (jSt_T σ a) j = jT_S (jSt_T σ b) j := ⟨hf, fun j j2 => hf2 j (by omega)⟩
        refine ja_aload_n C jd_Y_gap_70 2 rfl ?_
        refine ja_iconst C (nI 0) jd_Y_gap_71 (by decide) ?_
        refine jN_p5 C jd_Y_gap_72 h (fun w1 h1 r1 => ?_)
        refine ja_aload_n C jd_Y_gap_75 2 rfl ?_
        refine jN_ga C jfl_odd jd_Y_gap_76 h1 (fun _ _ => rfl) ?_
        refine ja_iload_n C jd_Y_gap_79 3 rfl ?_
        refine jN_la C jd_Y_gap_80 h1 hta ?_
        refine ja_aload_n C jd_Y_gap_81 2 rfl ?_
        refine jN_ga C jfl_odd jd_Y_gap_82 h1 (fun _ _ => rfl) ?_
        refine ja_iload_n C jd_Y_gap_85 4 rfl ?_
        refine jN_la C jd_Y_gap_86 h1 htb ?_
        refine jb_pS 8 C X jk_common (jy_common (by omega) (by omega)) jd_Y_gap_87 rfl rfl ⟨by decide, by decide⟩ (Nat.le_of_ble_eq_true rfl) ?_
        refine ja_lstore C [(4, .long (lN (jl_comm (jT_q (jSt_T σ a)) (jT_q (jSt_T σ b))))), (3, .int (nI g)), (0, .ref y), (1, .int (nI a)), (2, .int (nI b))] jd_Y_gap_90 (Nat.le_of_ble_eq_true rfl) rfl ?_
        refine ja_aload_n C jd_Y_gap_92 2 rfl ?_
        refine jN_ga C jfl_range jd_Y_gap_93 h1 (fun _ _ => rfl) ?_
        refine ja_iload_n C jd_Y_gap_96 3 rfl ?_
        refine jN_ia C (by decide) (fun _ _ => rfl) jd_Y_gap_97 h1 hta (fun _ _ q => q.range) ?_
        refine ja_aload_n C jd_Y_gap_98 2 rfl ?_
        refine jN_ga C jfl_range jd_Y_gap_99 h1 (fun _ _ => rfl) ?_
        refine ja_iload_n C jd_Y_gap_102 4 rfl ?_
        refine jN_ia C (by decide) (fun _ _ => rfl) jd_Y_gap_103 h1 htb (fun _ _ q => q.range) ?_
        refine ja_mmaxN C jq_Y_max ⟨Nat.le_of_ble_eq_true rfl, Nat.le_of_ble_eq_true rfl⟩ (by omega) (by omega) jd_Y_gap_104 ?_
        refine ja_iconst C (nI 1) jd_Y_gap_107 (by decide) ?_
        refine ja_iaddN C jd_Y_gap_108 ?_
        refine ja_istore C [(6, .int (nI ((max (jT_r (jSt_T σ a)) (jT_r (jSt_T σ b))) + 1))), (4, .long (lN (jl_comm (jT_q (jSt_T σ a)) (jT_q (jSt_T σ b))))), (3, .int (nI g)), (0, .ref y), (1, .int (nI a)), (2, .int (nI b))] jd_Y_gap_109 (Nat.le_of_ble_eq_true rfl) rfl ?_
        refine ja_aload_n C jd_Y_gap_111 3 rfl ?_
        refine ja_bipush C (nI 18) jd_Y_gap_112 (by decide) ?_
        refine ja_iload_n C jd_Y_gap_114 4 rfl ?_
        refine ja_iload_n C jd_Y_gap_115 5 rfl ?_
        refine ja_iconst C (nI 2) jd_Y_gap_116 (by decide) ?_
        refine ja_iload C jd_Y_gap_117 0 rfl ?_
        refine ja_imulN C jd_Y_gap_119 ?_
        refine ja_aload_n C jd_Y_gap_120 3 rfl ?_
        refine jN_ga C jfl_cells jd_Y_gap_121 h1 (fun _ _ => rfl) ?_
        refine ja_iload_n C jd_Y_gap_124 4 rfl ?_
        refine jN_ia C (by decide) (fun _ _ => rfl) jd_Y_gap_125 h1 hta (fun _ _ q => q.cells) ?_
        refine ja_i2lN C jd_Y_gap_126 (by omega) ?_
        refine jb_pS 8 C X jk_log (jy_log (by omega)) jd_Y_gap_127 rfl rfl ⟨by decide, by decide⟩ (Nat.le_of_ble_eq_true rfl) ?_
        refine ja_iaddN C jd_Y_gap_130 ?_
        refine ja_iconst C (nI 1) jd_Y_gap_131 (by decide) ?_
        refine ja_iaddN C jd_Y_gap_132 ?_
        refine ja_i2lN C jd_Y_gap_133 (by omega) ?_
        refine ja_iconst C (nI 2) jd_Y_gap_134 (by decide) ?_
        refine ja_aload_n C jd_Y_gap_135 3 rfl ?_
        refine jN_ga C jfl_depth jd_Y_gap_136 h1 (fun _ _ => rfl) ?_
        refine ja_iload_n C jd_Y_gap_139 4 rfl ?_
        refine jN_ia C (by decide) (fun _ _ => rfl) jd_Y_gap_140 h1 hta (fun _ _ q => q.depth) ?_
        refine ja_aload_n C jd_Y_gap_141 3 rfl ?_
        refine jN_ga C jfl_depth jd_Y_gap_142 h1 (fun _ _ => rfl) ?_
        refine ja_iload_n C jd_Y_gap_145 5 rfl ?_
        refine jN_ia C (by decide) (fun _ _ => rfl) jd_Y_gap_146 h1 htb (fun _ _ q => q.depth) ?_
        refine ja_mmaxN C jq_Y_max ⟨Nat.le_of_ble_eq_true rfl, Nat.le_of_ble_eq_true rfl⟩ (by omega) (by omega) jd_Y_gap_147 ?_
        refine ja_imulN C jd_Y_gap_150 ?_
        refine ja_iconst C (nI 1) jd_Y_gap_151 (by decide) ?_
        refine ja_iaddN C jd_Y_gap_152 ?_
        refine ja_i2lN C jd_Y_gap_153 (by omega) ?_
        refine ja_lload C jd_Y_gap_154 1 rfl ?_
        refine ja_lload C jd_Y_gap_156 1 rfl ?_
        refine jb_pS 8 C X jk_product (jy_product (jl_comm_lt _ _) (jl_comm_lt _ _)) jd_Y_gap_158 rfl rfl ⟨by decide, by decide⟩ (Nat.le_of_ble_eq_true rfl) ?_
        refine ja_aload_n C jd_Y_gap_161 3 rfl ?_
        refine jN_ga C jfl_cells jd_Y_gap_162 h1 (fun _ _ => rfl) ?_
        refine ja_iload_n C jd_Y_gap_165 4 rfl ?_
        refine jN_ia C (by decide) (fun _ _ => rfl) jd_Y_gap_166 h1 hta (fun _ _ q => q.cells) ?_
        refine jN_mV 8 C X jk_make h1 rfl (jn_make h1 hct (by omega) (by omega) (jl_prod_lt _ _) ⟨by omega, by omega⟩ (by decide) rfl (M := fun _ => 1) (fun k hk => absurd hk (Nat.not_lt_zero k)) (by decide)) jd_Y_gap_167 rfl rfl ⟨by decide, by decide⟩ (Nat.le_of_ble_eq_true rfl) (Nat.le_of_ble_eq_true rfl) (Nat.le_of_ble_eq_true rfl) (fun x2 σ2 w2 z2 hp2 => ?_)
        obtain ⟨ha2, hq2⟩ := hp2
        exact E jd_Y_gap_170 ⟨x2, σ2, rfl, ⟨fun _ => ha2, fun z => absurd hf z⟩, jP.from r1 hq2⟩
      · have hf : ¬ (jT_k (jSt_T σ a) = jT_k (jSt_T σ b) ∧ ∀ j, j < 4 → jT_S (jSt_T σ a) j = jT_S (jSt_T σ b) j) := (hg.resolve_left (fun z => by omega)).2
        refine ja_bipush C (-5) jd_Y_gap_67 (by decide) ?_
        exact E jd_Y_gap_69 ⟨-5, σ, rfl, ⟨fun z => absurd z hf, fun _ => ⟨rfl, rfl⟩⟩, h.jP jR.rf⟩
    | succ f ih =>
      intro k g hk hg
      have q1 := oa2 k (by omega)
      have q2 := ob2 k (by omega)
      have no : ∀ (hf : ¬ (jT_k (jSt_T σ a) = jT_k (jSt_T σ b) ∧ ∀ j, j < 4 → jT_S (jSt_T σ a) j = jT_S (jSt_T σ b) j)), ja (jb_mk l (jb_rm 4 144 16 9728) 7 "MeasuredTensorsModel" D H0 (jt_all cI cJ cT cX) u) w sz 16 9728 55 [(4, .int (nI k)), (3, .int (nI g)), (0, .ref y), (1, .int (nI a)), (2, .int (nI b))] [] := by
        intro hf
        refine ja_iconst C (nI 0) jd_Y_gap_55 (by decide) ?_
        refine ja_istore_n C [(3, .int (nI 0)), (4, .int (nI k)), (0, .ref y), (1, .int (nI a)), (2, .int (nI b))] jd_Y_gap_56 rfl (Nat.le_of_ble_eq_true rfl) rfl ?_
        refine ja_iincN (c := 1) C [(4, .int (nI (k + 1))), (3, .int (nI 0)), (0, .ref y), (1, .int (nI a)), (2, .int (nI b))] jd_Y_gap_57 1 rfl (by decide) (Nat.le_of_ble_eq_true rfl) rfl ?_
        refine ja_goto C 24 jd_Y_gap_60 (by decide) ?_
        exact ih (k + 1) 0 (by omega) (Or.inr ⟨rfl, hf⟩)
      refine ja_iload C jd_Y_gap_24 0 rfl ?_
      refine ja_iconst C (nI 4) jd_Y_gap_26 (by decide) ?_
      refine ja_icmp_geN C 63 jd_Y_gap_27 (by decide) (by omega) (by decide) (fun c36 => absurd c36 (by omega)) (fun c36 => ?_)
      refine ja_iload_n C jd_Y_gap_30 1 rfl ?_
      refine ja_if_eqN C 55 jd_Y_gap_31 (by decide) (by omega) (fun c40 => no (hg.resolve_left (fun z => by omega)).2) (fun c40 => ?_)
      obtain ⟨-, hf, hf2⟩ := hg.resolve_right (fun z => by omega)
      refine ja_aload_n C jd_Y_gap_34 2 rfl ?_
      refine ja_iload_n C jd_Y_gap_35 3 rfl ?_
      refine ja_iload C jd_Y_gap_36 0 rfl ?_
      refine jN_pV 8 C X jk_side h rfl (jn_side h hta (by omega)) jd_Y_gap_38 rfl rfl ⟨by decide, by decide⟩ (Nat.le_of_ble_eq_true rfl) ?_
      refine ja_aload_n C jd_Y_gap_41 2 rfl ?_
      refine ja_iload_n C jd_Y_gap_42 4 rfl ?_
      refine ja_iload C jd_Y_gap_43 0 rfl ?_
      refine jN_pV 8 C X jk_side h rfl (jn_side h htb (by omega)) jd_Y_gap_45 rfl rfl ⟨by decide, by decide⟩ (Nat.le_of_ble_eq_true rfl) ?_
      refine ja_icmp_neN C 55 jd_Y_gap_48 (by decide) (by omega) (by omega) (fun c57 => no (fun z => c57 (z.2 k (by omega)))) (fun c57 => ?_)
      refine ja_iconst C (nI 1) jd_Y_gap_51 (by decide) ?_
      refine ja_goto C 56 jd_Y_gap_52 (by decide) ?_
      refine ja_istore_n C [(3, .int (nI 1)), (4, .int (nI k)), (0, .ref y), (1, .int (nI a)), (2, .int (nI b))] jd_Y_gap_56 rfl (Nat.le_of_ble_eq_true rfl) rfl ?_
      refine ja_iincN (c := 1) C [(4, .int (nI (k + 1))), (3, .int (nI 1)), (0, .ref y), (1, .int (nI a)), (2, .int (nI b))] jd_Y_gap_57 1 rfl (by decide) (Nat.le_of_ble_eq_true rfl) rfl ?_
      refine ja_goto C 24 jd_Y_gap_60 (by decide) ?_
      exact ih (k + 1) 1 (by omega) (Or.inl ⟨rfl, hf, fun j j2 => by rcases Nat.lt_or_ge j k with z | z; exact hf2 j z; rw [show j = k by omega]; exact c57⟩)
  refine ja_aload_n C jd_Y_gap_0 0 rfl ?_
  refine jN_ga C jfl_rank jd_Y_gap_1 h (fun _ _ => rfl) ?_
  refine ja_iload_n C jd_Y_gap_4 1 rfl ?_
  refine jN_ia C (by decide) (fun _ _ => rfl) jd_Y_gap_5 h hta (fun _ _ q => q.rank) ?_
  refine ja_aload_n C jd_Y_gap_6 0 rfl ?_
  refine jN_ga C jfl_rank jd_Y_gap_7 h (fun _ _ => rfl) ?_
  refine ja_iload_n C jd_Y_gap_10 2 rfl ?_
  refine jN_ia C (by decide) (fun _ _ => rfl) jd_Y_gap_11 h htb (fun _ _ q => q.rank) ?_
  refine ja_icmp_neN C 19 jd_Y_gap_12 (by decide) (by omega) (by omega) (fun c12 => ?_) (fun c12 => ?_)
  · refine ja_iconst C (nI 0) jd_Y_gap_19 (by decide) ?_
    refine ja_istore_n C [(3, .int (nI 0)), (0, .ref y), (1, .int (nI a)), (2, .int (nI b))] jd_Y_gap_20 rfl (Nat.le_of_ble_eq_true rfl) rfl ?_
    refine ja_iconst C (nI 0) jd_Y_gap_21 (by decide) ?_
    refine ja_istore C [(4, .int (nI 0)), (3, .int (nI 0)), (0, .ref y), (1, .int (nI a)), (2, .int (nI b))] jd_Y_gap_22 (Nat.le_of_ble_eq_true rfl) rfl ?_
    exact lp 4 0 0 (by omega) (Or.inr ⟨rfl, fun z => c12 z.1⟩)
  · refine ja_iconst C (nI 1) jd_Y_gap_15 (by decide) ?_
    refine ja_goto C 20 jd_Y_gap_16 (by decide) ?_
    refine ja_istore_n C [(3, .int (nI 1)), (0, .ref y), (1, .int (nI a)), (2, .int (nI b))] jd_Y_gap_20 rfl (Nat.le_of_ble_eq_true rfl) rfl ?_
    refine ja_iconst C (nI 0) jd_Y_gap_21 (by decide) ?_
    refine ja_istore C [(4, .int (nI 0)), (3, .int (nI 1)), (0, .ref y), (1, .int (nI a)), (2, .int (nI b))] jd_Y_gap_22 (Nat.le_of_ble_eq_true rfl) rfl ?_
    exact lp 4 0 1 (by omega) (Or.inl ⟨rfl, c12, fun j j2 => by omega⟩)
theorem jn_conv {a b s : Nat} (h : jN cI cJ y A n n2 σ w th rk N) (hct : jSt_c σ < 512) (hta : a < jSt_c σ) (htb : b < jSt_c σ) (hs : s < 2 ^ 31) (hrk : rk = nI (jT_k (jSt_T σ a))) (hN : jNS N (jT_S (jSt_T σ a))) : jb_M l jy_Y_conv jc_Y_conv 6 (some .int) 4 144 16 9728 D H0 (jt_all cI cJ cT cX) [.ref y, .int (nI a), .int (nI b), .int (nI s)] w sz
    (fun v w' sz' => ∃ (x : Int32) (σ' : jSt), v = some (.int x) ∧ jA_conv σ a b s x σ' ∧ jP cI cJ y A w sz σ' th w' sz') := by
  refine jb_meth_i (by decide) (Nat.le_of_ble_eq_true rfl) (fun u C X E => ?_)
  have hn := h.cn
  obtain ⟨oa1, oa2, oa3, oa4, oa5, oa6, oa7, oa8, oa9, oa10⟩ := h.ok hta
  obtain ⟨ob1, ob2, ob3, ob4, ob5, ob6, ob7, ob8, ob9, ob10⟩ := h.ok htb
  have a0 := oa2 0 (by decide)
  have a1 := oa2 1 (by decide)
  have a2 := oa2 2 (by decide)
  have b0 := ob2 0 (by decide)
  have b1 := ob2 1 (by decide)
  have b2 := ob2 2 (by decide)
  have b3 := ob2 3 (by decide)
  have wr : ∀ (g : Nat) (hg : g = 0) (hf : ¬ ((((jT_k (jSt_T σ a) = 3 ∧ jT_k (jSt_T σ b) = 4) ∧ 1 ≤ s ∧ s ≤ 16) ∧ jT_S (jSt_T σ a) 0 = jT_S (jSt_T σ b) 1) ∧ jT_S (jSt_T σ b) 2 ≤ jT_S (jSt_T σ a) 1 ∧ jT_S (jSt_T σ b) 3 ≤ jT_S (jSt_T σ a) 2)), ja (jb_mk l (jb_rm 4 144 16 9728) 6 "MeasuredTensorsModel" D H0 (jt_all cI cJ cT cX) u) w sz 16 9728 83 [(4, .int (nI g)), (0, .ref y), (1, .int (nI a)), (2, .int (nI b)), (3, .int (nI s))] [] := by
    intro g hg hf
    subst hg
    refine ja_iload C jd_Y_conv_83 0 rfl ?_
    refine ja_if_neN C 91 jd_Y_conv_85 (by decide) (by decide) (fun q => absurd q (by decide)) (fun _ => ?_)
    refine ja_bipush C (-5) jd_Y_conv_88 (by decide) ?_
    exact E jd_Y_conv_90 ⟨-5, σ, rfl, ⟨fun z => absurd z hf, fun _ => ⟨rfl, rfl⟩⟩, h.jP jR.rf⟩
  have no : ∀ (hf : ¬ ((((jT_k (jSt_T σ a) = 3 ∧ jT_k (jSt_T σ b) = 4) ∧ 1 ≤ s ∧ s ≤ 16) ∧ jT_S (jSt_T σ a) 0 = jT_S (jSt_T σ b) 1) ∧ jT_S (jSt_T σ b) 2 ≤ jT_S (jSt_T σ a) 1 ∧ jT_S (jSt_T σ b) 3 ≤ jT_S (jSt_T σ a) 2)), ja (jb_mk l (jb_rm 4 144 16 9728) 6 "MeasuredTensorsModel" D H0 (jt_all cI cJ cT cX) u) w sz 16 9728 80 [(0, .ref y), (1, .int (nI a)), (2, .int (nI b)), (3, .int (nI s))] [] := by
    intro hf
    refine ja_iconst C (nI 0) jd_Y_conv_80 (by decide) ?_
    refine ja_istore C [(4, .int (nI 0)), (0, .ref y), (1, .int (nI a)), (2, .int (nI b)), (3, .int (nI s))] jd_Y_conv_81 (Nat.le_of_ble_eq_true rfl) rfl ?_
    exact wr 0 rfl hf
  refine ja_aload_n C jd_Y_conv_0 0 rfl ?_
  refine jN_ga C jfl_rank jd_Y_conv_1 h (fun _ _ => rfl) ?_
  refine ja_iload_n C jd_Y_conv_4 1 rfl ?_
  refine jN_ia C (by decide) (fun _ _ => rfl) jd_Y_conv_5 h hta (fun _ _ q => q.rank) ?_
  refine ja_iconst C (nI 3) jd_Y_conv_6 (by decide) ?_
  refine ja_icmp_neN C 80 jd_Y_conv_7 (by decide) (by omega) (by decide) (fun c1 => no (fun z => c1 z.1.1.1.1)) (fun c1 => ?_)
  refine ja_aload_n C jd_Y_conv_10 0 rfl ?_
  refine jN_ga C jfl_rank jd_Y_conv_11 h (fun _ _ => rfl) ?_
  refine ja_iload_n C jd_Y_conv_14 2 rfl ?_
  refine jN_ia C (by decide) (fun _ _ => rfl) jd_Y_conv_15 h htb (fun _ _ q => q.rank) ?_
  refine ja_iconst C (nI 4) jd_Y_conv_16 (by decide) ?_
  refine ja_icmp_neN C 80 jd_Y_conv_17 (by decide) (by omega) (by decide) (fun c2 => no (fun z => c2 z.1.1.1.2)) (fun c2 => ?_)
  refine ja_iload_n C jd_Y_conv_20 3 rfl ?_
  refine ja_iconst C (nI 1) jd_Y_conv_21 (by decide) ?_
  refine ja_icmp_ltN C 80 jd_Y_conv_22 (by decide) (by omega) (by decide) (fun c3 => no (fun z => by have := z.1.1.2.1; omega)) (fun c3 => ?_)
  refine ja_iload_n C jd_Y_conv_25 3 rfl ?_
  refine ja_bipush C (nI 16) jd_Y_conv_26 (by decide) ?_
  refine ja_icmp_gtN C 80 jd_Y_conv_28 (by decide) (by omega) (by decide) (fun c4 => no (fun z => by have := z.1.1.2.2; omega)) (fun c4 => ?_)
  refine ja_aload_n C jd_Y_conv_31 0 rfl ?_
  refine ja_iload_n C jd_Y_conv_32 1 rfl ?_
  refine ja_iconst C (nI 0) jd_Y_conv_33 (by decide) ?_
  refine jN_pV 8 C X jk_side h rfl (jn_side h hta (by decide)) jd_Y_conv_34 rfl rfl ⟨by decide, by decide⟩ (Nat.le_of_ble_eq_true rfl) ?_
  refine ja_aload_n C jd_Y_conv_37 0 rfl ?_
  refine ja_iload_n C jd_Y_conv_38 2 rfl ?_
  refine ja_iconst C (nI 1) jd_Y_conv_39 (by decide) ?_
  refine jN_pV 8 C X jk_side h rfl (jn_side h htb (by decide)) jd_Y_conv_40 rfl rfl ⟨by decide, by decide⟩ (Nat.le_of_ble_eq_true rfl) ?_
  refine ja_icmp_neN C 80 jd_Y_conv_43 (by decide) (by omega) (by omega) (fun c5 => no (fun z => c5 z.1.2)) (fun c5 => ?_)
  refine ja_aload_n C jd_Y_conv_46 0 rfl ?_
  refine ja_iload_n C jd_Y_conv_47 2 rfl ?_
  refine ja_iconst C (nI 2) jd_Y_conv_48 (by decide) ?_
  refine jN_pV 8 C X jk_side h rfl (jn_side h htb (by decide)) jd_Y_conv_49 rfl rfl ⟨by decide, by decide⟩ (Nat.le_of_ble_eq_true rfl) ?_
  refine ja_aload_n C jd_Y_conv_52 0 rfl ?_
  refine ja_iload_n C jd_Y_conv_53 1 rfl ?_
  refine ja_iconst C (nI 1) jd_Y_conv_54 (by decide) ?_
  refine jN_pV 8 C X jk_side h rfl (jn_side h hta (by decide)) jd_Y_conv_55 rfl rfl ⟨by decide, by decide⟩ (Nat.le_of_ble_eq_true rfl) ?_
  refine ja_icmp_gtN C 80 jd_Y_conv_58 (by decide) (by omega) (by omega) (fun c6 => no (fun z => by have := z.2.1; omega)) (fun c6 => ?_)
  refine ja_aload_n C jd_Y_conv_61 0 rfl ?_
  refine ja_iload_n C jd_Y_conv_62 2 rfl ?_
  refine ja_iconst C (nI 3) jd_Y_conv_63 (by decide) ?_
  refine jN_pV 8 C X jk_side h rfl (jn_side h htb (by decide)) jd_Y_conv_64 rfl rfl ⟨by decide, by decide⟩ (Nat.le_of_ble_eq_true rfl) ?_
  refine ja_aload_n C jd_Y_conv_67 0 rfl ?_
  refine ja_iload_n C jd_Y_conv_68 1 rfl ?_
  refine ja_iconst C (nI 2) jd_Y_conv_69 (by decide) ?_
  refine jN_pV 8 C X jk_side h rfl (jn_side h hta (by decide)) jd_Y_conv_70 rfl rfl ⟨by decide, by decide⟩ (Nat.le_of_ble_eq_true rfl) ?_
  refine ja_icmp_gtN C 80 jd_Y_conv_73 (by decide) (by omega) (by omega) (fun c7 => no (fun z => by have := z.2.2; omega)) (fun c7 => ?_)
  have hf : (((jT_k (jSt_T σ a) = 3 ∧ jT_k (jSt_T σ b) = 4) ∧ 1 ≤ s ∧ s ≤ 16) ∧ jT_S (jSt_T σ a) 0 = jT_S (jSt_T σ b) 1) ∧ jT_S (jSt_T σ b) 2 ≤ jT_S (jSt_T σ a) 1 ∧ jT_S (jSt_T σ b) 3 ≤ jT_S (jSt_T σ a) 2 := ⟨⟨⟨⟨c1, c2⟩, by omega, by omega⟩, c5⟩, by omega, by omega⟩
  have e1 : (jT_S (jSt_T σ a) 1 - jT_S (jSt_T σ b) 2) / s ≤ jT_S (jSt_T σ a) 1 - jT_S (jSt_T σ b) 2 := Nat.div_le_self _ _
  have e2 : (jT_S (jSt_T σ a) 2 - jT_S (jSt_T σ b) 3) / s ≤ jT_S (jSt_T σ a) 2 - jT_S (jSt_T σ b) 3 := Nat.div_le_self _ _
  have hcc : jT_S (jSt_T σ b) 0 * (jT_S (jSt_T σ b) 1 * jT_S (jSt_T σ b) 2 * jT_S (jSt_T σ b) 3) ≤ 65536 := by rw [← jl_cells_4, ← c2]; exact ob4
  have n1 : 1 ≤ (jT_S (jSt_T σ b) 1 * jT_S (jSt_T σ b) 2 * jT_S (jSt_T σ b) 3) := Nat.mul_pos (Nat.mul_pos b1.1 b2.1) b3.1
  have n2' : (jT_S (jSt_T σ b) 1 * jT_S (jSt_T σ b) 2 * jT_S (jSt_T σ b) 3) ≤ 65536 := Nat.le_trans (Nat.le_mul_of_pos_left _ b0.1) hcc
  have hlg := jl_log_le (m := (jT_S (jSt_T σ b) 1 * jT_S (jSt_T σ b) 2 * jT_S (jSt_T σ b) 3)) (by omega)
  have hM : ∀ k, k < 3 → (upd (upd (upd N 0 (nI (jT_S (jSt_T σ b) 0))) 1 (nI ((jT_S (jSt_T σ a) 1 - jT_S (jSt_T σ b) 2) / s + 1))) 2 (nI ((jT_S (jSt_T σ a) 2 - jT_S (jSt_T σ b) 3) / s + 1))) k = nI ((va_up (va_up (va_up (jT_S (jSt_T σ a)) 0 (jT_S (jSt_T σ b) 0)) 1 ((jT_S (jSt_T σ a) 1 - jT_S (jSt_T σ b) 2) / s + 1)) 2 ((jT_S (jSt_T σ a) 2 - jT_S (jSt_T σ b) 3) / s + 1)) k) ∧ 1 ≤ (va_up (va_up (va_up (jT_S (jSt_T σ a)) 0 (jT_S (jSt_T σ b) 0)) 1 ((jT_S (jSt_T σ a) 1 - jT_S (jSt_T σ b) 2) / s + 1)) 2 ((jT_S (jSt_T σ a) 2 - jT_S (jSt_T σ b) 3) / s + 1)) k ∧ (va_up (va_up (va_up (jT_S (jSt_T σ a)) 0 (jT_S (jSt_T σ b) 0)) 1 ((jT_S (jSt_T σ a) 1 - jT_S (jSt_T σ b) 2) / s + 1)) 2 ((jT_S (jSt_T σ a) 2 - jT_S (jSt_T σ b) 3) / s + 1)) k ≤ 8192 := fun k hk => by
    refine ⟨(((hN.st 0 _).st 1 _).st 2 _) k (by omega), ?_⟩
    match k, hk with
    | 0, _ => exact ⟨b0.1, by show jT_S (jSt_T σ b) 0 ≤ 8192; omega⟩
    | 1, _ => exact ⟨Nat.succ_le_succ (Nat.zero_le _), by show (jT_S (jSt_T σ a) 1 - jT_S (jSt_T σ b) 2) / s + 1 ≤ 8192; omega⟩
    | 2, _ => exact ⟨Nat.succ_le_succ (Nat.zero_le _), by show (jT_S (jSt_T σ a) 2 - jT_S (jSt_T σ b) 3) / s + 1 ≤ 8192; omega⟩
    | k + 3, z => omega
  refine ja_iconst C (nI 1) jd_Y_conv_76 (by decide) ?_
  refine ja_goto C 81 jd_Y_conv_77 (by decide) ?_
  refine ja_istore C [(4, .int (nI 1)), (0, .ref y), (1, .int (nI a)), (2, .int (nI b)), (3, .int (nI s))] jd_Y_conv_81 (Nat.le_of_ble_eq_true rfl) rfl ?_
  refine ja_iload C jd_Y_conv_83 0 rfl ?_
  refine ja_if_neN C 91 jd_Y_conv_85 (by decide) (by decide) (fun _ => ?_) (fun q => absurd q (by decide))
  refine ja_aload_n C jd_Y_conv_91 1 rfl ?_
  refine jN_ga C jfl_newSides jd_Y_conv_92 h (fun _ _ => rfl) ?_
  refine ja_iconst C (nI 0) jd_Y_conv_95 (by decide) ?_
  refine ja_aload_n C jd_Y_conv_96 1 rfl ?_
  refine ja_iload_n C jd_Y_conv_97 3 rfl ?_
  refine ja_iconst C (nI 0) jd_Y_conv_98 (by decide) ?_
  refine jN_pV 8 C X jk_side h rfl (jn_side h htb (by decide)) jd_Y_conv_99 rfl rfl ⟨by decide, by decide⟩ (Nat.le_of_ble_eq_true rfl) ?_
  refine jN_st C jd_Y_conv_102 h (by decide) (fun w1 h1 r1 => ?_)
  refine ja_aload_n C jd_Y_conv_103 1 rfl ?_
  refine jN_ga C jfl_newSides jd_Y_conv_104 h1 (fun _ _ => rfl) ?_
  refine ja_iconst C (nI 1) jd_Y_conv_107 (by decide) ?_
  refine ja_aload_n C jd_Y_conv_108 1 rfl ?_
  refine ja_iload_n C jd_Y_conv_109 2 rfl ?_
  refine ja_iconst C (nI 1) jd_Y_conv_110 (by decide) ?_
  refine jN_pV 8 C X jk_side h1 rfl (jn_side h1 hta (by decide)) jd_Y_conv_111 rfl rfl ⟨by decide, by decide⟩ (Nat.le_of_ble_eq_true rfl) ?_
  refine ja_aload_n C jd_Y_conv_114 1 rfl ?_
  refine ja_iload_n C jd_Y_conv_115 3 rfl ?_
  refine ja_iconst C (nI 2) jd_Y_conv_116 (by decide) ?_
  refine jN_pV 8 C X jk_side h1 rfl (jn_side h1 htb (by decide)) jd_Y_conv_117 rfl rfl ⟨by decide, by decide⟩ (Nat.le_of_ble_eq_true rfl) ?_
  refine ja_isubN C jd_Y_conv_120 (by omega) ?_
  refine ja_iload_n C jd_Y_conv_121 4 rfl ?_
  refine ja_idivN C jd_Y_conv_122 (by omega) (by omega) (by omega) ?_
  refine ja_iconst C (nI 1) jd_Y_conv_123 (by decide) ?_
  refine ja_iaddN C jd_Y_conv_124 ?_
  refine jN_st C jd_Y_conv_125 h1 (by decide) (fun w2 h2 r2 => ?_)
  refine ja_aload_n C jd_Y_conv_126 1 rfl ?_
  refine jN_ga C jfl_newSides jd_Y_conv_127 h2 (fun _ _ => rfl) ?_
  refine ja_iconst C (nI 2) jd_Y_conv_130 (by decide) ?_
  refine ja_aload_n C jd_Y_conv_131 1 rfl ?_
  refine ja_iload_n C jd_Y_conv_132 2 rfl ?_
  refine ja_iconst C (nI 2) jd_Y_conv_133 (by decide) ?_
  refine jN_pV 8 C X jk_side h2 rfl (jn_side h2 hta (by decide)) jd_Y_conv_134 rfl rfl ⟨by decide, by decide⟩ (Nat.le_of_ble_eq_true rfl) ?_
  refine ja_aload_n C jd_Y_conv_137 1 rfl ?_
  refine ja_iload_n C jd_Y_conv_138 3 rfl ?_
  refine ja_iconst C (nI 3) jd_Y_conv_139 (by decide) ?_
  refine jN_pV 8 C X jk_side h2 rfl (jn_side h2 htb (by decide)) jd_Y_conv_140 rfl rfl ⟨by decide, by decide⟩ (Nat.le_of_ble_eq_true rfl) ?_
  refine ja_isubN C jd_Y_conv_143 (by omega) ?_
  refine ja_iload_n C jd_Y_conv_144 4 rfl ?_
  refine ja_idivN C jd_Y_conv_145 (by omega) (by omega) (by omega) ?_
  refine ja_iconst C (nI 1) jd_Y_conv_146 (by decide) ?_
  refine ja_iaddN C jd_Y_conv_147 ?_
  refine jN_st C jd_Y_conv_148 h2 (by decide) (fun w3 h3 r3 => ?_)
  refine ja_aload_n C jd_Y_conv_149 1 rfl ?_
  refine ja_iload_n C jd_Y_conv_150 3 rfl ?_
  refine ja_iconst C (nI 1) jd_Y_conv_151 (by decide) ?_
  refine jN_pV 8 C X jk_side h3 rfl (jn_side h3 htb (by decide)) jd_Y_conv_152 rfl rfl ⟨by decide, by decide⟩ (Nat.le_of_ble_eq_true rfl) ?_
  refine ja_aload_n C jd_Y_conv_155 1 rfl ?_
  refine ja_iload_n C jd_Y_conv_156 3 rfl ?_
  refine ja_iconst C (nI 2) jd_Y_conv_157 (by decide) ?_
  refine jN_pV 8 C X jk_side h3 rfl (jn_side h3 htb (by decide)) jd_Y_conv_158 rfl rfl ⟨by decide, by decide⟩ (Nat.le_of_ble_eq_true rfl) ?_
  refine ja_imulN C jd_Y_conv_161 ?_
  refine ja_aload_n C jd_Y_conv_162 1 rfl ?_
  refine ja_iload_n C jd_Y_conv_163 3 rfl ?_
  refine ja_iconst C (nI 3) jd_Y_conv_164 (by decide) ?_
  refine jN_pV 8 C X jk_side h3 rfl (jn_side h3 htb (by decide)) jd_Y_conv_165 rfl rfl ⟨by decide, by decide⟩ (Nat.le_of_ble_eq_true rfl) ?_
  refine ja_imulN C jd_Y_conv_168 ?_
  refine ja_istore C [(5, .int (nI (((jT_S (jSt_T σ b) 1) * (jT_S (jSt_T σ b) 2)) * (jT_S (jSt_T σ b) 3)))), (4, .int (nI 1)), (0, .ref y), (1, .int (nI a)), (2, .int (nI b)), (3, .int (nI s))] jd_Y_conv_169 (Nat.le_of_ble_eq_true rfl) rfl ?_
  refine ja_aload_n C jd_Y_conv_171 2 rfl ?_
  refine ja_bipush C (nI 8) jd_Y_conv_172 (by decide) ?_
  refine ja_iload_n C jd_Y_conv_174 3 rfl ?_
  refine ja_iload_n C jd_Y_conv_175 4 rfl ?_
  refine ja_aload_n C jd_Y_conv_176 2 rfl ?_
  refine jN_ga C jfl_range jd_Y_conv_177 h3 (fun _ _ => rfl) ?_
  refine ja_iload_n C jd_Y_conv_180 3 rfl ?_
  refine jN_ia C (by decide) (fun _ _ => rfl) jd_Y_conv_181 h3 hta (fun _ _ q => q.range) ?_
  refine ja_aload_n C jd_Y_conv_182 2 rfl ?_
  refine jN_ga C jfl_range jd_Y_conv_183 h3 (fun _ _ => rfl) ?_
  refine ja_iload_n C jd_Y_conv_186 4 rfl ?_
  refine jN_ia C (by decide) (fun _ _ => rfl) jd_Y_conv_187 h3 htb (fun _ _ q => q.range) ?_
  refine ja_iaddN C jd_Y_conv_188 ?_
  refine ja_iload C jd_Y_conv_189 0 rfl ?_
  refine ja_i2lN C jd_Y_conv_191 (by omega) ?_
  refine jb_pS 8 C X jk_log (jy_log (by omega)) jd_Y_conv_192 rfl rfl ⟨by decide, by decide⟩ (Nat.le_of_ble_eq_true rfl) ?_
  refine ja_iaddN C jd_Y_conv_195 ?_
  refine ja_i2lN C jd_Y_conv_196 (by omega) ?_
  refine ja_aload_n C jd_Y_conv_197 2 rfl ?_
  refine jN_ga C jfl_depth jd_Y_conv_198 h3 (fun _ _ => rfl) ?_
  refine ja_iload_n C jd_Y_conv_201 3 rfl ?_
  refine jN_ia C (by decide) (fun _ _ => rfl) jd_Y_conv_202 h3 hta (fun _ _ q => q.depth) ?_
  refine ja_aload_n C jd_Y_conv_203 2 rfl ?_
  refine jN_ga C jfl_depth jd_Y_conv_204 h3 (fun _ _ => rfl) ?_
  refine ja_iload_n C jd_Y_conv_207 4 rfl ?_
  refine jN_ia C (by decide) (fun _ _ => rfl) jd_Y_conv_208 h3 htb (fun _ _ q => q.depth) ?_
  refine ja_iaddN C jd_Y_conv_209 ?_
  refine ja_i2lN C jd_Y_conv_210 (by omega) ?_
  refine ja_aload_n C jd_Y_conv_211 2 rfl ?_
  refine jN_ga C jfl_odd jd_Y_conv_212 h3 (fun _ _ => rfl) ?_
  refine ja_iload_n C jd_Y_conv_215 3 rfl ?_
  refine jN_la C jd_Y_conv_216 h3 hta ?_
  refine ja_aload_n C jd_Y_conv_217 2 rfl ?_
  refine jN_ga C jfl_odd jd_Y_conv_218 h3 (fun _ _ => rfl) ?_
  refine ja_iload_n C jd_Y_conv_221 4 rfl ?_
  refine jN_la C jd_Y_conv_222 h3 htb ?_
  refine jb_pS 8 C X jk_product (jy_product (by omega) (by omega)) jd_Y_conv_223 rfl rfl ⟨by decide, by decide⟩ (Nat.le_of_ble_eq_true rfl) ?_
  refine ja_iload C jd_Y_conv_226 0 rfl ?_
  refine jN_mV 8 C X jk_make h3 rfl (jn_make h3 hct (by omega) (by omega) (jl_prod_lt _ _) ⟨n1, by omega⟩ (by decide) (hrk.trans (by rw [c1])) hM (by decide)) jd_Y_conv_228 rfl rfl ⟨by decide, by decide⟩ (Nat.le_of_ble_eq_true rfl) (Nat.le_of_ble_eq_true rfl) (Nat.le_of_ble_eq_true rfl) (fun x4 σ4 w4 z4 hp4 => ?_)
  obtain ⟨ha4, hq4⟩ := hp4
  exact E jd_Y_conv_231 ⟨x4, σ4, rfl, ⟨fun _ => ha4, fun z => absurd hf z⟩, jP.from (r1.tr (r2.tr r3)) hq4⟩
end Y42
