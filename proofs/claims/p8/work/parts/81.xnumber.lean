/-! THE CLASS: number, made -/
theorem jl_odd_pos : ∀ f m, 0 < m → 0 < jl_odd f m
  | 0, m, h => by unfold jl_odd; exact h
  | f + 1, m, h => by
    unfold jl_odd
    split
    · exact jl_odd_pos f (m / 2) (by omega)
    · exact h
theorem jq_of {q : Nat} (h : 1 ≤ q) : jq q = q := if_neg (by omega)
theorem jSh_0 {f : Nat → Int32} : jSh 0 f (fun _ => 1) := ⟨Nat.zero_le _, fun j hj => absurd hj (Nat.not_lt_zero j), fun _ _ => rfl⟩
theorem jx_num {u l : Nat} (hu : u < 2 ^ 31) (h0 : 1 ≤ l) (hl : l < 2 ^ 31) : (jx_bits (nI u), jx_twos (nI l), (nI l >>> (jx_twos (nI l) &&& 31)).toInt64) = (nI (jl_log (u + 1)), nI (jl_twos 40 l), lN (jq (jl_odd 40 l))) := by
  rw [(jx_twos_N h0 hl).2, jx_bits_N hu, (jx_twos_N h0 hl).1, jq_of (jl_odd_pos 40 l h0), nI_l (Nat.lt_of_le_of_lt (jl_odd_le 40 l) hl)]
theorem jl_take_0 {m : Int32} {F : Nat → Int32} (h : ¬ jl_take m F = 1) : jl_take m F = 0 := by
  unfold jl_take at h ⊢
  split
  · rfl
  · rename_i z
    rw [if_neg z] at h
    split
    · rename_i z2
      exact absurd (if_pos z2) h
    · rfl
theorem jl_take_rk {m : Int32} {F : Nat → Int32} (h : jl_take m F = 1) : ∃ r, r ≤ 4 ∧ m = nI r := by
  unfold jl_take at h
  split at h
  · exact absurd h (by decide)
  · rename_i z
    exact nI_of2 (M := 4) (n := 4) (by decide) (fun q => z (Or.inl q)) (k2_le (fun q => z (Or.inr q)))
theorem jl_side {x : Int32} (h : 1 ≤ x ∧ x ≤ 4096) : x = nI x.toNatClampNeg ∧ 1 ≤ x.toNatClampNeg ∧ x.toNatClampNeg ≤ 4096 := by
  have h0 : ¬ x < 0 := fun z => by
    have a := Int32.lt_iff_toInt_lt.mp z
    have b := Int32.le_iff_toInt_le.mp h.1
    have e1 : (1 : Int32).toInt = 1 := by decide
    have e0 : (0 : Int32).toInt = 0 := by decide
    omega
  obtain ⟨r, hr, e⟩ := nI_of2 (M := 4096) (n := 4096) (by decide) h0 h.2
  have ec : x.toNatClampNeg = r := by rw [e]; exact nI_clamp (by omega)
  refine ⟨by rw [ec]; exact e, ?_, by omega⟩
  rcases Nat.eq_zero_or_pos r with z | z
  · rw [e, z] at h; exact absurd h.1 (by decide)
  · omega
theorem jSh_set {f : Nat → Int32} {r : Nat} {a b c d : Int32} (hr : r ≤ 4) (ht : jl_take (nI r) (jl_F a b c d) = 1) : jSh r (upd (upd (upd (upd f 0 a) 1 b) 2 c) 3 d) (fun j => if j < r then (jl_F a b c d j).toNatClampNeg else 1) := by
  refine ⟨hr, fun j hj => ?_, fun j hj => if_neg (by omega)⟩
  have q := jl_side ((jl_take_iff hr).mp ht j hj)
  show _ = nI (if j < r then _ else 1) ∧ 1 ≤ (if j < r then _ else 1) ∧ (if j < r then _ else 1) ≤ 8192
  rw [if_pos hj]
  refine ⟨?_, q.2.1, by omega⟩
  rw [← q.1]
  match j, (show j < 4 by omega) with
  | 0, _ => rfl
  | 1, _ => rfl
  | 2, _ => rfl
  | 3, _ => rfl
  | j + 4, z => omega
theorem jt9_63_52 : jx_ok "MeasuredTensors" 52 63 56 "java/lang/IllegalArgumentException" "no number in least terms" ["java/lang/RuntimeException", "java/lang/Exception"] := ⟨by decide +kernel, by decide +kernel, jw_in (by decide +kernel) (by decide +kernel), jw_in (by decide +kernel) (by decide +kernel), by decide +kernel, by decide +kernel, by decide +kernel⟩
theorem jk_X_59 : jb_KS "MeasuredTensors" 59 jy_X_areInLeastTerms jc_X_areInLeastTerms 2 (some .boolean) 2 := ⟨jw_in (by decide +kernel) (by decide +kernel), jw_in (by decide +kernel) (by decide +kernel), jw_in (by decide +kernel) (by decide +kernel), jw_in (by decide +kernel) (by decide +kernel), by decide +kernel⟩
theorem jk_X_65 : jb_KV "MeasuredTensors" 65 jy_T_start jc_T_start 3 none 2 := ⟨jw_in (by decide +kernel) (by decide +kernel), jw_in (by decide +kernel) (by decide +kernel), jw_in (by decide +kernel) (by decide +kernel), jw_in (by decide +kernel) (by decide +kernel), jw_in (by decide +kernel) (by decide +kernel), by decide +kernel⟩
theorem jk_X_69 : jb_KS "MeasuredTensors" 69 jy_X_twosIn jc_X_twosIn 2 (some .int) 1 := ⟨jw_in (by decide +kernel) (by decide +kernel), jw_in (by decide +kernel) (by decide +kernel), jw_in (by decide +kernel) (by decide +kernel), jw_in (by decide +kernel) (by decide +kernel), by decide +kernel⟩
theorem jt9_91_52 : jx_ok "MeasuredTensors" 52 91 56 "java/lang/IllegalArgumentException" "no such sides" ["java/lang/RuntimeException", "java/lang/Exception"] := ⟨by decide +kernel, by decide +kernel, jw_in (by decide +kernel) (by decide +kernel), jw_in (by decide +kernel) (by decide +kernel), by decide +kernel, by decide +kernel, by decide +kernel⟩
theorem jk_X_87 : jb_KS "MeasuredTensors" 87 jy_X_areSides jc_X_areSides 5 (some .boolean) 5 := ⟨jw_in (by decide +kernel) (by decide +kernel), jw_in (by decide +kernel) (by decide +kernel), jw_in (by decide +kernel) (by decide +kernel), jw_in (by decide +kernel) (by decide +kernel), by decide +kernel⟩
theorem jp_X_102 : ja_FP jcl "MeasuredTensors" 102 2 3 .boolean := ⟨_, jt_T, rfl, by decide, jw_T, jw_in (by decide +kernel) (by decide +kernel), jf_T_ty, jf_T_nm, rfl⟩
theorem jg_X_49 : ja_FL jcl "MeasuredTensors" 49 4 9 := ⟨_, rfl, by decide, jw_X, jw_in (by decide +kernel) (by decide +kernel)⟩
section X81
variable {l : Launch} {D : va_G} {H0 : Heap} {cI cJ cT cX : ClassId} {w : jb_W} {sz : Nat}
variable {x : Nat} {P : Nat → Prop} {σ : jSt} {dr : Nat} {F G : Nat → Option Nat} {own : Nat → Nat} {fT : Nat → Nat → Int32} {ls : Int32} {k : Nat} {f : Nat → Int32} {m : Int32 × Int32 × Int64} {tm : Int32}
theorem jx_number {u0 n : Int32} (hst : l.stackTraces = false) (h : jXd cI cT cX x P σ dr F G own fT ls w k f m tm) (hct : jSt_c σ < 512) : jb_T l jy_X_number jc_X_number 4 (some .int) 6 88 5 25 D H0 (jt_all cI cJ cT cX) [.ref x, .int u0, .int n] w sz
    (fun v w' sz' => ∃ (y : Int32) (σ' : jSt), v = some (.int y) ∧ jA_number σ u0 n y 0 σ' ∧ jXP cI cT cX x P w sz σ' w' sz') (fun E w' sz' => ((E = "java/lang/IllegalArgumentException" ∧ ∀ y, jA_number σ u0 n y 1 σ)) ∧ jXP cI cT cX x P w sz σ w' sz') := by
  refine jb_methT_i hst (by decide) (Nat.le_of_ble_eq_true rfl) (fun u C X E TH => ?_)
  have hxd := h.xd
  have bad : ∀ (hf : (u0 < 0 ∨ n < 1 ∨ ¬ Nat.gcd u0.toNatClampNeg n.toNatClampNeg = 1)), ja (jb_mk l (jb_rm 6 88 5 25) 4 "MeasuredTensors" D H0 (jt_all cI cJ cT cX) u) w sz 5 25 17 [(0, .ref x), (1, .int u0), (2, .int n)] [] := by
    intro hf
    exact TH jt9_63_52 jd_X_number_17 jd_X_number_20 jd_X_number_21 jd_X_number_23 jd_X_number_26 ⟨Nat.le_of_ble_eq_true rfl, Nat.le_of_ble_eq_true rfl⟩ (fun z9 hz9 => ⟨⟨rfl, fun y => ⟨fun _ => ⟨rfl, rfl⟩, fun z => absurd hf z⟩⟩, h.jXP jXF.rf hz9⟩)
  refine ja_iload_n C jd_X_number_0 1 rfl ?_
  refine ja_if_lt C 17 jd_X_number_1 (by decide) (fun c1 => bad (Or.inl c1)) (fun c1 => ?_)
  refine ja_iload_n C jd_X_number_4 2 rfl ?_
  refine ja_iconst C (nI 1) jd_X_number_5 (by decide) ?_
  refine ja_icmp_lt C 17 jd_X_number_6 (by decide) (fun c2 => bad (Or.inr (Or.inl c2))) (fun c2 => ?_)
  have n0 : ¬ n < 0 := fun z => c2 (Int32.lt_iff_toInt_lt.mpr (Int.lt_trans (Int32.lt_iff_toInt_lt.mp z) (by decide)))
  obtain ⟨un, hun, eu, eu'⟩ := jl_clamp c1
  obtain ⟨nn, hnn, en, en'⟩ := jl_clamp n0
  have n1 : 1 ≤ nn := by
    rcases Nat.eq_zero_or_pos nn with z | z
    · exact absurd (by rw [en, z]; decide) c2
    · exact z
  refine ja_iload_n C jd_X_number_9 1 rfl ?_
  refine ja_iload_n C jd_X_number_10 2 rfl ?_
  refine jb_pS 8 C X jk_X_59 (jx_least) jd_X_number_11 rfl rfl ⟨by decide, by decide⟩ (Nat.le_of_ble_eq_true rfl) ?_
  refine ja_if_neB C 27 jd_X_number_14 (by decide) (fun c3 => ?_) (fun c3 => bad (Or.inr (Or.inr (by rw [eu', en']; intro z; exact c3 (by rw [eu, en]; exact (jx_gcd_1 hun hnn).mpr z)))))
  have hg : Nat.gcd un nn = 1 := (jx_gcd_1 hun hnn).mp (by rw [← eu, ← en]; exact c3)
  refine ja_aload_n C jd_X_number_27 0 rfl ?_
  refine ja_get C jg_X_32 jd_X_number_28 h.obj rfl ?_
  refine ja_iconst C (-1) jd_X_number_31 (by decide) ?_
  refine ja_iconst C (-1) jd_X_number_32 (by decide) ?_
  obtain ⟨fs1, hb1⟩ := h.d.z0
  refine jo_vV 8 C X jk_X_65 hb1 rfl (jt_start h.d) jd_X_number_33 rfl rfl ⟨by decide, by decide⟩ (Nat.le_of_ble_eq_true rfl) (fun w1 hp1 => ?_)
  obtain ⟨z1, f1⟩ := hp1
  obtain ⟨h1, r1⟩ := h.upd (by omega) z1 f1
  refine ja_iload_n C jd_X_number_36 2 rfl ?_
  refine jb_pS 8 C X jk_X_69 (jx_twosIn) jd_X_number_37 rfl rfl ⟨by decide, by decide⟩ (Nat.le_of_ble_eq_true rfl) ?_
  refine ja_istore_n C [(3, .int (jx_twos n)), (0, .ref x), (1, .int u0), (2, .int n)] jd_X_number_40 rfl (Nat.le_of_ble_eq_true rfl) rfl ?_
  refine ja_aload_n C jd_X_number_41 1 rfl ?_
  refine ja_get C jg_X_32 jd_X_number_42 h1.obj rfl ?_
  refine jZx_g C jg_X_73 jd_X_number_45 h1.d (fun _ _ => rfl) ?_
  refine ja_iload_n C jd_X_number_48 2 rfl ?_
  refine jb_pS 8 C X jk_X_76 (jx_bitsOf) jd_X_number_49 rfl rfl ⟨by decide, by decide⟩ (Nat.le_of_ble_eq_true rfl) ?_
  refine ja_iload_n C jd_X_number_52 0 rfl ?_
  refine ja_iload_n C jd_X_number_53 3 rfl ?_
  refine ja_iload_n C jd_X_number_54 0 rfl ?_
  refine ja_ishr C jd_X_number_55 ?_
  refine ja_i2l C jd_X_number_56 ?_
  refine jo_vV 8 C X jk_X_79 h1.d.z3 rfl (jm_set h1.d.z3) jd_X_number_57 rfl rfl ⟨by decide, by decide⟩ (Nat.le_of_ble_eq_true rfl) (fun w2 hp2 => ?_)
  obtain ⟨g2, f2⟩ := hp2
  obtain ⟨h2, r2⟩ := h1.m3 g2 f2
  refine ja_aload_n C jd_X_number_60 1 rfl ?_
  have hk := h2
  rw [eu, en, jx_num hun n1 hnn] at hk
  have hlo := jl_log_le (m := un + 1) (by omega)
  have htw := jl_twos_le 40 nn
  have hod := jl_odd_le 40 nn
  refine jb_callVw (kc := 0) (ks := 0) (mc := 5) (ms := 25) 8 C X jk_X_83 h2.obj rfl (jx_keep (what := 30) (a := -1) (b := -1) (ul := (0, 0)) hk jSh_0 hct (by omega) (by omega) (by omega) (by decide)) jd_X_number_61 rfl rfl ⟨by decide, by decide⟩ (Nat.le_of_ble_eq_true rfl) (fun v9 w9 z9 hp9 => ?_)
  obtain ⟨y9, σ9, e9, ha9, hq9⟩ := hp9
  rw [e9]
  exact E jd_X_number_64 ⟨y9, σ9, rfl, ⟨fun z => absurd z (fun z => z.elim c1 (fun z => z.elim c2 (fun z => z (by rw [eu', en']; exact hg)))), fun _ => ⟨rfl, by rw [eu', en']; exact ha9⟩⟩, jXP.from (r1.tr r2) hq9⟩
theorem jx_made {pz n a b c d : Int32} (hst : l.stackTraces = false) (h : jXd cI cT cX x P σ dr F G own fT ls w k f m tm) (hct : jSt_c σ < 512) (hpz : pz = nI 0 ∨ pz = nI 1) : jb_T l jy_X_made jc_X_made 7 (some .int) 6 88 5 25 D H0 (jt_all cI cJ cT cX) [.ref x, .int pz, .int n, .int a, .int b, .int c, .int d] w sz
    (fun v w' sz' => ∃ (y : Int32) (σ' : jSt), v = some (.int y) ∧ jA_made σ pz n a b c d y 0 σ' ∧ jXP cI cT cX x P w sz σ' w' sz') (fun E w' sz' => ((E = "java/lang/IllegalArgumentException" ∧ ∀ y, jA_made σ pz n a b c d y 1 σ)) ∧ jXP cI cT cX x P w sz σ w' sz') := by
  refine jb_methT_i hst (by decide) (Nat.le_of_ble_eq_true rfl) (fun u C X E TH => ?_)
  have hxd := h.xd
  have hcn := h.cn
  have bad : ∀ (hf : jl_take n (jl_F a b c d) = 0), ja (jb_mk l (jb_rm 6 88 5 25) 7 "MeasuredTensors" D H0 (jt_all cI cJ cT cX) u) w sz 5 25 14 [(0, .ref x), (1, .int pz), (2, .int n), (3, .int a), (4, .int b), (5, .int c), (6, .int d)] [] := by
    intro hf
    exact TH jt9_91_52 jd_X_made_14 jd_X_made_17 jd_X_made_18 jd_X_made_20 jd_X_made_23 ⟨Nat.le_of_ble_eq_true rfl, Nat.le_of_ble_eq_true rfl⟩ (fun z9 hz9 => ⟨⟨rfl, fun y => ⟨fun _ => ⟨rfl, rfl⟩, fun z => absurd (hf.symm.trans z) (by decide)⟩⟩, h.jXP jXF.rf hz9⟩)
  refine ja_iload_n C jd_X_made_0 2 rfl ?_
  refine ja_iload_n C jd_X_made_1 3 rfl ?_
  refine ja_iload C jd_X_made_2 4 rfl ?_
  refine ja_iload C jd_X_made_4 5 rfl ?_
  refine ja_iload C jd_X_made_6 6 rfl ?_
  refine jb_pS 8 C X jk_X_87 (jx_areSides) jd_X_made_8 rfl rfl ⟨by decide, by decide⟩ (Nat.le_of_ble_eq_true rfl) ?_
  refine ja_if_neB C 24 jd_X_made_11 (by decide) (fun c1 => ?_) (fun c1 => bad (jl_take_0 c1))
  obtain ⟨r, hr, em⟩ := jl_take_rk c1
  subst em
  clear bad
  rcases hpz with e9 | e9
  · subst e9
    refine ja_aload_n C jd_X_made_24 0 rfl ?_
    refine ja_get C jg_X_32 jd_X_made_25 h.obj rfl ?_
    refine ja_iconst C (-1) jd_X_made_28 (by decide) ?_
    refine ja_iconst C (-1) jd_X_made_29 (by decide) ?_
    obtain ⟨fs1, hb1⟩ := h.d.z0
    refine jo_vV 8 C X jk_X_65 hb1 rfl (jt_start h.d) jd_X_made_30 rfl rfl ⟨by decide, by decide⟩ (Nat.le_of_ble_eq_true rfl) (fun w1 hp1 => ?_)
    obtain ⟨z1, f1⟩ := hp1
    obtain ⟨h1, r1⟩ := h.upd (by omega) z1 f1
    refine ja_aload_n C jd_X_made_33 0 rfl ?_
    refine ja_get C jg_X_32 jd_X_made_34 h1.obj rfl ?_
    refine jZx_g C jg_X_93 jd_X_made_37 h1.d (fun _ _ => rfl) ?_
    refine ja_iload_n C jd_X_made_40 2 rfl ?_
    refine ja_iload_n C jd_X_made_41 3 rfl ?_
    refine ja_iload C jd_X_made_42 4 rfl ?_
    refine ja_iload C jd_X_made_44 5 rfl ?_
    refine ja_iload C jd_X_made_46 6 rfl ?_
    refine jo_vV 8 C X jk_X_97 h1.d.z1 rfl (js_set h1.d.z1 h1.d.z2) jd_X_made_48 rfl rfl ⟨by decide, by decide⟩ (Nat.le_of_ble_eq_true rfl) (fun w2 hp2 => ?_)
    obtain ⟨g2a, g2b, f2⟩ := hp2
    obtain ⟨h2, r2⟩ := h1.s12 (by omega) g2a g2b f2
    refine ja_aload_n C jd_X_made_51 0 rfl ?_
    refine ja_get C jg_X_32 jd_X_made_52 h2.obj rfl ?_
    refine ja_iload_n C jd_X_made_55 1 rfl ?_
    refine jZx_p C jp_X_102 jnf_T_3 rfl rfl jd_X_made_56 h2.d (nI 1) (by decide) (fun p q => ⟨jp10 (nI 0) (p 1) (p 2) (p 3) (p 4) (p 5) (p 6) (p 7) (p 8) (p 9), q, rfl⟩) (fun w3 z3 f3 => ?_)
    obtain ⟨h3, r3⟩ := h2.upd h2.k4 z3 f3
    refine ja_aload_n C jd_X_made_59 0 rfl ?_
    refine ja_get C jg_X_32 jd_X_made_60 h3.obj rfl ?_
    refine jZx_g C jg_X_73 jd_X_made_63 h3.d (fun _ _ => rfl) ?_
    refine ja_iload_n C jd_X_made_66 1 rfl ?_
    refine ja_if_eqN C 75 jd_X_made_67 (by decide) (by decide) (fun _ => ?_) (fun q => absurd q (by decide))
    refine ja_bipush C (nI 16) jd_X_made_75 (by decide) ?_
    refine ja_iload_n C jd_X_made_77 1 rfl ?_
    refine ja_if_eqN C 88 jd_X_made_78 (by decide) (by decide) (fun _ => ?_) (fun q => absurd q (by decide))
    refine ja_bipush C (nI 16) jd_X_made_88 (by decide) ?_
    refine ja_lconst C (lN 1) jd_X_made_90 (by decide) ?_
    refine jo_vV 8 C X jk_X_79 h3.d.z3 rfl (jm_set h3.d.z3) jd_X_made_91 rfl rfl ⟨by decide, by decide⟩ (Nat.le_of_ble_eq_true rfl) (fun w4 hp4 => ?_)
    obtain ⟨g4, f4⟩ := hp4
    obtain ⟨h4, r4⟩ := h3.m3 g4 f4
    refine ja_aload_n C jd_X_made_94 0 rfl ?_
    have hk := h4
    refine jb_callVw (kc := 0) (ks := 0) (mc := 5) (ms := 25) 8 C X jk_X_83 h4.obj rfl (jx_keep (what := 31) (a := -1) (b := -1) (ul := (0, 0)) (q := 1) hk (jSh_set hr c1) hct (by omega) (by omega) (by omega) (by decide)) jd_X_made_95 rfl rfl ⟨by decide, by decide⟩ (Nat.le_of_ble_eq_true rfl) (fun v9 w9 z9 hp9 => ?_)
    obtain ⟨y9, σ9, e9, ha9, hq9⟩ := hp9
    rw [e9]
    have e0 : nI 0 = 0 := by decide
    exact E jd_X_made_98 ⟨y9, σ9, rfl, ⟨fun z => absurd (z.symm.trans c1) (by decide), fun _ => ⟨rfl, by rw [nI_clamp (by omega), if_pos e0, if_pos e0, if_pos e0]; exact jB.ext ha9 (fun j hj => if_pos hj)⟩⟩, jXP.from (r1.tr (r2.tr (r3.tr r4))) hq9⟩
  · subst e9
    refine ja_aload_n C jd_X_made_24 0 rfl ?_
    refine ja_get C jg_X_32 jd_X_made_25 h.obj rfl ?_
    refine ja_iconst C (-1) jd_X_made_28 (by decide) ?_
    refine ja_iconst C (-1) jd_X_made_29 (by decide) ?_
    obtain ⟨fs5, hb5⟩ := h.d.z0
    refine jo_vV 8 C X jk_X_65 hb5 rfl (jt_start h.d) jd_X_made_30 rfl rfl ⟨by decide, by decide⟩ (Nat.le_of_ble_eq_true rfl) (fun w5 hp5 => ?_)
    obtain ⟨z5, f5⟩ := hp5
    obtain ⟨h5, r5⟩ := h.upd (by omega) z5 f5
    refine ja_aload_n C jd_X_made_33 0 rfl ?_
    refine ja_get C jg_X_32 jd_X_made_34 h5.obj rfl ?_
    refine jZx_g C jg_X_93 jd_X_made_37 h5.d (fun _ _ => rfl) ?_
    refine ja_iload_n C jd_X_made_40 2 rfl ?_
    refine ja_iload_n C jd_X_made_41 3 rfl ?_
    refine ja_iload C jd_X_made_42 4 rfl ?_
    refine ja_iload C jd_X_made_44 5 rfl ?_
    refine ja_iload C jd_X_made_46 6 rfl ?_
    refine jo_vV 8 C X jk_X_97 h5.d.z1 rfl (js_set h5.d.z1 h5.d.z2) jd_X_made_48 rfl rfl ⟨by decide, by decide⟩ (Nat.le_of_ble_eq_true rfl) (fun w6 hp6 => ?_)
    obtain ⟨g6a, g6b, f6⟩ := hp6
    obtain ⟨h6, r6⟩ := h5.s12 (by omega) g6a g6b f6
    refine ja_aload_n C jd_X_made_51 0 rfl ?_
    refine ja_get C jg_X_32 jd_X_made_52 h6.obj rfl ?_
    refine ja_iload_n C jd_X_made_55 1 rfl ?_
    refine jZx_p C jp_X_102 jnf_T_3 rfl rfl jd_X_made_56 h6.d (nI 1) (by decide) (fun p q => ⟨jp10 (nI 1) (p 1) (p 2) (p 3) (p 4) (p 5) (p 6) (p 7) (p 8) (p 9), q, rfl⟩) (fun w7 z7 f7 => ?_)
    obtain ⟨h7, r7⟩ := h6.upd h6.k4 z7 f7
    refine ja_aload_n C jd_X_made_59 0 rfl ?_
    refine ja_get C jg_X_32 jd_X_made_60 h7.obj rfl ?_
    refine jZx_g C jg_X_73 jd_X_made_63 h7.d (fun _ _ => rfl) ?_
    refine ja_iload_n C jd_X_made_66 1 rfl ?_
    refine ja_if_eqN C 75 jd_X_made_67 (by decide) (by decide) (fun q => absurd q (by decide)) (fun _ => ?_)
    refine ja_bipush C (nI 15) jd_X_made_70 (by decide) ?_
    refine ja_goto C 77 jd_X_made_72 (by decide) ?_
    refine ja_iload_n C jd_X_made_77 1 rfl ?_
    refine ja_if_eqN C 88 jd_X_made_78 (by decide) (by decide) (fun q => absurd q (by decide)) (fun _ => ?_)
    refine ja_aload_n C jd_X_made_81 0 rfl ?_
    refine ja_get C jg_X_49 jd_X_made_82 h7.obj rfl ?_
    refine ja_goto C 90 jd_X_made_85 (by decide) ?_
    refine ja_lconst C (lN 1) jd_X_made_90 (by decide) ?_
    refine jo_vV 8 C X jk_X_79 h7.d.z3 rfl (jm_set h7.d.z3) jd_X_made_91 rfl rfl ⟨by decide, by decide⟩ (Nat.le_of_ble_eq_true rfl) (fun w8 hp8 => ?_)
    obtain ⟨g8, f8⟩ := hp8
    obtain ⟨h8, r8⟩ := h7.m3 g8 f8
    refine ja_aload_n C jd_X_made_94 0 rfl ?_
    have hk := h8
    refine jb_callVw (kc := 0) (ks := 0) (mc := 5) (ms := 25) 8 C X jk_X_83 h8.obj rfl (jx_keep (what := 32) (a := -1) (b := -1) (ul := (0, 0)) (q := 1) hk (jSh_set hr c1) hct (by omega) (by omega) (by omega) (by decide)) jd_X_made_95 rfl rfl ⟨by decide, by decide⟩ (Nat.le_of_ble_eq_true rfl) (fun v9 w9 z9 hp9 => ?_)
    obtain ⟨y9, σ9, e9, ha9, hq9⟩ := hp9
    rw [e9]
    have e0 : ¬ nI 1 = 0 := by decide
    exact E jd_X_made_98 ⟨y9, σ9, rfl, ⟨fun z => absurd (z.symm.trans c1) (by decide), fun _ => ⟨rfl, by rw [nI_clamp (by omega), if_neg e0, if_neg e0, if_neg e0]; exact jB.ext ha9 (fun j hj => if_pos hj)⟩⟩, jXP.from (r5.tr (r6.tr (r7.tr r8))) hq9⟩
end X81
