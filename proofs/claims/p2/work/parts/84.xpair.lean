/-! THE CLASS: pair -/
theorem jx_mulN {ra rb ea eb qa qb n : Nat} (hn1 : 1 ≤ n) (hn : n < 2 ^ 31) (ha1 : 1 ≤ qa) (ha : qa < 2 ^ 62) (hb1 : 1 ≤ qb) (hb : qb < 2 ^ 62) : (nI ra + nI rb + jx_bits (nI n - 1), nI ea + nI eb, jx_pr (lN qa) (lN qb)) = (nI (ra + rb + jl_log n), nI (ea + eb), lN (jq (jl_prod qa qb))) := by
  have e1 := jx_pr_N ha hb
  rw [jq_of ha1, jq_of hb1] at e1
  rw [jx_dbl hn1 hn, nI_add, nI_add, nI_add, e1]
theorem jx_mulM {ra rb ea eb qa qb : Nat} (ha1 : 1 ≤ qa) (ha : qa < 2 ^ 62) (hb1 : 1 ≤ qb) (hb : qb < 2 ^ 62) : (nI ra + nI rb, nI ea + nI eb, jx_pr (lN qa) (lN qb)) = (nI (ra + rb), nI (ea + eb), lN (jq (jl_prod qa qb))) := by
  have e1 := jx_pr_N ha hb
  rw [jq_of ha1, jq_of hb1] at e1
  rw [nI_add, nI_add, e1]
theorem jx_maxM {ra rb ea eb qa qb : Nat} (h1 : ra < 2 ^ 31) (h2 : rb < 2 ^ 31) (h3 : ea < 2 ^ 31) (h4 : eb < 2 ^ 31) (ha1 : 1 ≤ qa) (ha : qa < 2 ^ 62) (hb1 : 1 ≤ qb) (hb : qb < 2 ^ 62) : ((if nI ra < nI rb then nI rb else nI ra) + nI 1, if nI ea < nI eb then nI eb else nI ea, jx_lcm (lN qa) (lN qb)) = (nI (max ra rb + 1), nI (max ea eb), lN (jq (jl_comm qa qb))) := by
  rw [jx_max h1 h2, jx_max h3 h4, nI_add, jx_lcm_N ha1 ha hb1 hb]
theorem jl_tail_sym {Sa Sb : Nat → Nat} {ka kb : Nat} (hk : kb ≤ ka) (h : jl_tail Sb kb Sa ka = true) : jl_tail Sa ka Sb kb = true := by
  obtain ⟨h1, h2⟩ := jl_tail_iff.mp h
  have e : ka = kb := by omega
  subst e
  exact jl_tail_iff.mpr ⟨Nat.le_refl _, fun j hj => by have q := h2 j hj; rw [Nat.sub_self, Nat.zero_add] at q ⊢; exact q.symm⟩
theorem jl_tail_no {Sa Sb : Nat → Nat} {ka kb : Nat} (hk : ka < kb) : ¬ jl_tail Sa ka Sb kb = true := fun h => by
  have := (jl_tail_iff.mp h).1
  omega
theorem jk_X_137 : jb_KV "MeasuredTensors" 137 jy_X_draftCellByCell jc_X_draftCellByCell 6 (some .boolean) 3 := ⟨jw_in (by decide +kernel) (by decide +kernel), jw_in (by decide +kernel) (by decide +kernel), jw_in (by decide +kernel) (by decide +kernel), jw_in (by decide +kernel) (by decide +kernel), jw_in (by decide +kernel) (by decide +kernel), by decide +kernel⟩
theorem jt9_131_52 : jx_ok "MeasuredTensors" 52 131 56 "java/lang/IllegalArgumentException" "no such pair" ["java/lang/RuntimeException", "java/lang/Exception"] := ⟨by decide +kernel, by decide +kernel, jw_in (by decide +kernel) (by decide +kernel), jw_in (by decide +kernel) (by decide +kernel), by decide +kernel, by decide +kernel, by decide +kernel⟩
theorem jk_X_133 : jb_KV "MeasuredTensors" 133 jy_X_draftMatrixProduct jc_X_draftMatrixProduct 7 (some .boolean) 2 := ⟨jw_in (by decide +kernel) (by decide +kernel), jw_in (by decide +kernel) (by decide +kernel), jw_in (by decide +kernel) (by decide +kernel), jw_in (by decide +kernel) (by decide +kernel), jw_in (by decide +kernel) (by decide +kernel), by decide +kernel⟩
section X84
variable {l : Launch} {D : va_G} {H0 : Heap} {cI cJ cT cX : ClassId} {w : jb_W} {sz : Nat}
variable {x : Nat} {P : Nat → Prop} {σ : jSt} {dr : Nat} {F G : Nat → Option Nat} {own : Nat → Nat} {fT : Nat → Nat → Int32} {ls : Int32} {k : Nat} {f : Nat → Int32} {m : Int32 × Int32 × Int64} {tm : Int32}
theorem jx_pair {how a b : Int32} (hst : l.stackTraces = false) (h : jXd cI cT cX x P σ dr F G own fT ls w k f m tm) (hct : jSt_c σ < 512) : jb_T l jy_X_pair jc_X_pair 7 (some .int) 6 104 5 25 D H0 (jt_all cI cJ cT cX) [.ref x, .int how, .int a, .int b] w sz
    (fun v w' sz' => ∃ (y : Int32) (σ' : jSt), v = some (.int y) ∧ jA_pair σ how a b y 0 σ' ∧ jXP cI cT cX x P w sz σ' w' sz') (fun E w' sz' => ((E = "java/lang/IndexOutOfBoundsException" ∧ ∀ y, jA_pair σ how a b y 1 σ) ∨ (E = "java/lang/IllegalArgumentException" ∧ ∀ y, jA_pair σ how a b y 2 σ)) ∧ jXP cI cT cX x P w sz σ w' sz') := by
  refine jb_methT_i hst (by decide) (Nat.le_of_ble_eq_true rfl) (fun u C X E TH => ?_)
  have hxd := h.xd
  have hcn := h.cn
  rcases Classical.em ((a < 0 ∨ nI (jSt_c σ) ≤ a) ∨ (b < 0 ∨ nI (jSt_c σ) ≤ b)) with hf | hf
  · rcases Classical.em (a < 0 ∨ nI (jSt_c σ) ≤ a) with hfa | hfa
    · refine ja_aload_n C jd_X_pair_0 0 rfl ?_
      refine ja_iload_n C jd_X_pair_1 2 rfl ?_
      refine jb_pV 8 C X jk_X_122 h.obj rfl (jx_tensorAtN h hfa) jd_X_pair_2 rfl rfl ⟨by decide, by decide⟩ (Nat.le_of_ble_eq_true rfl) ?_
      rcases Classical.em (b < 0 ∨ nI (jSt_c σ) ≤ b) with hfb | hfb
      · refine ja_astoreN C [(4, .null), (0, .ref x), (1, .int how), (2, .int a), (3, .int b)] jd_X_pair_5 (Nat.le_of_ble_eq_true rfl) rfl ?_
        refine ja_aload_n C jd_X_pair_7 1 rfl ?_
        refine ja_iload_n C jd_X_pair_8 4 rfl ?_
        refine jb_pV 8 C X jk_X_122 h.obj rfl (jx_tensorAtN h hfb) jd_X_pair_9 rfl rfl ⟨by decide, by decide⟩ (Nat.le_of_ble_eq_true rfl) ?_
        refine ja_astoreN C [(5, .null), (4, .null), (0, .ref x), (1, .int how), (2, .int a), (3, .int b)] jd_X_pair_12 (Nat.le_of_ble_eq_true rfl) rfl ?_
        refine ja_aloadN C jd_X_pair_14 1 rfl ?_
        refine ja_ifnullN C 24 jd_X_pair_16 (by decide) ?_
        exact TH jt9_128_126 jd_X_pair_24 jd_X_pair_27 jd_X_pair_28 jd_X_pair_30 jd_X_pair_33 ⟨Nat.le_of_ble_eq_true rfl, Nat.le_of_ble_eq_true rfl⟩ (fun z9 hz9 => ⟨Or.inl ⟨rfl, fun y => by unfold jA_pair; rw [if_pos hf]; exact ⟨rfl, rfl⟩⟩, h.jXP jXF.rf hz9⟩)
      · obtain ⟨tb, htb, eu, ed⟩ := jl_ten hcn.1 hfb
        obtain ⟨tk2, ob, eb, -⟩ := h.2.2.2.2.2.2.2.1 tb htb
        subst eu
        refine ja_astoreN C [(4, .null), (0, .ref x), (1, .int how), (2, .int a), (3, .int (nI tb))] jd_X_pair_5 (Nat.le_of_ble_eq_true rfl) rfl ?_
        refine ja_aload_n C jd_X_pair_7 1 rfl ?_
        refine ja_iload_n C jd_X_pair_8 4 rfl ?_
        refine jb_pV 8 C X jk_X_122 h.obj rfl (jx_tensorAt h htb eb) jd_X_pair_9 rfl rfl ⟨by decide, by decide⟩ (Nat.le_of_ble_eq_true rfl) ?_
        refine ja_astore C [(5, .ref ob), (4, .null), (0, .ref x), (1, .int how), (2, .int a), (3, .int (nI tb))] jd_X_pair_12 (Nat.le_of_ble_eq_true rfl) rfl ?_
        refine ja_aloadN C jd_X_pair_14 1 rfl ?_
        refine ja_ifnullN C 24 jd_X_pair_16 (by decide) ?_
        exact TH jt9_128_126 jd_X_pair_24 jd_X_pair_27 jd_X_pair_28 jd_X_pair_30 jd_X_pair_33 ⟨Nat.le_of_ble_eq_true rfl, Nat.le_of_ble_eq_true rfl⟩ (fun z9 hz9 => ⟨Or.inl ⟨rfl, fun y => by unfold jA_pair; rw [if_pos hf]; exact ⟨rfl, rfl⟩⟩, h.jXP jXF.rf hz9⟩)
    · obtain ⟨ta, hta, et, ec⟩ := jl_ten hcn.1 hfa
      obtain ⟨tk, oa, ea, -⟩ := h.2.2.2.2.2.2.2.1 ta hta
      have hfb : b < 0 ∨ nI (jSt_c σ) ≤ b := hf.elim (fun z => absurd z hfa) id
      subst et
      refine ja_aload_n C jd_X_pair_0 0 rfl ?_
      refine ja_iload_n C jd_X_pair_1 2 rfl ?_
      refine jb_pV 8 C X jk_X_122 h.obj rfl (jx_tensorAt h hta ea) jd_X_pair_2 rfl rfl ⟨by decide, by decide⟩ (Nat.le_of_ble_eq_true rfl) ?_
      refine ja_astore C [(4, .ref oa), (0, .ref x), (1, .int how), (2, .int (nI ta)), (3, .int b)] jd_X_pair_5 (Nat.le_of_ble_eq_true rfl) rfl ?_
      refine ja_aload_n C jd_X_pair_7 1 rfl ?_
      refine ja_iload_n C jd_X_pair_8 4 rfl ?_
      refine jb_pV 8 C X jk_X_122 h.obj rfl (jx_tensorAtN h hfb) jd_X_pair_9 rfl rfl ⟨by decide, by decide⟩ (Nat.le_of_ble_eq_true rfl) ?_
      refine ja_astoreN C [(5, .null), (4, .ref oa), (0, .ref x), (1, .int how), (2, .int (nI ta)), (3, .int b)] jd_X_pair_12 (Nat.le_of_ble_eq_true rfl) rfl ?_
      refine ja_aload C jd_X_pair_14 1 rfl ?_
      refine ja_ifnull C jd_X_pair_16 ?_
      refine ja_aloadN C jd_X_pair_19 0 rfl ?_
      refine ja_ifnonnullN C jd_X_pair_21 ?_
      exact TH jt9_128_126 jd_X_pair_24 jd_X_pair_27 jd_X_pair_28 jd_X_pair_30 jd_X_pair_33 ⟨Nat.le_of_ble_eq_true rfl, Nat.le_of_ble_eq_true rfl⟩ (fun z9 hz9 => ⟨Or.inl ⟨rfl, fun y => by unfold jA_pair; rw [if_pos hf]; exact ⟨rfl, rfl⟩⟩, h.jXP jXF.rf hz9⟩)
  · obtain ⟨ta, hta, et, ec⟩ := jl_ten hcn.1 (fun z => hf (Or.inl z))
    obtain ⟨tb, htb, eu, ed⟩ := jl_ten hcn.1 (fun z => hf (Or.inr z))
    obtain ⟨tk, oa, ea, -⟩ := h.2.2.2.2.2.2.2.1 ta hta
    obtain ⟨tk2, ob, eb, -⟩ := h.2.2.2.2.2.2.2.1 tb htb
    have k4 := (h.ts hta).1
    have l4 := (h.ts htb).1
    obtain ⟨b1, b2, b3, b4, b5, b6, b7, b8, b9, b10⟩ := tk
    obtain ⟨d1, d2, d3, d4, d5, d6, d7, d8, d9, d10⟩ := tk2
    subst et
    subst eu
    refine ja_aload_n C jd_X_pair_0 0 rfl ?_
    refine ja_iload_n C jd_X_pair_1 2 rfl ?_
    refine jb_pV 8 C X jk_X_122 h.obj rfl (jx_tensorAt h hta ea) jd_X_pair_2 rfl rfl ⟨by decide, by decide⟩ (Nat.le_of_ble_eq_true rfl) ?_
    refine ja_astore C [(4, .ref oa), (0, .ref x), (1, .int how), (2, .int (nI ta)), (3, .int (nI tb))] jd_X_pair_5 (Nat.le_of_ble_eq_true rfl) rfl ?_
    refine ja_aload_n C jd_X_pair_7 1 rfl ?_
    refine ja_iload_n C jd_X_pair_8 4 rfl ?_
    refine jb_pV 8 C X jk_X_122 h.obj rfl (jx_tensorAt h htb eb) jd_X_pair_9 rfl rfl ⟨by decide, by decide⟩ (Nat.le_of_ble_eq_true rfl) ?_
    refine ja_astore C [(5, .ref ob), (4, .ref oa), (0, .ref x), (1, .int how), (2, .int (nI ta)), (3, .int (nI tb))] jd_X_pair_12 (Nat.le_of_ble_eq_true rfl) rfl ?_
    refine ja_aload C jd_X_pair_14 1 rfl ?_
    refine ja_ifnull C jd_X_pair_16 ?_
    refine ja_aload C jd_X_pair_19 0 rfl ?_
    refine ja_ifnonnull C 34 jd_X_pair_21 (by decide) ?_
    refine ja_iload_n C jd_X_pair_34 3 rfl ?_
    have bad : ∀ (hg : (how < 0 ∨ 3 < how)), ja (jb_mk l (jb_rm 6 104 5 25) 7 "MeasuredTensors" D H0 (jt_all cI cJ cT cX) u) w sz 5 25 43 [(5, .ref ob), (4, .ref oa), (0, .ref x), (1, .int how), (2, .int (nI ta)), (3, .int (nI tb))] [] := by
      intro hg
      exact TH jt9_131_52 jd_X_pair_43 jd_X_pair_46 jd_X_pair_47 jd_X_pair_49 jd_X_pair_52 ⟨Nat.le_of_ble_eq_true rfl, Nat.le_of_ble_eq_true rfl⟩ (fun z9 hz9 => ⟨Or.inr ⟨rfl, fun y => by unfold jA_pair; rw [if_neg hf, if_pos hg]; exact ⟨rfl, rfl⟩⟩, h.jXP jXF.rf hz9⟩)
    refine ja_if_lt C 43 jd_X_pair_35 (by decide) (fun c1 => bad (Or.inl c1)) (fun c1 => ?_)
    refine ja_iload_n C jd_X_pair_38 3 rfl ?_
    refine ja_iconst C (nI 3) jd_X_pair_39 (by decide) ?_
    refine ja_icmp_le C 53 jd_X_pair_40 (by decide) (fun c2 => ?_) (fun c2 => bad (Or.inr (k2_lt c2)))
    have hg : ¬ (how < 0 ∨ 3 < how) := fun z => z.elim c1 (fun z => k2_nle z c2)
    obtain ⟨hw, hhw, eh⟩ := nI_of2 (M := 3) (n := 3) (by decide) c1 c2
    have ehw : how.toNatClampNeg = hw := by rw [eh]; exact nI_clamp (by omega)
    clear bad
    subst eh
    refine ja_aload_n C jd_X_pair_53 2 rfl ?_
    refine ja_get C jg_X_32 jd_X_pair_54 h.obj rfl ?_
    refine ja_iload_n C jd_X_pair_57 4 rfl ?_
    refine ja_iload_n C jd_X_pair_58 5 rfl ?_
    obtain ⟨fs1, hb1⟩ := h.d.z0
    refine jo_vV 8 C X jk_X_65 hb1 rfl (jt_start h.d) jd_X_pair_59 rfl rfl ⟨by decide, by decide⟩ (Nat.le_of_ble_eq_true rfl) (fun w1 hp1 => ?_)
    obtain ⟨z1, f1⟩ := hp1
    obtain ⟨h1, r1⟩ := h.upd (by omega) z1 f1
    refine ja_iload_n C jd_X_pair_62 3 rfl ?_
    refine ja_iconst C (nI 3) jd_X_pair_63 (by decide) ?_
    refine ja_icmp_neN C 78 jd_X_pair_64 (by decide) (by omega) (by decide) (fun c3 => ?_) (fun c3 => ?_)
    · refine ja_aload_n C jd_X_pair_78 2 rfl ?_
      refine ja_iload_n C jd_X_pair_79 3 rfl ?_
      refine ja_aload C jd_X_pair_80 1 rfl ?_
      refine ja_aload C jd_X_pair_82 0 rfl ?_
      rcases Nat.lt_or_ge (jT_k (jSt_T σ ta)) (jT_k (jSt_T σ tb)) with hlk | hlk
      · refine jo_qV 8 C X jk_X_137 h1.obj rfl (jx_cellL h1 hta ea htb eb (hw := hw) (by omega) hlk) jd_X_pair_84 rfl rfl ⟨by decide, by decide⟩ (Nat.le_of_ble_eq_true rfl) (fun w7 hp7 => ?_)
        obtain ⟨f7, hS7, hA, hB, r7⟩ := hp7
        refine ja_istore C [(6, .int (if jl_tail (jT_S (jSt_T σ tb)) (jT_k (jSt_T σ tb)) (jT_S (jSt_T σ ta)) (jT_k (jSt_T σ ta)) = true then 1 else 0)), (5, .ref ob), (4, .ref oa), (0, .ref x), (1, .int (nI hw)), (2, .int (nI ta)), (3, .int (nI tb))] jd_X_pair_87 (Nat.le_of_ble_eq_true rfl) rfl ?_
        refine ja_iload C jd_X_pair_89 0 rfl ?_
        rcases Classical.em (hw = 2) with c8 | c8
        · have hk := hA c8
          have hobj := hk.obj
          rw [jx_mulM (ra := jT_r (jSt_T σ tb)) (rb := jT_r (jSt_T σ ta)) (ea := jT_e (jSt_T σ tb)) (eb := jT_e (jSt_T σ ta)) d9 d10 b9 b10] at hk
          have ho : ¬ (jl_tail (jT_S (jSt_T σ tb)) (jT_k (jSt_T σ tb)) (jT_S (jSt_T σ ta)) (jT_k (jSt_T σ ta)) = true) → ¬ (jl_tail (jT_S (jSt_T σ ta)) (jT_k (jSt_T σ ta)) (jT_S (jSt_T σ tb)) (jT_k (jSt_T σ tb)) = true ∨ jl_tail (jT_S (jSt_T σ tb)) (jT_k (jSt_T σ tb)) (jT_S (jSt_T σ ta)) (jT_k (jSt_T σ ta)) = true) := fun z y => y.elim (jl_tail_no hlk) z
          rcases Classical.em (jl_tail (jT_S (jSt_T σ tb)) (jT_k (jSt_T σ tb)) (jT_S (jSt_T σ ta)) (jT_k (jSt_T σ ta)) = true) with c9 | c9
          · have ew : (if jl_tail (jT_S (jSt_T σ ta)) (jT_k (jSt_T σ ta)) (jT_S (jSt_T σ tb)) (jT_k (jSt_T σ tb)) = true then ta else tb) = tb := if_neg (jl_tail_no hlk)
            refine ja_if_eqB C 101 jd_X_pair_91 (by decide) (fun z => absurd c9 z) (fun _ => ?_)
            refine ja_aload_n C jd_X_pair_94 3 rfl ?_
            refine jb_callVw (kc := 0) (ks := 0) (mc := 5) (ms := 25) 8 C X jk_X_83 hobj rfl (jx_keep (what := 42) (a := nI ta) (b := nI tb) (ul := (0, 0)) hk hS7 hct (by omega) (by omega) (jl_prod_lt _ _) (by decide)) jd_X_pair_95 rfl rfl ⟨by decide, by decide⟩ (Nat.le_of_ble_eq_true rfl) (fun v9 w9 z9 hp9 => ?_)
            obtain ⟨y9, σ9, e9, ha9, hq9⟩ := hp9
            rw [e9]
            refine ja_goto C 103 jd_X_pair_98 (by decide) ?_
            exact E jd_X_pair_103 ⟨y9, σ9, rfl, by unfold jA_pair; rw [if_neg hf, if_neg hg, ec, ed, ehw]; refine ⟨rfl, ?_⟩; unfold jA_pair2; rw [if_neg c3]; refine ⟨fun _ => ?_, fun z => absurd (Or.inr c9) z⟩; show (if hw = 2 then _ else _); rw [if_pos c8, ew, Nat.add_comm (jT_r (jSt_T σ ta)), Nat.add_comm (jT_e (jSt_T σ ta)), jl_prod_comm (jT_q (jSt_T σ ta))]; exact ha9, jXP.from (r1.tr r7) hq9⟩
          · refine ja_if_eqB C 101 jd_X_pair_91 (by decide) (fun _ => ?_) (fun z => absurd z c9)
            refine ja_bipush C (-5) jd_X_pair_101 (by decide) ?_
            exact E jd_X_pair_103 ⟨_, _, rfl, by unfold jA_pair; rw [if_neg hf, if_neg hg, ec, ed, ehw]; refine ⟨rfl, ?_⟩; unfold jA_pair2; rw [if_neg c3]; exact ⟨fun z => absurd z (ho c9), fun _ => ⟨rfl, rfl⟩⟩, hk.jXP (r1.tr r7) (Nat.le_refl _)⟩
        · have hk := hB c8
          have hobj := hk.obj
          rw [jx_maxM (ra := jT_r (jSt_T σ tb)) (rb := jT_r (jSt_T σ ta)) (ea := jT_e (jSt_T σ tb)) (eb := jT_e (jSt_T σ ta)) (by omega) (by omega) (by omega) (by omega) d9 d10 b9 b10] at hk
          have ho : ¬ (jl_tail (jT_S (jSt_T σ tb)) (jT_k (jSt_T σ tb)) (jT_S (jSt_T σ ta)) (jT_k (jSt_T σ ta)) = true) → ¬ (jl_tail (jT_S (jSt_T σ ta)) (jT_k (jSt_T σ ta)) (jT_S (jSt_T σ tb)) (jT_k (jSt_T σ tb)) = true ∨ jl_tail (jT_S (jSt_T σ tb)) (jT_k (jSt_T σ tb)) (jT_S (jSt_T σ ta)) (jT_k (jSt_T σ ta)) = true) := fun z y => y.elim (jl_tail_no hlk) z
          rcases Classical.em (jl_tail (jT_S (jSt_T σ tb)) (jT_k (jSt_T σ tb)) (jT_S (jSt_T σ ta)) (jT_k (jSt_T σ ta)) = true) with c9 | c9
          · have ew : (if jl_tail (jT_S (jSt_T σ ta)) (jT_k (jSt_T σ ta)) (jT_S (jSt_T σ tb)) (jT_k (jSt_T σ tb)) = true then ta else tb) = tb := if_neg (jl_tail_no hlk)
            refine ja_if_eqB C 101 jd_X_pair_91 (by decide) (fun z => absurd c9 z) (fun _ => ?_)
            refine ja_aload_n C jd_X_pair_94 3 rfl ?_
            refine jb_callVw (kc := 0) (ks := 0) (mc := 5) (ms := 25) 8 C X jk_X_83 hobj rfl (jx_keep (what := nI (40 + hw)) (a := nI ta) (b := nI tb) (ul := (0, 0)) hk hS7 hct (by omega) (by omega) (jl_comm_lt _ _) (by decide)) jd_X_pair_95 rfl rfl ⟨by decide, by decide⟩ (Nat.le_of_ble_eq_true rfl) (fun v9 w9 z9 hp9 => ?_)
            obtain ⟨y9, σ9, e9, ha9, hq9⟩ := hp9
            rw [e9]
            refine ja_goto C 103 jd_X_pair_98 (by decide) ?_
            exact E jd_X_pair_103 ⟨y9, σ9, rfl, by unfold jA_pair; rw [if_neg hf, if_neg hg, ec, ed, ehw]; refine ⟨rfl, ?_⟩; unfold jA_pair2; rw [if_neg c3]; refine ⟨fun _ => ?_, fun z => absurd (Or.inr c9) z⟩; show (if hw = 2 then _ else _); rw [if_neg c8, ew, Nat.max_comm (jT_r (jSt_T σ ta)), Nat.max_comm (jT_e (jSt_T σ ta)), jl_comm_comm (jT_q (jSt_T σ ta))]; exact ha9, jXP.from (r1.tr r7) hq9⟩
          · refine ja_if_eqB C 101 jd_X_pair_91 (by decide) (fun _ => ?_) (fun z => absurd z c9)
            refine ja_bipush C (-5) jd_X_pair_101 (by decide) ?_
            exact E jd_X_pair_103 ⟨_, _, rfl, by unfold jA_pair; rw [if_neg hf, if_neg hg, ec, ed, ehw]; refine ⟨rfl, ?_⟩; unfold jA_pair2; rw [if_neg c3]; exact ⟨fun z => absurd z (ho c9), fun _ => ⟨rfl, rfl⟩⟩, hk.jXP (r1.tr r7) (Nat.le_refl _)⟩
      · refine jo_qV 8 C X jk_X_137 h1.obj rfl (jx_cell h1 hta ea htb eb (hw := hw) (by omega) hlk) jd_X_pair_84 rfl rfl ⟨by decide, by decide⟩ (Nat.le_of_ble_eq_true rfl) (fun w7 hp7 => ?_)
        obtain ⟨f7, hS7, hA, hB, r7⟩ := hp7
        refine ja_istore C [(6, .int (if jl_tail (jT_S (jSt_T σ ta)) (jT_k (jSt_T σ ta)) (jT_S (jSt_T σ tb)) (jT_k (jSt_T σ tb)) = true then 1 else 0)), (5, .ref ob), (4, .ref oa), (0, .ref x), (1, .int (nI hw)), (2, .int (nI ta)), (3, .int (nI tb))] jd_X_pair_87 (Nat.le_of_ble_eq_true rfl) rfl ?_
        refine ja_iload C jd_X_pair_89 0 rfl ?_
        rcases Classical.em (hw = 2) with c8 | c8
        · have hk := hA c8
          have hobj := hk.obj
          rw [jx_mulM (ra := jT_r (jSt_T σ ta)) (rb := jT_r (jSt_T σ tb)) (ea := jT_e (jSt_T σ ta)) (eb := jT_e (jSt_T σ tb)) b9 b10 d9 d10] at hk
          have ho : ¬ (jl_tail (jT_S (jSt_T σ ta)) (jT_k (jSt_T σ ta)) (jT_S (jSt_T σ tb)) (jT_k (jSt_T σ tb)) = true) → ¬ (jl_tail (jT_S (jSt_T σ ta)) (jT_k (jSt_T σ ta)) (jT_S (jSt_T σ tb)) (jT_k (jSt_T σ tb)) = true ∨ jl_tail (jT_S (jSt_T σ tb)) (jT_k (jSt_T σ tb)) (jT_S (jSt_T σ ta)) (jT_k (jSt_T σ ta)) = true) := fun z y => y.elim z (fun y => z (jl_tail_sym hlk y))
          rcases Classical.em (jl_tail (jT_S (jSt_T σ ta)) (jT_k (jSt_T σ ta)) (jT_S (jSt_T σ tb)) (jT_k (jSt_T σ tb)) = true) with c9 | c9
          · have ew : (if jl_tail (jT_S (jSt_T σ ta)) (jT_k (jSt_T σ ta)) (jT_S (jSt_T σ tb)) (jT_k (jSt_T σ tb)) = true then ta else tb) = ta := if_pos c9
            refine ja_if_eqB C 101 jd_X_pair_91 (by decide) (fun z => absurd c9 z) (fun _ => ?_)
            refine ja_aload_n C jd_X_pair_94 3 rfl ?_
            refine jb_callVw (kc := 0) (ks := 0) (mc := 5) (ms := 25) 8 C X jk_X_83 hobj rfl (jx_keep (what := 42) (a := nI ta) (b := nI tb) (ul := (0, 0)) hk hS7 hct (by omega) (by omega) (jl_prod_lt _ _) (by decide)) jd_X_pair_95 rfl rfl ⟨by decide, by decide⟩ (Nat.le_of_ble_eq_true rfl) (fun v9 w9 z9 hp9 => ?_)
            obtain ⟨y9, σ9, e9, ha9, hq9⟩ := hp9
            rw [e9]
            refine ja_goto C 103 jd_X_pair_98 (by decide) ?_
            exact E jd_X_pair_103 ⟨y9, σ9, rfl, by unfold jA_pair; rw [if_neg hf, if_neg hg, ec, ed, ehw]; refine ⟨rfl, ?_⟩; unfold jA_pair2; rw [if_neg c3]; refine ⟨fun _ => ?_, fun z => absurd (Or.inl c9) z⟩; show (if hw = 2 then _ else _); rw [if_pos c8, ew]; exact ha9, jXP.from (r1.tr r7) hq9⟩
          · refine ja_if_eqB C 101 jd_X_pair_91 (by decide) (fun _ => ?_) (fun z => absurd z c9)
            refine ja_bipush C (-5) jd_X_pair_101 (by decide) ?_
            exact E jd_X_pair_103 ⟨_, _, rfl, by unfold jA_pair; rw [if_neg hf, if_neg hg, ec, ed, ehw]; refine ⟨rfl, ?_⟩; unfold jA_pair2; rw [if_neg c3]; exact ⟨fun z => absurd z (ho c9), fun _ => ⟨rfl, rfl⟩⟩, hk.jXP (r1.tr r7) (Nat.le_refl _)⟩
        · have hk := hB c8
          have hobj := hk.obj
          rw [jx_maxM (ra := jT_r (jSt_T σ ta)) (rb := jT_r (jSt_T σ tb)) (ea := jT_e (jSt_T σ ta)) (eb := jT_e (jSt_T σ tb)) (by omega) (by omega) (by omega) (by omega) b9 b10 d9 d10] at hk
          have ho : ¬ (jl_tail (jT_S (jSt_T σ ta)) (jT_k (jSt_T σ ta)) (jT_S (jSt_T σ tb)) (jT_k (jSt_T σ tb)) = true) → ¬ (jl_tail (jT_S (jSt_T σ ta)) (jT_k (jSt_T σ ta)) (jT_S (jSt_T σ tb)) (jT_k (jSt_T σ tb)) = true ∨ jl_tail (jT_S (jSt_T σ tb)) (jT_k (jSt_T σ tb)) (jT_S (jSt_T σ ta)) (jT_k (jSt_T σ ta)) = true) := fun z y => y.elim z (fun y => z (jl_tail_sym hlk y))
          rcases Classical.em (jl_tail (jT_S (jSt_T σ ta)) (jT_k (jSt_T σ ta)) (jT_S (jSt_T σ tb)) (jT_k (jSt_T σ tb)) = true) with c9 | c9
          · have ew : (if jl_tail (jT_S (jSt_T σ ta)) (jT_k (jSt_T σ ta)) (jT_S (jSt_T σ tb)) (jT_k (jSt_T σ tb)) = true then ta else tb) = ta := if_pos c9
            refine ja_if_eqB C 101 jd_X_pair_91 (by decide) (fun z => absurd c9 z) (fun _ => ?_)
            refine ja_aload_n C jd_X_pair_94 3 rfl ?_
            refine jb_callVw (kc := 0) (ks := 0) (mc := 5) (ms := 25) 8 C X jk_X_83 hobj rfl (jx_keep (what := nI (40 + hw)) (a := nI ta) (b := nI tb) (ul := (0, 0)) hk hS7 hct (by omega) (by omega) (jl_comm_lt _ _) (by decide)) jd_X_pair_95 rfl rfl ⟨by decide, by decide⟩ (Nat.le_of_ble_eq_true rfl) (fun v9 w9 z9 hp9 => ?_)
            obtain ⟨y9, σ9, e9, ha9, hq9⟩ := hp9
            rw [e9]
            refine ja_goto C 103 jd_X_pair_98 (by decide) ?_
            exact E jd_X_pair_103 ⟨y9, σ9, rfl, by unfold jA_pair; rw [if_neg hf, if_neg hg, ec, ed, ehw]; refine ⟨rfl, ?_⟩; unfold jA_pair2; rw [if_neg c3]; refine ⟨fun _ => ?_, fun z => absurd (Or.inl c9) z⟩; show (if hw = 2 then _ else _); rw [if_neg c8, ew]; exact ha9, jXP.from (r1.tr r7) hq9⟩
          · refine ja_if_eqB C 101 jd_X_pair_91 (by decide) (fun _ => ?_) (fun z => absurd z c9)
            refine ja_bipush C (-5) jd_X_pair_101 (by decide) ?_
            exact E jd_X_pair_103 ⟨_, _, rfl, by unfold jA_pair; rw [if_neg hf, if_neg hg, ec, ed, ehw]; refine ⟨rfl, ?_⟩; unfold jA_pair2; rw [if_neg c3]; exact ⟨fun z => absurd z (ho c9), fun _ => ⟨rfl, rfl⟩⟩, hk.jXP (r1.tr r7) (Nat.le_refl _)⟩
    · refine ja_aload_n C jd_X_pair_67 2 rfl ?_
      refine ja_aload C jd_X_pair_68 1 rfl ?_
      refine ja_aload C jd_X_pair_70 0 rfl ?_
      subst c3
      rcases Classical.em (((jT_k (jSt_T σ ta) = 1 ∨ jT_k (jSt_T σ ta) = 2) ∧ (jT_k (jSt_T σ tb) = 1 ∨ jT_k (jSt_T σ tb) = 2)) ∧ jT_S (jSt_T σ ta) (jT_k (jSt_T σ ta) - 1) = jT_S (jSt_T σ tb) 0) with c9 | c9
      · refine jo_qV 8 C X jk_X_133 h1.obj rfl (jx_matrix h1 hta ea htb eb c9) jd_X_pair_72 rfl rfl ⟨by decide, by decide⟩ (Nat.le_of_ble_eq_true rfl) (fun w2 hp2 => ?_)
        obtain ⟨f7, hf7, h2, r2⟩ := hp2
        refine ja_goto C 87 jd_X_pair_75 (by decide) ?_
        refine ja_istore C [(6, .int (nI 1)), (5, .ref ob), (4, .ref oa), (0, .ref x), (1, .int (nI 3)), (2, .int (nI ta)), (3, .int (nI tb))] jd_X_pair_87 (Nat.le_of_ble_eq_true rfl) rfl ?_
        refine ja_iload C jd_X_pair_89 0 rfl ?_
        refine ja_if_eqN C 101 jd_X_pair_91 (by decide) (by decide) (fun q => absurd q (by decide)) (fun _ => ?_)
        refine ja_aload_n C jd_X_pair_94 3 rfl ?_
        have hk := h2
        have n1 := d2 0 (by decide)
        rw [jx_mulN (n := jT_S (jSt_T σ tb) 0) n1.1 (by omega) b9 b10 d9 d10] at hk
        have hlo := jl_log_le (m := jT_S (jSt_T σ tb) 0) (by omega)
        have hS8 : jSh ((jT_k (jSt_T σ ta) - 1) + (jT_k (jSt_T σ tb) - 1)) f7 (fun j => if j < (jT_k (jSt_T σ ta) - 1) + (jT_k (jSt_T σ tb) - 1) then (if jT_k (jSt_T σ ta) = 2 ∧ j = 0 then jT_S (jSt_T σ ta) 0 else jT_S (jSt_T σ tb) 1) else 1) := ⟨by omega, fun j hj => by show _ = nI (if j < _ then _ else 1) ∧ 1 ≤ (if j < _ then _ else 1) ∧ (if j < _ then _ else 1) ≤ 8192; rw [if_pos hj]; refine ⟨hf7 j hj, ?_⟩; have := b2 0 (by decide); have := d2 1 (by decide); split <;> omega, fun j hj => if_neg (by omega)⟩
        refine jb_callVw (kc := 0) (ks := 0) (mc := 5) (ms := 25) 8 C X jk_X_83 h2.obj rfl (jx_keep (what := 43) (a := nI ta) (b := nI tb) (ul := (0, 0)) hk hS8 hct (by omega) (by omega) (jl_prod_lt _ _) (by omega)) jd_X_pair_95 rfl rfl ⟨by decide, by decide⟩ (Nat.le_of_ble_eq_true rfl) (fun v9 w9 z9 hp9 => ?_)
        obtain ⟨y9, σ9, e9, ha9, hq9⟩ := hp9
        rw [e9]
        refine ja_goto C 103 jd_X_pair_98 (by decide) ?_
        exact E jd_X_pair_103 ⟨y9, σ9, rfl, by unfold jA_pair; rw [if_neg hf, if_neg hg, ec, ed, ehw]; refine ⟨rfl, ?_⟩; unfold jA_pair2; rw [if_pos rfl]; exact ⟨fun _ => jB.ext ha9 (fun j hj => if_pos hj), fun z => absurd c9 z⟩, jXP.from (r1.tr r2) hq9⟩
      · refine jb_pV 8 C X jk_X_133 h1.obj rfl (jx_matrix0 h1 hta ea htb eb c9) jd_X_pair_72 rfl rfl ⟨by decide, by decide⟩ (Nat.le_of_ble_eq_true rfl) ?_
        refine ja_goto C 87 jd_X_pair_75 (by decide) ?_
        refine ja_istore C [(6, .int (nI 0)), (5, .ref ob), (4, .ref oa), (0, .ref x), (1, .int (nI 3)), (2, .int (nI ta)), (3, .int (nI tb))] jd_X_pair_87 (Nat.le_of_ble_eq_true rfl) rfl ?_
        refine ja_iload C jd_X_pair_89 0 rfl ?_
        refine ja_if_eqN C 101 jd_X_pair_91 (by decide) (by decide) (fun _ => ?_) (fun q => absurd q (by decide))
        refine ja_bipush C (-5) jd_X_pair_101 (by decide) ?_
        exact E jd_X_pair_103 ⟨_, _, rfl, by unfold jA_pair; rw [if_neg hf, if_neg hg, ec, ed, ehw]; refine ⟨rfl, ?_⟩; unfold jA_pair2; rw [if_pos rfl]; exact ⟨fun z => absurd z c9, fun _ => ⟨rfl, rfl⟩⟩, h1.jXP r1 (Nat.le_refl _)⟩
end X84
