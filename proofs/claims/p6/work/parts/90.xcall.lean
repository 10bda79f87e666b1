/-! THE CLASS: call -/
theorem jl_args_le (wt : Nat) : jl_args wt ≤ 2 := by
  unfold jl_args jl_wanted
  split
  · omega
  · split <;> omega
theorem jl_wanted_pos (wt : Nat) : 0 < jl_wanted wt := by unfold jl_wanted; split <;> omega
theorem jl_args_w {wt : Nat} (h : ¬ jl_args wt = 0) : jl_args wt = jl_wanted wt := by
  unfold jl_args at h ⊢
  split
  · rename_i z
    rw [if_pos z] at h
    exact absurd rfl h
  · rfl
theorem jl_most_le (wt : Nat) : jl_most wt ≤ 2 := by unfold jl_most; split; omega; split <;> omega
theorem jl_few_le (wt : Nat) : jl_few wt ≤ 2 := by unfold jl_few; split; omega; exact jl_most_le wt
theorem jl_many_iff {wt m : Nat} (hwt : wt < 19) : jl_many wt m = true ↔ jl_few wt ≤ m ∧ m ≤ jl_most wt := by
  match wt, hwt with
  | 0, _ => show decide (m = 0) = true ↔ 0 ≤ m ∧ m ≤ 0; rw [decide_eq_true_iff]; omega
  | 1, _ => show decide (m = 0) = true ↔ 0 ≤ m ∧ m ≤ 0; rw [decide_eq_true_iff]; omega
  | 2, _ => show decide (m = 0) = true ↔ 0 ≤ m ∧ m ≤ 0; rw [decide_eq_true_iff]; omega
  | 3, _ => show decide (m = 0) = true ↔ 0 ≤ m ∧ m ≤ 0; rw [decide_eq_true_iff]; omega
  | 4, _ => show decide (m = 0) = true ↔ 0 ≤ m ∧ m ≤ 0; rw [decide_eq_true_iff]; omega
  | 5, _ => show decide (m < 2) = true ↔ 0 ≤ m ∧ m ≤ 1; rw [decide_eq_true_iff]; omega
  | 6, _ => show decide (m < 2) = true ↔ 0 ≤ m ∧ m ≤ 1; rw [decide_eq_true_iff]; omega
  | 7, _ => show decide (m = 1) = true ↔ 1 ≤ m ∧ m ≤ 1; rw [decide_eq_true_iff]; omega
  | 8, _ => show decide (m = 1) = true ↔ 1 ≤ m ∧ m ≤ 1; rw [decide_eq_true_iff]; omega
  | 9, _ => show decide (m = 1) = true ↔ 1 ≤ m ∧ m ≤ 1; rw [decide_eq_true_iff]; omega
  | 10, _ => show decide (m = 1) = true ↔ 1 ≤ m ∧ m ≤ 1; rw [decide_eq_true_iff]; omega
  | 11, _ => show decide (m = 0) = true ↔ 0 ≤ m ∧ m ≤ 0; rw [decide_eq_true_iff]; omega
  | 12, _ => show decide (m = 0) = true ↔ 0 ≤ m ∧ m ≤ 0; rw [decide_eq_true_iff]; omega
  | 13, _ => show decide (m = 2) = true ↔ 2 ≤ m ∧ m ≤ 2; rw [decide_eq_true_iff]; omega
  | 14, _ => show decide (m = 0) = true ↔ 0 ≤ m ∧ m ≤ 0; rw [decide_eq_true_iff]; omega
  | 15, _ => show decide (m = 1) = true ↔ 1 ≤ m ∧ m ≤ 1; rw [decide_eq_true_iff]; omega
  | 16, _ => show decide (m = 0) = true ↔ 0 ≤ m ∧ m ≤ 0; rw [decide_eq_true_iff]; omega
  | 17, _ => show decide (m = 0) = true ↔ 0 ≤ m ∧ m ≤ 0; rw [decide_eq_true_iff]; omega
  | 18, _ => show decide (m = 0) = true ↔ 0 ≤ m ∧ m ≤ 0; rw [decide_eq_true_iff]; omega
  | wt + 19, z => omega
theorem jl_m1_neg {t : Nat} (h : t < 2 ^ 31) : -1 - nI t < 0 := by
  refine Int32.lt_iff_toInt_lt.mpr ?_
  have e1 : (nI t).toInt = (t : Int) := nI_toInt h
  rw [Int32.toInt_sub, e1]
  show (Int.bmod ((-1 : Int32).toInt - (t : Int)) (2 ^ 32)) < (0 : Int32).toInt
  have e2 : (-1 : Int32).toInt = -1 := by decide
  have e0 : (0 : Int32).toInt = 0 := by decide
  rw [e2, e0, Int.bmod_eq_of_le (by omega) (by omega)]
  omega
theorem jk_X_171 : jb_KV "MeasuredTensors" 171 jy_X_draftOfOne jc_X_draftOfOne 6 (some .boolean) 5 := ⟨jw_in (by decide +kernel) (by decide +kernel), jw_in (by decide +kernel) (by decide +kernel), jw_in (by decide +kernel) (by decide +kernel), jw_in (by decide +kernel) (by decide +kernel), jw_in (by decide +kernel) (by decide +kernel), by decide +kernel⟩
theorem jk_X_150 : jb_KS "MeasuredTensors" 150 jy_X_argumentsOf jc_X_argumentsOf 1 (some .int) 1 := ⟨jw_in (by decide +kernel) (by decide +kernel), jw_in (by decide +kernel) (by decide +kernel), jw_in (by decide +kernel) (by decide +kernel), jw_in (by decide +kernel) (by decide +kernel), by decide +kernel⟩
theorem jt9_157_52 : jx_ok "MeasuredTensors" 52 157 56 "java/lang/IllegalArgumentException" "no such call" ["java/lang/RuntimeException", "java/lang/Exception"] := ⟨by decide +kernel, by decide +kernel, jw_in (by decide +kernel) (by decide +kernel), jw_in (by decide +kernel) (by decide +kernel), by decide +kernel, by decide +kernel, by decide +kernel⟩
theorem jk_X_153 : jb_KS "MeasuredTensors" 153 jy_X_areWholeNumbers jc_X_areWholeNumbers 3 (some .boolean) 3 := ⟨jw_in (by decide +kernel) (by decide +kernel), jw_in (by decide +kernel) (by decide +kernel), jw_in (by decide +kernel) (by decide +kernel), jw_in (by decide +kernel) (by decide +kernel), by decide +kernel⟩
theorem jk_X_159 : jb_KV "MeasuredTensors" 159 jy_X_isThere jc_X_isThere 2 (some .boolean) 1 := ⟨jw_in (by decide +kernel) (by decide +kernel), jw_in (by decide +kernel) (by decide +kernel), jw_in (by decide +kernel) (by decide +kernel), jw_in (by decide +kernel) (by decide +kernel), jw_in (by decide +kernel) (by decide +kernel), by decide +kernel⟩
theorem jt9_163_126 : jx_ok "MeasuredTensors" 126 163 130 "java/lang/IndexOutOfBoundsException" "no such argument" ["java/lang/RuntimeException", "java/lang/Exception"] := ⟨by decide +kernel, by decide +kernel, jw_in (by decide +kernel) (by decide +kernel), jw_in (by decide +kernel) (by decide +kernel), by decide +kernel, by decide +kernel, by decide +kernel⟩
theorem jk_X_165 : jb_KS "MeasuredTensors" 165 jy_X_fewestNumbersOf jc_X_fewestNumbersOf 1 (some .int) 1 := ⟨jw_in (by decide +kernel) (by decide +kernel), jw_in (by decide +kernel) (by decide +kernel), jw_in (by decide +kernel) (by decide +kernel), jw_in (by decide +kernel) (by decide +kernel), by decide +kernel⟩
theorem jk_X_183 : jb_KV "MeasuredTensors" 183 jy_X_draftOfTwo jc_X_draftOfTwo 5 (some .boolean) 4 := ⟨jw_in (by decide +kernel) (by decide +kernel), jw_in (by decide +kernel) (by decide +kernel), jw_in (by decide +kernel) (by decide +kernel), jw_in (by decide +kernel) (by decide +kernel), jw_in (by decide +kernel) (by decide +kernel), by decide +kernel⟩
theorem jk_X_179 : jb_KV "MeasuredTensors" 179 jy_X_draftWithIndex jc_X_draftWithIndex 5 (some .boolean) 3 := ⟨jw_in (by decide +kernel) (by decide +kernel), jw_in (by decide +kernel) (by decide +kernel), jw_in (by decide +kernel) (by decide +kernel), jw_in (by decide +kernel) (by decide +kernel), jw_in (by decide +kernel) (by decide +kernel), by decide +kernel⟩
section X90
variable {l : Launch} {D : va_G} {H0 : Heap} {cI cJ cT cX : ClassId} {w : jb_W} {sz : Nat}
variable {x : Nat} {P : Nat → Prop} {σ : jSt} {dr : Nat} {F G : Nat → Option Nat} {own : Nat → Nat} {fT : Nat → Nat → Int32} {ls : Int32} {k : Nat} {f : Nat → Int32} {m : Int32 × Int32 × Int64} {tm : Int32}
theorem jx_call {wh nn a b mm xx yy : Int32} (hst : l.stackTraces = false) (h : jXd cI cT cX x P σ dr F G own fT ls w k f m tm) (hct : jSt_c σ < 512) : jb_T l jy_X_call jc_X_call 10 (some .int) 6 150 5 25 D H0 (jt_all cI cJ cT cX) [.ref x, .int wh, .int nn, .int a, .int b, .int mm, .int xx, .int yy] w sz
    (fun v w' sz' => ∃ (y : Int32) (σ' : jSt), v = some (.int y) ∧ jA_call σ wh nn a b mm xx yy y 0 σ' ∧ jXP cI cT cX x P w sz σ' w' sz') (fun E w' sz' => ((E = "java/lang/IllegalArgumentException" ∧ ∀ y, jA_call σ wh nn a b mm xx yy y 1 σ) ∨ (E = "java/lang/IndexOutOfBoundsException" ∧ ∀ y, jA_call σ wh nn a b mm xx yy y 2 σ)) ∧ jXP cI cT cX x P w sz σ w' sz') := by
  refine jb_methT_i hst (by decide) (Nat.le_of_ble_eq_true rfl) (fun u C X E TH => ?_)
  have hxd := h.xd
  have hcn := h.cn
  rcases Classical.em (wh < 0 ∨ 18 < wh) with hw | hw
  · refine ja_iload_n C jd_X_call_0 1 rfl ?_
    refine jb_pS 8 C X jk_X_150 (jx_argsN hw) jd_X_call_1 rfl rfl ⟨by decide, by decide⟩ (Nat.le_of_ble_eq_true rfl) ?_
    refine ja_if_eqN C 28 jd_X_call_4 (by decide) (by decide) (fun _ => ?_) (fun q => absurd q (by decide))
    exact TH jt9_157_52 jd_X_call_28 jd_X_call_31 jd_X_call_32 jd_X_call_34 jd_X_call_37 ⟨Nat.le_of_ble_eq_true rfl, Nat.le_of_ble_eq_true rfl⟩ (fun z9 hz9 => ⟨Or.inl ⟨rfl, fun y => ⟨fun _ => ⟨rfl, rfl⟩, fun z => absurd (hw.elim Or.inl (fun z => Or.inr (Or.inl z))) z, fun z => absurd (hw.elim Or.inl (fun z => Or.inr (Or.inl z))) z⟩⟩, h.jXP jXF.rf hz9⟩)
  · obtain ⟨wt, hwt, ew⟩ := nI_of2 (M := 18) (n := 18) (by decide) (fun z => hw (Or.inl z)) (k2_le (fun z => hw (Or.inr z)))
    subst ew
    have hal := jl_args_le wt
    have hml := jl_most_le wt
    have hfl := jl_few_le wt
    have bad : ∀ (hf : jl_wrong (nI wt) nn mm xx yy), ja (jb_mk l (jb_rm 6 150 5 25) 10 "MeasuredTensors" D H0 (jt_all cI cJ cT cX) u) w sz 5 25 28 [(0, .ref x), (1, .int (nI wt)), (2, .int nn), (3, .int a), (4, .int b), (5, .int mm), (6, .int xx), (7, .int yy)] [] := by
      intro hf
      exact TH jt9_157_52 jd_X_call_28 jd_X_call_31 jd_X_call_32 jd_X_call_34 jd_X_call_37 ⟨Nat.le_of_ble_eq_true rfl, Nat.le_of_ble_eq_true rfl⟩ (fun z9 hz9 => ⟨Or.inl ⟨rfl, fun y => ⟨fun _ => ⟨rfl, rfl⟩, fun z => absurd hf z, fun z => absurd hf z⟩⟩, h.jXP jXF.rf hz9⟩)
    refine ja_iload_n C jd_X_call_0 1 rfl ?_
    refine jb_pS 8 C X jk_X_150 (jx_argsOf (by omega)) jd_X_call_1 rfl rfl ⟨by decide, by decide⟩ (Nat.le_of_ble_eq_true rfl) ?_
    refine ja_if_eqN C 28 jd_X_call_4 (by decide) (by omega) (fun c0 => bad (Or.inr (Or.inr (Or.inl (by rw [jl_args0 c0]; rfl))))) (fun c0 => ?_)
    have c0 : ¬ jl_args wt = 0 := Nat.ne_of_gt c0
    refine ja_iload_n C jd_X_call_7 2 rfl ?_
    refine ja_if_lt C 28 jd_X_call_8 (by decide) (fun c1 => bad (Or.inr (Or.inr (Or.inr (Or.inl c1))))) (fun c1 => ?_)
    refine ja_iload_n C jd_X_call_11 2 rfl ?_
    refine ja_iconst C (nI 2) jd_X_call_12 (by decide) ?_
    refine ja_icmp_gt C 28 jd_X_call_13 (by decide) (fun c2 => bad (Or.inr (Or.inr (Or.inr (Or.inr (Or.inl c2)))))) (fun c2 => ?_)
    refine ja_iload C jd_X_call_16 5 rfl ?_
    refine ja_iload C jd_X_call_18 6 rfl ?_
    refine ja_iload C jd_X_call_20 7 rfl ?_
    refine jb_pS 8 C X jk_X_153 (jx_whole) jd_X_call_22 rfl rfl ⟨by decide, by decide⟩ (Nat.le_of_ble_eq_true rfl) ?_
    refine ja_if_neB C 38 jd_X_call_25 (by decide) (fun c3 => ?_) (fun c3 => bad (Or.inr (Or.inr (Or.inr (Or.inr (Or.inr (Classical.not_not.mp c3)))))))
    have hok : ¬ jl_wrong (nI wt) nn mm xx yy := by
      intro z
      unfold jl_wrong at z
      rcases z with z | z | z | z | z | z
      · exact nI_pos (by omega) z
      · have := (nI_ltI (a := 18) (b := wt) (by decide) (by omega)).mp z; omega
      · exact c0 (by rw [jl_nI (a := wt) (b := 11) (by omega) (by decide) z]; rfl)
      · exact c1 z
      · exact c2 z
      · exact c3 z
    obtain ⟨n9, hn9, en⟩ := nI_of2 (M := 2) (n := 2) (by decide) c1 (k2_le c2)
    obtain ⟨m9, hm9, em⟩ := nI_of2 (M := 2) (n := 2) (by decide) (fun z => c3 (Or.inl z)) (k2_le (fun z => c3 (Or.inr (Or.inl z))))
    clear bad
    subst en
    subst em
    have hxx : 0 < m9 → ¬ xx < 0 := fun z y => c3 (Or.inr (Or.inr (Or.inl ⟨(nI_ltI (a := 0) (b := m9) (by decide) (by omega)).mpr z, y⟩)))
    have hyy : 1 < m9 → ¬ yy < 0 := fun z y => c3 (Or.inr (Or.inr (Or.inr ⟨(nI_ltI (a := 1) (b := m9) (by decide) (by omega)).mpr z, y⟩)))
    have ewt : (nI wt).toNatClampNeg = wt := nI_clamp (by omega)
    have en9 : (nI n9).toNatClampNeg = n9 := nI_clamp (by omega)
    have em9 : (nI m9).toNatClampNeg = m9 := nI_clamp (by omega)
    have hNO : ¬ jl_gone σ (nI n9) a b → ¬ jl_goes wt n9 a b m9 → jA_call σ (nI wt) (nI n9) a b (nI m9) xx yy (-5) 0 σ := fun hg hn => ⟨fun z => absurd z hok, fun _ z => absurd z hg, fun _ _ => ⟨rfl, by rw [ewt, en9, em9]; exact ⟨fun z => absurd z hn, fun _ => ⟨rfl, rfl⟩⟩⟩⟩
    have hYES : ¬ jl_gone σ (nI n9) a b → jl_goes wt n9 a b m9 → ∀ y σ', jA_apply σ wt a.toNatClampNeg b m9 xx yy y σ' → jA_call σ (nI wt) (nI n9) a b (nI m9) xx yy y 0 σ' := fun hg hn y σ' q => ⟨fun z => absurd z hok, fun _ z => absurd z hg, fun _ _ => ⟨rfl, by rw [ewt, en9, em9]; exact ⟨fun _ => q, fun z => absurd hn z⟩⟩⟩
    have hGO : jl_gone σ (nI n9) a b → ∀ y, jA_call σ (nI wt) (nI n9) a b (nI m9) xx yy y 2 σ := fun hg y => ⟨fun z => absurd z hok, fun _ _ => ⟨rfl, rfl⟩, fun _ z => absurd hg z⟩
    rcases (show n9 = 0 ∨ n9 = 1 ∨ n9 = 2 by omega) with e | e | e
    · subst e
      have hg : ¬ jl_gone σ (nI 0) a b := fun z => z.elim (fun z => absurd z.1 (by decide)) (fun z => absurd z.1 (by decide))
      refine ja_iload_n C jd_X_call_38 2 rfl ?_
      refine ja_if_leN C 50 jd_X_call_39 (by decide) (by decide) (fun _ => ?_) (fun q => absurd q (by decide))
      refine ja_iload_n C jd_X_call_50 2 rfl ?_
      refine ja_iconst C (nI 1) jd_X_call_51 (by decide) ?_
      refine ja_icmp_leN C 74 jd_X_call_52 (by decide) (by decide) (by decide) (fun _ => ?_) (fun q => absurd q (by decide))
      refine ja_aload_n C jd_X_call_74 0 rfl ?_
      refine ja_iload_n C jd_X_call_75 3 rfl ?_
      rcases Classical.em (a < 0 ∨ nI (jSt_c σ) ≤ a) with a0 | a0
      · refine jb_pV 8 C X jk_X_122 h.obj rfl (jx_tensorAtN h a0) jd_X_call_76 rfl rfl ⟨by decide, by decide⟩ (Nat.le_of_ble_eq_true rfl) ?_
        refine ja_astoreN C [(8, .null), (0, .ref x), (1, .int (nI wt)), (2, .int (nI 0)), (3, .int a), (4, .int b), (5, .int (nI m9)), (6, .int xx), (7, .int yy)] jd_X_call_79 (Nat.le_of_ble_eq_true rfl) rfl ?_
        refine ja_iload_n C jd_X_call_81 3 rfl ?_
        refine ja_iload_n C jd_X_call_82 2 rfl ?_
        refine jb_pS 8 C X jk_X_150 (jx_argsOf (by omega)) jd_X_call_83 rfl rfl ⟨by decide, by decide⟩ (Nat.le_of_ble_eq_true rfl) ?_
        refine ja_icmp_neN C 112 jd_X_call_86 (by decide) (by decide) (by omega) (fun c4 => ?_) (fun c4 => ?_)
        · refine ja_bipush C (-5) jd_X_call_112 (by decide) ?_
          exact E jd_X_call_114 ⟨_, _, rfl, hNO hg (fun z => absurd z.1 (Nat.ne_of_lt (jl_wanted_pos wt))), h.jXP jXF.rf (Nat.le_refl _)⟩
        · exact absurd c4.symm c0
      · obtain ⟨t, ht, et, ec⟩ := jl_ten hcn.1 a0
        obtain ⟨tk, oa, ea, -⟩ := h.2.2.2.2.2.2.2.1 t ht
        subst et
        refine jb_pV 8 C X jk_X_122 h.obj rfl (jx_tensorAt h ht ea) jd_X_call_76 rfl rfl ⟨by decide, by decide⟩ (Nat.le_of_ble_eq_true rfl) ?_
        refine ja_astore C [(8, .ref oa), (0, .ref x), (1, .int (nI wt)), (2, .int (nI 0)), (3, .int (nI t)), (4, .int b), (5, .int (nI m9)), (6, .int xx), (7, .int yy)] jd_X_call_79 (Nat.le_of_ble_eq_true rfl) rfl ?_
        refine ja_iload_n C jd_X_call_81 3 rfl ?_
        refine ja_iload_n C jd_X_call_82 2 rfl ?_
        refine jb_pS 8 C X jk_X_150 (jx_argsOf (by omega)) jd_X_call_83 rfl rfl ⟨by decide, by decide⟩ (Nat.le_of_ble_eq_true rfl) ?_
        refine ja_icmp_neN C 112 jd_X_call_86 (by decide) (by decide) (by omega) (fun c4 => ?_) (fun c4 => ?_)
        · refine ja_bipush C (-5) jd_X_call_112 (by decide) ?_
          exact E jd_X_call_114 ⟨_, _, rfl, hNO hg (fun z => absurd z.1 (Nat.ne_of_lt (jl_wanted_pos wt))), h.jXP jXF.rf (Nat.le_refl _)⟩
        · exact absurd c4.symm c0
    · subst e
      rcases Classical.em (jl_none σ a) with na | na
      · refine ja_iload_n C jd_X_call_38 2 rfl ?_
        refine ja_if_leN C 50 jd_X_call_39 (by decide) (by decide) (fun q => absurd q (by decide)) (fun _ => ?_)
        refine ja_aload_n C jd_X_call_42 0 rfl ?_
        refine ja_iload_n C jd_X_call_43 3 rfl ?_
        refine jb_pV 8 C X jk_X_159 h.obj rfl (jx_isThere0 h na) jd_X_call_44 rfl rfl ⟨by decide, by decide⟩ (Nat.le_of_ble_eq_true rfl) ?_
        refine ja_if_eqN C 64 jd_X_call_47 (by decide) (by decide) (fun _ => ?_) (fun q => absurd q (by decide))
        exact TH jt9_163_126 jd_X_call_64 jd_X_call_67 jd_X_call_68 jd_X_call_70 jd_X_call_73 ⟨Nat.le_of_ble_eq_true rfl, Nat.le_of_ble_eq_true rfl⟩ (fun z9 hz9 => ⟨Or.inr ⟨rfl, fun y => hGO (Or.inl ⟨by decide, na⟩) y⟩, h.jXP jXF.rf hz9⟩)
      · refine ja_iload_n C jd_X_call_38 2 rfl ?_
        refine ja_if_leN C 50 jd_X_call_39 (by decide) (by decide) (fun q => absurd q (by decide)) (fun _ => ?_)
        refine ja_aload_n C jd_X_call_42 0 rfl ?_
        refine ja_iload_n C jd_X_call_43 3 rfl ?_
        refine jb_pV 8 C X jk_X_159 h.obj rfl (jx_isThere1 h na) jd_X_call_44 rfl rfl ⟨by decide, by decide⟩ (Nat.le_of_ble_eq_true rfl) ?_
        refine ja_if_eqN C 64 jd_X_call_47 (by decide) (by decide) (fun q => absurd q (by decide)) (fun _ => ?_)
        refine ja_iload_n C jd_X_call_50 2 rfl ?_
        refine ja_iconst C (nI 1) jd_X_call_51 (by decide) ?_
        refine ja_icmp_leN C 74 jd_X_call_52 (by decide) (by decide) (by decide) (fun _ => ?_) (fun q => absurd q (by decide))
        refine ja_aload_n C jd_X_call_74 0 rfl ?_
        refine ja_iload_n C jd_X_call_75 3 rfl ?_
        have hg : ¬ jl_gone σ (nI 1) a b := fun z => z.elim (fun z => na z.2) (fun z => absurd z.1 (by decide))
        rcases Classical.em (a < 0) with a0 | a0
        · have hng : ¬ jl_goes wt 1 a b m9 := fun z => k2_nle a0 z.2.1
          refine jb_pV 8 C X jk_X_122 h.obj rfl (jx_tensorAtN h (Or.inl a0)) jd_X_call_76 rfl rfl ⟨by decide, by decide⟩ (Nat.le_of_ble_eq_true rfl) ?_
          refine ja_astoreN C [(8, .null), (0, .ref x), (1, .int (nI wt)), (2, .int (nI 1)), (3, .int a), (4, .int b), (5, .int (nI m9)), (6, .int xx), (7, .int yy)] jd_X_call_79 (Nat.le_of_ble_eq_true rfl) rfl ?_
          refine ja_iload_n C jd_X_call_81 3 rfl ?_
          refine ja_iload_n C jd_X_call_82 2 rfl ?_
          have no : ∀ (hn : ¬ jl_goes wt 1 a b m9), ja (jb_mk l (jb_rm 6 150 5 25) 10 "MeasuredTensors" D H0 (jt_all cI cJ cT cX) u) w sz 5 25 112 [(8, .null), (0, .ref x), (1, .int (nI wt)), (2, .int (nI 1)), (3, .int a), (4, .int b), (5, .int (nI m9)), (6, .int xx), (7, .int yy)] [] := by
            intro hn
            refine ja_bipush C (-5) jd_X_call_112 (by decide) ?_
            exact E jd_X_call_114 ⟨_, _, rfl, hNO hg hn, h.jXP jXF.rf (Nat.le_refl _)⟩
          refine jb_pS 8 C X jk_X_150 (jx_argsOf (by omega)) jd_X_call_83 rfl rfl ⟨by decide, by decide⟩ (Nat.le_of_ble_eq_true rfl) ?_
          refine ja_icmp_neN C 112 jd_X_call_86 (by decide) (by decide) (by omega) (fun c4 => no (hng)) (fun c4 => ?_)
          refine ja_iload C jd_X_call_89 6 rfl ?_
          refine ja_iload_n C jd_X_call_91 2 rfl ?_
          refine jb_pS 8 C X jk_X_165 (jx_few (by omega)) jd_X_call_92 rfl rfl ⟨by decide, by decide⟩ (Nat.le_of_ble_eq_true rfl) ?_
          refine ja_icmp_ltN C 112 jd_X_call_95 (by decide) (by omega) (by omega) (fun c5 => no (hng)) (fun c5 => ?_)
          refine ja_iload C jd_X_call_98 6 rfl ?_
          refine ja_iload_n C jd_X_call_100 2 rfl ?_
          refine jb_pS 8 C X jk_X_168 (jx_most (by omega)) jd_X_call_101 rfl rfl ⟨by decide, by decide⟩ (Nat.le_of_ble_eq_true rfl) ?_
          refine ja_icmp_gtN C 112 jd_X_call_104 (by decide) (by omega) (by omega) (fun c6 => no (hng)) (fun c6 => ?_)
          refine ja_aloadN C jd_X_call_107 0 rfl ?_
          refine ja_ifnonnullN C jd_X_call_109 ?_
          refine ja_bipush C (-5) jd_X_call_112 (by decide) ?_
          exact E jd_X_call_114 ⟨_, _, rfl, hNO hg hng, h.jXP jXF.rf (Nat.le_refl _)⟩
        · obtain ⟨t, ht, et⟩ := jl_tens (by omega) a0 na
          obtain ⟨tk, oa, ea, -⟩ := h.2.2.2.2.2.2.2.1 t ht
          have k4 := (h.ts ht).1
          subst et
          refine jb_pV 8 C X jk_X_122 h.obj rfl (jx_tensorAt h ht ea) jd_X_call_76 rfl rfl ⟨by decide, by decide⟩ (Nat.le_of_ble_eq_true rfl) ?_
          refine ja_astore C [(8, .ref oa), (0, .ref x), (1, .int (nI wt)), (2, .int (nI 1)), (3, .int (nI t)), (4, .int b), (5, .int (nI m9)), (6, .int xx), (7, .int yy)] jd_X_call_79 (Nat.le_of_ble_eq_true rfl) rfl ?_
          refine ja_iload_n C jd_X_call_81 3 rfl ?_
          refine ja_iload_n C jd_X_call_82 2 rfl ?_
          have no : ∀ (hn : ¬ jl_goes wt 1 (nI t) b m9), ja (jb_mk l (jb_rm 6 150 5 25) 10 "MeasuredTensors" D H0 (jt_all cI cJ cT cX) u) w sz 5 25 112 [(8, .ref oa), (0, .ref x), (1, .int (nI wt)), (2, .int (nI 1)), (3, .int (nI t)), (4, .int b), (5, .int (nI m9)), (6, .int xx), (7, .int yy)] [] := by
            intro hn
            refine ja_bipush C (-5) jd_X_call_112 (by decide) ?_
            exact E jd_X_call_114 ⟨_, _, rfl, hNO hg hn, h.jXP jXF.rf (Nat.le_refl _)⟩
          refine jb_pS 8 C X jk_X_150 (jx_argsOf (by omega)) jd_X_call_83 rfl rfl ⟨by decide, by decide⟩ (Nat.le_of_ble_eq_true rfl) ?_
          refine ja_icmp_neN C 112 jd_X_call_86 (by decide) (by decide) (by omega) (fun c4 => no (fun z => c4 (z.1.trans (jl_args_w c0).symm))) (fun c4 => ?_)
          refine ja_iload C jd_X_call_89 6 rfl ?_
          refine ja_iload_n C jd_X_call_91 2 rfl ?_
          refine jb_pS 8 C X jk_X_165 (jx_few (by omega)) jd_X_call_92 rfl rfl ⟨by decide, by decide⟩ (Nat.le_of_ble_eq_true rfl) ?_
          refine ja_icmp_ltN C 112 jd_X_call_95 (by decide) (by omega) (by omega) (fun c5 => no (fun z => absurd ((jl_many_iff (by omega)).mp z.2.2.2).1 (by omega))) (fun c5 => ?_)
          refine ja_iload C jd_X_call_98 6 rfl ?_
          refine ja_iload_n C jd_X_call_100 2 rfl ?_
          refine jb_pS 8 C X jk_X_168 (jx_most (by omega)) jd_X_call_101 rfl rfl ⟨by decide, by decide⟩ (Nat.le_of_ble_eq_true rfl) ?_
          refine ja_icmp_gtN C 112 jd_X_call_104 (by decide) (by omega) (by omega) (fun c6 => no (fun z => absurd ((jl_many_iff (by omega)).mp z.2.2.2).2 (by omega))) (fun c6 => ?_)
          refine ja_aload C jd_X_call_107 0 rfl ?_
          refine ja_ifnonnull C 115 jd_X_call_109 (by decide) ?_
          refine ja_aload_n C jd_X_call_115 1 rfl ?_
          refine ja_get C jg_X_32 jd_X_call_116 h.obj rfl ?_
          refine ja_iload_n C jd_X_call_119 4 rfl ?_
          refine ja_iload_n C jd_X_call_120 3 rfl ?_
          refine ja_iconst C (nI 2) jd_X_call_121 (by decide) ?_
          refine ja_icmp_neN C 135 jd_X_call_122 (by decide) (by decide) (by decide) (fun _ => ?_) (fun q => absurd q (by decide))
          refine ja_iconst C (-1) jd_X_call_135 (by decide) ?_
          obtain ⟨fs1, hb1⟩ := h.d.z0
          refine jo_vV 8 C X jk_X_65 hb1 rfl (jt_start h.d) jd_X_call_136 rfl rfl ⟨by decide, by decide⟩ (Nat.le_of_ble_eq_true rfl) (fun w1 hp1 => ?_)
          obtain ⟨z1, f1⟩ := hp1
          obtain ⟨h1, r1⟩ := h.upd (by omega) z1 f1
          refine ja_aload_n C jd_X_call_139 1 rfl ?_
          refine ja_get C jg_X_32 jd_X_call_140 h1.obj rfl ?_
          refine ja_aload C jd_X_call_143 0 rfl ?_
          obtain ⟨fs2, hb2⟩ := h1.d.z0
          refine jo_vV 8 C X jk_X_141 hb2 rfl (jt_resemble h1.d (h1.tz ht ea) (h1.ts ht) (h1.ap ea)) jd_X_call_145 rfl rfl ⟨by decide, by decide⟩ (Nat.le_of_ble_eq_true rfl) (fun w2 hp2 => ?_)
          obtain ⟨⟨f7, z2, hS7⟩, f2⟩ := hp2
          obtain ⟨h2, r2⟩ := h1.upd (by omega) z2 f2
          refine ja_iload_n C jd_X_call_148 3 rfl ?_
          refine ja_iconst C (nI 1) jd_X_call_149 (by decide) ?_
          refine ja_icmp_neN C 171 jd_X_call_150 (by decide) (by decide) (by decide) (fun q => absurd q (by decide)) (fun _ => ?_)
          refine ja_aload_n C jd_X_call_153 1 rfl ?_
          refine ja_iload_n C jd_X_call_154 2 rfl ?_
          refine ja_aload C jd_X_call_155 0 rfl ?_
          refine ja_iload C jd_X_call_157 6 rfl ?_
          refine ja_iload C jd_X_call_159 7 rfl ?_
          refine ja_iload C jd_X_call_161 8 rfl ?_
          refine jb_callVw (kc := 5) (ks := 25) (mc := 0) (ms := 0) 8 C X jk_X_171 h2.obj rfl (jx_draft1 (b := b) (xx := xx) (yy := yy) h2 hS7 ht ea (by omega) (by omega) (by omega) (by omega) hxx hyy) jd_X_call_163 rfl rfl ⟨by decide, by decide⟩ (Nat.le_of_ble_eq_true rfl) (fun vA wA zA hpA => ?_)
          obtain ⟨hkA, rA, ezA⟩ := hpA
          rw [ezA]
          have hgo : jl_goes wt 1 (nI t) b m9 := ⟨by have := jl_args_w c0; omega, (k2_le (nI_pos (by omega))), Or.inl rfl, (jl_many_iff (by omega)).mpr ⟨by omega, by omega⟩⟩
          rcases hkA with ⟨ev, k9, f9, S9, rr9, ee9, qq9, ad9, wh9, a9, b9, hx9, hS9, g1, g2, g3, g4, g5⟩ | ⟨ev, ⟨k9, f9, m8, t9, hx9⟩, g5⟩
          · rw [ev]
            have hR := (r1.tr r2)
            refine ja_istore C [(9, .int (nI 1)), (8, .ref oa), (0, .ref x), (1, .int (nI wt)), (2, .int (nI 1)), (3, .int (nI t)), (4, .int b), (5, .int (nI m9)), (6, .int xx), (7, .int yy)] jd_X_call_166 (Nat.le_of_ble_eq_true rfl) rfl ?_
            refine ja_goto C 220 jd_X_call_168 (by decide) ?_
            refine ja_iload C jd_X_call_220 0 rfl ?_
            refine ja_if_eqN C 232 jd_X_call_222 (by decide) (by decide) (fun q => absurd q (by decide)) (fun _ => ?_)
            refine ja_aload_n C jd_X_call_225 2 rfl ?_
            refine jb_callVw (kc := 0) (ks := 0) (mc := 5) (ms := 25) 8 C X jk_X_83 hx9.obj rfl (jx_keep (what := wh9) (a := a9) (b := b9) (ul := (0, 0)) hx9 hS9 hct g1 g2 g3 g4) jd_X_call_226 rfl rfl ⟨by decide, by decide⟩ (Nat.le_of_ble_eq_true rfl) (fun v9 w9 z9 hp9 => ?_)
            obtain ⟨y9, σ9, e9, ha9, hq9⟩ := hp9
            rw [e9]
            refine ja_goto C 234 jd_X_call_229 (by decide) ?_
            exact E jd_X_call_234 ⟨y9, σ9, rfl, hYES hg hgo y9 σ9 (by rw [nI_clamp (by omega)]; exact g5 y9 σ9 ha9), jXP.from (hR.tr rA) hq9⟩
          · rw [ev]
            have hR := (r1.tr r2)
            refine ja_istore C [(9, .int (nI 0)), (8, .ref oa), (0, .ref x), (1, .int (nI wt)), (2, .int (nI 1)), (3, .int (nI t)), (4, .int b), (5, .int (nI m9)), (6, .int xx), (7, .int yy)] jd_X_call_166 (Nat.le_of_ble_eq_true rfl) rfl ?_
            refine ja_goto C 220 jd_X_call_168 (by decide) ?_
            refine ja_iload C jd_X_call_220 0 rfl ?_
            refine ja_if_eqN C 232 jd_X_call_222 (by decide) (by decide) (fun _ => ?_) (fun q => absurd q (by decide))
            refine ja_bipush C (-5) jd_X_call_232 (by decide) ?_
            exact E jd_X_call_234 ⟨_, _, rfl, hYES hg hgo _ _ (by rw [nI_clamp (by omega)]; exact g5), hx9.jXP (hR.tr rA) (Nat.le_refl _)⟩
    · subst e
      rcases Classical.em (jl_none σ a) with na | na
      · refine ja_iload_n C jd_X_call_38 2 rfl ?_
        refine ja_if_leN C 50 jd_X_call_39 (by decide) (by decide) (fun q => absurd q (by decide)) (fun _ => ?_)
        refine ja_aload_n C jd_X_call_42 0 rfl ?_
        refine ja_iload_n C jd_X_call_43 3 rfl ?_
        refine jb_pV 8 C X jk_X_159 h.obj rfl (jx_isThere0 h na) jd_X_call_44 rfl rfl ⟨by decide, by decide⟩ (Nat.le_of_ble_eq_true rfl) ?_
        refine ja_if_eqN C 64 jd_X_call_47 (by decide) (by decide) (fun _ => ?_) (fun q => absurd q (by decide))
        exact TH jt9_163_126 jd_X_call_64 jd_X_call_67 jd_X_call_68 jd_X_call_70 jd_X_call_73 ⟨Nat.le_of_ble_eq_true rfl, Nat.le_of_ble_eq_true rfl⟩ (fun z9 hz9 => ⟨Or.inr ⟨rfl, fun y => hGO (Or.inl ⟨by decide, na⟩) y⟩, h.jXP jXF.rf hz9⟩)
      · refine ja_iload_n C jd_X_call_38 2 rfl ?_
        refine ja_if_leN C 50 jd_X_call_39 (by decide) (by decide) (fun q => absurd q (by decide)) (fun _ => ?_)
        refine ja_aload_n C jd_X_call_42 0 rfl ?_
        refine ja_iload_n C jd_X_call_43 3 rfl ?_
        refine jb_pV 8 C X jk_X_159 h.obj rfl (jx_isThere1 h na) jd_X_call_44 rfl rfl ⟨by decide, by decide⟩ (Nat.le_of_ble_eq_true rfl) ?_
        refine ja_if_eqN C 64 jd_X_call_47 (by decide) (by decide) (fun q => absurd q (by decide)) (fun _ => ?_)
        refine ja_iload_n C jd_X_call_50 2 rfl ?_
        refine ja_iconst C (nI 1) jd_X_call_51 (by decide) ?_
        refine ja_icmp_leN C 74 jd_X_call_52 (by decide) (by decide) (by decide) (fun q => absurd q (by decide)) (fun _ => ?_)
        refine ja_aload_n C jd_X_call_55 0 rfl ?_
        refine ja_iload C jd_X_call_56 4 rfl ?_
        rcases Classical.em (jl_none σ b) with nb | nb
        · refine jb_pV 8 C X jk_X_159 h.obj rfl (jx_isThere0 h nb) jd_X_call_58 rfl rfl ⟨by decide, by decide⟩ (Nat.le_of_ble_eq_true rfl) ?_
          refine ja_if_neN C 74 jd_X_call_61 (by decide) (by decide) (fun q => absurd q (by decide)) (fun _ => ?_)
          exact TH jt9_163_126 jd_X_call_64 jd_X_call_67 jd_X_call_68 jd_X_call_70 jd_X_call_73 ⟨Nat.le_of_ble_eq_true rfl, Nat.le_of_ble_eq_true rfl⟩ (fun z9 hz9 => ⟨Or.inr ⟨rfl, fun y => hGO (Or.inr ⟨by decide, nb⟩) y⟩, h.jXP jXF.rf hz9⟩)
        · refine jb_pV 8 C X jk_X_159 h.obj rfl (jx_isThere1 h nb) jd_X_call_58 rfl rfl ⟨by decide, by decide⟩ (Nat.le_of_ble_eq_true rfl) ?_
          refine ja_if_neN C 74 jd_X_call_61 (by decide) (by decide) (fun _ => ?_) (fun q => absurd q (by decide))
          refine ja_aload_n C jd_X_call_74 0 rfl ?_
          refine ja_iload_n C jd_X_call_75 3 rfl ?_
          have hg : ¬ jl_gone σ (nI 2) a b := fun z => z.elim (fun z => na z.2) (fun z => nb z.2)
          rcases Classical.em (a < 0) with a0 | a0
          · have hng : ¬ jl_goes wt 2 a b m9 := fun z => k2_nle a0 z.2.1
            refine jb_pV 8 C X jk_X_122 h.obj rfl (jx_tensorAtN h (Or.inl a0)) jd_X_call_76 rfl rfl ⟨by decide, by decide⟩ (Nat.le_of_ble_eq_true rfl) ?_
            refine ja_astoreN C [(8, .null), (0, .ref x), (1, .int (nI wt)), (2, .int (nI 2)), (3, .int a), (4, .int b), (5, .int (nI m9)), (6, .int xx), (7, .int yy)] jd_X_call_79 (Nat.le_of_ble_eq_true rfl) rfl ?_
            refine ja_iload_n C jd_X_call_81 3 rfl ?_
            refine ja_iload_n C jd_X_call_82 2 rfl ?_
            have no : ∀ (hn : ¬ jl_goes wt 2 a b m9), ja (jb_mk l (jb_rm 6 150 5 25) 10 "MeasuredTensors" D H0 (jt_all cI cJ cT cX) u) w sz 5 25 112 [(8, .null), (0, .ref x), (1, .int (nI wt)), (2, .int (nI 2)), (3, .int a), (4, .int b), (5, .int (nI m9)), (6, .int xx), (7, .int yy)] [] := by
              intro hn
              refine ja_bipush C (-5) jd_X_call_112 (by decide) ?_
              exact E jd_X_call_114 ⟨_, _, rfl, hNO hg hn, h.jXP jXF.rf (Nat.le_refl _)⟩
            refine jb_pS 8 C X jk_X_150 (jx_argsOf (by omega)) jd_X_call_83 rfl rfl ⟨by decide, by decide⟩ (Nat.le_of_ble_eq_true rfl) ?_
            refine ja_icmp_neN C 112 jd_X_call_86 (by decide) (by decide) (by omega) (fun c4 => no (hng)) (fun c4 => ?_)
            refine ja_iload C jd_X_call_89 6 rfl ?_
            refine ja_iload_n C jd_X_call_91 2 rfl ?_
            refine jb_pS 8 C X jk_X_165 (jx_few (by omega)) jd_X_call_92 rfl rfl ⟨by decide, by decide⟩ (Nat.le_of_ble_eq_true rfl) ?_
            refine ja_icmp_ltN C 112 jd_X_call_95 (by decide) (by omega) (by omega) (fun c5 => no (hng)) (fun c5 => ?_)
            refine ja_iload C jd_X_call_98 6 rfl ?_
            refine ja_iload_n C jd_X_call_100 2 rfl ?_
            refine jb_pS 8 C X jk_X_168 (jx_most (by omega)) jd_X_call_101 rfl rfl ⟨by decide, by decide⟩ (Nat.le_of_ble_eq_true rfl) ?_
            refine ja_icmp_gtN C 112 jd_X_call_104 (by decide) (by omega) (by omega) (fun c6 => no (hng)) (fun c6 => ?_)
            refine ja_aloadN C jd_X_call_107 0 rfl ?_
            refine ja_ifnonnullN C jd_X_call_109 ?_
            refine ja_bipush C (-5) jd_X_call_112 (by decide) ?_
            exact E jd_X_call_114 ⟨_, _, rfl, hNO hg hng, h.jXP jXF.rf (Nat.le_refl _)⟩
          · obtain ⟨t, ht, et⟩ := jl_tens (by omega) a0 na
            obtain ⟨tk, oa, ea, -⟩ := h.2.2.2.2.2.2.2.1 t ht
            have k4 := (h.ts ht).1
            subst et
            refine jb_pV 8 C X jk_X_122 h.obj rfl (jx_tensorAt h ht ea) jd_X_call_76 rfl rfl ⟨by decide, by decide⟩ (Nat.le_of_ble_eq_true rfl) ?_
            rcases Classical.em (b < 0) with b0 | b0
            · obtain ⟨i, hi, eb9⟩ := jl_indx (by omega) b0 nb
              obtain ⟨ib, fi, ei, -⟩ := h.2.2.2.2.2.2.2.2.2.2.1 i hi
              refine ja_astore C [(8, .ref oa), (0, .ref x), (1, .int (nI wt)), (2, .int (nI 2)), (3, .int (nI t)), (4, .int b), (5, .int (nI m9)), (6, .int xx), (7, .int yy)] jd_X_call_79 (Nat.le_of_ble_eq_true rfl) rfl ?_
              refine ja_iload_n C jd_X_call_81 3 rfl ?_
              refine ja_iload_n C jd_X_call_82 2 rfl ?_
              have no : ∀ (hn : ¬ jl_goes wt 2 (nI t) b m9), ja (jb_mk l (jb_rm 6 150 5 25) 10 "MeasuredTensors" D H0 (jt_all cI cJ cT cX) u) w sz 5 25 112 [(8, .ref oa), (0, .ref x), (1, .int (nI wt)), (2, .int (nI 2)), (3, .int (nI t)), (4, .int b), (5, .int (nI m9)), (6, .int xx), (7, .int yy)] [] := by
                intro hn
                refine ja_bipush C (-5) jd_X_call_112 (by decide) ?_
                exact E jd_X_call_114 ⟨_, _, rfl, hNO hg hn, h.jXP jXF.rf (Nat.le_refl _)⟩
              refine jb_pS 8 C X jk_X_150 (jx_argsOf (by omega)) jd_X_call_83 rfl rfl ⟨by decide, by decide⟩ (Nat.le_of_ble_eq_true rfl) ?_
              refine ja_icmp_neN C 112 jd_X_call_86 (by decide) (by decide) (by omega) (fun c4 => no (fun z => c4 (z.1.trans (jl_args_w c0).symm))) (fun c4 => ?_)
              refine ja_iload C jd_X_call_89 6 rfl ?_
              refine ja_iload_n C jd_X_call_91 2 rfl ?_
              refine jb_pS 8 C X jk_X_165 (jx_few (by omega)) jd_X_call_92 rfl rfl ⟨by decide, by decide⟩ (Nat.le_of_ble_eq_true rfl) ?_
              refine ja_icmp_ltN C 112 jd_X_call_95 (by decide) (by omega) (by omega) (fun c5 => no (fun z => absurd ((jl_many_iff (by omega)).mp z.2.2.2).1 (by omega))) (fun c5 => ?_)
              refine ja_iload C jd_X_call_98 6 rfl ?_
              refine ja_iload_n C jd_X_call_100 2 rfl ?_
              refine jb_pS 8 C X jk_X_168 (jx_most (by omega)) jd_X_call_101 rfl rfl ⟨by decide, by decide⟩ (Nat.le_of_ble_eq_true rfl) ?_
              refine ja_icmp_gtN C 112 jd_X_call_104 (by decide) (by omega) (by omega) (fun c6 => no (fun z => absurd ((jl_many_iff (by omega)).mp z.2.2.2).2 (by omega))) (fun c6 => ?_)
              refine ja_aload C jd_X_call_107 0 rfl ?_
              refine ja_ifnonnull C 115 jd_X_call_109 (by decide) ?_
              refine ja_aload_n C jd_X_call_115 1 rfl ?_
              refine ja_get C jg_X_32 jd_X_call_116 h.obj rfl ?_
              refine ja_iload_n C jd_X_call_119 4 rfl ?_
              refine ja_iload_n C jd_X_call_120 3 rfl ?_
              refine ja_iconst C (nI 2) jd_X_call_121 (by decide) ?_
              refine ja_icmp_neN C 135 jd_X_call_122 (by decide) (by decide) (by decide) (fun q => absurd q (by decide)) (fun _ => ?_)
              refine ja_iload C jd_X_call_125 5 rfl ?_
              refine ja_if_lt C 135 jd_X_call_127 (by decide) (fun c9 => ?_) (fun c9 => absurd b0 c9)
              refine ja_iconst C (-1) jd_X_call_135 (by decide) ?_
              obtain ⟨fs3, hb3⟩ := h.d.z0
              refine jo_vV 8 C X jk_X_65 hb3 rfl (jt_start h.d) jd_X_call_136 rfl rfl ⟨by decide, by decide⟩ (Nat.le_of_ble_eq_true rfl) (fun w3 hp3 => ?_)
              obtain ⟨z3, f3⟩ := hp3
              obtain ⟨h3, r3⟩ := h.upd (by omega) z3 f3
              refine ja_aload_n C jd_X_call_139 1 rfl ?_
              refine ja_get C jg_X_32 jd_X_call_140 h3.obj rfl ?_
              refine ja_aload C jd_X_call_143 0 rfl ?_
              obtain ⟨fs4, hb4⟩ := h3.d.z0
              refine jo_vV 8 C X jk_X_141 hb4 rfl (jt_resemble h3.d (h3.tz ht ea) (h3.ts ht) (h3.ap ea)) jd_X_call_145 rfl rfl ⟨by decide, by decide⟩ (Nat.le_of_ble_eq_true rfl) (fun w4 hp4 => ?_)
              obtain ⟨⟨f7, z4, hS7⟩, f4⟩ := hp4
              obtain ⟨h4, r4⟩ := h3.upd (by omega) z4 f4
              refine ja_iload_n C jd_X_call_148 3 rfl ?_
              refine ja_iconst C (nI 1) jd_X_call_149 (by decide) ?_
              refine ja_icmp_neN C 171 jd_X_call_150 (by decide) (by decide) (by decide) (fun _ => ?_) (fun q => absurd q (by decide))
              refine ja_iload_n C jd_X_call_171 2 rfl ?_
              refine ja_bipush C (nI 16) jd_X_call_172 (by decide) ?_
              refine ja_icmp_eqN C 183 jd_X_call_174 (by decide) (by omega) (by decide) (fun d16 => ?_) (fun d16 => ?_)
              · have hw9 : wt = 16 ∨ wt = 17 := Or.inl d16
                refine ja_aload_n C jd_X_call_183 1 rfl ?_
                refine ja_iload_n C jd_X_call_184 2 rfl ?_
                refine ja_aload C jd_X_call_185 0 rfl ?_
                refine ja_aload_n C jd_X_call_187 1 rfl ?_
                refine ja_iconst C (-1) jd_X_call_188 (by decide) ?_
                refine ja_iload C jd_X_call_189 5 rfl ?_
                refine ja_isub C jd_X_call_191 ?_
                rw [eb9]
                refine jb_pV 8 C X jk_X_175 h4.obj rfl (jx_indexAt h4 hi ei) jd_X_call_192 rfl rfl ⟨by decide, by decide⟩ (Nat.le_of_ble_eq_true rfl) ?_
                refine jb_callVw (kc := 5) (ks := 25) (mc := 0) (ms := 0) 8 C X jk_X_179 h4.obj rfl (jx_draftI (m9 := m9) (b := b) (xx := xx) (yy := yy) h4 hS7 ht ea hi ei eb9 hw9) jd_X_call_195 rfl rfl ⟨by decide, by decide⟩ (Nat.le_of_ble_eq_true rfl) (fun vA wA zA hpA => ?_)
                obtain ⟨hkA, rA, ezA⟩ := hpA
                rw [ezA]
                have hgo : jl_goes wt 2 (nI t) b m9 := ⟨by have := jl_args_w c0; omega, (k2_le (nI_pos (by omega))), Or.inr ⟨fun _ => b0, fun _ => hw9⟩, (jl_many_iff (by omega)).mpr ⟨by omega, by omega⟩⟩
                rcases hkA with ⟨ev, k9, f9, S9, rr9, ee9, qq9, ad9, wh9, a9, b9, hx9, hS9, g1, g2, g3, g4, g5⟩ | ⟨ev, ⟨k9, f9, m8, t9, hx9⟩, g5⟩
                · rw [ev]
                  have hR := (r3.tr r4)
                  refine ja_istore C [(9, .int (nI 1)), (8, .ref oa), (0, .ref x), (1, .int (nI wt)), (2, .int (nI 2)), (3, .int (nI t)), (4, .int b), (5, .int (nI m9)), (6, .int xx), (7, .int yy)] jd_X_call_198 (Nat.le_of_ble_eq_true rfl) rfl ?_
                  refine ja_goto C 220 jd_X_call_200 (by decide) ?_
                  refine ja_iload C jd_X_call_220 0 rfl ?_
                  refine ja_if_eqN C 232 jd_X_call_222 (by decide) (by decide) (fun q => absurd q (by decide)) (fun _ => ?_)
                  refine ja_aload_n C jd_X_call_225 2 rfl ?_
                  refine jb_callVw (kc := 0) (ks := 0) (mc := 5) (ms := 25) 8 C X jk_X_83 hx9.obj rfl (jx_keep (what := wh9) (a := a9) (b := b9) (ul := (0, 0)) hx9 hS9 hct g1 g2 g3 g4) jd_X_call_226 rfl rfl ⟨by decide, by decide⟩ (Nat.le_of_ble_eq_true rfl) (fun v9 w9 z9 hp9 => ?_)
                  obtain ⟨y9, σ9, e9, ha9, hq9⟩ := hp9
                  rw [e9]
                  refine ja_goto C 234 jd_X_call_229 (by decide) ?_
                  exact E jd_X_call_234 ⟨y9, σ9, rfl, hYES hg hgo y9 σ9 (by rw [nI_clamp (by omega)]; exact g5 y9 σ9 ha9), jXP.from (hR.tr rA) hq9⟩
                · rw [ev]
                  have hR := (r3.tr r4)
                  refine ja_istore C [(9, .int (nI 0)), (8, .ref oa), (0, .ref x), (1, .int (nI wt)), (2, .int (nI 2)), (3, .int (nI t)), (4, .int b), (5, .int (nI m9)), (6, .int xx), (7, .int yy)] jd_X_call_198 (Nat.le_of_ble_eq_true rfl) rfl ?_
                  refine ja_goto C 220 jd_X_call_200 (by decide) ?_
                  refine ja_iload C jd_X_call_220 0 rfl ?_
                  refine ja_if_eqN C 232 jd_X_call_222 (by decide) (by decide) (fun _ => ?_) (fun q => absurd q (by decide))
                  refine ja_bipush C (-5) jd_X_call_232 (by decide) ?_
                  exact E jd_X_call_234 ⟨_, _, rfl, hYES hg hgo _ _ (by rw [nI_clamp (by omega)]; exact g5), hx9.jXP (hR.tr rA) (Nat.le_refl _)⟩
              · refine ja_iload_n C jd_X_call_177 2 rfl ?_
                refine ja_bipush C (nI 17) jd_X_call_178 (by decide) ?_
                refine ja_icmp_neN C 203 jd_X_call_180 (by decide) (by omega) (by decide) (fun d17 => ?_) (fun d17 => ?_)
                · have hw9 : ¬ (wt = 16 ∨ wt = 17) := fun z => z.elim d16 d17
                  refine ja_aload_n C jd_X_call_203 1 rfl ?_
                  refine ja_iload_n C jd_X_call_204 2 rfl ?_
                  refine ja_aload C jd_X_call_205 0 rfl ?_
                  refine ja_aload_n C jd_X_call_207 1 rfl ?_
                  refine ja_iload C jd_X_call_208 5 rfl ?_
                  refine jb_pV 8 C X jk_X_122 h4.obj rfl (jx_tensorAtN h4 (Or.inl b0)) jd_X_call_210 rfl rfl ⟨by decide, by decide⟩ (Nat.le_of_ble_eq_true rfl) ?_
                  refine ja_iload C jd_X_call_213 7 rfl ?_
                  refine jb_pV 8 C X jk_X_183 h4.obj rfl (jx_twoNull h4) jd_X_call_215 rfl rfl ⟨by decide, by decide⟩ (Nat.le_of_ble_eq_true rfl) ?_
                  refine ja_istore C [(9, .int (nI 0)), (8, .ref oa), (0, .ref x), (1, .int (nI wt)), (2, .int (nI 2)), (3, .int (nI t)), (4, .int b), (5, .int (nI m9)), (6, .int xx), (7, .int yy)] jd_X_call_218 (Nat.le_of_ble_eq_true rfl) rfl ?_
                  refine ja_iload C jd_X_call_220 0 rfl ?_
                  refine ja_if_eqN C 232 jd_X_call_222 (by decide) (by decide) (fun _ => ?_) (fun q => absurd q (by decide))
                  refine ja_bipush C (-5) jd_X_call_232 (by decide) ?_
                  exact E jd_X_call_234 ⟨_, _, rfl, hNO hg (fun z => z.2.2.1.elim (by decide) (fun z => hw9 (z.mpr b0))), h4.jXP (r3.tr r4) (Nat.le_refl _)⟩
                · have hw9 : wt = 16 ∨ wt = 17 := Or.inr d17
                  refine ja_aload_n C jd_X_call_183 1 rfl ?_
                  refine ja_iload_n C jd_X_call_184 2 rfl ?_
                  refine ja_aload C jd_X_call_185 0 rfl ?_
                  refine ja_aload_n C jd_X_call_187 1 rfl ?_
                  refine ja_iconst C (-1) jd_X_call_188 (by decide) ?_
                  refine ja_iload C jd_X_call_189 5 rfl ?_
                  refine ja_isub C jd_X_call_191 ?_
                  rw [eb9]
                  refine jb_pV 8 C X jk_X_175 h4.obj rfl (jx_indexAt h4 hi ei) jd_X_call_192 rfl rfl ⟨by decide, by decide⟩ (Nat.le_of_ble_eq_true rfl) ?_
                  refine jb_callVw (kc := 5) (ks := 25) (mc := 0) (ms := 0) 8 C X jk_X_179 h4.obj rfl (jx_draftI (m9 := m9) (b := b) (xx := xx) (yy := yy) h4 hS7 ht ea hi ei eb9 hw9) jd_X_call_195 rfl rfl ⟨by decide, by decide⟩ (Nat.le_of_ble_eq_true rfl) (fun vA wA zA hpA => ?_)
                  obtain ⟨hkA, rA, ezA⟩ := hpA
                  rw [ezA]
                  have hgo : jl_goes wt 2 (nI t) b m9 := ⟨by have := jl_args_w c0; omega, (k2_le (nI_pos (by omega))), Or.inr ⟨fun _ => b0, fun _ => hw9⟩, (jl_many_iff (by omega)).mpr ⟨by omega, by omega⟩⟩
                  rcases hkA with ⟨ev, k9, f9, S9, rr9, ee9, qq9, ad9, wh9, a9, b9, hx9, hS9, g1, g2, g3, g4, g5⟩ | ⟨ev, ⟨k9, f9, m8, t9, hx9⟩, g5⟩
                  · rw [ev]
                    have hR := (r3.tr r4)
                    refine ja_istore C [(9, .int (nI 1)), (8, .ref oa), (0, .ref x), (1, .int (nI wt)), (2, .int (nI 2)), (3, .int (nI t)), (4, .int b), (5, .int (nI m9)), (6, .int xx), (7, .int yy)] jd_X_call_198 (Nat.le_of_ble_eq_true rfl) rfl ?_
                    refine ja_goto C 220 jd_X_call_200 (by decide) ?_
                    refine ja_iload C jd_X_call_220 0 rfl ?_
                    refine ja_if_eqN C 232 jd_X_call_222 (by decide) (by decide) (fun q => absurd q (by decide)) (fun _ => ?_)
                    refine ja_aload_n C jd_X_call_225 2 rfl ?_
                    refine jb_callVw (kc := 0) (ks := 0) (mc := 5) (ms := 25) 8 C X jk_X_83 hx9.obj rfl (jx_keep (what := wh9) (a := a9) (b := b9) (ul := (0, 0)) hx9 hS9 hct g1 g2 g3 g4) jd_X_call_226 rfl rfl ⟨by decide, by decide⟩ (Nat.le_of_ble_eq_true rfl) (fun v9 w9 z9 hp9 => ?_)
                    obtain ⟨y9, σ9, e9, ha9, hq9⟩ := hp9
                    rw [e9]
                    refine ja_goto C 234 jd_X_call_229 (by decide) ?_
                    exact E jd_X_call_234 ⟨y9, σ9, rfl, hYES hg hgo y9 σ9 (by rw [nI_clamp (by omega)]; exact g5 y9 σ9 ha9), jXP.from (hR.tr rA) hq9⟩
                  · rw [ev]
                    have hR := (r3.tr r4)
                    refine ja_istore C [(9, .int (nI 0)), (8, .ref oa), (0, .ref x), (1, .int (nI wt)), (2, .int (nI 2)), (3, .int (nI t)), (4, .int b), (5, .int (nI m9)), (6, .int xx), (7, .int yy)] jd_X_call_198 (Nat.le_of_ble_eq_true rfl) rfl ?_
                    refine ja_goto C 220 jd_X_call_200 (by decide) ?_
                    refine ja_iload C jd_X_call_220 0 rfl ?_
                    refine ja_if_eqN C 232 jd_X_call_222 (by decide) (by decide) (fun _ => ?_) (fun q => absurd q (by decide))
                    refine ja_bipush C (-5) jd_X_call_232 (by decide) ?_
                    exact E jd_X_call_234 ⟨_, _, rfl, hYES hg hgo _ _ (by rw [nI_clamp (by omega)]; exact g5), hx9.jXP (hR.tr rA) (Nat.le_refl _)⟩
            · obtain ⟨tb, htb, etb⟩ := jl_tens (by omega) b0 nb
              obtain ⟨tk2, ob, eb, -⟩ := h.2.2.2.2.2.2.2.1 tb htb
              subst etb
              refine ja_astore C [(8, .ref oa), (0, .ref x), (1, .int (nI wt)), (2, .int (nI 2)), (3, .int (nI t)), (4, .int (nI tb)), (5, .int (nI m9)), (6, .int xx), (7, .int yy)] jd_X_call_79 (Nat.le_of_ble_eq_true rfl) rfl ?_
              refine ja_iload_n C jd_X_call_81 3 rfl ?_
              refine ja_iload_n C jd_X_call_82 2 rfl ?_
              have no : ∀ (hn : ¬ jl_goes wt 2 (nI t) (nI tb) m9), ja (jb_mk l (jb_rm 6 150 5 25) 10 "MeasuredTensors" D H0 (jt_all cI cJ cT cX) u) w sz 5 25 112 [(8, .ref oa), (0, .ref x), (1, .int (nI wt)), (2, .int (nI 2)), (3, .int (nI t)), (4, .int (nI tb)), (5, .int (nI m9)), (6, .int xx), (7, .int yy)] [] := by
                intro hn
                refine ja_bipush C (-5) jd_X_call_112 (by decide) ?_
                exact E jd_X_call_114 ⟨_, _, rfl, hNO hg hn, h.jXP jXF.rf (Nat.le_refl _)⟩
              refine jb_pS 8 C X jk_X_150 (jx_argsOf (by omega)) jd_X_call_83 rfl rfl ⟨by decide, by decide⟩ (Nat.le_of_ble_eq_true rfl) ?_
              refine ja_icmp_neN C 112 jd_X_call_86 (by decide) (by decide) (by omega) (fun c4 => no (fun z => c4 (z.1.trans (jl_args_w c0).symm))) (fun c4 => ?_)
              refine ja_iload C jd_X_call_89 6 rfl ?_
              refine ja_iload_n C jd_X_call_91 2 rfl ?_
              refine jb_pS 8 C X jk_X_165 (jx_few (by omega)) jd_X_call_92 rfl rfl ⟨by decide, by decide⟩ (Nat.le_of_ble_eq_true rfl) ?_
              refine ja_icmp_ltN C 112 jd_X_call_95 (by decide) (by omega) (by omega) (fun c5 => no (fun z => absurd ((jl_many_iff (by omega)).mp z.2.2.2).1 (by omega))) (fun c5 => ?_)
              refine ja_iload C jd_X_call_98 6 rfl ?_
              refine ja_iload_n C jd_X_call_100 2 rfl ?_
              refine jb_pS 8 C X jk_X_168 (jx_most (by omega)) jd_X_call_101 rfl rfl ⟨by decide, by decide⟩ (Nat.le_of_ble_eq_true rfl) ?_
              refine ja_icmp_gtN C 112 jd_X_call_104 (by decide) (by omega) (by omega) (fun c6 => no (fun z => absurd ((jl_many_iff (by omega)).mp z.2.2.2).2 (by omega))) (fun c6 => ?_)
              refine ja_aload C jd_X_call_107 0 rfl ?_
              refine ja_ifnonnull C 115 jd_X_call_109 (by decide) ?_
              refine ja_aload_n C jd_X_call_115 1 rfl ?_
              refine ja_get C jg_X_32 jd_X_call_116 h.obj rfl ?_
              refine ja_iload_n C jd_X_call_119 4 rfl ?_
              refine ja_iload_n C jd_X_call_120 3 rfl ?_
              refine ja_iconst C (nI 2) jd_X_call_121 (by decide) ?_
              refine ja_icmp_neN C 135 jd_X_call_122 (by decide) (by decide) (by decide) (fun q => absurd q (by decide)) (fun _ => ?_)
              refine ja_iload C jd_X_call_125 5 rfl ?_
              refine ja_if_ltN C 135 jd_X_call_127 (by decide) (by omega) ?_
              refine ja_iload C jd_X_call_130 5 rfl ?_
              refine ja_goto C 136 jd_X_call_132 (by decide) ?_
              obtain ⟨fs5, hb5⟩ := h.d.z0
              refine jo_vV 8 C X jk_X_65 hb5 rfl (jt_start h.d) jd_X_call_136 rfl rfl ⟨by decide, by decide⟩ (Nat.le_of_ble_eq_true rfl) (fun w5 hp5 => ?_)
              obtain ⟨z5, f5⟩ := hp5
              obtain ⟨h5, r5⟩ := h.upd (by omega) z5 f5
              refine ja_aload_n C jd_X_call_139 1 rfl ?_
              refine ja_get C jg_X_32 jd_X_call_140 h5.obj rfl ?_
              refine ja_aload C jd_X_call_143 0 rfl ?_
              obtain ⟨fs6, hb6⟩ := h5.d.z0
              refine jo_vV 8 C X jk_X_141 hb6 rfl (jt_resemble h5.d (h5.tz ht ea) (h5.ts ht) (h5.ap ea)) jd_X_call_145 rfl rfl ⟨by decide, by decide⟩ (Nat.le_of_ble_eq_true rfl) (fun w6 hp6 => ?_)
              obtain ⟨⟨f7, z6, hS7⟩, f6⟩ := hp6
              obtain ⟨h6, r6⟩ := h5.upd (by omega) z6 f6
              refine ja_iload_n C jd_X_call_148 3 rfl ?_
              refine ja_iconst C (nI 1) jd_X_call_149 (by decide) ?_
              refine ja_icmp_neN C 171 jd_X_call_150 (by decide) (by decide) (by decide) (fun _ => ?_) (fun q => absurd q (by decide))
              refine ja_iload_n C jd_X_call_171 2 rfl ?_
              refine ja_bipush C (nI 16) jd_X_call_172 (by decide) ?_
              refine ja_icmp_eqN C 183 jd_X_call_174 (by decide) (by omega) (by decide) (fun d16 => ?_) (fun d16 => ?_)
              · have hw9 : wt = 16 ∨ wt = 17 := Or.inl d16
                refine ja_aload_n C jd_X_call_183 1 rfl ?_
                refine ja_iload_n C jd_X_call_184 2 rfl ?_
                refine ja_aload C jd_X_call_185 0 rfl ?_
                refine ja_aload_n C jd_X_call_187 1 rfl ?_
                refine ja_iconst C (-1) jd_X_call_188 (by decide) ?_
                refine ja_iload C jd_X_call_189 5 rfl ?_
                refine ja_isub C jd_X_call_191 ?_
                refine jb_pV 8 C X jk_X_175 h6.obj rfl (jx_indexAtN h6 (Or.inl (jl_m1_neg (by omega)))) jd_X_call_192 rfl rfl ⟨by decide, by decide⟩ (Nat.le_of_ble_eq_true rfl) ?_
                refine jb_pV 8 C X jk_X_179 h6.obj rfl (jx_withNull h6) jd_X_call_195 rfl rfl ⟨by decide, by decide⟩ (Nat.le_of_ble_eq_true rfl) ?_
                refine ja_istore C [(9, .int (nI 0)), (8, .ref oa), (0, .ref x), (1, .int (nI wt)), (2, .int (nI 2)), (3, .int (nI t)), (4, .int (nI tb)), (5, .int (nI m9)), (6, .int xx), (7, .int yy)] jd_X_call_198 (Nat.le_of_ble_eq_true rfl) rfl ?_
                refine ja_goto C 220 jd_X_call_200 (by decide) ?_
                refine ja_iload C jd_X_call_220 0 rfl ?_
                refine ja_if_eqN C 232 jd_X_call_222 (by decide) (by decide) (fun _ => ?_) (fun q => absurd q (by decide))
                refine ja_bipush C (-5) jd_X_call_232 (by decide) ?_
                exact E jd_X_call_234 ⟨_, _, rfl, hNO hg (fun z => z.2.2.1.elim (by decide) (fun z => nI_pos (by omega) (z.mp hw9))), h6.jXP (r5.tr r6) (Nat.le_refl _)⟩
              · refine ja_iload_n C jd_X_call_177 2 rfl ?_
                refine ja_bipush C (nI 17) jd_X_call_178 (by decide) ?_
                refine ja_icmp_neN C 203 jd_X_call_180 (by decide) (by omega) (by decide) (fun d17 => ?_) (fun d17 => ?_)
                · have hw9 : ¬ (wt = 16 ∨ wt = 17) := fun z => z.elim d16 d17
                  refine ja_aload_n C jd_X_call_203 1 rfl ?_
                  refine ja_iload_n C jd_X_call_204 2 rfl ?_
                  refine ja_aload C jd_X_call_205 0 rfl ?_
                  refine ja_aload_n C jd_X_call_207 1 rfl ?_
                  refine ja_iload C jd_X_call_208 5 rfl ?_
                  refine jb_pV 8 C X jk_X_122 h6.obj rfl (jx_tensorAt h6 htb eb) jd_X_call_210 rfl rfl ⟨by decide, by decide⟩ (Nat.le_of_ble_eq_true rfl) ?_
                  refine ja_iload C jd_X_call_213 7 rfl ?_
                  refine jb_callVw (kc := 5) (ks := 25) (mc := 0) (ms := 0) 8 C X jk_X_183 h6.obj rfl (jx_draft2 (m9 := m9) (xx := xx) (yy := yy) h6 hS7 ht ea htb eb (by omega) (by omega) hw9 (by omega) (by omega) hxx hyy) jd_X_call_215 rfl rfl ⟨by decide, by decide⟩ (Nat.le_of_ble_eq_true rfl) (fun vA wA zA hpA => ?_)
                  obtain ⟨hkA, rA, ezA⟩ := hpA
                  rw [ezA]
                  have hgo : jl_goes wt 2 (nI t) (nI tb) m9 := ⟨by have := jl_args_w c0; omega, (k2_le (nI_pos (by omega))), Or.inr ⟨fun z => absurd z hw9, fun z => absurd z (nI_pos (by omega))⟩, (jl_many_iff (by omega)).mpr ⟨by omega, by omega⟩⟩
                  rcases hkA with ⟨ev, k9, f9, S9, rr9, ee9, qq9, ad9, wh9, a9, b9, hx9, hS9, g1, g2, g3, g4, g5⟩ | ⟨ev, ⟨k9, f9, m8, t9, hx9⟩, g5⟩
                  · rw [ev]
                    have hR := (r5.tr r6)
                    refine ja_istore C [(9, .int (nI 1)), (8, .ref oa), (0, .ref x), (1, .int (nI wt)), (2, .int (nI 2)), (3, .int (nI t)), (4, .int (nI tb)), (5, .int (nI m9)), (6, .int xx), (7, .int yy)] jd_X_call_218 (Nat.le_of_ble_eq_true rfl) rfl ?_
                    refine ja_iload C jd_X_call_220 0 rfl ?_
                    refine ja_if_eqN C 232 jd_X_call_222 (by decide) (by decide) (fun q => absurd q (by decide)) (fun _ => ?_)
                    refine ja_aload_n C jd_X_call_225 2 rfl ?_
                    refine jb_callVw (kc := 0) (ks := 0) (mc := 5) (ms := 25) 8 C X jk_X_83 hx9.obj rfl (jx_keep (what := wh9) (a := a9) (b := b9) (ul := (0, 0)) hx9 hS9 hct g1 g2 g3 g4) jd_X_call_226 rfl rfl ⟨by decide, by decide⟩ (Nat.le_of_ble_eq_true rfl) (fun v9 w9 z9 hp9 => ?_)
                    obtain ⟨y9, σ9, e9, ha9, hq9⟩ := hp9
                    rw [e9]
                    refine ja_goto C 234 jd_X_call_229 (by decide) ?_
                    exact E jd_X_call_234 ⟨y9, σ9, rfl, hYES hg hgo y9 σ9 (by rw [nI_clamp (by omega)]; exact g5 y9 σ9 ha9), jXP.from (hR.tr rA) hq9⟩
                  · rw [ev]
                    have hR := (r5.tr r6)
                    refine ja_istore C [(9, .int (nI 0)), (8, .ref oa), (0, .ref x), (1, .int (nI wt)), (2, .int (nI 2)), (3, .int (nI t)), (4, .int (nI tb)), (5, .int (nI m9)), (6, .int xx), (7, .int yy)] jd_X_call_218 (Nat.le_of_ble_eq_true rfl) rfl ?_
                    refine ja_iload C jd_X_call_220 0 rfl ?_
                    refine ja_if_eqN C 232 jd_X_call_222 (by decide) (by decide) (fun _ => ?_) (fun q => absurd q (by decide))
                    refine ja_bipush C (-5) jd_X_call_232 (by decide) ?_
                    exact E jd_X_call_234 ⟨_, _, rfl, hYES hg hgo _ _ (by rw [nI_clamp (by omega)]; exact g5), hx9.jXP (hR.tr rA) (Nat.le_refl _)⟩
                · have hw9 : wt = 16 ∨ wt = 17 := Or.inr d17
                  refine ja_aload_n C jd_X_call_183 1 rfl ?_
                  refine ja_iload_n C jd_X_call_184 2 rfl ?_
                  refine ja_aload C jd_X_call_185 0 rfl ?_
                  refine ja_aload_n C jd_X_call_187 1 rfl ?_
                  refine ja_iconst C (-1) jd_X_call_188 (by decide) ?_
                  refine ja_iload C jd_X_call_189 5 rfl ?_
                  refine ja_isub C jd_X_call_191 ?_
                  refine jb_pV 8 C X jk_X_175 h6.obj rfl (jx_indexAtN h6 (Or.inl (jl_m1_neg (by omega)))) jd_X_call_192 rfl rfl ⟨by decide, by decide⟩ (Nat.le_of_ble_eq_true rfl) ?_
                  refine jb_pV 8 C X jk_X_179 h6.obj rfl (jx_withNull h6) jd_X_call_195 rfl rfl ⟨by decide, by decide⟩ (Nat.le_of_ble_eq_true rfl) ?_
                  refine ja_istore C [(9, .int (nI 0)), (8, .ref oa), (0, .ref x), (1, .int (nI wt)), (2, .int (nI 2)), (3, .int (nI t)), (4, .int (nI tb)), (5, .int (nI m9)), (6, .int xx), (7, .int yy)] jd_X_call_198 (Nat.le_of_ble_eq_true rfl) rfl ?_
                  refine ja_goto C 220 jd_X_call_200 (by decide) ?_
                  refine ja_iload C jd_X_call_220 0 rfl ?_
                  refine ja_if_eqN C 232 jd_X_call_222 (by decide) (by decide) (fun _ => ?_) (fun q => absurd q (by decide))
                  refine ja_bipush C (-5) jd_X_call_232 (by decide) ?_
                  exact E jd_X_call_234 ⟨_, _, rfl, hNO hg (fun z => z.2.2.1.elim (by decide) (fun z => nI_pos (by omega) (z.mp hw9))), h6.jXP (r5.tr r6) (Nat.le_refl _)⟩
end X90
