/-! THE CLASS: how many arguments, how many numbers -/
def jl_args (wt : Nat) : Nat := if wt = 11 then 0 else jl_wanted wt
def jl_most (wt : Nat) : Nat := if wt = 5 ∨ wt = 6 ∨ wt = 7 ∨ wt = 8 ∨ wt = 9 ∨ wt = 10 ∨ wt = 15 then 1 else if wt = 13 then 2 else 0
def jl_few (wt : Nat) : Nat := if wt = 5 ∨ wt = 6 then 0 else jl_most wt
theorem jk_X_168 : jb_KS "MeasuredTensors" 168 jy_X_mostNumbersOf jc_X_mostNumbersOf 1 (some .int) 1 := ⟨jw_in (by decide +kernel) (by decide +kernel), jw_in (by decide +kernel) (by decide +kernel), jw_in (by decide +kernel) (by decide +kernel), jw_in (by decide +kernel) (by decide +kernel), by decide +kernel⟩
section X85
variable {l : Launch} {D : va_G} {H0 : Heap} {cI cJ cT cX : ClassId} {w : jb_W} {sz : Nat}
theorem jx_argsOf {wt : Nat} (hwt : wt < 19) : jb_M l jy_X_argumentsOf jc_X_argumentsOf 1 (some .int) 0 0 0 0 D H0 (jt_all cI cJ cT cX) [.int (nI wt)] w sz
    (fun v w' sz' => v = some (.int (nI (jl_args wt))) ∧ w' = w ∧ sz' = sz) := by
  refine jb_meth_i (by decide) (Nat.le_of_ble_eq_true rfl) (fun u C X E => ?_)
  match wt, hwt with
  | 0, _ =>
    refine ja_iload_n C jd_X_argumentsOf_0 0 rfl ?_
    refine ja_tableIn C 92 jd_X_argumentsOf_1 (by decide) (by decide) rfl (by decide) ?_
    refine ja_iconst C (nI 1) jd_X_argumentsOf_92 (by decide) ?_
    exact E jd_X_argumentsOf_93 ⟨rfl, rfl, rfl⟩
  | 1, _ =>
    refine ja_iload_n C jd_X_argumentsOf_0 0 rfl ?_
    refine ja_tableIn C 92 jd_X_argumentsOf_1 (by decide) (by decide) rfl (by decide) ?_
    refine ja_iconst C (nI 1) jd_X_argumentsOf_92 (by decide) ?_
    exact E jd_X_argumentsOf_93 ⟨rfl, rfl, rfl⟩
  | 2, _ =>
    refine ja_iload_n C jd_X_argumentsOf_0 0 rfl ?_
    refine ja_tableIn C 92 jd_X_argumentsOf_1 (by decide) (by decide) rfl (by decide) ?_
    refine ja_iconst C (nI 1) jd_X_argumentsOf_92 (by decide) ?_
    exact E jd_X_argumentsOf_93 ⟨rfl, rfl, rfl⟩
  | 3, _ =>
    refine ja_iload_n C jd_X_argumentsOf_0 0 rfl ?_
    refine ja_tableIn C 92 jd_X_argumentsOf_1 (by decide) (by decide) rfl (by decide) ?_
    refine ja_iconst C (nI 1) jd_X_argumentsOf_92 (by decide) ?_
    exact E jd_X_argumentsOf_93 ⟨rfl, rfl, rfl⟩
  | 4, _ =>
    refine ja_iload_n C jd_X_argumentsOf_0 0 rfl ?_
    refine ja_tableIn C 92 jd_X_argumentsOf_1 (by decide) (by decide) rfl (by decide) ?_
    refine ja_iconst C (nI 1) jd_X_argumentsOf_92 (by decide) ?_
    exact E jd_X_argumentsOf_93 ⟨rfl, rfl, rfl⟩
  | 5, _ =>
    refine ja_iload_n C jd_X_argumentsOf_0 0 rfl ?_
    refine ja_tableIn C 92 jd_X_argumentsOf_1 (by decide) (by decide) rfl (by decide) ?_
    refine ja_iconst C (nI 1) jd_X_argumentsOf_92 (by decide) ?_
    exact E jd_X_argumentsOf_93 ⟨rfl, rfl, rfl⟩
  | 6, _ =>
    refine ja_iload_n C jd_X_argumentsOf_0 0 rfl ?_
    refine ja_tableIn C 92 jd_X_argumentsOf_1 (by decide) (by decide) rfl (by decide) ?_
    refine ja_iconst C (nI 1) jd_X_argumentsOf_92 (by decide) ?_
    exact E jd_X_argumentsOf_93 ⟨rfl, rfl, rfl⟩
  | 7, _ =>
    refine ja_iload_n C jd_X_argumentsOf_0 0 rfl ?_
    refine ja_tableIn C 92 jd_X_argumentsOf_1 (by decide) (by decide) rfl (by decide) ?_
    refine ja_iconst C (nI 1) jd_X_argumentsOf_92 (by decide) ?_
    exact E jd_X_argumentsOf_93 ⟨rfl, rfl, rfl⟩
  | 8, _ =>
    refine ja_iload_n C jd_X_argumentsOf_0 0 rfl ?_
    refine ja_tableIn C 94 jd_X_argumentsOf_1 (by decide) (by decide) rfl (by decide) ?_
    refine ja_iconst C (nI 2) jd_X_argumentsOf_94 (by decide) ?_
    exact E jd_X_argumentsOf_95 ⟨rfl, rfl, rfl⟩
  | 9, _ =>
    refine ja_iload_n C jd_X_argumentsOf_0 0 rfl ?_
    refine ja_tableIn C 92 jd_X_argumentsOf_1 (by decide) (by decide) rfl (by decide) ?_
    refine ja_iconst C (nI 1) jd_X_argumentsOf_92 (by decide) ?_
    exact E jd_X_argumentsOf_93 ⟨rfl, rfl, rfl⟩
  | 10, _ =>
    refine ja_iload_n C jd_X_argumentsOf_0 0 rfl ?_
    refine ja_tableIn C 92 jd_X_argumentsOf_1 (by decide) (by decide) rfl (by decide) ?_
    refine ja_iconst C (nI 1) jd_X_argumentsOf_92 (by decide) ?_
    exact E jd_X_argumentsOf_93 ⟨rfl, rfl, rfl⟩
  | 11, _ =>
    refine ja_iload_n C jd_X_argumentsOf_0 0 rfl ?_
    refine ja_tableIn C 96 jd_X_argumentsOf_1 (by decide) (by decide) rfl (by decide) ?_
    refine ja_iconst C (nI 0) jd_X_argumentsOf_96 (by decide) ?_
    exact E jd_X_argumentsOf_97 ⟨rfl, rfl, rfl⟩
  | 12, _ =>
    refine ja_iload_n C jd_X_argumentsOf_0 0 rfl ?_
    refine ja_tableIn C 92 jd_X_argumentsOf_1 (by decide) (by decide) rfl (by decide) ?_
    refine ja_iconst C (nI 1) jd_X_argumentsOf_92 (by decide) ?_
    exact E jd_X_argumentsOf_93 ⟨rfl, rfl, rfl⟩
  | 13, _ =>
    refine ja_iload_n C jd_X_argumentsOf_0 0 rfl ?_
    refine ja_tableIn C 92 jd_X_argumentsOf_1 (by decide) (by decide) rfl (by decide) ?_
    refine ja_iconst C (nI 1) jd_X_argumentsOf_92 (by decide) ?_
    exact E jd_X_argumentsOf_93 ⟨rfl, rfl, rfl⟩
  | 14, _ =>
    refine ja_iload_n C jd_X_argumentsOf_0 0 rfl ?_
    refine ja_tableIn C 94 jd_X_argumentsOf_1 (by decide) (by decide) rfl (by decide) ?_
    refine ja_iconst C (nI 2) jd_X_argumentsOf_94 (by decide) ?_
    exact E jd_X_argumentsOf_95 ⟨rfl, rfl, rfl⟩
  | 15, _ =>
    refine ja_iload_n C jd_X_argumentsOf_0 0 rfl ?_
    refine ja_tableIn C 92 jd_X_argumentsOf_1 (by decide) (by decide) rfl (by decide) ?_
    refine ja_iconst C (nI 1) jd_X_argumentsOf_92 (by decide) ?_
    exact E jd_X_argumentsOf_93 ⟨rfl, rfl, rfl⟩
  | 16, _ =>
    refine ja_iload_n C jd_X_argumentsOf_0 0 rfl ?_
    refine ja_tableIn C 94 jd_X_argumentsOf_1 (by decide) (by decide) rfl (by decide) ?_
    refine ja_iconst C (nI 2) jd_X_argumentsOf_94 (by decide) ?_
    exact E jd_X_argumentsOf_95 ⟨rfl, rfl, rfl⟩
  | 17, _ =>
    refine ja_iload_n C jd_X_argumentsOf_0 0 rfl ?_
    refine ja_tableIn C 94 jd_X_argumentsOf_1 (by decide) (by decide) rfl (by decide) ?_
    refine ja_iconst C (nI 2) jd_X_argumentsOf_94 (by decide) ?_
    exact E jd_X_argumentsOf_95 ⟨rfl, rfl, rfl⟩
  | 18, _ =>
    refine ja_iload_n C jd_X_argumentsOf_0 0 rfl ?_
    refine ja_tableIn C 94 jd_X_argumentsOf_1 (by decide) (by decide) rfl (by decide) ?_
    refine ja_iconst C (nI 2) jd_X_argumentsOf_94 (by decide) ?_
    exact E jd_X_argumentsOf_95 ⟨rfl, rfl, rfl⟩
  | wt + 19, z => omega
theorem jx_argsN {a : Int32} (ha : a < 0 ∨ 18 < a) : jb_M l jy_X_argumentsOf jc_X_argumentsOf 1 (some .int) 0 0 0 0 D H0 (jt_all cI cJ cT cX) [.int a] w sz
    (fun v w' sz' => v = some (.int (nI 0)) ∧ w' = w ∧ sz' = sz) := by
  refine jb_meth_i (by decide) (Nat.le_of_ble_eq_true rfl) (fun u C X E => ?_)
  refine ja_iload_n C jd_X_argumentsOf_0 0 rfl ?_
  refine ja_tableOut C 96 jd_X_argumentsOf_1 (by rcases ha with z | z; exact Or.inl (Int32.lt_iff_toInt_lt.mp z); exact Or.inr (Int32.lt_iff_toInt_lt.mp z)) (by decide) ?_
  refine ja_iconst C (nI 0) jd_X_argumentsOf_96 (by decide) ?_
  exact E jd_X_argumentsOf_97 ⟨rfl, rfl, rfl⟩
theorem jx_most {wt : Nat} (hwt : wt < 19) : jb_M l jy_X_mostNumbersOf jc_X_mostNumbersOf 1 (some .int) 0 0 0 0 D H0 (jt_all cI cJ cT cX) [.int (nI wt)] w sz
    (fun v w' sz' => v = some (.int (nI (jl_most wt))) ∧ w' = w ∧ sz' = sz) := by
  refine jb_meth_i (by decide) (Nat.le_of_ble_eq_true rfl) (fun u C X E => ?_)
  match wt, hwt with
  | 0, _ =>
    refine ja_iload_n C jd_X_mostNumbersOf_0 0 rfl ?_
    refine ja_tableOut C 64 jd_X_mostNumbersOf_1 (by decide) (by decide) ?_
    refine ja_iconst C (nI 0) jd_X_mostNumbersOf_64 (by decide) ?_
    exact E jd_X_mostNumbersOf_65 ⟨rfl, rfl, rfl⟩
  | 1, _ =>
    refine ja_iload_n C jd_X_mostNumbersOf_0 0 rfl ?_
    refine ja_tableOut C 64 jd_X_mostNumbersOf_1 (by decide) (by decide) ?_
    refine ja_iconst C (nI 0) jd_X_mostNumbersOf_64 (by decide) ?_
    exact E jd_X_mostNumbersOf_65 ⟨rfl, rfl, rfl⟩
  | 2, _ =>
    refine ja_iload_n C jd_X_mostNumbersOf_0 0 rfl ?_
    refine ja_tableOut C 64 jd_X_mostNumbersOf_1 (by decide) (by decide) ?_
    refine ja_iconst C (nI 0) jd_X_mostNumbersOf_64 (by decide) ?_
    exact E jd_X_mostNumbersOf_65 ⟨rfl, rfl, rfl⟩
  | 3, _ =>
    refine ja_iload_n C jd_X_mostNumbersOf_0 0 rfl ?_
    refine ja_tableOut C 64 jd_X_mostNumbersOf_1 (by decide) (by decide) ?_
    refine ja_iconst C (nI 0) jd_X_mostNumbersOf_64 (by decide) ?_
    exact E jd_X_mostNumbersOf_65 ⟨rfl, rfl, rfl⟩
  | 4, _ =>
    refine ja_iload_n C jd_X_mostNumbersOf_0 0 rfl ?_
    refine ja_tableOut C 64 jd_X_mostNumbersOf_1 (by decide) (by decide) ?_
    refine ja_iconst C (nI 0) jd_X_mostNumbersOf_64 (by decide) ?_
    exact E jd_X_mostNumbersOf_65 ⟨rfl, rfl, rfl⟩
  | 5, _ =>
    refine ja_iload_n C jd_X_mostNumbersOf_0 0 rfl ?_
    refine ja_tableIn C 60 jd_X_mostNumbersOf_1 (by decide) (by decide) rfl (by decide) ?_
    refine ja_iconst C (nI 1) jd_X_mostNumbersOf_60 (by decide) ?_
    exact E jd_X_mostNumbersOf_61 ⟨rfl, rfl, rfl⟩
  | 6, _ =>
    refine ja_iload_n C jd_X_mostNumbersOf_0 0 rfl ?_
    refine ja_tableIn C 60 jd_X_mostNumbersOf_1 (by decide) (by decide) rfl (by decide) ?_
    refine ja_iconst C (nI 1) jd_X_mostNumbersOf_60 (by decide) ?_
    exact E jd_X_mostNumbersOf_61 ⟨rfl, rfl, rfl⟩
  | 7, _ =>
    refine ja_iload_n C jd_X_mostNumbersOf_0 0 rfl ?_
    refine ja_tableIn C 60 jd_X_mostNumbersOf_1 (by decide) (by decide) rfl (by decide) ?_
    refine ja_iconst C (nI 1) jd_X_mostNumbersOf_60 (by decide) ?_
    exact E jd_X_mostNumbersOf_61 ⟨rfl, rfl, rfl⟩
  | 8, _ =>
    refine ja_iload_n C jd_X_mostNumbersOf_0 0 rfl ?_
    refine ja_tableIn C 60 jd_X_mostNumbersOf_1 (by decide) (by decide) rfl (by decide) ?_
    refine ja_iconst C (nI 1) jd_X_mostNumbersOf_60 (by decide) ?_
    exact E jd_X_mostNumbersOf_61 ⟨rfl, rfl, rfl⟩
  | 9, _ =>
    refine ja_iload_n C jd_X_mostNumbersOf_0 0 rfl ?_
    refine ja_tableIn C 60 jd_X_mostNumbersOf_1 (by decide) (by decide) rfl (by decide) ?_
    refine ja_iconst C (nI 1) jd_X_mostNumbersOf_60 (by decide) ?_
    exact E jd_X_mostNumbersOf_61 ⟨rfl, rfl, rfl⟩
  | 10, _ =>
    refine ja_iload_n C jd_X_mostNumbersOf_0 0 rfl ?_
    refine ja_tableIn C 60 jd_X_mostNumbersOf_1 (by decide) (by decide) rfl (by decide) ?_
    refine ja_iconst C (nI 1) jd_X_mostNumbersOf_60 (by decide) ?_
    exact E jd_X_mostNumbersOf_61 ⟨rfl, rfl, rfl⟩
  | 11, _ =>
    refine ja_iload_n C jd_X_mostNumbersOf_0 0 rfl ?_
    refine ja_tableIn C 64 jd_X_mostNumbersOf_1 (by decide) (by decide) rfl (by decide) ?_
    refine ja_iconst C (nI 0) jd_X_mostNumbersOf_64 (by decide) ?_
    exact E jd_X_mostNumbersOf_65 ⟨rfl, rfl, rfl⟩
  | 12, _ =>
    refine ja_iload_n C jd_X_mostNumbersOf_0 0 rfl ?_
    refine ja_tableIn C 64 jd_X_mostNumbersOf_1 (by decide) (by decide) rfl (by decide) ?_
    refine ja_iconst C (nI 0) jd_X_mostNumbersOf_64 (by decide) ?_
    exact E jd_X_mostNumbersOf_65 ⟨rfl, rfl, rfl⟩
  | 13, _ =>
    refine ja_iload_n C jd_X_mostNumbersOf_0 0 rfl ?_
    refine ja_tableIn C 62 jd_X_mostNumbersOf_1 (by decide) (by decide) rfl (by decide) ?_
    refine ja_iconst C (nI 2) jd_X_mostNumbersOf_62 (by decide) ?_
    exact E jd_X_mostNumbersOf_63 ⟨rfl, rfl, rfl⟩
  | 14, _ =>
    refine ja_iload_n C jd_X_mostNumbersOf_0 0 rfl ?_
    refine ja_tableIn C 64 jd_X_mostNumbersOf_1 (by decide) (by decide) rfl (by decide) ?_
    refine ja_iconst C (nI 0) jd_X_mostNumbersOf_64 (by decide) ?_
    exact E jd_X_mostNumbersOf_65 ⟨rfl, rfl, rfl⟩
  | 15, _ =>
    refine ja_iload_n C jd_X_mostNumbersOf_0 0 rfl ?_
    refine ja_tableIn C 60 jd_X_mostNumbersOf_1 (by decide) (by decide) rfl (by decide) ?_
    refine ja_iconst C (nI 1) jd_X_mostNumbersOf_60 (by decide) ?_
    exact E jd_X_mostNumbersOf_61 ⟨rfl, rfl, rfl⟩
  | 16, _ =>
    refine ja_iload_n C jd_X_mostNumbersOf_0 0 rfl ?_
    refine ja_tableOut C 64 jd_X_mostNumbersOf_1 (by decide) (by decide) ?_
    refine ja_iconst C (nI 0) jd_X_mostNumbersOf_64 (by decide) ?_
    exact E jd_X_mostNumbersOf_65 ⟨rfl, rfl, rfl⟩
  | 17, _ =>
    refine ja_iload_n C jd_X_mostNumbersOf_0 0 rfl ?_
    refine ja_tableOut C 64 jd_X_mostNumbersOf_1 (by decide) (by decide) ?_
    refine ja_iconst C (nI 0) jd_X_mostNumbersOf_64 (by decide) ?_
    exact E jd_X_mostNumbersOf_65 ⟨rfl, rfl, rfl⟩
  | 18, _ =>
    refine ja_iload_n C jd_X_mostNumbersOf_0 0 rfl ?_
    refine ja_tableOut C 64 jd_X_mostNumbersOf_1 (by decide) (by decide) ?_
    refine ja_iconst C (nI 0) jd_X_mostNumbersOf_64 (by decide) ?_
    exact E jd_X_mostNumbersOf_65 ⟨rfl, rfl, rfl⟩
  | wt + 19, z => omega
theorem jx_few {wt : Nat} (hwt : wt < 19) : jb_M l jy_X_fewestNumbersOf jc_X_fewestNumbersOf 1 (some .int) 1 20 0 0 D H0 (jt_all cI cJ cT cX) [.int (nI wt)] w sz
    (fun v w' sz' => v = some (.int (nI (jl_few wt))) ∧ w' = w ∧ sz' = sz) := by
  refine jb_meth_i (by decide) (Nat.le_of_ble_eq_true rfl) (fun u C X E => ?_)
  match wt, hwt with
  | 0, _ =>
    refine ja_iload_n C jd_X_fewestNumbersOf_0 0 rfl ?_
    refine ja_iconst C (nI 5) jd_X_fewestNumbersOf_1 (by decide) ?_
    refine ja_icmp_eqN C 11 jd_X_fewestNumbersOf_2 (by decide) (by decide) (by decide) (fun q => absurd q (by decide)) (fun _ => ?_)
    refine ja_iload_n C jd_X_fewestNumbersOf_5 0 rfl ?_
    refine ja_bipush C (nI 6) jd_X_fewestNumbersOf_6 (by decide) ?_
    refine ja_icmp_neN C 15 jd_X_fewestNumbersOf_8 (by decide) (by decide) (by decide) (fun _ => ?_) (fun q => absurd q (by decide))
    refine ja_iload_n C jd_X_fewestNumbersOf_15 0 rfl ?_
    refine jb_pS 8 C X jk_X_168 (jx_most (wt := 0) (by decide)) jd_X_fewestNumbersOf_16 rfl rfl ⟨by decide, by decide⟩ (Nat.le_of_ble_eq_true rfl) ?_
    exact E jd_X_fewestNumbersOf_19 ⟨rfl, rfl, rfl⟩
  | 1, _ =>
    refine ja_iload_n C jd_X_fewestNumbersOf_0 0 rfl ?_
    refine ja_iconst C (nI 5) jd_X_fewestNumbersOf_1 (by decide) ?_
    refine ja_icmp_eqN C 11 jd_X_fewestNumbersOf_2 (by decide) (by decide) (by decide) (fun q => absurd q (by decide)) (fun _ => ?_)
    refine ja_iload_n C jd_X_fewestNumbersOf_5 0 rfl ?_
    refine ja_bipush C (nI 6) jd_X_fewestNumbersOf_6 (by decide) ?_
    refine ja_icmp_neN C 15 jd_X_fewestNumbersOf_8 (by decide) (by decide) (by decide) (fun _ => ?_) (fun q => absurd q (by decide))
    refine ja_iload_n C jd_X_fewestNumbersOf_15 0 rfl ?_
    refine jb_pS 8 C X jk_X_168 (jx_most (wt := 1) (by decide)) jd_X_fewestNumbersOf_16 rfl rfl ⟨by decide, by decide⟩ (Nat.le_of_ble_eq_true rfl) ?_
    exact E jd_X_fewestNumbersOf_19 ⟨rfl, rfl, rfl⟩
  | 2, _ =>
    refine ja_iload_n C jd_X_fewestNumbersOf_0 0 rfl ?_
    refine ja_iconst C (nI 5) jd_X_fewestNumbersOf_1 (by decide) ?_
    refine ja_icmp_eqN C 11 jd_X_fewestNumbersOf_2 (by decide) (by decide) (by decide) (fun q => absurd q (by decide)) (fun _ => ?_)
    refine ja_iload_n C jd_X_fewestNumbersOf_5 0 rfl ?_
    refine ja_bipush C (nI 6) jd_X_fewestNumbersOf_6 (by decide) ?_
    refine ja_icmp_neN C 15 jd_X_fewestNumbersOf_8 (by decide) (by decide) (by decide) (fun _ => ?_) (fun q => absurd q (by decide))
    refine ja_iload_n C jd_X_fewestNumbersOf_15 0 rfl ?_
    refine jb_pS 8 C X jk_X_168 (jx_most (wt := 2) (by decide)) jd_X_fewestNumbersOf_16 rfl rfl ⟨by decide, by decide⟩ (Nat.le_of_ble_eq_true rfl) ?_
    exact E jd_X_fewestNumbersOf_19 ⟨rfl, rfl, rfl⟩
  | 3, _ =>
    refine ja_iload_n C jd_X_fewestNumbersOf_0 0 rfl ?_
    refine ja_iconst C (nI 5) jd_X_fewestNumbersOf_1 (by decide) ?_
    refine ja_icmp_eqN C 11 jd_X_fewestNumbersOf_2 (by decide) (by decide) (by decide) (fun q => absurd q (by decide)) (fun _ => ?_)
    refine ja_iload_n C jd_X_fewestNumbersOf_5 0 rfl ?_
    refine ja_bipush C (nI 6) jd_X_fewestNumbersOf_6 (by decide) ?_
    refine ja_icmp_neN C 15 jd_X_fewestNumbersOf_8 (by decide) (by decide) (by decide) (fun _ => ?_) (fun q => absurd q (by decide))
    refine ja_iload_n C jd_X_fewestNumbersOf_15 0 rfl ?_
    refine jb_pS 8 C X jk_X_168 (jx_most (wt := 3) (by decide)) jd_X_fewestNumbersOf_16 rfl rfl ⟨by decide, by decide⟩ (Nat.le_of_ble_eq_true rfl) ?_
    exact E jd_X_fewestNumbersOf_19 ⟨rfl, rfl, rfl⟩
  | 4, _ =>
    refine ja_iload_n C jd_X_fewestNumbersOf_0 0 rfl ?_
    refine ja_iconst C (nI 5) jd_X_fewestNumbersOf_1 (by decide) ?_
    refine ja_icmp_eqN C 11 jd_X_fewestNumbersOf_2 (by decide) (by decide) (by decide) (fun q => absurd q (by decide)) (fun _ => ?_)
    refine ja_iload_n C jd_X_fewestNumbersOf_5 0 rfl ?_
    refine ja_bipush C (nI 6) jd_X_fewestNumbersOf_6 (by decide) ?_
    refine ja_icmp_neN C 15 jd_X_fewestNumbersOf_8 (by decide) (by decide) (by decide) (fun _ => ?_) (fun q => absurd q (by decide))
    refine ja_iload_n C jd_X_fewestNumbersOf_15 0 rfl ?_
    refine jb_pS 8 C X jk_X_168 (jx_most (wt := 4) (by decide)) jd_X_fewestNumbersOf_16 rfl rfl ⟨by decide, by decide⟩ (Nat.le_of_ble_eq_true rfl) ?_
    exact E jd_X_fewestNumbersOf_19 ⟨rfl, rfl, rfl⟩
  | 5, _ =>
    refine ja_iload_n C jd_X_fewestNumbersOf_0 0 rfl ?_
    refine ja_iconst C (nI 5) jd_X_fewestNumbersOf_1 (by decide) ?_
    refine ja_icmp_eqN C 11 jd_X_fewestNumbersOf_2 (by decide) (by decide) (by decide) (fun _ => ?_) (fun q => absurd q (by decide))
    refine ja_iconst C (nI 0) jd_X_fewestNumbersOf_11 (by decide) ?_
    refine ja_goto C 19 jd_X_fewestNumbersOf_12 (by decide) ?_
    exact E jd_X_fewestNumbersOf_19 ⟨rfl, rfl, rfl⟩
  | 6, _ =>
    refine ja_iload_n C jd_X_fewestNumbersOf_0 0 rfl ?_
    refine ja_iconst C (nI 5) jd_X_fewestNumbersOf_1 (by decide) ?_
    refine ja_icmp_eqN C 11 jd_X_fewestNumbersOf_2 (by decide) (by decide) (by decide) (fun q => absurd q (by decide)) (fun _ => ?_)
    refine ja_iload_n C jd_X_fewestNumbersOf_5 0 rfl ?_
    refine ja_bipush C (nI 6) jd_X_fewestNumbersOf_6 (by decide) ?_
    refine ja_icmp_neN C 15 jd_X_fewestNumbersOf_8 (by decide) (by decide) (by decide) (fun q => absurd q (by decide)) (fun _ => ?_)
    refine ja_iconst C (nI 0) jd_X_fewestNumbersOf_11 (by decide) ?_
    refine ja_goto C 19 jd_X_fewestNumbersOf_12 (by decide) ?_
    exact E jd_X_fewestNumbersOf_19 ⟨rfl, rfl, rfl⟩
  | 7, _ =>
    refine ja_iload_n C jd_X_fewestNumbersOf_0 0 rfl ?_
    refine ja_iconst C (nI 5) jd_X_fewestNumbersOf_1 (by decide) ?_
    refine ja_icmp_eqN C 11 jd_X_fewestNumbersOf_2 (by decide) (by decide) (by decide) (fun q => absurd q (by decide)) (fun _ => ?_)
    refine ja_iload_n C jd_X_fewestNumbersOf_5 0 rfl ?_
    refine ja_bipush C (nI 6) jd_X_fewestNumbersOf_6 (by decide) ?_
    refine ja_icmp_neN C 15 jd_X_fewestNumbersOf_8 (by decide) (by decide) (by decide) (fun _ => ?_) (fun q => absurd q (by decide))
    refine ja_iload_n C jd_X_fewestNumbersOf_15 0 rfl ?_
    refine jb_pS 8 C X jk_X_168 (jx_most (wt := 7) (by decide)) jd_X_fewestNumbersOf_16 rfl rfl ⟨by decide, by decide⟩ (Nat.le_of_ble_eq_true rfl) ?_
    exact E jd_X_fewestNumbersOf_19 ⟨rfl, rfl, rfl⟩
  | 8, _ =>
    refine ja_iload_n C jd_X_fewestNumbersOf_0 0 rfl ?_
    refine ja_iconst C (nI 5) jd_X_fewestNumbersOf_1 (by decide) ?_
    refine ja_icmp_eqN C 11 jd_X_fewestNumbersOf_2 (by decide) (by decide) (by decide) (fun q => absurd q (by decide)) (fun _ => ?_)
    refine ja_iload_n C jd_X_fewestNumbersOf_5 0 rfl ?_
    refine ja_bipush C (nI 6) jd_X_fewestNumbersOf_6 (by decide) ?_
    refine ja_icmp_neN C 15 jd_X_fewestNumbersOf_8 (by decide) (by decide) (by decide) (fun _ => ?_) (fun q => absurd q (by decide))
    refine ja_iload_n C jd_X_fewestNumbersOf_15 0 rfl ?_
    refine jb_pS 8 C X jk_X_168 (jx_most (wt := 8) (by decide)) jd_X_fewestNumbersOf_16 rfl rfl ⟨by decide, by decide⟩ (Nat.le_of_ble_eq_true rfl) ?_
    exact E jd_X_fewestNumbersOf_19 ⟨rfl, rfl, rfl⟩
  | 9, _ =>
    refine ja_iload_n C jd_X_fewestNumbersOf_0 0 rfl ?_
    refine ja_iconst C (nI 5) jd_X_fewestNumbersOf_1 (by decide) ?_
    refine ja_icmp_eqN C 11 jd_X_fewestNumbersOf_2 (by decide) (by decide) (by decide) (fun q => absurd q (by decide)) (fun _ => ?_)
    refine ja_iload_n C jd_X_fewestNumbersOf_5 0 rfl ?_
    refine ja_bipush C (nI 6) jd_X_fewestNumbersOf_6 (by decide) ?_
    refine ja_icmp_neN C 15 jd_X_fewestNumbersOf_8 (by decide) (by decide) (by decide) (fun _ => ?_) (fun q => absurd q (by decide))
    refine ja_iload_n C jd_X_fewestNumbersOf_15 0 rfl ?_
    refine jb_pS 8 C X jk_X_168 (jx_most (wt := 9) (by decide)) jd_X_fewestNumbersOf_16 rfl rfl ⟨by decide, by decide⟩ (Nat.le_of_ble_eq_true rfl) ?_
    exact E jd_X_fewestNumbersOf_19 ⟨rfl, rfl, rfl⟩
  | 10, _ =>
    refine ja_iload_n C jd_X_fewestNumbersOf_0 0 rfl ?_
    refine ja_iconst C (nI 5) jd_X_fewestNumbersOf_1 (by decide) ?_
    refine ja_icmp_eqN C 11 jd_X_fewestNumbersOf_2 (by decide) (by decide) (by decide) (fun q => absurd q (by decide)) (fun _ => ?_)
    refine ja_iload_n C jd_X_fewestNumbersOf_5 0 rfl ?_
    refine ja_bipush C (nI 6) jd_X_fewestNumbersOf_6 (by decide) ?_
    refine ja_icmp_neN C 15 jd_X_fewestNumbersOf_8 (by decide) (by decide) (by decide) (fun _ => ?_) (fun q => absurd q (by decide))
    refine ja_iload_n C jd_X_fewestNumbersOf_15 0 rfl ?_
    refine jb_pS 8 C X jk_X_168 (jx_most (wt := 10) (by decide)) jd_X_fewestNumbersOf_16 rfl rfl ⟨by decide, by decide⟩ (Nat.le_of_ble_eq_true rfl) ?_
    exact E jd_X_fewestNumbersOf_19 ⟨rfl, rfl, rfl⟩
  | 11, _ =>
    refine ja_iload_n C jd_X_fewestNumbersOf_0 0 rfl ?_
    refine ja_iconst C (nI 5) jd_X_fewestNumbersOf_1 (by decide) ?_
    refine ja_icmp_eqN C 11 jd_X_fewestNumbersOf_2 (by decide) (by decide) (by decide) (fun q => absurd q (by decide)) (fun _ => ?_)
    refine ja_iload_n C jd_X_fewestNumbersOf_5 0 rfl ?_
    refine ja_bipush C (nI 6) jd_X_fewestNumbersOf_6 (by decide) ?_
    refine ja_icmp_neN C 15 jd_X_fewestNumbersOf_8 (by decide) (by decide) (by decide) (fun _ => ?_) (fun q => absurd q (by decide))
    refine ja_iload_n C jd_X_fewestNumbersOf_15 0 rfl ?_
    refine jb_pS 8 C X jk_X_168 (jx_most (wt := 11) (by decide)) jd_X_fewestNumbersOf_16 rfl rfl ⟨by decide, by decide⟩ (Nat.le_of_ble_eq_true rfl) ?_
    exact E jd_X_fewestNumbersOf_19 ⟨rfl, rfl, rfl⟩
  | 12, _ =>
    refine ja_iload_n C jd_X_fewestNumbersOf_0 0 rfl ?_
    refine ja_iconst C (nI 5) jd_X_fewestNumbersOf_1 (by decide) ?_
    refine ja_icmp_eqN C 11 jd_X_fewestNumbersOf_2 (by decide) (by decide) (by decide) (fun q => absurd q (by decide)) (fun _ => ?_)
    refine ja_iload_n C jd_X_fewestNumbersOf_5 0 rfl ?_
    refine ja_bipush C (nI 6) jd_X_fewestNumbersOf_6 (by decide) ?_
    refine ja_icmp_neN C 15 jd_X_fewestNumbersOf_8 (by decide) (by decide) (by decide) (fun _ => ?_) (fun q => absurd q (by decide))
    refine ja_iload_n C jd_X_fewestNumbersOf_15 0 rfl ?_
    refine jb_pS 8 C X jk_X_168 (jx_most (wt := 12) (by decide)) jd_X_fewestNumbersOf_16 rfl rfl ⟨by decide, by decide⟩ (Nat.le_of_ble_eq_true rfl) ?_
    exact E jd_X_fewestNumbersOf_19 ⟨rfl, rfl, rfl⟩
  | 13, _ =>
    refine ja_iload_n C jd_X_fewestNumbersOf_0 0 rfl ?_
    refine ja_iconst C (nI 5) jd_X_fewestNumbersOf_1 (by decide) ?_
    refine ja_icmp_eqN C 11 jd_X_fewestNumbersOf_2 (by decide) (by decide) (by decide) (fun q => absurd q (by decide)) (fun _ => ?_)
    refine ja_iload_n C jd_X_fewestNumbersOf_5 0 rfl ?_
    refine ja_bipush C (nI 6) jd_X_fewestNumbersOf_6 (by decide) ?_
    refine ja_icmp_neN C 15 jd_X_fewestNumbersOf_8 (by decide) (by decide) (by decide) (fun _ => ?_) (fun q => absurd q (by decide))
    refine ja_iload_n C jd_X_fewestNumbersOf_15 0 rfl ?_
    refine jb_pS 8 C X jk_X_168 (jx_most (wt := 13) (by decide)) jd_X_fewestNumbersOf_16 rfl rfl ⟨by decide, by decide⟩ (Nat.le_of_ble_eq_true rfl) ?_
    exact E jd_X_fewestNumbersOf_19 ⟨rfl, rfl, rfl⟩
  | 14, _ =>
    refine ja_iload_n C jd_X_fewestNumbersOf_0 0 rfl ?_
    refine ja_iconst C (nI 5) jd_X_fewestNumbersOf_1 (by decide) ?_
    refine ja_icmp_eqN C 11 jd_X_fewestNumbersOf_2 (by decide) (by decide) (by decide) (fun q => absurd q (by decide)) (fun _ => ?_)
    refine ja_iload_n C jd_X_fewestNumbersOf_5 0 rfl ?_
    refine ja_bipush C (nI 6) jd_X_fewestNumbersOf_6 (by decide) ?_
    refine ja_icmp_neN C 15 jd_X_fewestNumbersOf_8 (by decide) (by decide) (by decide) (fun _ => ?_) (fun q => absurd q (by decide))
    refine ja_iload_n C jd_X_fewestNumbersOf_15 0 rfl ?_
    refine jb_pS 8 C X jk_X_168 (jx_most (wt := 14) (by decide)) jd_X_fewestNumbersOf_16 rfl rfl ⟨by decide, by decide⟩ (Nat.le_of_ble_eq_true rfl) ?_
    exact E jd_X_fewestNumbersOf_19 ⟨rfl, rfl, rfl⟩
  | 15, _ =>
    refine ja_iload_n C jd_X_fewestNumbersOf_0 0 rfl ?_
    refine ja_iconst C (nI 5) jd_X_fewestNumbersOf_1 (by decide) ?_
    refine ja_icmp_eqN C 11 jd_X_fewestNumbersOf_2 (by decide) (by decide) (by decide) (fun q => absurd q (by decide)) (fun _ => ?_)
    refine ja_iload_n C jd_X_fewestNumbersOf_5 0 rfl ?_
    refine ja_bipush C (nI 6) jd_X_fewestNumbersOf_6 (by decide) ?_
    refine ja_icmp_neN C 15 jd_X_fewestNumbersOf_8 (by decide) (by decide) (by decide) (fun _ => ?_) (fun q => absurd q (by decide))
    refine ja_iload_n C jd_X_fewestNumbersOf_15 0 rfl ?_
    refine jb_pS 8 C X jk_X_168 (jx_most (wt := 15) (by decide)) jd_X_fewestNumbersOf_16 rfl rfl ⟨by decide, by decide⟩ (Nat.le_of_ble_eq_true rfl) ?_
    exact E jd_X_fewestNumbersOf_19 ⟨rfl, rfl, rfl⟩
  | 16, _ =>
    refine ja_iload_n C jd_X_fewestNumbersOf_0 0 rfl ?_
    refine ja_iconst C (nI 5) jd_X_fewestNumbersOf_1 (by decide) ?_
    refine ja_icmp_eqN C 11 jd_X_fewestNumbersOf_2 (by decide) (by decide) (by decide) (fun q => absurd q (by decide)) (fun _ => ?_)
    refine ja_iload_n C jd_X_fewestNumbersOf_5 0 rfl ?_
    refine ja_bipush C (nI 6) jd_X_fewestNumbersOf_6 (by decide) ?_
    refine ja_icmp_neN C 15 jd_X_fewestNumbersOf_8 (by decide) (by decide) (by decide) (fun _ => ?_) (fun q => absurd q (by decide))
    refine ja_iload_n C jd_X_fewestNumbersOf_15 0 rfl ?_
    refine jb_pS 8 C X jk_X_168 (jx_most (wt := 16) (by decide)) jd_X_fewestNumbersOf_16 rfl rfl ⟨by decide, by decide⟩ (Nat.le_of_ble_eq_true rfl) ?_
    exact E jd_X_fewestNumbersOf_19 ⟨rfl, rfl, rfl⟩
  | 17, _ =>
    refine ja_iload_n C jd_X_fewestNumbersOf_0 0 rfl ?_
    refine ja_iconst C (nI 5) jd_X_fewestNumbersOf_1 (by decide) ?_
    refine ja_icmp_eqN C 11 jd_X_fewestNumbersOf_2 (by decide) (by decide) (by decide) (fun q => absurd q (by decide)) (fun _ => ?_)
    refine ja_iload_n C jd_X_fewestNumbersOf_5 0 rfl ?_
    refine ja_bipush C (nI 6) jd_X_fewestNumbersOf_6 (by decide) ?_
    refine ja_icmp_neN C 15 jd_X_fewestNumbersOf_8 (by decide) (by decide) (by decide) (fun _ => ?_) (fun q => absurd q (by decide))
    refine ja_iload_n C jd_X_fewestNumbersOf_15 0 rfl ?_
    refine jb_pS 8 C X jk_X_168 (jx_most (wt := 17) (by decide)) jd_X_fewestNumbersOf_16 rfl rfl ⟨by decide, by decide⟩ (Nat.le_of_ble_eq_true rfl) ?_
    exact E jd_X_fewestNumbersOf_19 ⟨rfl, rfl, rfl⟩
  | 18, _ =>
    refine ja_iload_n C jd_X_fewestNumbersOf_0 0 rfl ?_
    refine ja_iconst C (nI 5) jd_X_fewestNumbersOf_1 (by decide) ?_
    refine ja_icmp_eqN C 11 jd_X_fewestNumbersOf_2 (by decide) (by decide) (by decide) (fun q => absurd q (by decide)) (fun _ => ?_)
    refine ja_iload_n C jd_X_fewestNumbersOf_5 0 rfl ?_
    refine ja_bipush C (nI 6) jd_X_fewestNumbersOf_6 (by decide) ?_
    refine ja_icmp_neN C 15 jd_X_fewestNumbersOf_8 (by decide) (by decide) (by decide) (fun _ => ?_) (fun q => absurd q (by decide))
    refine ja_iload_n C jd_X_fewestNumbersOf_15 0 rfl ?_
    refine jb_pS 8 C X jk_X_168 (jx_most (wt := 18) (by decide)) jd_X_fewestNumbersOf_16 rfl rfl ⟨by decide, by decide⟩ (Nat.le_of_ble_eq_true rfl) ?_
    exact E jd_X_fewestNumbersOf_19 ⟨rfl, rfl, rfl⟩
  | wt + 19, z => omega
end X85
