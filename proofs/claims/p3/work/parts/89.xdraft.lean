/-! THE CLASS: a draft by its call -/
theorem jl_args0 {wt : Nat} (h : jl_args wt = 0) : wt = 11 := by
  unfold jl_args jl_wanted at h
  split at h
  · assumption
  · split at h <;> omega

section X89
variable {l : Launch} {D : va_G} {H0 : Heap} {cI cJ cT cX : ClassId} {w : jb_W} {sz : Nat}
variable {x : Nat} {P : Nat → Prop} {σ : jSt} {dr : Nat} {F G : Nat → Option Nat} {own : Nat → Nat} {fT : Nat → Nat → Int32} {ls : Int32} {k : Nat} {f : Nat → Int32} {m : Int32 × Int32 × Int64} {tm : Int32}
theorem jx_draft1 {wt ta oa m9 : Nat} {b xx yy : Int32} (h : jXd cI cT cX x P σ dr F G own fT ls w (jT_k (jSt_T σ ta)) f (nI (jT_r (jSt_T σ ta)), nI (jT_e (jSt_T σ ta)), lN (jT_q (jSt_T σ ta))) (nI 1)) (hS : jSh (jT_k (jSt_T σ ta)) f (jT_S (jSt_T σ ta))) (hta : ta < jSt_c σ) (ea : F ta = some oa) (hwt : wt < 19) (ha : jl_args wt = 1) (hf : jl_few wt ≤ m9) (hm : m9 ≤ jl_most wt) (hx : 0 < m9 → ¬ xx < 0) (hy : 1 < m9 → ¬ yy < 0) : jb_M l jy_X_draftOfOne jc_X_draftOfOne 6 (some .boolean) 5 120 0 0 D H0 (jt_all cI cJ cT cX) [.ref x, .int (nI wt), .ref oa, .int (nI m9), .int xx, .int yy] w sz
    (fun v w' sz' => jXk cI cT cX x P σ dr F G own fT ls (jA_apply σ wt ta b m9 xx yy) v w' ∧ jXF P w w' ∧ sz' = sz) := by
  match wt, hwt, ha, hf, hm with
  | 0, _, _, hf, hm =>
    have em : m9 = 0 := Nat.le_zero.mp hm
    subst em
    exact jx_k0 h hS hta ea
  | 1, _, _, hf, hm =>
    have em : m9 = 0 := Nat.le_zero.mp hm
    subst em
    exact jx_k1 h hS hta ea
  | 2, _, _, hf, hm =>
    have em : m9 = 0 := Nat.le_zero.mp hm
    subst em
    exact jx_k2 h hS hta ea
  | 3, _, _, hf, hm =>
    have em : m9 = 0 := Nat.le_zero.mp hm
    subst em
    exact jx_k3 h hS hta ea
  | 4, _, _, hf, hm =>
    have em : m9 = 0 := Nat.le_zero.mp hm
    subst em
    exact jx_k4 h hS hta ea
  | 5, _, _, hf, hm =>
    have hm : m9 ≤ 1 := hm
    rcases Nat.eq_zero_or_pos m9 with em | em
    · subst em
      exact jx_k5n h hS hta ea
    · have em : m9 = 1 := by omega
      subst em
      obtain ⟨i, hi, ei, ec⟩ := jl_clamp (hx (by decide))
      subst ei
      refine (jx_k5 h hS hta ea hi).imp (fun v w' sz' hp => ?_)
      show jXk cI cT cX x P σ dr F G own fT ls (fun y σ' => jA_s1 σ 5 ta (nI i).toNatClampNeg y σ') v w' ∧ _
      rw [ec]
      exact hp
  | 6, _, _, hf, hm =>
    have hm : m9 ≤ 1 := hm
    rcases Nat.eq_zero_or_pos m9 with em | em
    · subst em
      exact jx_k6n h hS hta ea
    · have em : m9 = 1 := by omega
      subst em
      obtain ⟨i, hi, ei, ec⟩ := jl_clamp (hx (by decide))
      subst ei
      refine (jx_k6 h hS hta ea hi).imp (fun v w' sz' hp => ?_)
      show jXk cI cT cX x P σ dr F G own fT ls (fun y σ' => jA_s1 σ 6 ta (nI i).toNatClampNeg y σ') v w' ∧ _
      rw [ec]
      exact hp
  | 7, _, _, hf, hm =>
    have hm : m9 ≤ 1 := hm
    have hf : 1 ≤ m9 := hf
    have em : m9 = 1 := by omega
    subst em
    obtain ⟨i, hi, ei, ec⟩ := jl_clamp (hx (by decide))
    subst ei
    refine (jx_k7 h hS hta ea hi).imp (fun v w' sz' hp => ?_)
    show jXk cI cT cX x P σ dr F G own fT ls (fun y σ' => jA_s1 σ 7 ta (nI i).toNatClampNeg y σ') v w' ∧ _
    rw [ec]
    exact hp
  | 8, _, h1, _, _ => exact absurd h1 (by decide)
  | 9, _, _, hf, hm =>
    have hm : m9 ≤ 1 := hm
    have hf : 1 ≤ m9 := hf
    have em : m9 = 1 := by omega
    subst em
    obtain ⟨i, hi, ei, ec⟩ := jl_clamp (hx (by decide))
    subst ei
    refine (jx_k9 h hS hta ea hi).imp (fun v w' sz' hp => ?_)
    show jXk cI cT cX x P σ dr F G own fT ls (fun y σ' => jA_pl σ 9 ta (nI i).toNatClampNeg y σ') v w' ∧ _
    rw [ec]
    exact hp
  | 10, _, _, hf, hm =>
    have hm : m9 ≤ 1 := hm
    have hf : 1 ≤ m9 := hf
    have em : m9 = 1 := by omega
    subst em
    obtain ⟨i, hi, ei, ec⟩ := jl_clamp (hx (by decide))
    subst ei
    refine (jx_k10 h hS hta ea hi).imp (fun v w' sz' hp => ?_)
    show jXk cI cT cX x P σ dr F G own fT ls (fun y σ' => jA_pl σ 10 ta (nI i).toNatClampNeg y σ') v w' ∧ _
    rw [ec]
    exact hp
  | 11, _, h1, _, _ => exact absurd h1 (by decide)
  | 12, _, _, hf, hm =>
    have em : m9 = 0 := Nat.le_zero.mp hm
    subst em
    exact jx_k12 h hS hta ea
  | 13, _, _, hf, hm =>
    have hm : m9 ≤ 2 := hm
    have hf : 2 ≤ m9 := hf
    have em : m9 = 2 := by omega
    subst em
    obtain ⟨i, hi, ei, ec⟩ := jl_clamp (hx (by decide))
    obtain ⟨j, hj, ej, ed⟩ := jl_clamp (hy (by decide))
    subst ei
    subst ej
    refine (jx_k13 h hS hta ea hi hj).imp (fun v w' sz' hp => ?_)
    show jXk cI cT cX x P σ dr F G own fT ls (fun y σ' => jA_pt σ ta (nI i).toNatClampNeg (nI j).toNatClampNeg y σ') v w' ∧ _
    rw [ec, ed]
    exact hp
  | 14, _, h1, _, _ => exact absurd h1 (by decide)
  | 15, _, _, hf, hm =>
    have hm : m9 ≤ 1 := hm
    have hf : 1 ≤ m9 := hf
    have em : m9 = 1 := by omega
    subst em
    obtain ⟨i, hi, ei, ec⟩ := jl_clamp (hx (by decide))
    subst ei
    refine (jx_k15 h hS hta ea hi).imp (fun v w' sz' hp => ?_)
    show jXk cI cT cX x P σ dr F G own fT ls (fun y σ' => jA_pd σ ta (nI i).toNatClampNeg y σ') v w' ∧ _
    rw [ec]
    exact hp
  | 16, _, h1, _, _ => exact absurd h1 (by decide)
  | 17, _, h1, _, _ => exact absurd h1 (by decide)
  | 18, _, h1, _, _ => exact absurd h1 (by decide)
  | wt + 19, z, _, _, _ => omega
theorem jx_draft2 {wt ta oa tb ob m9 : Nat} {xx yy : Int32} (h : jXd cI cT cX x P σ dr F G own fT ls w (jT_k (jSt_T σ ta)) f (nI (jT_r (jSt_T σ ta)), nI (jT_e (jSt_T σ ta)), lN (jT_q (jSt_T σ ta))) (nI 1)) (hS : jSh (jT_k (jSt_T σ ta)) f (jT_S (jSt_T σ ta))) (hta : ta < jSt_c σ) (ea : F ta = some oa) (htb : tb < jSt_c σ) (eb : F tb = some ob) (hwt : wt < 19) (ha : jl_args wt = 2) (hn : ¬ (wt = 16 ∨ wt = 17)) (hf : jl_few wt ≤ m9) (hm : m9 ≤ jl_most wt) (hx : 0 < m9 → ¬ xx < 0) (hy : 1 < m9 → ¬ yy < 0) : jb_M l jy_X_draftOfTwo jc_X_draftOfTwo 5 (some .boolean) 5 120 0 0 D H0 (jt_all cI cJ cT cX) [.ref x, .int (nI wt), .ref oa, .ref ob, .int xx] w sz
    (fun v w' sz' => jXk cI cT cX x P σ dr F G own fT ls (jA_apply σ wt ta (nI tb) m9 xx yy) v w' ∧ jXF P w w' ∧ sz' = sz) := by
  have hcn := h.cn
  match wt, hwt, ha, hn, hf, hm with
  | 0, _, h1, _, _, _ => exact absurd h1 (by decide)
  | 1, _, h1, _, _, _ => exact absurd h1 (by decide)
  | 2, _, h1, _, _, _ => exact absurd h1 (by decide)
  | 3, _, h1, _, _, _ => exact absurd h1 (by decide)
  | 4, _, h1, _, _, _ => exact absurd h1 (by decide)
  | 5, _, h1, _, _, _ => exact absurd h1 (by decide)
  | 6, _, h1, _, _, _ => exact absurd h1 (by decide)
  | 7, _, h1, _, _, _ => exact absurd h1 (by decide)
  | 8, _, _, _, hf, hm =>
    have hm : m9 ≤ 1 := hm
    have hf : 1 ≤ m9 := hf
    have em : m9 = 1 := by omega
    subst em
    obtain ⟨i, hi, ei, ec⟩ := jl_clamp (hx (by decide))
    subst ei
    refine (jx_k8 h hS hta ea htb eb hi).imp (fun v w' sz' hp => ?_)
    show jXk cI cT cX x P σ dr F G own fT ls (fun y σ' => jA_conv σ ta (nI tb).toNatClampNeg (nI i).toNatClampNeg y σ') v w' ∧ _
    rw [ec, nI_clamp (show tb < 2 ^ 31 by omega)]
    exact hp
  | 9, _, h1, _, _, _ => exact absurd h1 (by decide)
  | 10, _, h1, _, _, _ => exact absurd h1 (by decide)
  | 11, _, h1, _, _, _ => exact absurd h1 (by decide)
  | 12, _, h1, _, _, _ => exact absurd h1 (by decide)
  | 13, _, h1, _, _, _ => exact absurd h1 (by decide)
  | 14, _, _, _, hf, hm =>
    refine ((jx_k14 h hS hta ea htb eb)).imp (fun v w' sz' hp => ?_)
    show jXk cI cT cX x P σ dr F G own fT ls (fun y σ' => jA_join σ ta (nI tb).toNatClampNeg y σ') v w' ∧ _
    rw [nI_clamp (show tb < 2 ^ 31 by omega)]
    exact hp
  | 15, _, h1, _, _, _ => exact absurd h1 (by decide)
  | 16, _, _, h1, _, _ => exact absurd h1 (by decide)
  | 17, _, _, h1, _, _ => exact absurd h1 (by decide)
  | 18, _, _, _, hf, hm =>
    refine ((jx_k18 h hS hta ea htb eb)).imp (fun v w' sz' hp => ?_)
    show jXk cI cT cX x P σ dr F G own fT ls (fun y σ' => jA_gap σ ta (nI tb).toNatClampNeg y σ') v w' ∧ _
    rw [nI_clamp (show tb < 2 ^ 31 by omega)]
    exact hp
  | wt + 19, z, _, _, _, _ => omega
theorem jx_draftI {wt ta oa i ib m9 : Nat} {b xx yy : Int32} (h : jXd cI cT cX x P σ dr F G own fT ls w (jT_k (jSt_T σ ta)) f (nI (jT_r (jSt_T σ ta)), nI (jT_e (jSt_T σ ta)), lN (jT_q (jSt_T σ ta))) (nI 1)) (hS : jSh (jT_k (jSt_T σ ta)) f (jT_S (jSt_T σ ta))) (hta : ta < jSt_c σ) (ea : F ta = some oa) (hi : i < jSt_i σ) (ei : G i = some ib) (eb : -1 - b = nI i) (hw : wt = 16 ∨ wt = 17) : jb_M l jy_X_draftWithIndex jc_X_draftWithIndex 5 (some .boolean) 2 44 0 0 D H0 (jt_all cI cJ cT cX) [.ref x, .int (nI wt), .ref oa, .ref ib] w sz
    (fun v w' sz' => jXk cI cT cX x P σ dr F G own fT ls (jA_apply σ wt ta b m9 xx yy) v w' ∧ jXF P w w' ∧ sz' = sz) := by
  have hcn := h.cn
  rcases hw with e | e <;> subst e
  · refine ((jx_k16 h hS hta ea hi ei)).imp (fun v w' sz' hp => ?_)
    show jXk cI cT cX x P σ dr F G own fT ls (fun y σ' => jA_pk σ ta (-1 - b).toNatClampNeg y σ') v w' ∧ _
    rw [eb, nI_clamp (show i < 2 ^ 31 by omega)]
    exact hp
  · refine ((jx_k17 h hS hta ea hi ei)).imp (fun v w' sz' hp => ?_)
    show jXk cI cT cX x P σ dr F G own fT ls (fun y σ' => jA_hg σ ta (-1 - b).toNatClampNeg y σ') v w' ∧ _
    rw [eb, nI_clamp (show i < 2 ^ 31 by omega)]
    exact hp
theorem jx_isThere0 {a : Int32} (h : jXd cI cT cX x P σ dr F G own fT ls w k f m tm) (hn : jl_none σ a) : jb_M l jy_X_isThere jc_X_isThere 2 (some .boolean) 1 21 0 0 D H0 (jt_all cI cJ cT cX) [.ref x, .int a] w sz
    (fun v w' sz' => v = some (.int (nI 0)) ∧ w' = w ∧ sz' = sz) := (jx_isThere h).imp (fun v w' sz' hp => by
  obtain ⟨⟨z, e, h1, h2⟩, e2, e3⟩ := hp
  exact ⟨by rw [e, h2.mpr hn]; rfl, e2, e3⟩)
theorem jx_isThere1 {a : Int32} (h : jXd cI cT cX x P σ dr F G own fT ls w k f m tm) (hn : ¬ jl_none σ a) : jb_M l jy_X_isThere jc_X_isThere 2 (some .boolean) 1 21 0 0 D H0 (jt_all cI cJ cT cX) [.ref x, .int a] w sz
    (fun v w' sz' => v = some (.int (nI 1)) ∧ w' = w ∧ sz' = sz) := (jx_isThere h).imp (fun v w' sz' hp => by
  obtain ⟨⟨z, e, h1, h2⟩, e2, e3⟩ := hp
  have e4 : z = 1 := h1.elim (fun z => absurd (h2.mp z) hn) id
  exact ⟨by rw [e, e4]; rfl, e2, e3⟩)
end X89
