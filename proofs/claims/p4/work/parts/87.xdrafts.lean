/-! THE CLASS: drafts, as the reference says them, II -/
theorem jl_dvd_le {s p : Nat} (hs : 1 ≤ s) (h : s % p = 0) : p ≤ s := Nat.le_of_dvd hs (Nat.dvd_of_mod_eq_zero h)
theorem jl_div_pos {s p : Nat} (hs : 1 ≤ s) (hp : 0 < p) (h : s % p = 0) : 1 ≤ s / p := (Nat.one_le_div_iff hp).mpr (jl_dvd_le hs h)

section X87
variable {l : Launch} {D : va_G} {H0 : Heap} {cI cJ cT cX : ClassId} {w : jb_W} {sz : Nat}
variable {x : Nat} {P : Nat → Prop} {σ : jSt} {dr : Nat} {F G : Nat → Option Nat} {own : Nat → Nat} {fT : Nat → Nat → Int32} {ls : Int32} {k : Nat} {f : Nat → Int32} {m : Int32 × Int32 × Int64} {tm : Int32}
theorem jx_k9 {ta oa p : Nat} {z1 z3 : Int32} (h : jXd cI cT cX x P σ dr F G own fT ls w (jT_k (jSt_T σ ta)) f (nI (jT_r (jSt_T σ ta)), nI (jT_e (jSt_T σ ta)), lN (jT_q (jSt_T σ ta))) (nI 1)) (hS : jSh (jT_k (jSt_T σ ta)) f (jT_S (jSt_T σ ta))) (hta : ta < jSt_c σ) (ea : F ta = some oa) (hp0 : p < 2 ^ 31) : jb_M l jy_X_draftOfOne jc_X_draftOfOne 6 (some .boolean) 5 120 0 0 D H0 (jt_all cI cJ cT cX) [.ref x, .int (nI 9), .ref oa, .int z1, .int (nI p), .int z3] w sz
    (fun v w' sz' => jXk cI cT cX x P σ dr F G own fT ls (jA_pl σ 9 ta p) v w' ∧ jXF P w w' ∧ sz' = sz) := by
  obtain ⟨b1, b2, b3, b4, b5, b6, b7, b8, b9, b10⟩ := h.ok hta
  refine (jx_one9 h hS hta ea hp0).imp (fun v w' sz' hp => ?_)
  rcases Classical.em (jT_k (jSt_T σ ta) = 3 ∧ 0 < p ∧ jT_S (jSt_T σ ta) 1 % p = 0 ∧ jT_S (jSt_T σ ta) 2 % p = 0) with hf | hf
  · obtain ⟨hv, hx⟩ := hp.1 hf
    have s0 := b2 0 (by decide)
    have s1 := b2 1 (by decide)
    have s2 := b2 2 (by decide)
    have p1 := jl_dvd_le s1.1 hf.2.2.1
    have d1 := jl_div_pos s1.1 hf.2.1 hf.2.2.1
    have d2 := jl_div_pos s2.1 hf.2.1 hf.2.2.2
    have u1 := Nat.div_le_self (jT_S (jSt_T σ ta) 1) p
    have u2 := Nat.div_le_self (jT_S (jSt_T σ ta) 2) p
    have pp1 : 1 ≤ p * p := Nat.mul_pos hf.2.1 hf.2.1
    have pp2 : p * p ≤ 4096 * 4096 := Nat.mul_le_mul (by omega) (by omega)
    have hlo := jl_log_le (m := p * p) (by omega)
    have htw := jl_twos_le 40 (p * p)
    refine ⟨jXk.yes (what := _) (a := _) (b := _) hv hx (jx_addO (by decide) pp1 (by omega) b9 b10) (jSh.u4 (by decide) ⟨by omega, by omega⟩ ⟨by omega, by omega⟩ ⟨by omega, by omega⟩ ⟨by omega, by omega⟩) (by omega) (by omega) (jl_prod_lt _ _) (by omega) (fun y σ' z => ⟨fun _ => jB.ext z (fun j hj => by rw [if_pos hj]; match j, hj with | 0, _ => rfl | 1, _ => rfl | 2, _ => rfl | j + 3, z => omega), fun z => absurd hf z⟩), hp.2.2.1, hp.2.2.2⟩
  · obtain ⟨hv, hx⟩ := hp.2.1 hf
    exact ⟨Or.inr ⟨hv, hx, fun z => absurd z hf, fun _ => ⟨rfl, rfl⟩⟩, hp.2.2.1, hp.2.2.2⟩
theorem jx_k10 {ta oa p : Nat} {z1 z3 : Int32} (h : jXd cI cT cX x P σ dr F G own fT ls w (jT_k (jSt_T σ ta)) f (nI (jT_r (jSt_T σ ta)), nI (jT_e (jSt_T σ ta)), lN (jT_q (jSt_T σ ta))) (nI 1)) (hS : jSh (jT_k (jSt_T σ ta)) f (jT_S (jSt_T σ ta))) (hta : ta < jSt_c σ) (ea : F ta = some oa) (hp0 : p < 2 ^ 31) : jb_M l jy_X_draftOfOne jc_X_draftOfOne 6 (some .boolean) 5 120 0 0 D H0 (jt_all cI cJ cT cX) [.ref x, .int (nI 10), .ref oa, .int z1, .int (nI p), .int z3] w sz
    (fun v w' sz' => jXk cI cT cX x P σ dr F G own fT ls (jA_pl σ 10 ta p) v w' ∧ jXF P w w' ∧ sz' = sz) := by
  obtain ⟨b1, b2, b3, b4, b5, b6, b7, b8, b9, b10⟩ := h.ok hta
  refine (jx_one10 h hS hta ea hp0).imp (fun v w' sz' hp => ?_)
  rcases Classical.em (jT_k (jSt_T σ ta) = 3 ∧ 0 < p ∧ jT_S (jSt_T σ ta) 1 % p = 0 ∧ jT_S (jSt_T σ ta) 2 % p = 0) with hf | hf
  · obtain ⟨hv, hx⟩ := hp.1 hf
    have s0 := b2 0 (by decide)
    have s1 := b2 1 (by decide)
    have s2 := b2 2 (by decide)
    have p1 := jl_dvd_le s1.1 hf.2.2.1
    have d1 := jl_div_pos s1.1 hf.2.1 hf.2.2.1
    have d2 := jl_div_pos s2.1 hf.2.1 hf.2.2.2
    have u1 := Nat.div_le_self (jT_S (jSt_T σ ta) 1) p
    have u2 := Nat.div_le_self (jT_S (jSt_T σ ta) 2) p
    have pp1 : 1 ≤ p * p := Nat.mul_pos hf.2.1 hf.2.1
    have pp2 : p * p ≤ 4096 * 4096 := Nat.mul_le_mul (by omega) (by omega)
    have hlo := jl_log_le (m := p * p) (by omega)
    have htw := jl_twos_le 40 (p * p)
    refine ⟨jXk.yes (what := _) (a := _) (b := _) hv hx (q := jT_q (jSt_T σ ta)) (by rw [jq_of b9]) (jSh.u4 (by decide) ⟨by omega, by omega⟩ ⟨by omega, by omega⟩ ⟨by omega, by omega⟩ ⟨by omega, by omega⟩) (by omega) (by omega) b10 (by omega) (fun y σ' z => ⟨fun _ => jB.ext z (fun j hj => by rw [if_pos hj]; match j, hj with | 0, _ => rfl | 1, _ => rfl | 2, _ => rfl | j + 3, z => omega), fun z => absurd hf z⟩), hp.2.2.1, hp.2.2.2⟩
  · obtain ⟨hv, hx⟩ := hp.2.1 hf
    exact ⟨Or.inr ⟨hv, hx, fun z => absurd z hf, fun _ => ⟨rfl, rfl⟩⟩, hp.2.2.1, hp.2.2.2⟩
theorem jx_k12 {ta oa : Nat} {z1 z2 z3 : Int32} (h : jXd cI cT cX x P σ dr F G own fT ls w (jT_k (jSt_T σ ta)) f (nI (jT_r (jSt_T σ ta)), nI (jT_e (jSt_T σ ta)), lN (jT_q (jSt_T σ ta))) (nI 1)) (hS : jSh (jT_k (jSt_T σ ta)) f (jT_S (jSt_T σ ta))) (hta : ta < jSt_c σ) (ea : F ta = some oa) : jb_M l jy_X_draftOfOne jc_X_draftOfOne 6 (some .boolean) 5 120 0 0 D H0 (jt_all cI cJ cT cX) [.ref x, .int (nI 12), .ref oa, .int z1, .int z2, .int z3] w sz
    (fun v w' sz' => jXk cI cT cX x P σ dr F G own fT ls (jA_tn σ ta) v w' ∧ jXF P w w' ∧ sz' = sz) := by
  obtain ⟨b1, b2, b3, b4, b5, b6, b7, b8, b9, b10⟩ := h.ok hta
  refine (jx_one12 h hS hta ea).imp (fun v w' sz' hp => ?_)
  rcases Classical.em (jT_k (jSt_T σ ta) = 2) with hf | hf
  · obtain ⟨hv, hx⟩ := hp.1 hf
    have s0 := b2 0 (by decide)
    have s1 := b2 1 (by decide)
    have s2 := b2 2 (by decide)
    refine ⟨jXk.yes (what := _) (a := _) (b := _) hv hx (q := jT_q (jSt_T σ ta)) (by rw [jq_of b9]) (jSh.u4 (by decide) ⟨by omega, by omega⟩ ⟨by omega, by omega⟩ ⟨by omega, by omega⟩ ⟨by omega, by omega⟩) (by omega) (by omega) b10 (by omega) (fun y σ' z => ⟨fun _ => by rw [hf]; exact jB.ext z (fun j hj => by rw [if_pos hj]; match j, hj with | 0, _ => rfl | 1, _ => rfl | j + 2, z => omega), fun z => absurd hf z⟩), hp.2.2.1, hp.2.2.2⟩
  · obtain ⟨hv, hx⟩ := hp.2.1 hf
    exact ⟨Or.inr ⟨hv, hx, fun z => absurd z hf, fun _ => ⟨rfl, rfl⟩⟩, hp.2.2.1, hp.2.2.2⟩
theorem jx_k13 {ta oa k1 k2 : Nat} {z1 : Int32} (h : jXd cI cT cX x P σ dr F G own fT ls w (jT_k (jSt_T σ ta)) f (nI (jT_r (jSt_T σ ta)), nI (jT_e (jSt_T σ ta)), lN (jT_q (jSt_T σ ta))) (nI 1)) (hS : jSh (jT_k (jSt_T σ ta)) f (jT_S (jSt_T σ ta))) (hta : ta < jSt_c σ) (ea : F ta = some oa) (h1 : k1 < 2 ^ 31) (h2 : k2 < 2 ^ 31) : jb_M l jy_X_draftOfOne jc_X_draftOfOne 6 (some .boolean) 5 120 0 0 D H0 (jt_all cI cJ cT cX) [.ref x, .int (nI 13), .ref oa, .int z1, .int (nI k1), .int (nI k2)] w sz
    (fun v w' sz' => jXk cI cT cX x P σ dr F G own fT ls (jA_pt σ ta k1 k2) v w' ∧ jXF P w w' ∧ sz' = sz) := by
  obtain ⟨b1, b2, b3, b4, b5, b6, b7, b8, b9, b10⟩ := h.ok hta
  refine (jx_one13 h hS hta ea h1 h2).imp (fun v w' sz' hp => ?_)
  rcases Classical.em (0 < jT_k (jSt_T σ ta) ∧ k1 < k2 ∧ k2 ≤ jT_S (jSt_T σ ta) 0) with hf | hf
  · obtain ⟨hv, hx⟩ := hp.1 hf
    have s0 := b2 0 (by decide)
    have s1 := b2 1 (by decide)
    have s2 := b2 2 (by decide)
    refine ⟨jXk.yes (what := _) (a := _) (b := _) hv hx (q := jT_q (jSt_T σ ta)) (by rw [jq_of b9]) (hS.u0 hf.1 ⟨by omega, by omega⟩) (by omega) (by omega) b10 (by omega) (fun y σ' z => ⟨fun _ => z, fun z => absurd hf z⟩), hp.2.2.1, hp.2.2.2⟩
  · obtain ⟨hv, hx⟩ := hp.2.1 hf
    exact ⟨Or.inr ⟨hv, hx, fun z => absurd z hf, fun _ => ⟨rfl, rfl⟩⟩, hp.2.2.1, hp.2.2.2⟩
theorem jx_k15 {ta oa i : Nat} {z1 z3 : Int32} (h : jXd cI cT cX x P σ dr F G own fT ls w (jT_k (jSt_T σ ta)) f (nI (jT_r (jSt_T σ ta)), nI (jT_e (jSt_T σ ta)), lN (jT_q (jSt_T σ ta))) (nI 1)) (hS : jSh (jT_k (jSt_T σ ta)) f (jT_S (jSt_T σ ta))) (hta : ta < jSt_c σ) (ea : F ta = some oa) (hi : i < 2 ^ 31) : jb_M l jy_X_draftOfOne jc_X_draftOfOne 6 (some .boolean) 5 120 0 0 D H0 (jt_all cI cJ cT cX) [.ref x, .int (nI 15), .ref oa, .int z1, .int (nI i), .int z3] w sz
    (fun v w' sz' => jXk cI cT cX x P σ dr F G own fT ls (jA_pd σ ta i) v w' ∧ jXF P w w' ∧ sz' = sz) := by
  obtain ⟨b1, b2, b3, b4, b5, b6, b7, b8, b9, b10⟩ := h.ok hta
  refine (jx_one15 h hS hta ea hi).imp (fun v w' sz' hp => ?_)
  rcases Classical.em (jT_k (jSt_T σ ta) = 3 ∧ 1 ≤ i ∧ i ≤ 16) with hf | hf
  · obtain ⟨hv, hx⟩ := hp.1 hf
    have s0 := b2 0 (by decide)
    have s1 := b2 1 (by decide)
    have s2 := b2 2 (by decide)
    refine ⟨jXk.yes (what := _) (a := _) (b := _) hv hx (q := jT_q (jSt_T σ ta)) (by rw [jq_of b9]) (jSh.u4 (by decide) ⟨by omega, by omega⟩ ⟨by omega, by omega⟩ ⟨by omega, by omega⟩ ⟨by omega, by omega⟩) (by omega) (by omega) b10 (by omega) (fun y σ' z => ⟨fun _ => by rw [hf.1]; exact jB.ext z (fun j hj => by rw [if_pos hj]; match j, hj with | 0, _ => rfl | 1, _ => rfl | 2, _ => rfl | j + 3, z => omega), fun z => absurd hf z⟩), hp.2.2.1, hp.2.2.2⟩
  · obtain ⟨hv, hx⟩ := hp.2.1 hf
    exact ⟨Or.inr ⟨hv, hx, fun z => absurd z hf, fun _ => ⟨rfl, rfl⟩⟩, hp.2.2.1, hp.2.2.2⟩
end X87
