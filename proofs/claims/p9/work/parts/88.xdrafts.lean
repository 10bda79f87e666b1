/-! THE CLASS: drafts, as the reference says them, III -/
theorem jl_prod_1 {u : Nat} (h : u < 2 ^ 62) : jl_prod u 1 = u := by
  unfold jl_prod
  rcases Nat.eq_zero_or_pos u with z | z
  · rw [z]; rfl
  · rw [if_neg (by omega), if_pos (by rw [Nat.div_one]; omega), Nat.mul_one]
theorem jl_cells_1 (f : Nat → Nat) : jl_cells f 1 = f 0 := Nat.one_mul _
theorem jx_addG {ra rb ea eb n qa qb : Nat} (h1 : 1 ≤ n) (hn : n < 2 ^ 31) (r1 : ra < 2 ^ 31) (r2 : rb < 2 ^ 31) (e1 : ea < 2 ^ 31) (e2 : eb < 2 ^ 31) (ha1 : 1 ≤ qa) (ha : qa < 2 ^ 62) (hb1 : 1 ≤ qb) (hb : qb < 2 ^ 62) : (((if nI ra < nI rb then nI rb else nI ra) + nI 1) + ((if nI ra < nI rb then nI rb else nI ra) + nI 1) + jx_bits (nI n - 1) + jx_bits (nI 1), (if nI ea < nI eb then nI eb else nI ea) + (if nI ea < nI eb then nI eb else nI ea) + jx_twos (nI 2), jx_pr (jx_pr (jx_lcm (lN qa) (lN qb)) (jx_lcm (lN qa) (lN qb))) (nI 2 >>> (jx_twos (nI 2) &&& 31)).toInt64) = (nI (2 * (max ra rb + 1) + jl_log n + 1), nI (2 * max ea eb + 1), lN (jq (jl_prod (jl_comm qa qb) (jl_comm qa qb)))) := by
  have hc := jl_comm_lt qa qb
  have e9 : (nI 2 >>> (jx_twos (nI 2) &&& 31)).toInt64 = lN (jq 1) := by decide
  have e8 : jx_twos (nI 2) = nI 1 := by decide
  rw [jx_max r1 r2, jx_max e1 e2, e9, e8, jx_dbl h1 hn, jx_bits1, jx_lcm_N ha1 ha hb1 hb, jx_pr_N hc hc, jx_pr_N (jl_prod_lt _ _) (by decide), jl_prod_1 (jl_prod_lt _ _)]
  simp only [nI_add]
  rw [show max ra rb + 1 + (max ra rb + 1) = 2 * (max ra rb + 1) by omega, show max ea eb + max ea eb = 2 * max ea eb by omega]

section X88
variable {l : Launch} {D : va_G} {H0 : Heap} {cI cJ cT cX : ClassId} {w : jb_W} {sz : Nat}
variable {x : Nat} {P : Nat → Prop} {σ : jSt} {dr : Nat} {F G : Nat → Option Nat} {own : Nat → Nat} {fT : Nat → Nat → Int32} {ls : Int32} {k : Nat} {f : Nat → Int32} {m : Int32 × Int32 × Int64} {tm : Int32}
theorem jx_k8 {ta oa tb ob s : Nat} (h : jXd cI cT cX x P σ dr F G own fT ls w (jT_k (jSt_T σ ta)) f (nI (jT_r (jSt_T σ ta)), nI (jT_e (jSt_T σ ta)), lN (jT_q (jSt_T σ ta))) (nI 1)) (hS : jSh (jT_k (jSt_T σ ta)) f (jT_S (jSt_T σ ta))) (hta : ta < jSt_c σ) (ea : F ta = some oa) (htb : tb < jSt_c σ) (eb : F tb = some ob) (hs : s < 2 ^ 31) : jb_M l jy_X_draftOfTwo jc_X_draftOfTwo 5 (some .boolean) 5 120 0 0 D H0 (jt_all cI cJ cT cX) [.ref x, .int (nI 8), .ref oa, .ref ob, .int (nI s)] w sz
    (fun v w' sz' => jXk cI cT cX x P σ dr F G own fT ls (jA_conv σ ta tb s) v w' ∧ jXF P w w' ∧ sz' = sz) := by
  obtain ⟨b1, b2, b3, b4, b5, b6, b7, b8, b9, b10⟩ := h.ok hta
  refine (jx_two8 h hS hta ea htb eb hs).imp (fun v w' sz' hp => ?_)
  obtain ⟨d1, d2, d3, d4, d5, d6, d7, d8, d9, d10⟩ := h.ok htb
  rcases Classical.em ((((jT_k (jSt_T σ ta) = 3 ∧ jT_k (jSt_T σ tb) = 4) ∧ 1 ≤ s ∧ s ≤ 16) ∧ jT_S (jSt_T σ ta) 0 = jT_S (jSt_T σ tb) 1) ∧ jT_S (jSt_T σ tb) 2 ≤ jT_S (jSt_T σ ta) 1 ∧ jT_S (jSt_T σ tb) 3 ≤ jT_S (jSt_T σ ta) 2) with hf | hf
  · obtain ⟨hv, hx⟩ := hp.1 hf
    have e1 : jT_S (jSt_T σ ta) 0 * (jT_S (jSt_T σ tb) 2 * jT_S (jSt_T σ tb) 3) = jT_S (jSt_T σ tb) 1 * jT_S (jSt_T σ tb) 2 * jT_S (jSt_T σ tb) 3 := by rw [hf.1.2, Nat.mul_assoc]
    rw [e1] at hx
    have hcc := d4
    rw [hf.1.1.1.2, jl_cells_4] at hcc
    have n2 := Nat.le_trans (Nat.le_mul_of_pos_left _ (d2 0 (by decide)).1) hcc
    have n1 : 1 ≤ jT_S (jSt_T σ tb) 1 * jT_S (jSt_T σ tb) 2 * jT_S (jSt_T σ tb) 3 := Nat.mul_pos (Nat.mul_pos (d2 1 (by decide)).1 (d2 2 (by decide)).1) (d2 3 (by decide)).1
    have s0 := d2 0 (by decide)
    have s1 := b2 1 (by decide)
    have s2 := b2 2 (by decide)
    have u1 := Nat.div_le_self (jT_S (jSt_T σ ta) 1 - jT_S (jSt_T σ tb) 2) s
    have u2 := Nat.div_le_self (jT_S (jSt_T σ ta) 2 - jT_S (jSt_T σ tb) 3) s
    have hlo := jl_log_le (m := jT_S (jSt_T σ tb) 1 * jT_S (jSt_T σ tb) 2 * jT_S (jSt_T σ tb) 3) (by omega)
    refine ⟨jXk.yes (what := _) (a := _) (b := _) hv hx (jx_mulN n1 (by omega) b9 b10 d9 d10) (jSh.u4 (by decide) ⟨by omega, by omega⟩ ⟨Nat.le_add_left 1 _, by omega⟩ ⟨Nat.le_add_left 1 _, by omega⟩ ⟨by omega, by omega⟩) (by omega) (by omega) (jl_prod_lt _ _) (by omega) (fun y σ' z => ⟨fun _ => jB.ext z (fun j hj => by rw [if_pos hj]; match j, hj with | 0, _ => rfl | 1, _ => rfl | 2, _ => rfl | j + 3, z => omega), fun z => absurd hf z⟩), hp.2.2.1, hp.2.2.2⟩
  · obtain ⟨hv, hx⟩ := hp.2.1 hf
    exact ⟨Or.inr ⟨hv, hx, fun z => absurd z hf, fun _ => ⟨rfl, rfl⟩⟩, hp.2.2.1, hp.2.2.2⟩
theorem jx_k14 {ta oa tb ob : Nat} {z0 : Int32} (h : jXd cI cT cX x P σ dr F G own fT ls w (jT_k (jSt_T σ ta)) f (nI (jT_r (jSt_T σ ta)), nI (jT_e (jSt_T σ ta)), lN (jT_q (jSt_T σ ta))) (nI 1)) (hS : jSh (jT_k (jSt_T σ ta)) f (jT_S (jSt_T σ ta))) (hta : ta < jSt_c σ) (ea : F ta = some oa) (htb : tb < jSt_c σ) (eb : F tb = some ob) : jb_M l jy_X_draftOfTwo jc_X_draftOfTwo 5 (some .boolean) 5 120 0 0 D H0 (jt_all cI cJ cT cX) [.ref x, .int (nI 14), .ref oa, .ref ob, .int z0] w sz
    (fun v w' sz' => jXk cI cT cX x P σ dr F G own fT ls (jA_join σ ta tb) v w' ∧ jXF P w w' ∧ sz' = sz) := by
  obtain ⟨b1, b2, b3, b4, b5, b6, b7, b8, b9, b10⟩ := h.ok hta
  refine (jx_two14 h hS hta ea htb eb).imp (fun v w' sz' hp => ?_)
  obtain ⟨d1, d2, d3, d4, d5, d6, d7, d8, d9, d10⟩ := h.ok htb
  have iff9 : (0 < jT_k (jSt_T σ ta) ∧ jT_k (jSt_T σ ta) = jT_k (jSt_T σ tb) ∧ jT_S (jSt_T σ ta) 1 = jT_S (jSt_T σ tb) 1 ∧ jT_S (jSt_T σ ta) 2 = jT_S (jSt_T σ tb) 2 ∧ jT_S (jSt_T σ ta) 3 = jT_S (jSt_T σ tb) 3) ↔ _ := (show (0 < jT_k (jSt_T σ ta) ∧ jT_k (jSt_T σ ta) = jT_k (jSt_T σ tb) ∧ jT_S (jSt_T σ ta) 1 = jT_S (jSt_T σ tb) 1 ∧ jT_S (jSt_T σ ta) 2 = jT_S (jSt_T σ tb) 2 ∧ jT_S (jSt_T σ ta) 3 = jT_S (jSt_T σ tb) 3) ↔ ((0 < jT_k (jSt_T σ ta) ∧ jT_k (jSt_T σ ta) = jT_k (jSt_T σ tb)) ∧ ∀ j, 1 ≤ j → j < 4 → jT_S (jSt_T σ ta) j = jT_S (jSt_T σ tb) j) from ⟨fun z => ⟨⟨z.1, z.2.1⟩, fun j h1 h4 => by
    match j, h1, h4 with
    | 1, _, _ => exact z.2.2.1
    | 2, _, _ => exact z.2.2.2.1
    | 3, _, _ => exact z.2.2.2.2
    | 0, h1, _ => omega
    | j + 4, _, h4 => omega⟩, fun z => ⟨z.1.1, z.1.2, z.2 1 (by decide) (by decide), z.2 2 (by decide) (by decide), z.2 3 (by decide) (by decide)⟩⟩)
  rcases Classical.em (0 < jT_k (jSt_T σ ta) ∧ jT_k (jSt_T σ ta) = jT_k (jSt_T σ tb) ∧ jT_S (jSt_T σ ta) 1 = jT_S (jSt_T σ tb) 1 ∧ jT_S (jSt_T σ ta) 2 = jT_S (jSt_T σ tb) 2 ∧ jT_S (jSt_T σ ta) 3 = jT_S (jSt_T σ tb) 3) with hf | hf
  · obtain ⟨hv, hx⟩ := hp.1 hf
    have s0 := b2 0 (by decide)
    have t0 := d2 0 (by decide)
    refine ⟨jXk.yes (what := _) (a := _) (b := _) hv hx (by rw [jx_max (show jT_r (jSt_T σ ta) < 2 ^ 31 by omega) (show jT_r (jSt_T σ tb) < 2 ^ 31 by omega), jx_max (show jT_e (jSt_T σ ta) < 2 ^ 31 by omega) (show jT_e (jSt_T σ tb) < 2 ^ 31 by omega), jx_lcm_N b9 b10 d9 d10]) (hS.u0 hf.1 ⟨by omega, by omega⟩) (by omega) (by omega) (jl_comm_lt _ _) (by omega) (fun y σ' z => ⟨fun _ => z, fun z => absurd (iff9.mp hf) z⟩), hp.2.2.1, hp.2.2.2⟩
  · obtain ⟨hv, hx⟩ := hp.2.1 hf
    exact ⟨Or.inr ⟨hv, hx, fun z => absurd (iff9.mpr z) hf, fun _ => ⟨rfl, rfl⟩⟩, hp.2.2.1, hp.2.2.2⟩
theorem jx_k18 {ta oa tb ob : Nat} {z0 : Int32} (h : jXd cI cT cX x P σ dr F G own fT ls w (jT_k (jSt_T σ ta)) f (nI (jT_r (jSt_T σ ta)), nI (jT_e (jSt_T σ ta)), lN (jT_q (jSt_T σ ta))) (nI 1)) (hS : jSh (jT_k (jSt_T σ ta)) f (jT_S (jSt_T σ ta))) (hta : ta < jSt_c σ) (ea : F ta = some oa) (htb : tb < jSt_c σ) (eb : F tb = some ob) : jb_M l jy_X_draftOfTwo jc_X_draftOfTwo 5 (some .boolean) 5 120 0 0 D H0 (jt_all cI cJ cT cX) [.ref x, .int (nI 18), .ref oa, .ref ob, .int z0] w sz
    (fun v w' sz' => jXk cI cT cX x P σ dr F G own fT ls (jA_gap σ ta tb) v w' ∧ jXF P w w' ∧ sz' = sz) := by
  obtain ⟨b1, b2, b3, b4, b5, b6, b7, b8, b9, b10⟩ := h.ok hta
  refine (jx_two18 h hS hta ea htb eb).imp (fun v w' sz' hp => ?_)
  obtain ⟨d1, d2, d3, d4, d5, d6, d7, d8, d9, d10⟩ := h.ok htb
  have iff9 : (jT_k (jSt_T σ ta) = jT_k (jSt_T σ tb) ∧ jl_tail (jT_S (jSt_T σ ta)) (jT_k (jSt_T σ ta)) (jT_S (jSt_T σ tb)) (jT_k (jSt_T σ tb)) = true) ↔ _ := (show (jT_k (jSt_T σ ta) = jT_k (jSt_T σ tb) ∧ jl_tail (jT_S (jSt_T σ ta)) (jT_k (jSt_T σ ta)) (jT_S (jSt_T σ tb)) (jT_k (jSt_T σ tb)) = true) ↔ (jT_k (jSt_T σ ta) = jT_k (jSt_T σ tb) ∧ ∀ j, j < 4 → jT_S (jSt_T σ ta) j = jT_S (jSt_T σ tb) j) from ⟨fun z => ⟨z.1, fun j hj => by
    have q := (jl_tail_iff.mp z.2).2
    rcases Nat.lt_or_ge j (jT_k (jSt_T σ tb)) with y | y
    · have q := q j y
      rw [z.1, Nat.sub_self, Nat.zero_add] at q
      exact q
    · rw [b3 j (by omega), d3 j y]⟩, fun z => ⟨z.1, jl_tail_iff.mpr ⟨by omega, fun j hj => by rw [z.1, Nat.sub_self, Nat.zero_add]; exact z.2 j (by omega)⟩⟩⟩)
  rcases Classical.em (jT_k (jSt_T σ ta) = jT_k (jSt_T σ tb) ∧ jl_tail (jT_S (jSt_T σ ta)) (jT_k (jSt_T σ ta)) (jT_S (jSt_T σ tb)) (jT_k (jSt_T σ tb)) = true) with hf | hf
  · obtain ⟨hv, hx⟩ := hp.1 hf
    have hc1 : 1 ≤ jl_cells (jT_S (jSt_T σ ta)) (jT_k (jSt_T σ ta)) := jl_cells_pos (fun j hj => (hS.2.1 j hj).2.1)
    have hlo := jl_log_le (m := jl_cells (jT_S (jSt_T σ ta)) (jT_k (jSt_T σ ta))) (by omega)
    refine ⟨jXk.yes (what := _) (a := _) (b := _) hv hx (jx_addG hc1 (by omega) (by omega) (by omega) (by omega) (by omega) b9 b10 d9 d10) jSh_0 (by omega) (by omega) (jl_prod_lt _ _) (by omega) (fun y σ' z => ⟨fun _ => z, fun z => absurd (iff9.mp hf) z⟩), hp.2.2.1, hp.2.2.2⟩
  · obtain ⟨hv, hx⟩ := hp.2.1 hf
    exact ⟨Or.inr ⟨hv, hx, fun z => absurd (iff9.mpr z) hf, fun _ => ⟨rfl, rfl⟩⟩, hp.2.2.1, hp.2.2.2⟩
theorem jx_k16 {ta oa i ib : Nat} (h : jXd cI cT cX x P σ dr F G own fT ls w (jT_k (jSt_T σ ta)) f (nI (jT_r (jSt_T σ ta)), nI (jT_e (jSt_T σ ta)), lN (jT_q (jSt_T σ ta))) (nI 1)) (hS : jSh (jT_k (jSt_T σ ta)) f (jT_S (jSt_T σ ta))) (hta : ta < jSt_c σ) (ea : F ta = some oa) (hi : i < jSt_i σ) (ei : G i = some ib) : jb_M l jy_X_draftWithIndex jc_X_draftWithIndex 5 (some .boolean) 2 44 0 0 D H0 (jt_all cI cJ cT cX) [.ref x, .int (nI 16), .ref oa, .ref ib] w sz
    (fun v w' sz' => jXk cI cT cX x P σ dr F G own fT ls (jA_pk σ ta i) v w' ∧ jXF P w w' ∧ sz' = sz) := by
  obtain ⟨b1, b2, b3, b4, b5, b6, b7, b8, b9, b10⟩ := h.ok hta
  refine (jx_pick h hta ea hi ei).imp (fun v w' sz' hp => ?_)
  rcases Classical.em (jT_k (jSt_T σ ta) = 2 ∧ (jSt_I σ i).1 = 1 ∧ (jSt_I σ i).2.2 ≤ jT_S (jSt_T σ ta) 0) with hf | hf
  · obtain ⟨hv, hx⟩ := hp.1 hf
    obtain ⟨fi, Si, -, -, -, i4, i5, -, -, -⟩ := h.iz hi ei
    have i6 := i4.bd 0
    rw [i5 hf.2.1] at i6
    refine ⟨jXk.yes (what := _) (a := _) (b := _) hv hx (q := jT_q (jSt_T σ ta)) (by rw [jq_of b9]) (hS.u0 (by omega) i6) (by omega) (by omega) b10 (by omega) (fun y σ' z => ⟨fun _ => z, fun z => absurd hf z⟩), hp.2.2.1, hp.2.2.2⟩
  · obtain ⟨hv, hx⟩ := hp.2.1 hf
    exact ⟨Or.inr ⟨hv, hx, fun z => absurd z hf, fun _ => ⟨rfl, rfl⟩⟩, hp.2.2.1, hp.2.2.2⟩
theorem jx_k17 {ta oa i ib : Nat} (h : jXd cI cT cX x P σ dr F G own fT ls w (jT_k (jSt_T σ ta)) f (nI (jT_r (jSt_T σ ta)), nI (jT_e (jSt_T σ ta)), lN (jT_q (jSt_T σ ta))) (nI 1)) (hS : jSh (jT_k (jSt_T σ ta)) f (jT_S (jSt_T σ ta))) (hta : ta < jSt_c σ) (ea : F ta = some oa) (hi : i < jSt_i σ) (ei : G i = some ib) : jb_M l jy_X_draftWithIndex jc_X_draftWithIndex 5 (some .boolean) 2 44 0 0 D H0 (jt_all cI cJ cT cX) [.ref x, .int (nI 17), .ref oa, .ref ib] w sz
    (fun v w' sz' => jXk cI cT cX x P σ dr F G own fT ls (jA_hg σ ta i) v w' ∧ jXF P w w' ∧ sz' = sz) := by
  obtain ⟨b1, b2, b3, b4, b5, b6, b7, b8, b9, b10⟩ := h.ok hta
  refine (jx_hinge h hta ea hi ei).imp (fun v w' sz' hp => ?_)
  rcases Classical.em (jT_k (jSt_T σ ta) = 1 ∧ (jSt_I σ i).1 = 0 ∧ (jSt_I σ i).2.2 ≤ jT_S (jSt_T σ ta) 0) with hf | hf
  · obtain ⟨hv, hx⟩ := hp.1 hf
    have s0 := b2 0 (by decide)
    have ecl : jl_cells (jT_S (jSt_T σ ta)) (jT_k (jSt_T σ ta)) = jT_S (jSt_T σ ta) 0 := by rw [hf.1]; exact jl_cells_1 _
    rw [← ecl] at hx
    rw [← ecl] at s0
    have hlo := jl_log_le (m := jl_cells (jT_S (jSt_T σ ta)) (jT_k (jSt_T σ ta))) (by omega)
    refine ⟨jXk.yes (what := _) (a := _) (b := _) hv hx (show (nI (jT_r (jSt_T σ ta)) + (nI 3 + jx_bits (nI (jl_cells (jT_S (jSt_T σ ta)) (jT_k (jSt_T σ ta))) - 1)), nI (jT_e (jSt_T σ ta)), lN (jT_q (jSt_T σ ta))) = (nI (jT_r (jSt_T σ ta) + 3 + jl_log (jl_cells (jT_S (jSt_T σ ta)) (jT_k (jSt_T σ ta)))), nI (jT_e (jSt_T σ ta)), lN (jq (jT_q (jSt_T σ ta)))) by rw [jq_of b9, jx_dbl s0.1 (by omega), nI_add, nI_add, Nat.add_assoc]) jSh_0 (by omega) (by omega) b10 (by omega) (fun y σ' z => ⟨fun _ => z, fun z => absurd hf z⟩), hp.2.2.1, hp.2.2.2⟩
  · obtain ⟨hv, hx⟩ := hp.2.1 hf
    exact ⟨Or.inr ⟨hv, hx, fun z => absurd z hf, fun _ => ⟨rfl, rfl⟩⟩, hp.2.2.1, hp.2.2.2⟩
end X88
