/-! STEPS of the abstract state: what is made is made of earlier ones; one tensor and one index more at most -/
def jStep (σ σ' : jSt) : Prop := (jSt_wf σ → jSt_wf σ') ∧ jSt_c σ' ≤ jSt_c σ + 1 ∧ jSt_i σ' ≤ jSt_i σ + 1
def jO_wf (t : Nat) (what a b : Int32) : Prop := ∃ o : Nat, what = nI o ∧ jl_op o ∧ (¬ (30 ≤ o ∧ o ≤ 32) → ∃ a', a' < t ∧ a = nI a') ∧ (jl_two o → ∃ b', b' < t ∧ b = nI b')
section YT2
variable {σ σ' : jSt} {N : Nat → Nat} {rk ad r e q : Nat} {what a b x th : Int32}
theorem jStep.rf : jStep σ σ := ⟨id, Nat.le_succ _, Nat.le_succ _⟩
theorem jStep.eq (h : σ' = σ) : jStep σ σ' := by rw [h]; exact jStep.rf
theorem jStep.add {y : jT} (hw : jT_wf (jSt_c σ) y) : jStep σ (jSt_add σ y) := ⟨fun h t ht => by
  have ht : t < jSt_c σ + 1 := ht
  show jT_wf t (va_up (jSt_T σ) (jSt_c σ) y t)
  by_cases e : t = jSt_c σ
  · rw [e, va_up_self]; exact hw
  · rw [va_up_ne _ _ e]; exact h t (by omega), Nat.le_refl _, Nat.le_succ _⟩
theorem jB.step {ul : Nat × Nat} (h : jB σ N rk what a b ad r e q ul x σ') (hw : jO_wf (jSt_c σ) what a b) : jStep σ σ' := by
  rcases Classical.em (jl_full N rk r e q ad (jSt_w σ)) with hf | hf
  · exact jStep.eq (h.1 hf).2
  · rw [(h.2 hf).2]; exact jStep.add hw
theorem jA.step (h : jA σ N rk what a b ad r e q x σ') (hw : jO_wf (jSt_c σ) what a b) : jStep σ σ' := jB.step (ul := (0, 0)) h hw
theorem jW.step {P : Prop} {J : Int32 → jSt → Prop} (h : jW σ P J x σ') (hj : P → J x σ' → jStep σ σ') : jStep σ σ' := by
  rcases Classical.em P with hp | hp
  · exact hj hp (h.1 hp)
  · exact jStep.eq (h.2 hp).2
theorem jO_one {t k o : Nat} (ho : jl_op o) (h2 : ¬ jl_two o) (hk : k < t) : jO_wf t (nI o) (nI k) (-1) := ⟨o, rfl, ho, fun _ => ⟨k, hk, rfl⟩, fun z => absurd z h2⟩
theorem jO_two {t k j o : Nat} (ho : jl_op o) (hk : k < t) (hj : j < t) : jO_wf t (nI o) (nI k) (nI j) := ⟨o, rfl, ho, fun _ => ⟨k, hk, rfl⟩, fun _ => ⟨j, hj, rfl⟩⟩
theorem jO_none {t o : Nat} (h1 : 30 ≤ o) (h2 : o ≤ 32) : jO_wf t (nI o) a b := ⟨o, rfl, Or.inr (Or.inl ⟨h1, h2⟩), fun z => absurd ⟨h1, h2⟩ z, fun z => by unfold jl_two at z; omega⟩
theorem jA_number.step {u l : Int32} (h : jA_number σ u l x th σ') : jStep σ σ' := by
  rcases Classical.em (u < 0 ∨ l < 1 ∨ ¬ Nat.gcd u.toNatClampNeg l.toNatClampNeg = 1) with hf | hf
  · exact jStep.eq (h.1 hf).2
  · exact jA.step (h.2 hf).2 (jO_none (o := 30) (by decide) (by decide))
theorem jA_made.step {pz m a b c d : Int32} (h : jA_made σ pz m a b c d x th σ') : jStep σ σ' := by
  rcases jl_take_01 m (jl_F a b c d) with z | z
  · exact jStep.eq (h.1 z).2
  · by_cases e : pz = 0
    · have := (h.2 z).2
      rw [if_pos e] at this
      exact jA.step this (jO_none (o := 31) (by decide) (by decide))
    · have := (h.2 z).2
      rw [if_neg e] at this
      exact jA.step this (jO_none (o := 32) (by decide) (by decide))
theorem jl_NT (hc : jSt_c σ < 2 ^ 31) (h : ¬ (a < 0 ∨ nI (jSt_c σ) ≤ a)) : ∃ t, t < jSt_c σ ∧ a = nI t ∧ a.toNatClampNeg = t := by
  obtain ⟨t, ht, e⟩ : ∃ t, t < jSt_c σ ∧ a = nI t := (pk_ix a hc).elim (fun z => absurd (Or.inl z) h) (fun z => z.elim (fun z => absurd (Or.inr z) h) id)
  exact ⟨t, ht, e, by rw [e]; exact nI_clamp (by omega)⟩
theorem jA_turned.step (hc : jSt_c σ < 2 ^ 31) (h : jA_turned σ a x th σ') : jStep σ σ' := by
  rcases Classical.em (a < 0 ∨ nI (jSt_c σ) ≤ a) with hf | hf
  · exact jStep.eq (h.1 hf).2
  · obtain ⟨t, ht, e, -⟩ := jl_NT hc hf
    have := (h.2 t ht e).2
    rw [e] at this
    exact jA.step this (jO_one (o := 50) (by unfold jl_op; decide) (by unfold jl_two; decide) ht)
theorem jA_matrix.step {k j : Nat} (h : jA_matrix σ k j x σ') (hk : k < jSt_c σ) (hj : j < jSt_c σ) : jStep σ σ' := jW.step h (fun _ z => jA.step z (jO_two (o := 43) (by unfold jl_op; decide) hk hj))
theorem jA_cell.step {hw k j : Nat} (h : jA_cell σ hw k j x σ') (hh : hw ≤ 3) (hk : k < jSt_c σ) (hj : j < jSt_c σ) : jStep σ σ' := jW.step h (fun _ z => by
  split at z
  · exact jA.step z (jO_two (o := 42) (by unfold jl_op; decide) hk hj)
  · exact jA.step z (jO_two (o := 40 + hw) (by unfold jl_op; omega) hk hj))
theorem jA_pair.step {how : Int32} (hc : jSt_c σ < 2 ^ 31) (h : jA_pair σ how a b x th σ') : jStep σ σ' := by
  unfold jA_pair at h
  split at h
  · exact jStep.eq h.2
  · rename_i n1
    split at h
    · exact jStep.eq h.2
    · rename_i n2
      obtain ⟨t, ht, -, et⟩ := jl_NT (a := a) hc (fun z => n1 (Or.inl z))
      obtain ⟨s, hs, -, es⟩ := jl_NT (a := b) hc (fun z => n1 (Or.inr z))
      obtain ⟨hw, hhw, ew⟩ := nI_of2 (x := how) (M := 3) (n := 3) (by decide) (fun z => n2 (Or.inl z)) (k2_le (fun z => n2 (Or.inr z)))
      have h := h.2
      rw [et, es, ew, nI_clamp (by omega)] at h
      unfold jA_pair2 at h
      split at h
      · exact jA_matrix.step h ht hs
      · exact jA_cell.step h hhw ht hs
theorem jA_over.step {u0 l0 : Int32} (hc : jSt_c σ < 2 ^ 31) (h : jA_over σ a u0 l0 x th σ') : jStep σ σ' := by
  unfold jA_over at h
  split at h
  · exact jStep.eq h.2
  · rename_i n1
    split at h
    · exact jStep.eq h.2
    · obtain ⟨t, ht, e, -⟩ := jl_NT (a := a) hc n1
      exact jB.step h.2 (by rw [e]; exact jO_one (o := 51) (by unfold jl_op; decide) (by unfold jl_two; decide) ht)
theorem jA_reshape.step {t m a b c d : Int32} (hc : jSt_c σ < 2 ^ 31) (h : jA_reshape σ t m a b c d x th σ') : jStep σ σ' := by
  unfold jA_reshape at h
  split at h
  · exact jStep.eq h.2
  · rename_i n1
    split at h
    · exact jStep.eq h.2
    · obtain ⟨k, hk, e, -⟩ := jl_NT (a := t) hc n1
      exact jW.step h.2 (fun _ z => jA.step z (by rw [e]; exact jO_one (o := 11) (by unfold jl_op; decide) (by unfold jl_two; decide) hk))
theorem jA_index.step {m a b c d least : Int32} (h : jA_index σ m a b c d least x th σ') : jStep σ σ' := by
  obtain ⟨h1, h2, h3⟩ := h
  rcases Classical.em (jl_take m (jl_F a b c d) = 1 ∧ 1 ≤ least ∧ least ≤ 65536) with hg | hg
  · rcases Nat.lt_or_ge 4096 (jl_cells (fun k => (jl_F a b c d k).toNatClampNeg) m.toNatClampNeg) with z | z
    · exact jStep.eq (h2 hg z).2
    · rw [(h3 hg z).2.2]
      exact ⟨id, Nat.le_succ _, Nat.le_refl _⟩
  · exact jStep.eq (h1 hg).2
theorem jA_total.step {M : Nat → Nat} {rn wt k m : Nat} (h : jA_total σ M rn wt k m x σ') (hw : jl_op wt ∧ ¬ jl_two wt) (hk : k < jSt_c σ) : jStep σ σ' := by
  unfold jA_total at h
  split at h
  · exact jA.step h (jO_one hw.1 hw.2 hk)
  · exact jA.step h (jO_one hw.1 hw.2 hk)
theorem jA_along.step {M : Nat → Nat} {rn wt k m : Nat} (h : jA_along σ M rn wt k m x σ') (hw : jl_op wt ∧ ¬ jl_two wt) (hk : k < jSt_c σ) : jStep σ σ' := by
  unfold jA_along at h
  split at h
  · exact jA.step h (jO_one hw.1 hw.2 hk)
  · exact jA_total.step h hw hk
theorem jA_pool.step {M : Nat → Nat} {rn wt k m : Nat} (h : jA_pool σ M rn wt k m x σ') (hw : jl_op wt ∧ ¬ jl_two wt) (hk : k < jSt_c σ) : jStep σ σ' := by
  unfold jA_pool at h
  split at h
  · exact jA.step h (jO_one hw.1 hw.2 hk)
  · exact jA_total.step h hw hk
theorem jl_ot {o : Nat} (h : o ≤ 18) (h8 : o ≠ 8) (h14 : o ≠ 14) (h18 : o ≠ 18) : jl_op o ∧ ¬ jl_two o := ⟨Or.inl h, fun z => by unfold jl_two at z; omega⟩
theorem jA_call.step {what n0 m0 xx yy : Int32} (hc : jSt_c σ < 2 ^ 31) (h : jA_call σ what n0 a b m0 xx yy x th σ') : jStep σ σ' := by
  obtain ⟨h1, h2, h3⟩ := h
  rcases Classical.em (jl_wrong what n0 m0 xx yy) with hw | hw
  · exact jStep.eq (h1 hw).2
  rcases Classical.em (jl_gone σ n0 a b) with hg | hg
  · exact jStep.eq (h2 hw hg).2
  obtain ⟨-, h4, h5⟩ := h3 hw hg
  rcases Classical.em (jl_goes what.toNatClampNeg n0.toNatClampNeg a b m0.toNatClampNeg) with go | go
  · have h := h4 go
    obtain ⟨g1, g2, g3, g4⟩ := go
    have p1 : ¬ what < 0 := fun z => hw (Or.inl z)
    have p2 : ¬ 18 < what := fun z => hw (Or.inr (Or.inl z))
    have p4 : ¬ n0 < 0 := fun z => hw (Or.inr (Or.inr (Or.inr (Or.inl z))))
    have p5 : ¬ 2 < n0 := fun z => hw (Or.inr (Or.inr (Or.inr (Or.inr (Or.inl z)))))
    obtain ⟨wt, hwt, ew⟩ := nI_of2 (M := 18) (n := 18) (by decide) p1 (k2_le p2)
    obtain ⟨nn, hnn, en⟩ := nI_of2 (M := 2) (n := 2) (by decide) p4 (k2_le p5)
    rw [en, nI_clamp (by omega)] at g1 g3
    rw [ew, nI_clamp (by omega)] at g1 g3 h
    have ga : 0 < nn → ¬ jl_none σ a := fun z q => hg (Or.inl ⟨by rw [en]; exact (nI_ltI (a := 0) (by decide) (by omega)).mpr z, q⟩)
    have gb : 1 < nn → ¬ jl_none σ b := fun z q => hg (Or.inr ⟨by rw [en]; exact (nI_ltI (a := 1) (by decide) (by omega)).mpr z, q⟩)
    have w1 : 1 ≤ jl_wanted wt := by unfold jl_wanted; split <;> omega
    obtain ⟨t, ht, et⟩ := jl_tens hc (k2_nlt g2) (ga (by omega))
    rw [et, nI_clamp (by omega)] at h
    have tb : jl_wanted wt = 2 → ¬ (wt = 16 ∨ wt = 17) → ∃ s, s < jSt_c σ ∧ b = nI s ∧ b.toNatClampNeg = s := fun z1 z2 => by
      rcases g3 with q | q
      · omega
      · obtain ⟨s, hs, es⟩ := jl_tens hc (fun z => z2 (q.mpr z)) (gb (by omega))
        exact ⟨s, hs, es, by rw [es]; exact nI_clamp (by omega)⟩
    match wt, hwt, h, tb with
    | 0, _, h, _ => exact jA.step h (jO_one (o := 0) (by unfold jl_op; decide) (by unfold jl_two; decide) ht)
    | 1, _, h, _ => exact jA.step h (jO_one (o := 1) (by unfold jl_op; decide) (by unfold jl_two; decide) ht)
    | 2, _, h, _ => exact jA.step h (jO_one (o := 2) (by unfold jl_op; decide) (by unfold jl_two; decide) ht)
    | 3, _, h, _ => exact jA.step h (jO_one (o := 3) (by unfold jl_op; decide) (by unfold jl_two; decide) ht)
    | 4, _, h, _ => exact jA.step h (jO_one (o := 4) (by unfold jl_op; decide) (by unfold jl_two; decide) ht)
    | 5, _, h, _ =>
      have h : (if m0.toNatClampNeg = 0 then jA_s0 σ 5 t x σ' else jA_s1 σ 5 t xx.toNatClampNeg x σ') := h
      split at h
      · exact jA_along.step h (jl_ot (by decide) (by decide) (by decide) (by decide)) ht
      · exact jW.step h (fun _ z => jA_along.step z (jl_ot (by decide) (by decide) (by decide) (by decide)) ht)
    | 6, _, h, _ =>
      have h : (if m0.toNatClampNeg = 0 then jA_s0 σ 6 t x σ' else jA_s1 σ 6 t xx.toNatClampNeg x σ') := h
      split at h
      · exact jA_along.step h (jl_ot (by decide) (by decide) (by decide) (by decide)) ht
      · exact jW.step h (fun _ z => jA_along.step z (jl_ot (by decide) (by decide) (by decide) (by decide)) ht)
    | 7, _, h, _ => exact jW.step h (fun _ z => jA_along.step z (jl_ot (by decide) (by decide) (by decide) (by decide)) ht)
    | 8, _, h, tb =>
      obtain ⟨s, hs, -, es⟩ := tb rfl (by decide)
      have h : jA_conv σ t b.toNatClampNeg xx.toNatClampNeg x σ' := h
      rw [es] at h
      exact jW.step h (fun _ z => jA.step z (jO_two (o := 8) (by unfold jl_op; decide) ht hs))
    | 9, _, h, _ => exact jW.step h (fun _ z => jA_pool.step z (jl_ot (by decide) (by decide) (by decide) (by decide)) ht)
    | 10, _, h, _ => exact jW.step h (fun _ z => jA_pool.step z (jl_ot (by decide) (by decide) (by decide) (by decide)) ht)
    | 11, _, h, _ => exact jA.step h (jO_one (o := 11) (by unfold jl_op; decide) (by unfold jl_two; decide) ht)
    | 12, _, h, _ => exact jW.step h (fun _ z => jA.step z (jO_one (o := 12) (by unfold jl_op; decide) (by unfold jl_two; decide) ht))
    | 13, _, h, _ => exact jW.step h (fun _ z => jA.step z (jO_one (o := 13) (by unfold jl_op; decide) (by unfold jl_two; decide) ht))
    | 14, _, h, tb =>
      obtain ⟨s, hs, -, es⟩ := tb rfl (by decide)
      have h : jA_join σ t b.toNatClampNeg x σ' := h
      rw [es] at h
      exact jW.step h (fun _ z => jA.step z (jO_two (o := 14) (by unfold jl_op; decide) ht hs))
    | 15, _, h, _ => exact jW.step h (fun _ z => jA.step z (jO_one (o := 15) (by unfold jl_op; decide) (by unfold jl_two; decide) ht))
    | 16, _, h, _ => exact jW.step h (fun _ z => jA.step z (jO_one (o := 16) (by unfold jl_op; decide) (by unfold jl_two; decide) ht))
    | 17, _, h, _ => exact jW.step h (fun _ z => jA.step z (jO_one (o := 17) (by unfold jl_op; decide) (by unfold jl_two; decide) ht))
    | 18, _, h, tb =>
      obtain ⟨s, hs, -, es⟩ := tb rfl (by decide)
      have h : jA_gap σ t b.toNatClampNeg x σ' := h
      rw [es] at h
      exact jW.step h (fun _ z => jA.step z (jO_two (o := 18) (by unfold jl_op; decide) ht hs))
    | k + 19, z, _, _ => omega
  · exact jStep.eq (h5 go).2
end YT2
/-! begin, over the abstract state -/
def jSt_begin (σ : jSt) (p : Nat) : jSt := ((p, 0, jSt_T σ, 0), (0, jSt_I σ))
def jA_begin (σ : jSt) (p : Int32) (th : Int32) (σ' : jSt) : Prop := ((p < 0 ∨ 64 < p) → th = 1 ∧ σ' = σ) ∧ (¬ (p < 0 ∨ 64 < p) → th = 0 ∧ σ' = jSt_begin σ p.toNatClampNeg)
theorem jA_begin.step {σ σ' : jSt} {p th : Int32} (h : jA_begin σ p th σ') : jStep σ σ' := by
  rcases Classical.em (p < 0 ∨ 64 < p) with z | z
  · exact jStep.eq (h.1 z).2
  · rw [(h.2 z).2]
    exact ⟨fun _ t ht => absurd ht (Nat.not_lt_zero t), Nat.zero_le _, Nat.zero_le _⟩
section YU
variable {l : Launch} {D : va_G} {H0 : Heap} {cI cJ cT cX : ClassId} {w : jb_W} {sz : Nat}
variable {y : Nat} {A : Nat → Nat} {n n2 : Nat} {σ : jSt} {th rk : Int32} {N : Nat → Int32}
theorem jn_begin {p : Int32} (h : jN cI cJ y A n n2 σ w th rk N) : jb_M l jy_Y_begin jc_Y_begin 2 none 0 0 0 0 D H0 (jt_all cI cJ cT cX) [.ref y, .int p] w sz (fun v w' sz' => v = none ∧ ∃ (th' : Int32) (σ' : jSt), jA_begin σ p th' σ' ∧ jP cI cJ y A w sz σ' th' w' sz') := by
  obtain ⟨s, V, VL, hM, -⟩ := h
  refine (jy_begin hM.1).imp (fun v w' sz' q => ?_)
  obtain ⟨q1, q2, q3, q4⟩ := q
  obtain ⟨hY, g2, g3, g4, g5, g6, g7, g8, g9, g10, g11, gT, gI⟩ := hM
  refine ⟨q1, ?_⟩
  rw [q4]
  by_cases z : p < 0 ∨ 64 < p
  · rw [if_pos z] at q2
    unfold jl_begin at q2
    rw [if_pos z] at q2
    refine ⟨1, σ, ⟨fun _ => ⟨rfl, rfl⟩, fun q => absurd z q⟩, ?_⟩
    exact jP.of (s := upd s 0 1) ⟨q2, g2, g3, g4, g5, g6, g7, g8, g9, g10, g11, gT, gI⟩ q3
  · rw [if_neg z] at q2
    unfold jl_begin at q2
    rw [if_neg z] at q2
    have p0 : ¬ p < 0 := fun q => z (Or.inl q)
    obtain ⟨k, hk, e⟩ := nI_of2 (x := p) (M := 64) (n := 64) (by decide) p0 (k2_le (fun q => z (Or.inr q)))
    have ek : p.toNatClampNeg = k := by rw [e]; exact nI_clamp (by omega)
    refine ⟨0, jSt_begin σ p.toNatClampNeg, ⟨fun q => absurd q z, fun _ => ⟨rfl, rfl⟩⟩, ?_⟩
    rw [ek]
    have hM2 : jM cI cJ w' y A n n2 _ V VL (jSt_begin σ k) := ⟨q2, e, hk, rfl, Nat.zero_le _, g6, Nat.zero_le _, rfl, Nat.zero_le _, g10, g11, fun t ht => absurd ht (Nat.not_lt_zero t), fun t ht => absurd ht (Nat.not_lt_zero t)⟩
    exact jP.of hM2 q3
end YU
