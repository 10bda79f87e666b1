/-! WHAT A CALL ANSWERS is settled by the state and the call -/
def jDet (J : Int32 → jSt → Prop) : Prop := ∀ x x2 σ1 σ2, J x σ1 → J x2 σ2 → x = x2 ∧ σ1 = σ2
def jDetT (J : Int32 → Int32 → jSt → Prop) : Prop := ∀ x th σ1 x2 th2 σ2, J x th σ1 → J x2 th2 σ2 → th = th2 ∧ σ1 = σ2 ∧ (th = 0 → x = x2)
theorem jDet.b {σ : jSt} {N : Nat → Nat} {rk : Nat} {what a b : Int32} {ad r e q : Nat} {ul : Nat × Nat} : jDet (jB σ N rk what a b ad r e q ul) := fun x x2 σ1 σ2 h h2 => by
  rcases Classical.em (jl_full N rk r e q ad (jSt_w σ)) with z | z
  · rw [(h.1 z).1, (h.1 z).2, (h2.1 z).1, (h2.1 z).2]; exact ⟨rfl, rfl⟩
  · rw [(h.2 z).1, (h.2 z).2, (h2.2 z).1, (h2.2 z).2]; exact ⟨rfl, rfl⟩
theorem jDet.a {σ : jSt} {N : Nat → Nat} {rk : Nat} {what a b : Int32} {ad r e q : Nat} : jDet (jA σ N rk what a b ad r e q) := jDet.b (ul := (0, 0))
theorem jDet.w {σ : jSt} {P : Prop} {J : Int32 → jSt → Prop} (hJ : jDet J) : jDet (jW σ P J) := fun x x2 σ1 σ2 h h2 => by
  rcases Classical.em P with z | z
  · exact hJ _ _ _ _ (h.1 z) (h2.1 z)
  · rw [(h.2 z).1, (h.2 z).2, (h2.2 z).1, (h2.2 z).2]; exact ⟨rfl, rfl⟩
theorem jDet.i {c : Prop} [Decidable c] {J J2 : Int32 → jSt → Prop} (h1 : jDet J) (h2 : jDet J2) : jDet (fun x σ' => if c then J x σ' else J2 x σ') := fun x x2 σ1 σ2 h h' => by
  by_cases z : c
  · simp only [if_pos z] at h h'
    exact h1 _ _ _ _ h h'
  · simp only [if_neg z] at h h'
    exact h2 _ _ _ _ h h'
theorem jDet.total {σ : jSt} {M : Nat → Nat} {rn wt a m : Nat} : jDet (jA_total σ M rn wt a m) := jDet.i jDet.a jDet.a
theorem jDet.along {σ : jSt} {M : Nat → Nat} {rn wt a m : Nat} : jDet (jA_along σ M rn wt a m) := jDet.i jDet.a jDet.total
theorem jDet.pool {σ : jSt} {M : Nat → Nat} {rn wt a p : Nat} : jDet (jA_pool σ M rn wt a p) := jDet.i jDet.a jDet.total
theorem jDet.un {σ : jSt} {wt a : Nat} : jDet (jA_un σ wt a) := jDet.a
theorem jDet.s0 {σ : jSt} {wt a : Nat} : jDet (jA_s0 σ wt a) := jDet.along
theorem jDet.s1 {σ : jSt} {wt a k : Nat} : jDet (jA_s1 σ wt a k) := jDet.w jDet.along
theorem jDet.apply {σ : jSt} {wt a : Nat} {b : Int32} {m : Nat} {x1 y1 : Int32} (hwt : wt < 19) : jDet (jA_apply σ wt a b m x1 y1) := by
  match wt, hwt with
  | 0, _ => exact jDet.un (wt := 0)
  | 1, _ => exact jDet.un (wt := 1)
  | 2, _ => exact jDet.a
  | 3, _ => exact jDet.a
  | 4, _ => exact jDet.un (wt := 4)
  | 5, _ => exact jDet.i (c := m = 0) (jDet.s0 (wt := 5)) (jDet.s1 (wt := 5))
  | 6, _ => exact jDet.i (c := m = 0) (jDet.s0 (wt := 6)) (jDet.s1 (wt := 6))
  | 7, _ => exact jDet.s1 (wt := 7)
  | 8, _ => exact jDet.w jDet.a
  | 9, _ => exact jDet.w jDet.pool
  | 10, _ => exact jDet.w jDet.pool
  | 11, _ => exact jDet.un (wt := 11)
  | 12, _ => exact jDet.w jDet.a
  | 13, _ => exact jDet.w jDet.a
  | 14, _ => exact jDet.w jDet.a
  | 15, _ => exact jDet.w jDet.a
  | 16, _ => exact jDet.w jDet.a
  | 17, _ => exact jDet.w jDet.a
  | 18, _ => exact jDet.w jDet.a
  | wt + 19, z => omega
theorem jDetT.number {σ : jSt} {p q : Int32} : jDetT (jA_number σ p q) := fun x th σ1 x2 th2 σ2 h h2 => by
  rcases Classical.em (p < 0 ∨ q < 1 ∨ ¬ Nat.gcd p.toNatClampNeg q.toNatClampNeg = 1) with z | z
  · rw [(h.1 z).1, (h.1 z).2, (h2.1 z).1, (h2.1 z).2]; exact ⟨rfl, rfl, fun e => absurd e (by decide)⟩
  · obtain ⟨a1, a2⟩ := h.2 z
    obtain ⟨b1, b2⟩ := h2.2 z
    obtain ⟨c1, c2⟩ := jDet.a _ _ _ _ a2 b2
    exact ⟨a1.trans b1.symm, c2, fun _ => c1⟩
theorem jDetT.made {σ : jSt} {pz m a b c d : Int32} : jDetT (jA_made σ pz m a b c d) := fun x th σ1 x2 th2 σ2 h h2 => by
  rcases Classical.em (jl_take m (jl_F a b c d) = 1) with z | z
  · obtain ⟨a1, a2⟩ := h.2 z
    obtain ⟨b1, b2⟩ := h2.2 z
    obtain ⟨c1, c2⟩ := jDet.a _ _ _ _ a2 b2
    exact ⟨a1.trans b1.symm, c2, fun _ => c1⟩
  · have z := jl_take_0 z
    rw [(h.1 z).1, (h.1 z).2, (h2.1 z).1, (h2.1 z).2]; exact ⟨rfl, rfl, fun e => absurd e (by decide)⟩
theorem jDetT.turned {σ : jSt} {a : Int32} (hc : jSt_c σ ≤ 512) : jDetT (jA_turned σ a) := fun x th σ1 x2 th2 σ2 h h2 => by
  rcases Classical.em (a < 0 ∨ nI (jSt_c σ) ≤ a) with z | z
  · rw [(h.1 z).1, (h.1 z).2, (h2.1 z).1, (h2.1 z).2]; exact ⟨rfl, rfl, fun e => absurd e (by decide)⟩
  · obtain ⟨t, ht, et, -⟩ := jl_ten hc z
    obtain ⟨a1, a2⟩ := h.2 t ht et
    obtain ⟨b1, b2⟩ := h2.2 t ht et
    obtain ⟨c1, c2⟩ := jDet.a _ _ _ _ a2 b2
    exact ⟨a1.trans b1.symm, c2, fun _ => c1⟩
/-- two refusals and an answer -/
theorem jDetT.two {σ : jSt} {A B : Prop} [Decidable A] [Decidable B] {J : Int32 → jSt → Prop} (hJ : jDet J) : jDetT (fun x th σ' => if A then th = 1 ∧ σ' = σ else if B then th = 2 ∧ σ' = σ else th = 0 ∧ J x σ') := fun x th σ1 x2 th2 σ2 h h2 => by
  by_cases z : A
  · simp only [if_pos z] at h h2
    rw [h.1, h.2, h2.1, h2.2]; exact ⟨rfl, rfl, fun e => absurd e (by decide)⟩
  · by_cases z2 : B
    · simp only [if_neg z, if_pos z2] at h h2
      rw [h.1, h.2, h2.1, h2.2]; exact ⟨rfl, rfl, fun e => absurd e (by decide)⟩
    · simp only [if_neg z, if_neg z2] at h h2
      obtain ⟨c1, c2⟩ := hJ _ _ _ _ h.2 h2.2
      exact ⟨h.1.trans h2.1.symm, c2, fun _ => c1⟩
theorem jDet.cell {σ : jSt} {hw a b : Nat} : jDet (jA_cell σ hw a b) := jDet.w (jDet.i jDet.a jDet.a)
theorem jDet.pair2 {σ : jSt} {hw a b : Nat} : jDet (jA_pair2 σ hw a b) := jDet.i (jDet.w jDet.a) jDet.cell
theorem jDetT.pair {σ : jSt} {how a b : Int32} : jDetT (jA_pair σ how a b) := jDetT.two jDet.pair2
theorem jDetT.over {σ : jSt} {a u0 l0 : Int32} : jDetT (jA_over σ a u0 l0) := jDetT.two jDet.b
theorem jDetT.reshape {σ : jSt} {t m a b c d : Int32} : jDetT (jA_reshape σ t m a b c d) := jDetT.two (jDet.w jDet.a)
theorem jDetT.index {σ : jSt} {m a b c d e : Int32} : jDetT (jA_index σ m a b c d e) := fun x th σ1 x2 th2 σ2 h h2 => by
  rcases Classical.em (jl_take m (jl_F a b c d) = 1 ∧ 1 ≤ e ∧ e ≤ 65536) with z | z
  · rcases Nat.lt_or_ge 4096 (jl_cells (fun k => (jl_F a b c d k).toNatClampNeg) m.toNatClampNeg) with y | y
    · rw [(h.2.1 z y).1, (h.2.1 z y).2, (h2.2.1 z y).1, (h2.2.1 z y).2]; exact ⟨rfl, rfl, fun e => absurd e (by decide)⟩
    · obtain ⟨a1, a2, a3⟩ := h.2.2 z y
      obtain ⟨b1, b2, b3⟩ := h2.2.2 z y
      exact ⟨a1.trans b1.symm, a3.trans b3.symm, fun _ => a2.trans b2.symm⟩
  · rw [(h.1 z).1, (h.1 z).2, (h2.1 z).1, (h2.1 z).2]; exact ⟨rfl, rfl, fun e => absurd e (by decide)⟩
theorem jDetT.call {σ : jSt} {what n a b m x1 y1 : Int32} : jDetT (jA_call σ what n a b m x1 y1) := fun x th σ1 x2 th2 σ2 h h2 => by
  rcases Classical.em (jl_wrong what n m x1 y1) with z | z
  · rw [(h.1 z).1, (h.1 z).2, (h2.1 z).1, (h2.1 z).2]; exact ⟨rfl, rfl, fun e => absurd e (by decide)⟩
  · rcases Classical.em (jl_gone σ n a b) with y | y
    · rw [(h.2.1 z y).1, (h.2.1 z y).2, (h2.2.1 z y).1, (h2.2.1 z y).2]; exact ⟨rfl, rfl, fun e => absurd e (by decide)⟩
    · obtain ⟨a1, a2, a3⟩ := h.2.2 z y
      obtain ⟨b1, b2, b3⟩ := h2.2.2 z y
      rcases Classical.em (jl_goes what.toNatClampNeg n.toNatClampNeg a b m.toNatClampNeg) with g | g
      · have hwt : what.toNatClampNeg < 19 := by
          obtain ⟨wt, hw, ew⟩ := nI_of2 (x := what) (M := 18) (n := 18) (by decide) (fun q => z (Or.inl q)) (k2_le (fun q => z (Or.inr (Or.inl q))))
          rw [ew, nI_clamp (by omega)]
          omega
        obtain ⟨c1, c2⟩ := jDet.apply hwt _ _ _ _ (a2 g) (b2 g)
        exact ⟨a1.trans b1.symm, c2, fun _ => c1⟩
      · rw [(a3 g).1, (a3 g).2, (b3 g).1, (b3 g).2]; exact ⟨a1.trans b1.symm, rfl, fun _ => rfl⟩
