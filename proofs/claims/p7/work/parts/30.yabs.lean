/-! THE ABSTRACT STATE: what both sides hold: tensors as rows, indices as rows, p, the work -/
/-- a tensor: ((what it is, its arguments), (how many sides, which), (terms, r, e, q), (upper, lower of a division)) -/
abbrev jT : Type := (Int32 × Int32 × Int32) × (Nat × (Nat → Nat)) × (Nat × Nat × Nat × Nat) × (Nat × Nat)
abbrev jT_op (x : jT) : Int32 := x.1.1
abbrev jT_a (x : jT) : Int32 := x.1.2.1
abbrev jT_b (x : jT) : Int32 := x.1.2.2
abbrev jT_k (x : jT) : Nat := x.2.1.1
abbrev jT_S (x : jT) : Nat → Nat := x.2.1.2
abbrev jT_t (x : jT) : Nat := x.2.2.1.1
abbrev jT_r (x : jT) : Nat := x.2.2.1.2.1
abbrev jT_e (x : jT) : Nat := x.2.2.1.2.2.1
abbrev jT_q (x : jT) : Nat := x.2.2.1.2.2.2
abbrev jT_u (x : jT) : Nat := x.2.2.2.1
abbrev jT_l (x : jT) : Nat := x.2.2.2.2
/-- a tensor as the document bounds it -/
def jT_ok (x : jT) : Prop := jT_k x ≤ 4 ∧ (∀ j, j < 4 → 1 ≤ jT_S x j ∧ jT_S x j ≤ 4096) ∧ (∀ j, jT_k x ≤ j → jT_S x j = 1) ∧ jl_cells (jT_S x) (jT_k x) ≤ 65536 ∧ 1 ≤ jT_t x ∧ jT_t x ≤ 2 ^ 24 ∧ jT_r x ≤ 4000 ∧ jT_e x ≤ 4000 ∧ 1 ≤ jT_q x ∧ jT_q x < 2 ^ 62
/-- its row in the reference -/
def jT_row (V : Nat → Nat → Int32) (VL : Nat → Nat → Int64) (t : Nat) (x : jT) : Prop :=
  V 0 t = jT_op x ∧ V 1 t = jT_a x ∧ V 2 t = jT_b x ∧ V 3 t = nI (jT_k x) ∧ (∀ j, j < 4 → V 4 (4 * t + j) = nI (jT_S x j)) ∧ V 5 t = nI (jl_cells (jT_S x) (jT_k x)) ∧ V 6 t = nI (jT_t x) ∧ V 7 t = nI (jT_r x) ∧ V 8 t = nI (jT_e x) ∧ VL 9 t = lN (jT_q x) ∧ (jT_op x = 51 → V 10 t = nI (jT_u x) ∧ V 11 t = nI (jT_l x) ∧ 1 ≤ jT_u x ∧ 1 ≤ jT_l x ∧ jT_u x < 2 ^ 31 ∧ jT_l x < 2 ^ 31)
/-- ((p, how many tensors, they, the work), (how many indices, they: rank, first side, below)) -/
abbrev jSt : Type := (Nat × Nat × (Nat → jT) × Nat) × (Nat × (Nat → Nat × Nat × Nat))
abbrev jSt_p (σ : jSt) : Nat := σ.1.1
abbrev jSt_c (σ : jSt) : Nat := σ.1.2.1
abbrev jSt_T (σ : jSt) : Nat → jT := σ.1.2.2.1
abbrev jSt_w (σ : jSt) : Nat := σ.1.2.2.2
abbrev jSt_i (σ : jSt) : Nat := σ.2.1
abbrev jSt_I (σ : jSt) : Nat → Nat × Nat × Nat := σ.2.2
/-- a capacity of tensors -/
def jl_cap (n : Nat) : Prop := n = 32 ∨ n = 64 ∨ n = 128 ∨ n = 256 ∨ n = 512
/-- a capacity of indices -/
def jl_cap2 (n : Nat) : Prop := n = 16 ∨ n = 32 ∨ n = 64 ∨ n = 128 ∨ n = 256 ∨ n = 512
/-- the reference holds the state σ; th: the code of its last refusal -/
def jM (cI cJ : ClassId) (w : jb_W) (y : Nat) (A : Nat → Nat) (n n2 : Nat) (s : Nat → Int32) (V : Nat → Nat → Int32) (VL : Nat → Nat → Int64) (σ : jSt) : Prop :=
  jY cI cJ w y A n n2 s V VL (lN (jSt_w σ)) ∧ s 1 = nI (jSt_p σ) ∧ jSt_p σ ≤ 64 ∧ s 2 = nI (jSt_c σ) ∧ jSt_c σ ≤ n ∧ jl_cap n ∧ jSt_w σ ≤ 1000000 ∧ s 3 = nI (jSt_i σ) ∧ jSt_i σ ≤ n2 ∧ jl_cap2 n2 ∧ n2 ≤ 512 ∧ (∀ t, t < jSt_c σ → jT_ok (jSt_T σ t) ∧ jT_row V VL t (jSt_T σ t)) ∧ (∀ i, i < jSt_i σ → V 12 i = nI (jSt_I σ i).1 ∧ V 13 i = nI (jSt_I σ i).2.1 ∧ V 14 i = nI (jSt_I σ i).2.2 ∧ (jSt_I σ i).1 ≤ 4 ∧ ((jSt_I σ i).1 = 1 → 1 ≤ (jSt_I σ i).2.1 ∧ (jSt_I σ i).2.1 ≤ 4096) ∧ 1 ≤ (jSt_I σ i).2.2 ∧ (jSt_I σ i).2.2 ≤ 65536)
/-- one tensor more -/
def jSt_add (σ : jSt) (x : jT) : jSt := ((jSt_p σ, jSt_c σ + 1, va_up (jSt_T σ) (jSt_c σ) x, jSt_w σ + jl_cells (jT_S x) (jT_k x) * jT_t x), σ.2)
/-- the sides of a new tensor, 1 for none -/
def jl_S (N : Nat → Nat) (rk : Nat) : Nat → Nat := fun j => if j < rk then N j else 1
theorem jl_S_cells {N : Nat → Nat} {rk : Nat} : jl_cells (jl_S N rk) rk = jl_cells N rk := by
  have : ∀ m, m ≤ rk → jl_cells (jl_S N rk) m = jl_cells N m := by
    intro m
    induction m with
    | zero => intro _; rfl
    | succ m ih =>
      intro h
      rw [jl_cells, jl_cells, ih (by omega)]
      unfold jl_S
      rw [if_pos (by omega)]
  exact this rk (Nat.le_refl _)
section YB
variable {cI cJ : ClassId} {w : jb_W} {y : Nat} {A : Nat → Nat} {n n2 : Nat} {s : Nat → Int32} {V : Nat → Nat → Int32} {VL : Nat → Nat → Int64} {σ : jSt}
theorem jT_row.keep {V' : Nat → Nat → Int32} {VL' : Nat → Nat → Int64} {ct t : Nat} {x : jT} (h : jT_row V VL t x) (ho : jO ct n2 V V') (hL : jOL ct VL VL') (ht : t < ct) : jT_row V' VL' t x := by
  obtain ⟨h0, h1, h2, h3, h4, h5, h6, h7, h8, h9, h10⟩ := h
  obtain ⟨o, o4, -, -⟩ := ho
  have q : ∀ k, k < 20 → k ≠ 4 → k ≠ 12 → k ≠ 13 → k ≠ 14 → k ≠ 19 → V' k t = V k t := fun k a1 a2 a3 a4 a5 a6 => o k a1 a2 a3 a4 a5 a6 t ht
  refine ⟨?_, ?_, ?_, ?_, fun j hj => (o4 _ (by omega)).trans (h4 j hj), ?_, ?_, ?_, ?_, (hL t ht).1.trans h9, fun e => ?_⟩
  · exact (q 0 (by decide) (by decide) (by decide) (by decide) (by decide) (by decide)).trans h0
  · exact (q 1 (by decide) (by decide) (by decide) (by decide) (by decide) (by decide)).trans h1
  · exact (q 2 (by decide) (by decide) (by decide) (by decide) (by decide) (by decide)).trans h2
  · exact (q 3 (by decide) (by decide) (by decide) (by decide) (by decide) (by decide)).trans h3
  · exact (q 5 (by decide) (by decide) (by decide) (by decide) (by decide) (by decide)).trans h5
  · exact (q 6 (by decide) (by decide) (by decide) (by decide) (by decide) (by decide)).trans h6
  · exact (q 7 (by decide) (by decide) (by decide) (by decide) (by decide) (by decide)).trans h7
  · exact (q 8 (by decide) (by decide) (by decide) (by decide) (by decide) (by decide)).trans h8
  · obtain ⟨u1, u2, u3⟩ := h10 e
    exact ⟨(q 10 (by decide) (by decide) (by decide) (by decide) (by decide) (by decide)).trans u1, (q 11 (by decide) (by decide) (by decide) (by decide) (by decide) (by decide)).trans u2, u3⟩
/-- behind a make that isn't too much: one tensor more (of a division: its fraction is told later) -/
theorem jM.add (h : jM cI cJ w y A n n2 s V VL σ) {s0 : Nat → Int32} {V0 : Nat → Nat → Int32} {w0 w' : jb_W} {sz sz' : Nat} {N : Nat → Nat} {rk r e q ad : Nat} {what a b : Int32} (hs0 : s0 1 = s 1 ∧ s0 3 = s 3) (hV0 : ∀ k, k ≠ 19 → V0 k = V k)
    (hf : ¬ jl_full N rk r e q ad (jSt_w σ)) (hrk : rk ≤ 4) (hN1 : ∀ k, k < rk → 1 ≤ N k) (had : 1 ≤ ad ∧ ad ≤ 2 ^ 24) (hq : q < 2 ^ 62) (hd : what = 51 → False) (hct : jSt_c σ < 512)
    (hm : jl_made cI cJ w0 sz y A n n2 s0 V0 VL N (jSt_c σ) rk r e q ad (jSt_w σ) what a b w' sz') :
    ∃ (A' : Nat → Nat) (n' : Nat) (s' : Nat → Int32) (V' : Nat → Nat → Int32) (VL' : Nat → Nat → Int64), s' = upd s0 2 (nI (jSt_c σ + 1)) ∧ jM cI cJ w' y A' n' n2 s' V' VL' (jSt_add σ ((what, a, b), (rk, jl_S N rk), (ad, r, e, q), (0, 0))) ∧ jS sz y A w0 w' ∧ (∀ j, j < 20 → A' j = A j ∨ sz ≤ A' j) ∧ sz ≤ sz' := by
  obtain ⟨A', n', V', VL', m1, m2, m3, mO, mL, mr, mS, mA, mz⟩ := hm
  obtain ⟨-, p1, p2, p3, p4, p5, p6, p7, p8, p9, p10, pT, pI⟩ := h
  have row0 : ∀ t, t < jSt_c σ → jT_row V0 VL t (jSt_T σ t) := fun t ht => by
    have := (pT t ht).2
    unfold jT_row at this ⊢
    rw [hV0 0 (by decide), hV0 1 (by decide), hV0 2 (by decide), hV0 3 (by decide), hV0 4 (by decide), hV0 5 (by decide), hV0 6 (by decide), hV0 7 (by decide), hV0 8 (by decide), hV0 10 (by decide), hV0 11 (by decide)]
    exact this
  have hcell : jl_cells (jl_S N rk) rk = jl_cells N rk := jl_S_cells
  have f1 : jl_cells N rk ≤ 65536 := Nat.not_lt.mp fun z => hf (Or.inl (Or.inl z))
  have f2 : jl_long N rk = false := by
    cases z : jl_long N rk with
    | false => rfl
    | true => exact absurd (Or.inl (Or.inr z)) hf
  have f3 : r ≤ 4000 := Nat.not_lt.mp fun z => hf (Or.inr (Or.inl z))
  have f4 : e ≤ 4000 := Nat.not_lt.mp fun z => hf (Or.inr (Or.inr (Or.inl z)))
  have f5 : q ≠ 0 := fun z => hf (Or.inr (Or.inr (Or.inr (Or.inl z))))
  have f6 : jSt_w σ + jl_cells N rk * ad ≤ 1000000 := Nat.not_lt.mp fun z => hf (Or.inr (Or.inr (Or.inr (Or.inr z))))
  have hcap : jl_cap n' := by
    rcases m3 with z | ⟨z, z2⟩
    · rw [z]; exact p5
    · unfold jl_cap at p5 ⊢
      omega
  refine ⟨A', n', _, V', VL', rfl, ⟨?_, ?_, p2, ?_, ?_, hcap, ?_, ?_, p8, p9, p10, fun t ht => ?_, fun i hi => ?_⟩, mS, mA, mz⟩
  · show jY cI cJ w' y A' n' n2 _ V' VL' (lN (jSt_w σ + jl_cells (jl_S N rk) rk * ad))
    rw [hcell]
    exact m1
  · rw [pk_un (by decide), hs0.1, p1]; rfl
  · rw [pk_us]; rfl
  · show jSt_c σ + 1 ≤ n'
    omega
  · show jSt_w σ + jl_cells (jl_S N rk) rk * ad ≤ 1000000
    rw [hcell]
    exact f6
  · rw [pk_un (by decide), hs0.2, p7]; rfl
  · by_cases et : t = jSt_c σ
    · subst et
      show jT_ok (va_up (jSt_T σ) (jSt_c σ) _ (jSt_c σ)) ∧ jT_row V' VL' (jSt_c σ) (va_up (jSt_T σ) (jSt_c σ) _ (jSt_c σ))
      rw [va_up_self]
      obtain ⟨x0, x1, x2, x3, x4, x5, x6, x7, x8, x9, -⟩ := mr
      refine ⟨⟨hrk, fun j hj => ?_, fun j hj => ?_, ?_, had.1, had.2, f3, f4, by show 1 ≤ q; omega, hq⟩, x0, x1, x2, x3, fun j hj => ?_, ?_, x6, x7, x8, x9, fun z => (hd z).elim⟩
      · show 1 ≤ jl_S N rk j ∧ jl_S N rk j ≤ 4096
        unfold jl_S
        split
        · rename_i z
          exact ⟨hN1 j z, jl_long_f f2 z⟩
        · exact ⟨Nat.le_refl _, by decide⟩
      · show jl_S N rk j = 1
        unfold jl_S
        have hj : rk ≤ j := hj
        rw [if_neg (by omega)]
      · show jl_cells (jl_S N rk) rk ≤ 65536
        rw [hcell]
        exact f1
      · rw [x4 j hj]
        show _ = nI (jl_S N rk j)
        unfold jl_S
        split
        · rfl
        · rfl
      · rw [x5]
        show _ = nI (jl_cells (jl_S N rk) rk)
        rw [hcell]
    · have ht : t < jSt_c σ + 1 := ht
      show jT_ok (va_up (jSt_T σ) (jSt_c σ) _ t) ∧ jT_row V' VL' t (va_up (jSt_T σ) (jSt_c σ) _ t)
      rw [va_up_ne _ _ et]
      exact ⟨(pT t (by omega)).1, (row0 t (by omega)).keep mO mL (by omega)⟩
  · have hi : i < jSt_i σ := hi
    obtain ⟨q12, q13, q14⟩ := mO.2.2.1 i (by omega)
    rw [q12, q13, q14, hV0 12 (by decide), hV0 13 (by decide), hV0 14 (by decide)]
    exact pI i hi
end YB
