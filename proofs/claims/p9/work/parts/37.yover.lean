/-! THE REFERENCE: max; a making with a fraction; over -/
theorem jw_maxs : Cond.static Lib.Math.max.name ∈ jw_all := jw_in (by decide +kernel) (by decide +kernel)
theorem jw_maxc : Cond.code Lib.Math.max.name Lib.Math.max.code 2 (some .int) ∈ jw_all := jw_in (by decide +kernel) (by decide +kernel)
theorem jw_lmaxs : Cond.static Lib.MathLoose.max_long.x ∈ jw_all := jw_in (by decide +kernel) (by decide +kernel)
theorem jw_lmaxc : Cond.code Lib.MathLoose.max_long.x Lib.MathLoose.max_long.code 4 (some .long) ∈ jw_all := jw_in (by decide +kernel) (by decide +kernel)
theorem jk_common : jb_KS "MeasuredTensorsModel" 180 jy_Y_common jc_Y_common 4 (some .long) 2 := ⟨jw_in (by decide +kernel) (by decide +kernel), jw_in (by decide +kernel) (by decide +kernel), jw_in (by decide +kernel) (by decide +kernel), jw_in (by decide +kernel) (by decide +kernel), by decide +kernel⟩
section MX
variable {g : ja_G} {cc : ByteArray} {w : Nat → Option va_E} {sz kc ks pc : Nat} {lv : List (Nat × Value)} {rest : List Value}
theorem ja_mmax (C : ja_C g cc) {index : Nat} (hlink : Cond.methodLink (ja_o g) index Lib.Math.max.name ∈ jw_all) (hR : 1 ≤ (ja_R g).frames ∧ (rest.map fun v => v.category).sum + 13 ≤ (ja_R g).locals) {x y : Int32} (hd : decode cc pc = .ok (.invokestatic index, 3)) (k : ja g w sz kc ks (pc + 3) lv (.int (if x < y then y else x) :: rest)) : ja g w sz kc ks pc lv (.int y :: .int x :: rest) :=
  fun H locs cells slots ls a1 a2 a3 a4 hl => va_mmax C.1.1 C.1.2.1 (C.1.2.2.1.trans hl.1.symm) C.1.2.2.2.1 (C.1.2.2.2.2 _ hlink) (C.1.2.2.2.2 _ jw_maxs) (C.1.2.2.2.2 _ jw_mini) (C.1.2.2.2.2 _ jw_maxc) hR.1 hR.2 (Nat.le_trans (Nat.le_add_right _ _) a3) (Nat.le_trans (Nat.le_add_right _ _) a4) hd (k H locs cells slots ls a1 a2 a3 a4 hl)
theorem ja_lmax (C : ja_C g cc) {index : Nat} (hlink : Cond.methodLink (ja_o g) index Lib.MathLoose.max_long.x ∈ jw_all) (hR : 1 ≤ (ja_R g).frames ∧ (rest.map fun v => v.category).sum + 15 ≤ (ja_R g).locals) {x y : Int64} (hd : decode cc pc = .ok (.invokestatic index, 3)) (k : ja g w sz kc ks (pc + 3) lv (.long (if y < x then x else y) :: rest)) : ja g w sz kc ks pc lv (.long y :: .long x :: rest) :=
  fun H locs cells slots ls a1 a2 a3 a4 hl => va_mmax_long C.1.1 C.1.2.1 (C.1.2.2.1.trans hl.1.symm) C.1.2.2.2.1 (C.1.2.2.2.2 _ hlink) (C.1.2.2.2.2 _ jw_lmaxs) (C.1.2.2.2.2 _ jw_mini) (C.1.2.2.2.2 _ jw_lmaxc) hR.1 hR.2 (Nat.le_trans (Nat.le_add_right _ _) a3) (Nat.le_trans (Nat.le_add_right _ _) a4) hd (k H locs cells slots ls a1 a2 a3 a4 hl)
theorem ja_mmaxN (C : ja_C g cc) {index : Nat} (hlink : Cond.methodLink (ja_o g) index Lib.Math.max.name ∈ jw_all) (hR : 1 ≤ (ja_R g).frames ∧ (rest.map fun v => v.category).sum + 13 ≤ (ja_R g).locals) {a b : Nat} (ha : a < 2 ^ 31) (hb : b < 2 ^ 31) (hd : decode cc pc = .ok (.invokestatic index, 3)) (k : ja g w sz kc ks (pc + 3) lv (.int (nI (max a b)) :: rest)) : ja g w sz kc ks pc lv (.int (nI b) :: .int (nI a) :: rest) := by
  refine ja_mmax C hlink hR hd ?_
  have e : (if nI a < nI b then nI b else nI a) = nI (max a b) := by
    rcases Nat.lt_or_ge a b with z | z
    · rw [if_pos ((nI_ltI ha hb).mpr z), show max a b = b by omega]
    · rw [if_neg (fun q => by have := (nI_ltI ha hb).mp q; omega), show max a b = a by omega]
  rw [e]
  exact k
end MX
/-- a making with a fraction -/
def jB (σ : jSt) (N : Nat → Nat) (rk : Nat) (what a b : Int32) (ad r e q : Nat) (ul : Nat × Nat) (x : Int32) (σ' : jSt) : Prop :=
  (jl_full N rk r e q ad (jSt_w σ) → x = -8 ∧ σ' = σ) ∧ (¬ jl_full N rk r e q ad (jSt_w σ) → x = nI (jSt_c σ) ∧ σ' = jSt_add σ ((what, a, b), (rk, jl_S N rk), (ad, r, e, q), ul))
section YB2
variable {cI cJ : ClassId} {w : jb_W} {y : Nat} {A : Nat → Nat} {n n2 : Nat} {s : Nat → Int32} {V : Nat → Nat → Int32} {VL : Nat → Nat → Int64} {σ : jSt}
theorem jM.add2 (h : jM cI cJ w y A n n2 s V VL σ) {s0 : Nat → Int32} {V0 : Nat → Nat → Int32} {w0 w' : jb_W} {sz sz' : Nat} {N : Nat → Nat} {rk r e q ad uN lw : Nat} {what a b : Int32} (hs0 : s0 1 = s 1 ∧ s0 3 = s 3) (hV0 : ∀ k, k ≠ 19 → V0 k = V k)
    (hf : ¬ jl_full N rk r e q ad (jSt_w σ)) (hrk : rk ≤ 4) (hN1 : ∀ k, k < rk → 1 ≤ N k) (had : 1 ≤ ad ∧ ad ≤ 2 ^ 24) (hq : q < 2 ^ 62) (hul : 1 ≤ uN ∧ 1 ≤ lw ∧ uN < 2 ^ 31 ∧ lw < 2 ^ 31) (hct : jSt_c σ < 512)
    (hm : jl_made cI cJ w0 sz y A n n2 s0 V0 VL N (jSt_c σ) rk r e q ad (jSt_w σ) what a b w' sz') :
    ∃ (A' : Nat → Nat) (n' : Nat) (V' : Nat → Nat → Int32) (VL' : Nat → Nat → Int64), jY cI cJ w' y A' n' n2 (upd s0 2 (nI (jSt_c σ + 1))) V' VL' (lN (jSt_w σ + jl_cells N rk * ad)) ∧ jSt_c σ < n' ∧ n' ≤ 512 ∧
      (∀ (w2 : jb_W) (V2 : Nat → Nat → Int32), jY cI cJ w2 y A' n' n2 (upd s0 2 (nI (jSt_c σ + 1))) V2 VL' (lN (jSt_w σ + jl_cells N rk * ad)) → (∀ k, k ≠ 10 → k ≠ 11 → V2 k = V' k) → (∀ i, i ≠ jSt_c σ → V2 10 i = V' 10 i) → (∀ i, i ≠ jSt_c σ → V2 11 i = V' 11 i) → V2 10 (jSt_c σ) = nI uN → V2 11 (jSt_c σ) = nI lw → jM cI cJ w2 y A' n' n2 (upd s0 2 (nI (jSt_c σ + 1))) V2 VL' (jSt_add σ ((what, a, b), (rk, jl_S N rk), (ad, r, e, q), (uN, lw)))) ∧ jS sz y A w0 w' ∧ (∀ j, j < 20 → A' j = A j ∨ sz ≤ A' j) ∧ sz ≤ sz' := by
  obtain ⟨A', n', V', VL', m1, m2, m3, mO, mL, mr, mS, mA, mz⟩ := hm
  obtain ⟨-, p1, p2, p3, p4, p5, p6, p7, p8, p9, p10, pT, pI⟩ := h
  have row0 : ∀ t, t < jSt_c σ → jT_row V0 VL t (jSt_T σ t) := fun t ht => by
    have := (pT t ht).2
    unfold jT_row at this ⊢
    rw [hV0 0 (by decide), hV0 1 (by decide), hV0 2 (by decide), hV0 3 (by decide), hV0 4 (by decide), hV0 5 (by decide), hV0 6 (by decide), hV0 7 (by decide), hV0 8 (by decide), hV0 10 (by decide), hV0 11 (by decide)]
    exact this
  have hcell : jl_cells (jl_S N rk) rk = jl_cells N rk := jl_S_cells
  have f1 : jl_cells N rk ≤ 65536 := Nat.not_lt.mp fun z => hf (Or.inl (Or.inl z))
  have f2 : jl_long N rk = false := by
    cases z : jl_long N rk with
    | false => rfl
    | true => exact absurd (Or.inl (Or.inr z)) hf
  have f3 : r ≤ 4000 := Nat.not_lt.mp fun z => hf (Or.inr (Or.inl z))
  have f4 : e ≤ 4000 := Nat.not_lt.mp fun z => hf (Or.inr (Or.inr (Or.inl z)))
  have f5 : q ≠ 0 := fun z => hf (Or.inr (Or.inr (Or.inr (Or.inl z))))
  have f6 : jSt_w σ + jl_cells N rk * ad ≤ 1000000 := Nat.not_lt.mp fun z => hf (Or.inr (Or.inr (Or.inr (Or.inr z))))
  have hcap : jl_cap n' := by
    rcases m3 with z | ⟨z, z2⟩
    · rw [z]; exact p5
    · unfold jl_cap at p5 ⊢
      omega
  refine ⟨A', n', V', VL', m1, by omega, (jl_cap_le hcap).2, fun w2 V2 g1 g2 g10 g11 gu gl => ⟨?_, ?_, p2, ?_, ?_, hcap, ?_, ?_, p8, p9, p10, fun t ht => ?_, fun i hi => ?_⟩, mS, mA, mz⟩
  · show jY cI cJ w2 y A' n' n2 _ V2 VL' (lN (jSt_w σ + jl_cells (jl_S N rk) rk * ad))
    rw [hcell]
    exact g1
  · rw [pk_un (by decide), hs0.1, p1]; rfl
  · rw [pk_us]; rfl
  · show jSt_c σ + 1 ≤ n'
    omega
  · show jSt_w σ + jl_cells (jl_S N rk) rk * ad ≤ 1000000
    rw [hcell]
    exact f6
  · rw [pk_un (by decide), hs0.2, p7]; rfl
  · by_cases et : t = jSt_c σ
    · subst et
      show jT_ok (va_up (jSt_T σ) (jSt_c σ) _ (jSt_c σ)) ∧ jT_row V2 VL' (jSt_c σ) (va_up (jSt_T σ) (jSt_c σ) _ (jSt_c σ))
      rw [va_up_self]
      obtain ⟨x0, x1, x2, x3, x4, x5, x6, x7, x8, x9, -⟩ := mr
      refine ⟨⟨hrk, fun j hj => ?_, fun j hj => ?_, ?_, had.1, had.2, f3, f4, by show 1 ≤ q; omega, hq⟩, ?_, ?_, ?_, ?_, fun j hj => ?_, ?_, ?_, ?_, ?_, x9, fun z => ⟨gu, gl, hul⟩⟩
      · show 1 ≤ jl_S N rk j ∧ jl_S N rk j ≤ 4096
        unfold jl_S
        split
        · rename_i z
          exact ⟨hN1 j z, jl_long_f f2 z⟩
        · exact ⟨Nat.le_refl _, by decide⟩
      · show jl_S N rk j = 1
        unfold jl_S
        have hj : rk ≤ j := hj
        rw [if_neg (by omega)]
      · show jl_cells (jl_S N rk) rk ≤ 65536
        rw [hcell]
        exact f1
      · rw [g2 0 (by decide) (by decide)]; exact x0
      · rw [g2 1 (by decide) (by decide)]; exact x1
      · rw [g2 2 (by decide) (by decide)]; exact x2
      · rw [g2 3 (by decide) (by decide)]; exact x3
      · rw [g2 4 (by decide) (by decide), x4 j hj]
        show _ = nI (jl_S N rk j)
        unfold jl_S
        split
        · rfl
        · rfl
      · rw [g2 5 (by decide) (by decide), x5]
        show _ = nI (jl_cells (jl_S N rk) rk)
        rw [hcell]
      · rw [g2 6 (by decide) (by decide)]; exact x6
      · rw [g2 7 (by decide) (by decide)]; exact x7
      · rw [g2 8 (by decide) (by decide)]; exact x8
    · have ht : t < jSt_c σ + 1 := ht
      show jT_ok (va_up (jSt_T σ) (jSt_c σ) _ t) ∧ jT_row V2 VL' t (va_up (jSt_T σ) (jSt_c σ) _ t)
      rw [va_up_ne _ _ et]
      refine ⟨(pT t (by omega)).1, ?_⟩
      have := (row0 t (by omega)).keep mO mL (by omega)
      unfold jT_row at this ⊢
      rw [g2 0 (by decide) (by decide), g2 1 (by decide) (by decide), g2 2 (by decide) (by decide), g2 3 (by decide) (by decide), g2 4 (by decide) (by decide), g2 5 (by decide) (by decide), g2 6 (by decide) (by decide), g2 7 (by decide) (by decide), g2 8 (by decide) (by decide), g10 t et, g11 t et]
      exact this
  · have hi : i < jSt_i σ := hi
    obtain ⟨q12, q13, q14⟩ := mO.2.2.1 i (by omega)
    rw [g2 12 (by decide) (by decide), g2 13 (by decide) (by decide), g2 14 (by decide) (by decide), q12, q13, q14, hV0 12 (by decide), hV0 13 (by decide), hV0 14 (by decide)]
    exact pI i hi
end YB2
