/-! THE CLASS: a tensor's slope or uses are written -/
section X94
variable {cI cT cX : ClassId} {x : Nat} {P : Nat → Prop} {σ : jSt} {dr : Nat} {F G : Nat → Option Nat} {own : Nat → Nat} {fT : Nat → Nat → Int32} {ls : Int32} {w w' : jb_W} {k : Nat} {f : Nat → Int32} {m : Int32 × Int32 × Int64} {tm : Int32}
theorem jXd.updT {t b : Nat} (h : jXd cI cT cX x P σ dr F G own fT ls w k f m tm) (ht : t < jSt_c σ) (eb : F t = some b) (hz : jZx cI w' b (jT_k (jSt_T σ t)) (fT t) (nI (jT_r (jSt_T σ t)), nI (jT_e (jSt_T σ t)), lN (jT_q (jSt_T σ t))) (nI (jT_t (jSt_T σ t)))) (fr : jZF b w w') : jXd cI cT cX x P σ dr F G own fT ls w' k f m tm ∧ jXF P w w' := by
  have hap := h.ap eb
  have hts := h.ts ht
  have hzb := h.tz ht eb
  obtain ⟨h1, h2, h3, ⟨r4, e4, q4, h4⟩, ⟨r5, e5, q5, h5⟩, ⟨h6a, hz0, hd, h6⟩, h7, h8, h9, h10, h11, h12, h13, h14⟩ := h
  obtain ⟨p1, p2, p3, -⟩ := h9 t b eb
  refine ⟨⟨(fr _ (by omega)).trans h1, (fr _ (by omega)).trans h2, (fr _ (by omega)).trans h3, ⟨r4, e4, q4, (fr _ (by omega)).trans h4⟩, ⟨r5, e5, q5, (fr _ (by omega)).trans h5⟩, ⟨h6a, hz0.kept (fun c c1 c2 => fr c (by omega)), hd, h6⟩, h7, fun t2 ht2 => ?_, fun t2 b2 hb2 => ?_, h10, fun i hi => ?_, h12, h13, h14⟩, fun c hc => ?_⟩
  · obtain ⟨g1, b2, g2, g3, g4⟩ := h8 t2 ht2
    by_cases et : t2 = t
    · subst et
      cases Option.some.inj (g2.symm.trans eb)
      exact ⟨g1, b, g2, hz, g4⟩
    · obtain ⟨q1, q2, q3, -⟩ := h9 t2 b2 g2
      have := jl_sep (n := 5) (by decide) (by decide) p3 q3 (fun e => et (h10 t2 t b (e ▸ g2) eb))
      exact ⟨g1, b2, g2, g3.kept (fun c c1 c2 => fr c (by omega)), g4⟩
  · obtain ⟨q1, q2, q3, k9, f9, m9, t9, q4', q5'⟩ := h9 t2 b2 hb2
    by_cases e : b2 = b
    · subst e
      exact ⟨q1, q2, q3, _, _, _, _, hts.1, hz⟩
    · have := jl_sep (n := 5) (by decide) (by decide) p3 q3 e
      exact ⟨q1, q2, q3, k9, f9, m9, t9, q4', q5'.kept (fun c c1 c2 => fr c (by omega))⟩
  · obtain ⟨ib, fi, g1, g2, g3, g4, g5, g6, g7, g8, g9, g10, g11⟩ := h11 i hi
    have hne : ib ≠ b := fun e => by
      obtain ⟨fs, hfs⟩ := hzb.z0
      rw [← e, g4] at hfs
      cases hfs
    have := jl_sep (n := 3) (by decide) (by decide) p3 g3 hne
    exact ⟨ib, fi, g1, g2, g3, (fr _ (by omega)).trans g4, (fr _ (by omega)).trans g5, (fr _ (by omega)).trans g6, g7, g8, g9, g10, g11⟩
  · refine fr c ?_
    rcases Nat.lt_or_ge c b with z | z
    · exact Or.inl z
    · rcases Nat.lt_or_ge c (b + 5) with y | y
      · exact absurd (by have := h14 t b eb (c - b) (by omega); rw [show b + (c - b) = c by omega] at this; exact this) hc
      · exact Or.inr y
/-- the slope alone -/
theorem jZx.w4 {b : Nat} {r e : Int32} {q : Int64} (h : jZx cI w b k f m tm) (g : w' (b + 4) = some (.inr (0, [.int r, .int e, .long q]))) (fr : jF (b + 4) w w') : jZx cI w' b k f m tm ∧ jZF b w w' := by
  obtain ⟨sl, p, ⟨z0, z1, z2, z3, z4⟩, hp⟩ := h
  exact ⟨⟨(r, e, q), p, ⟨(fr _ (by omega)).trans z0, (fr _ (by omega)).trans z1, (fr _ (by omega)).trans z2, (fr _ (by omega)).trans z3, g⟩, hp⟩, fun c hc => fr c (by omega)⟩
/-- lossNumber alone -/
theorem jXd.ls' {ls2 : Int32} (h : jXd cI cT cX x P σ dr F G own fT ls w k f m tm) (g : w' x = some (.inr (4, [.ref (x + 1), .ref (x + 2), .ref (x + 3), .ref (x + 4), .ref dr, .int (nI (jSt_c σ)), .int (nI (jSt_i σ)), .int (nI (jSt_w σ)), .int ls2, .int (nI (jSt_p σ))]))) (fr : jF x w w') : jXd cI cT cX x P σ dr F G own fT ls2 w' k f m tm ∧ jXF P w w' := by
  obtain ⟨h1, h2, h3, ⟨r4, e4, q4, h4⟩, ⟨r5, e5, q5, h5⟩, ⟨h6a, hz0, hd, h6⟩, h7, h8, h9, h10, h11, h12, h13, h14⟩ := h
  refine ⟨⟨g, (fr _ (by omega)).trans h2, (fr _ (by omega)).trans h3, ⟨r4, e4, q4, (fr _ (by omega)).trans h4⟩, ⟨r5, e5, q5, (fr _ (by omega)).trans h5⟩, ⟨h6a, hz0.kept (fun c c1 c2 => fr c (by omega)), hd, h6⟩, h7, fun t2 ht2 => ?_, fun t2 b2 hb2 => ?_, h10, fun i hi => ?_, h12, h13, h14⟩, fun c hc => fr c (fun e => hc (by rw [e]; exact h12 0 (by decide)))⟩
  · obtain ⟨g1, b2, g2, g3, g4⟩ := h8 t2 ht2
    have := (h9 t2 b2 g2).1
    exact ⟨g1, b2, g2, g3.kept (fun c c1 c2 => fr c (by omega)), g4⟩
  · obtain ⟨q1, q2, q3, k9, f9, m9, t9, q4', q5'⟩ := h9 t2 b2 hb2
    exact ⟨q1, q2, q3, k9, f9, m9, t9, q4', q5'.kept (fun c c1 c2 => fr c (by omega))⟩
  · obtain ⟨ib, fi, g1, g2, g3, g4, g5, g6, g7⟩ := h11 i hi
    exact ⟨ib, fi, g1, g2, g3, (fr _ (by omega)).trans g4, (fr _ (by omega)).trans g5, (fr _ (by omega)).trans g6, g7⟩
end X94
