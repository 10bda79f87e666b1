/-! THE CLASS's STATE: it holds σ; its draft lies at dr; F, G: where its tensors and indices lie; own: to which block a cell belongs; P: the cells that are its own -/
def jXd (cI cT cX : ClassId) (x : Nat) (P : Nat → Prop) (σ : jSt) (dr : Nat) (F G : Nat → Option Nat) (own : Nat → Nat) (fT : Nat → Nat → Int32) (ls : Int32) (w : jb_W) (k : Nat) (f : Nat → Int32) (m : Int32 × Int32 × Int64) (tm : Int32) : Prop :=
  w x = some (.inr (4, [.ref (x + 1), .ref (x + 2), .ref (x + 3), .ref (x + 4), .ref dr, .int (nI (jSt_c σ)), .int (nI (jSt_i σ)), .int (nI (jSt_w σ)), .int ls, .int (nI (jSt_p σ))])) ∧
  w (x + 1) = some (.inl (cT, 4000, .inr (.inr (.inr (.inr F))))) ∧
  w (x + 2) = some (.inl (cX, 1000, .inr (.inr (.inr (.inr G))))) ∧
  (∃ (r e : Int32) (q : Int64), w (x + 3) = some (.inr (0, [.int r, .int e, .long q]))) ∧
  (∃ (r e : Int32) (q : Int64), w (x + 4) = some (.inr (0, [.int r, .int e, .long q]))) ∧
  (k ≤ 4 ∧ jZx cI w dr k f m tm ∧ x + 5 ≤ dr ∧ ∀ j, j < 5 → own (dr + j) = dr) ∧
  (jSt_c σ ≤ 512 ∧ jSt_i σ ≤ 512 ∧ jSt_w σ ≤ 1000000 ∧ jSt_p σ ≤ 64) ∧
  (∀ t, t < jSt_c σ → jT_ok (jSt_T σ t) ∧ ∃ b, F t = some b ∧ jZx cI w b (jT_k (jSt_T σ t)) (fT t) (nI (jT_r (jSt_T σ t)), nI (jT_e (jSt_T σ t)), lN (jT_q (jSt_T σ t))) (nI (jT_t (jSt_T σ t))) ∧ jSh (jT_k (jSt_T σ t)) (fT t) (jT_S (jSt_T σ t))) ∧
  (∀ t b, F t = some b → x + 5 ≤ b ∧ b ≠ dr ∧ (∀ j, j < 5 → own (b + j) = b) ∧ ∃ (k' : Nat) (f' : Nat → Int32) (m' : Int32 × Int32 × Int64) (tm' : Int32), k' ≤ 4 ∧ jZx cI w b k' f' m' tm') ∧
  (∀ t t' b, F t = some b → F t' = some b → t = t') ∧
  (∀ i, i < jSt_i σ → ∃ (ib : Nat) (fi : Nat → Int32), G i = some ib ∧ x + 5 ≤ ib ∧ (∀ j, j < 3 → own (ib + j) = ib) ∧ w ib = some (.inr (3, [.ref (ib + 1), .int (nI (jSt_I σ i).2.2)])) ∧ w (ib + 1) = some (.inr (1, [.ref (ib + 2), .int (nI (jSt_I σ i).1)])) ∧ w (ib + 2) = some (.inl (cI, 4, .inl fi)) ∧ (jSt_I σ i).1 ≤ 4 ∧ (∃ Si, jSh (jSt_I σ i).1 fi Si ∧ ((jSt_I σ i).1 = 1 → Si 0 = (jSt_I σ i).2.1)) ∧ 1 ≤ (jSt_I σ i).2.2 ∧ (jSt_I σ i).2.2 ≤ 65536 ∧ ∀ j, j < 3 → P (ib + j)) ∧
  ((∀ j, j < 5 → P (x + j)) ∧ (∀ j, j < 5 → P (dr + j)) ∧ ∀ t b, F t = some b → ∀ j, j < 5 → P (b + j))
/-- all that isn't the class's own stays -/
def jXF (P : Nat → Prop) (w w' : jb_W) : Prop := ∀ c, ¬ P c → w' c = w c
theorem jXF.rf {P : Nat → Prop} {w : jb_W} : jXF P w w := fun _ _ => rfl
theorem jXF.tr {P : Nat → Prop} {w w1 w2 : jb_W} (h : jXF P w w1) (h2 : jXF P w1 w2) : jXF P w w2 := fun c hc => (h2 c hc).trans (h c hc)
/-- two blocks of five cells are apart -/
theorem jl_sep {own : Nat → Nat} {a b n : Nat} (hn : n ≤ 5) (h0 : 0 < n) (ha : ∀ j, j < 5 → own (a + j) = a) (hb : ∀ j, j < n → own (b + j) = b) (h : b ≠ a) : b + n ≤ a ∨ a + 5 ≤ b := by
  rcases Nat.lt_or_ge a (b + n) with z | z
  · rcases Nat.lt_or_ge b (a + 5) with z2 | z2
    · rcases Nat.le_total a b with y | y
      · have e1 := ha (b - a) (by omega)
        rw [show a + (b - a) = b by omega] at e1
        have e2 := hb 0 h0
        rw [Nat.add_zero] at e2
        exact absurd (e2.symm.trans e1) h
      · have e1 := hb (a - b) (by omega)
        rw [show b + (a - b) = a by omega] at e1
        have e2 := ha 0 (by decide)
        rw [Nat.add_zero] at e2
        exact absurd (e1.symm.trans e2) h
    · exact Or.inr z2
  · exact Or.inl z
theorem jZx.z1 {cI : ClassId} {w : jb_W} {b k : Nat} {f : Nat → Int32} {m : Int32 × Int32 × Int64} {tm : Int32} (h : jZx cI w b k f m tm) : w (b + 1) = some (.inr (1, [.ref (b + 2), .int (nI k)])) := by
  obtain ⟨sl, p, ⟨z0, z1, z2, z3, z4⟩, hp⟩ := h
  exact z1
theorem jZx.z2 {cI : ClassId} {w : jb_W} {b k : Nat} {f : Nat → Int32} {m : Int32 × Int32 × Int64} {tm : Int32} (h : jZx cI w b k f m tm) : w (b + 2) = some (.inl (cI, 4, .inl f)) := by
  obtain ⟨sl, p, ⟨z0, z1, z2, z3, z4⟩, hp⟩ := h
  exact z2
theorem jZx.z3 {cI : ClassId} {w : jb_W} {b k : Nat} {f : Nat → Int32} {m : Int32 × Int32 × Int64} {tm : Int32} (h : jZx cI w b k f m tm) : w (b + 3) = some (.inr (0, [.int m.1, .int m.2.1, .long m.2.2])) := by
  obtain ⟨sl, p, ⟨z0, z1, z2, z3, z4⟩, hp⟩ := h
  exact z3
theorem jZx.z4 {cI : ClassId} {w : jb_W} {b k : Nat} {f : Nat → Int32} {m : Int32 × Int32 × Int64} {tm : Int32} (h : jZx cI w b k f m tm) : ∃ (r e : Int32) (q : Int64), w (b + 4) = some (.inr (0, [.int r, .int e, .long q])) := by
  obtain ⟨sl, p, ⟨z0, z1, z2, z3, z4⟩, hp⟩ := h
  exact ⟨_, _, _, z4⟩
theorem jZx.z0 {cI : ClassId} {w : jb_W} {b k : Nat} {f : Nat → Int32} {m : Int32 × Int32 × Int64} {tm : Int32} (h : jZx cI w b k f m tm) : ∃ fs, w b = some (.inr (2, fs)) := by
  obtain ⟨sl, p, ⟨z0, z1, z2, z3, z4⟩, hp⟩ := h
  exact ⟨_, z0⟩
section XS
variable {cI cT cX : ClassId} {x : Nat} {P : Nat → Prop} {σ : jSt} {dr : Nat} {F G : Nat → Option Nat} {own : Nat → Nat} {fT : Nat → Nat → Int32} {ls : Int32} {w w' : jb_W} {k k' : Nat} {f f' : Nat → Int32} {m m' : Int32 × Int32 × Int64} {tm tm' : Int32}
theorem jXd.obj (h : jXd cI cT cX x P σ dr F G own fT ls w k f m tm) : w x = some (.inr (4, [.ref (x + 1), .ref (x + 2), .ref (x + 3), .ref (x + 4), .ref dr, .int (nI (jSt_c σ)), .int (nI (jSt_i σ)), .int (nI (jSt_w σ)), .int ls, .int (nI (jSt_p σ))])) := h.1
theorem jXd.ten (h : jXd cI cT cX x P σ dr F G own fT ls w k f m tm) : w (x + 1) = some (.inl (cT, 4000, .inr (.inr (.inr (.inr F))))) := h.2.1
theorem jXd.ind (h : jXd cI cT cX x P σ dr F G own fT ls w k f m tm) : w (x + 2) = some (.inl (cX, 1000, .inr (.inr (.inr (.inr G))))) := h.2.2.1
theorem jXd.d (h : jXd cI cT cX x P σ dr F G own fT ls w k f m tm) : jZx cI w dr k f m tm := h.2.2.2.2.2.1.2.1
theorem jXd.k4 (h : jXd cI cT cX x P σ dr F G own fT ls w k f m tm) : k ≤ 4 := h.2.2.2.2.2.1.1
theorem jXd.xd (h : jXd cI cT cX x P σ dr F G own fT ls w k f m tm) : x + 5 ≤ dr := h.2.2.2.2.2.1.2.2.1
theorem jXd.cn (h : jXd cI cT cX x P σ dr F G own fT ls w k f m tm) : jSt_c σ ≤ 512 ∧ jSt_i σ ≤ 512 ∧ jSt_w σ ≤ 1000000 ∧ jSt_p σ ≤ 64 := h.2.2.2.2.2.2.1
theorem jXd.ok (h : jXd cI cT cX x P σ dr F G own fT ls w k f m tm) {t : Nat} (ht : t < jSt_c σ) : jT_ok (jSt_T σ t) := (h.2.2.2.2.2.2.2.1 t ht).1
theorem jXd.tF (h : jXd cI cT cX x P σ dr F G own fT ls w k f m tm) {t : Nat} (ht : t < jSt_c σ) : ∃ b, F t = some b := by
  obtain ⟨-, b, hb, -⟩ := h.2.2.2.2.2.2.2.1 t ht
  exact ⟨b, hb⟩
theorem jXd.tz (h : jXd cI cT cX x P σ dr F G own fT ls w k f m tm) {t b : Nat} (ht : t < jSt_c σ) (hb : F t = some b) : jZx cI w b (jT_k (jSt_T σ t)) (fT t) (nI (jT_r (jSt_T σ t)), nI (jT_e (jSt_T σ t)), lN (jT_q (jSt_T σ t))) (nI (jT_t (jSt_T σ t))) := by
  obtain ⟨-, b', hb', hz, -⟩ := h.2.2.2.2.2.2.2.1 t ht
  cases Option.some.inj (hb.symm.trans hb')
  exact hz
theorem jXd.ts (h : jXd cI cT cX x P σ dr F G own fT ls w k f m tm) {t : Nat} (ht : t < jSt_c σ) : jSh (jT_k (jSt_T σ t)) (fT t) (jT_S (jSt_T σ t)) := by
  obtain ⟨-, b', hb', -, hs⟩ := h.2.2.2.2.2.2.2.1 t ht
  exact hs
/-- a tensor's block and the draft's -/
theorem jXd.ap (h : jXd cI cT cX x P σ dr F G own fT ls w k f m tm) {t b : Nat} (hb : F t = some b) : b + 5 ≤ dr ∨ dr + 5 ≤ b := by
  obtain ⟨-, -, -, -, -, ⟨-, -, -, h6⟩, -, -, h9, -⟩ := h
  obtain ⟨-, q2, q3, -⟩ := h9 t b hb
  exact jl_sep (by decide) (by decide) h6 q3 q2
theorem jXd.xb (h : jXd cI cT cX x P σ dr F G own fT ls w k f m tm) {t b : Nat} (hb : F t = some b) : x + 5 ≤ b := (h.2.2.2.2.2.2.2.2.1 t b hb).1
theorem jXd.iz (h : jXd cI cT cX x P σ dr F G own fT ls w k f m tm) {i ib : Nat} (hi : i < jSt_i σ) (eb : G i = some ib) : ∃ (fi : Nat → Int32) (Si : Nat → Nat), w ib = some (.inr (3, [.ref (ib + 1), .int (nI (jSt_I σ i).2.2)])) ∧ w (ib + 1) = some (.inr (1, [.ref (ib + 2), .int (nI (jSt_I σ i).1)])) ∧ w (ib + 2) = some (.inl (cI, 4, .inl fi)) ∧ jSh (jSt_I σ i).1 fi Si ∧ ((jSt_I σ i).1 = 1 → Si 0 = (jSt_I σ i).2.1) ∧ (ib + 3 ≤ dr ∨ dr + 5 ≤ ib) ∧ 1 ≤ (jSt_I σ i).2.2 ∧ (jSt_I σ i).2.2 ≤ 65536 := by
  have hz0 := h.d
  obtain ⟨-, -, -, -, -, ⟨-, -, -, h6⟩, -, -, -, -, h11, -⟩ := h
  obtain ⟨ib', fi, g1, g2, g3, g4, g5, g6, g7, ⟨Si, g8, g8'⟩, g9, g10, g11⟩ := h11 i hi
  cases Option.some.inj (eb.symm.trans g1)
  have hne : ib ≠ dr := fun e => by
    obtain ⟨fs, hfs⟩ := hz0.z0
    rw [← e, g4] at hfs
    cases hfs
  exact ⟨fi, Si, g4, g5, g6, g8, g8', jl_sep (n := 3) (by decide) (by decide) h6 g3 hne, g9, g10⟩
/-- the draft is written -/
theorem jXd.upd (h : jXd cI cT cX x P σ dr F G own fT ls w k f m tm) (hk : k' ≤ 4) (hz : jZx cI w' dr k' f' m' tm') (fr : jZF dr w w') : jXd cI cT cX x P σ dr F G own fT ls w' k' f' m' tm' ∧ jXF P w w' := by
  obtain ⟨h1, h2, h3, ⟨r4, e4, q4, h4⟩, ⟨r5, e5, q5, h5⟩, ⟨-, hz0, hd, h6⟩, h7, h8, h9, h10, h11, h12, h13, h14⟩ := h
  refine ⟨⟨(fr _ (by omega)).trans h1, (fr _ (by omega)).trans h2, (fr _ (by omega)).trans h3, ⟨r4, e4, q4, (fr _ (by omega)).trans h4⟩, ⟨r5, e5, q5, (fr _ (by omega)).trans h5⟩, ⟨hk, hz, hd, h6⟩, h7, fun t ht => ?_, fun t b hb => ?_, h10, fun i hi => ?_, h12, h13, h14⟩, fun c hc => ?_⟩
  · obtain ⟨g1, b, g2, g3, g4⟩ := h8 t ht
    obtain ⟨q1, q2, q3, -⟩ := h9 t b g2
    have := jl_sep (n := 5) (by decide) (by decide) h6 q3 q2
    exact ⟨g1, b, g2, g3.kept (fun c c1 c2 => fr c (by omega)), g4⟩
  · obtain ⟨q1, q2, q3, k9, f9, m9, t9, q4, q5⟩ := h9 t b hb
    have := jl_sep (n := 5) (by decide) (by decide) h6 q3 q2
    exact ⟨q1, q2, q3, k9, f9, m9, t9, q4, q5.kept (fun c c1 c2 => fr c (by omega))⟩
  · obtain ⟨ib, fi, g1, g2, g3, g4, g5, g6, g7, g8, g9, g10, g11⟩ := h11 i hi
    have hne : ib ≠ dr := fun e => by
      obtain ⟨fs, hfs⟩ := hz0.z0
      rw [← e, g4] at hfs
      cases hfs
    have := jl_sep (n := 3) (by decide) (by decide) h6 g3 hne
    exact ⟨ib, fi, g1, g2, g3, (fr _ (by omega)).trans g4, (fr _ (by omega)).trans g5, (fr _ (by omega)).trans g6, g7, g8, g9, g10, g11⟩
  · refine fr c ?_
    rcases Nat.lt_or_ge c dr with z | z
    · exact Or.inl z
    · rcases Nat.lt_or_ge c (dr + 5) with y | y
      · exact absurd (by have := h13 (c - dr) (by omega); rw [show dr + (c - dr) = c by omega] at this; exact this) hc
      · exact Or.inr y
theorem jZx.w1 {b : Nat} (h : jZx cI w b k f m tm) (g : w' (b + 1) = some (.inr (1, [.ref (b + 2), .int (nI k')]))) (fr : jF (b + 1) w w') : jZx cI w' b k' f m tm ∧ jZF b w w' := by
  obtain ⟨sl, p, ⟨z0, z1, z2, z3, z4⟩, hp⟩ := h
  exact ⟨⟨sl, p, ⟨(fr _ (by omega)).trans z0, g, (fr _ (by omega)).trans z2, (fr _ (by omega)).trans z3, (fr _ (by omega)).trans z4⟩, hp⟩, fun c hc => fr c (by omega)⟩
theorem jZx.w2 {b : Nat} (h : jZx cI w b k f m tm) (g : w' (b + 2) = some (.inl (cI, 4, .inl f'))) (fr : jF (b + 2) w w') : jZx cI w' b k f' m tm ∧ jZF b w w' := by
  obtain ⟨sl, p, ⟨z0, z1, z2, z3, z4⟩, hp⟩ := h
  exact ⟨⟨sl, p, ⟨(fr _ (by omega)).trans z0, (fr _ (by omega)).trans z1, g, (fr _ (by omega)).trans z3, (fr _ (by omega)).trans z4⟩, hp⟩, fun c hc => fr c (by omega)⟩
theorem jZx.w12 {b : Nat} (h : jZx cI w b k f m tm) (g : w' (b + 1) = some (.inr (1, [.ref (b + 2), .int (nI k')]))) (g2 : w' (b + 2) = some (.inl (cI, 4, .inl f'))) (fr : ∀ c, c ≠ b + 1 → c ≠ b + 2 → w' c = w c) : jZx cI w' b k' f' m tm ∧ jZF b w w' := by
  obtain ⟨sl, p, ⟨z0, z1, z2, z3, z4⟩, hp⟩ := h
  exact ⟨⟨sl, p, ⟨(fr _ (by omega) (by omega)).trans z0, g, g2, (fr _ (by omega) (by omega)).trans z3, (fr _ (by omega) (by omega)).trans z4⟩, hp⟩, fun c hc => fr c (by omega) (by omega)⟩
theorem jZx.w3 {b : Nat} {r e : Int32} {q : Int64} (h : jZx cI w b k f m tm) (g : w' (b + 3) = some (.inr (0, [.int r, .int e, .long q]))) (fr : jF (b + 3) w w') : jZx cI w' b k f (r, e, q) tm ∧ jZF b w w' := by
  obtain ⟨sl, p, ⟨z0, z1, z2, z3, z4⟩, hp⟩ := h
  exact ⟨⟨sl, p, ⟨(fr _ (by omega)).trans z0, (fr _ (by omega)).trans z1, (fr _ (by omega)).trans z2, g, (fr _ (by omega)).trans z4⟩, hp⟩, fun c hc => fr c (by omega)⟩
theorem jXd.s1 (h : jXd cI cT cX x P σ dr F G own fT ls w k f m tm) (hk : k' ≤ 4) (g : w' (dr + 1) = some (.inr (1, [.ref (dr + 2), .int (nI k')]))) (fr : jF (dr + 1) w w') : jXd cI cT cX x P σ dr F G own fT ls w' k' f m tm ∧ jXF P w w' := h.upd hk (h.d.w1 g fr).1 (h.d.w1 g fr).2
theorem jXd.s2 (h : jXd cI cT cX x P σ dr F G own fT ls w k f m tm) (g : w' (dr + 2) = some (.inl (cI, 4, .inl f'))) (fr : jF (dr + 2) w w') : jXd cI cT cX x P σ dr F G own fT ls w' k f' m tm ∧ jXF P w w' := h.upd h.k4 (h.d.w2 g fr).1 (h.d.w2 g fr).2
theorem jXd.s12 (h : jXd cI cT cX x P σ dr F G own fT ls w k f m tm) (hk : k' ≤ 4) (g : w' (dr + 1) = some (.inr (1, [.ref (dr + 2), .int (nI k')]))) (g2 : w' (dr + 2) = some (.inl (cI, 4, .inl f'))) (fr : ∀ c, c ≠ dr + 1 → c ≠ dr + 2 → w' c = w c) : jXd cI cT cX x P σ dr F G own fT ls w' k' f' m tm ∧ jXF P w w' := h.upd hk (h.d.w12 g g2 fr).1 (h.d.w12 g g2 fr).2
theorem jXd.m3 {r e : Int32} {q : Int64} (h : jXd cI cT cX x P σ dr F G own fT ls w k f m tm) (g : w' (dr + 3) = some (.inr (0, [.int r, .int e, .long q]))) (fr : jF (dr + 3) w w') : jXd cI cT cX x P σ dr F G own fT ls w' k f (r, e, q) tm ∧ jXF P w w' := h.upd h.k4 (h.d.w3 g fr).1 (h.d.w3 g fr).2
/-- the measures share (j = 3) and difference (j = 4) are written -/
theorem jXd.scr {r e : Int32} {q : Int64} {j : Nat} (h : jXd cI cT cX x P σ dr F G own fT ls w k f m tm) (hj : j = 3 ∨ j = 4) (g : w' (x + j) = some (.inr (0, [.int r, .int e, .long q]))) (fr : jF (x + j) w w') : jXd cI cT cX x P σ dr F G own fT ls w' k f m tm ∧ jXF P w w' := by
  obtain ⟨h1, h2, h3, ⟨r4, e4, q4, h4⟩, ⟨r5, e5, q5, h5⟩, ⟨h6a, h6b, hd, h6⟩, h7, h8, h9, h10, h11, h12, h13, h14⟩ := h
  refine ⟨⟨(fr _ (by omega)).trans h1, (fr _ (by omega)).trans h2, (fr _ (by omega)).trans h3, ?_, ?_, ⟨h6a, h6b.kept (fun c c1 c2 => fr c (by omega)), hd, h6⟩, h7, fun t ht => ?_, fun t b hb => ?_, h10, fun i hi => ?_, h12, h13, h14⟩, fun c hc => fr c (fun e9 => hc (by rw [e9]; exact h12 j (by omega)))⟩
  · rcases hj with e9 | e9
    · subst e9; exact ⟨r, e, q, g⟩
    · exact ⟨r4, e4, q4, (fr _ (by omega)).trans h4⟩
  · rcases hj with e9 | e9
    · exact ⟨r5, e5, q5, (fr _ (by omega)).trans h5⟩
    · subst e9; exact ⟨r, e, q, g⟩
  · obtain ⟨g1, b, g2, g3, g4⟩ := h8 t ht
    have := (h9 t b g2).1
    exact ⟨g1, b, g2, g3.kept (fun c c1 c2 => fr c (by omega)), g4⟩
  · obtain ⟨q1, q2, q3, k9, f9, m9, t9, q4, q5⟩ := h9 t b hb
    exact ⟨q1, q2, q3, k9, f9, m9, t9, q4, q5.kept (fun c c1 c2 => fr c (by omega))⟩
  · obtain ⟨ib, fi, g1, g2, g3, g4, g5, g6, g7, g8, g9, g10, g11⟩ := h11 i hi
    exact ⟨ib, fi, g1, g2, g3, (fr _ (by omega)).trans g4, (fr _ (by omega)).trans g5, (fr _ (by omega)).trans g6, g7, g8, g9, g10, g11⟩
end XS
section XR
variable {g : ja_G} {cc : ByteArray} {w : jb_W} {sz kc ks pc : Nat} {lv : List (Nat × Value)} {rest : List Value}
variable {cI : ClassId} {b k : Nat} {f : Nat → Int32} {m : Int32 × Int32 × Int64} {tm : Int32}
/-- fields of a tensor -/
theorem jZx_g (C : ja_C g cc) {index i : Nat} {v : Value} (hF : ja_FL (ja_l g) (ja_o g) index 2 i) (hd : decode cc pc = .ok (.getfield index, 3)) (h : jZx cI w b k f m tm) (hv : ∀ p : Nat → Int32, p 1 = tm → [Value.ref (b + 1), .ref (b + 3), .ref (b + 4), .int (p 0), .int (p 1), .int (p 2), .int (p 3), .int (p 4), .int (p 5), .int (p 6), .int (p 7), .int (p 8), .int (p 9)][i]? = some v) (kk : ja g w sz kc ks (pc + 3) lv (v :: rest)) : ja g w sz kc ks pc lv (.ref b :: rest) := by
  obtain ⟨sl, p, ⟨z0, z1, z2, z3, z4⟩, hp⟩ := h
  exact ja_get C hF hd z0 (hv p hp) kk
theorem jZx_ga (C : ja_C g cc) {index i : Nat} (hF : ja_FL (ja_l g) (ja_o g) index 2 i) (hd : decode cc pc = .ok (.getfield index, 3)) (h : jZx cI w b k f m tm) (hv : ∀ p : Nat → Int32, ∃ v : Int32, [Value.ref (b + 1), .ref (b + 3), .ref (b + 4), .int (p 0), .int (p 1), .int (p 2), .int (p 3), .int (p 4), .int (p 5), .int (p 6), .int (p 7), .int (p 8), .int (p 9)][i]? = some (.int v)) (kk : ∀ v : Int32, ja g w sz kc ks (pc + 3) lv (.int v :: rest)) : ja g w sz kc ks pc lv (.ref b :: rest) := by
  obtain ⟨sl, p, ⟨z0, z1, z2, z3, z4⟩, hp⟩ := h
  obtain ⟨v, hv⟩ := hv p
  exact ja_get C hF hd z0 hv (kk v)
/-- a number of a tensor is written -/
theorem jZx_p (C : ja_C g cc) {index i : Nat} {v : Int32} {ty : FieldType} (hF : ja_FP (ja_l g) (ja_o g) index 2 i ty) (hnf : ∀ r, (ja_l g)[2]? = some r → (r.2.1 i).2.2.2 = false) (hn : narrow ty (.int v) = .int v) (hfit : fits ty (.int v) = true) (hd : decode cc pc = .ok (.putfield index, 3)) (h : jZx cI w b k f m tm) (tm2 : Int32) (hi : i < 13) (hv : ∀ p : Nat → Int32, p 1 = tm → ∃ p2 : Nat → Int32, p2 1 = tm2 ∧ [Value.ref (b + 1), .ref (b + 3), .ref (b + 4), .int (p 0), .int (p 1), .int (p 2), .int (p 3), .int (p 4), .int (p 5), .int (p 6), .int (p 7), .int (p 8), .int (p 9)].set i (.int v) = [Value.ref (b + 1), .ref (b + 3), .ref (b + 4), .int (p2 0), .int (p2 1), .int (p2 2), .int (p2 3), .int (p2 4), .int (p2 5), .int (p2 6), .int (p2 7), .int (p2 8), .int (p2 9)]) (kk : ∀ w', jZx cI w' b k f m tm2 → jZF b w w' → ja g w' sz kc ks (pc + 3) lv rest) : ja g w sz kc ks pc lv (.int v :: .ref b :: rest) := by
  obtain ⟨sl, p, ⟨z0, z1, z2, z3, z4⟩, hp⟩ := h
  obtain ⟨p2, e1, e2⟩ := hv p hp
  refine jo_put C hF hnf hd z0 hn hfit hi _ e2 (fun w' g1 fr => kk w' ⟨sl, p2, ⟨g1, (fr _ (by omega)).trans z1, (fr _ (by omega)).trans z2, (fr _ (by omega)).trans z3, (fr _ (by omega)).trans z4⟩, e1⟩ (fun c hc => fr c (by omega)))
end XR
