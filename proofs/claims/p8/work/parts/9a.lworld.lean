/-! THE LAW's WORLD: the class, the reference and the law's own long[] beside each other -/
section LW0
variable {cI cJ cT cX : ClassId} {x : Nat} {P P2 : Nat → Prop} {σ : jSt} {w w2 : jb_W}
/-- the class's state depends on its own cells alone -/
theorem jXs.keptP (h : jXs cI cT cX x P σ w) (fr : ∀ c, P c → w2 c = w c) : jXs cI cT cX x P σ w2 := by
  obtain ⟨dr, F, G, own, fT, ls, k, f, m, tm, h1, h2, h3, ⟨r4, e4, q4, h4⟩, ⟨r5, e5, q5, h5⟩, ⟨h6a, hz, hd, h6⟩, h7, h8, h9, h10, h11, h12, h13, h14⟩ := h
  have k5 : ∀ {b9 k9 : Nat} {f9 : Nat → Int32} {m9 : Int32 × Int32 × Int64} {t9 : Int32}, (∀ j, j < 5 → P (b9 + j)) → jZx cI w b9 k9 f9 m9 t9 → jZx cI w2 b9 k9 f9 m9 t9 := fun {b9 _ _ _ _} hp hz9 => hz9.kept (fun c c1 c2 => by
    have z := hp (c - b9) (by omega)
    rw [show b9 + (c - b9) = c by omega] at z
    exact fr c z)
  have fx : ∀ j, j < 5 → w2 (x + j) = w (x + j) := fun j hj => fr _ (h12 j hj)
  refine ⟨dr, F, G, own, fT, ls, k, f, m, tm, (fx 0 (by decide)).trans h1, (fx 1 (by decide)).trans h2, (fx 2 (by decide)).trans h3, ⟨r4, e4, q4, (fx 3 (by decide)).trans h4⟩, ⟨r5, e5, q5, (fx 4 (by decide)).trans h5⟩, ⟨h6a, k5 h13 hz, hd, h6⟩, h7, fun t ht => ?_, fun t b9 hb => ?_, h10, fun i hi => ?_, h12, h13, h14⟩
  · obtain ⟨g1, b9, g2, g3, g4⟩ := h8 t ht
    exact ⟨g1, b9, g2, k5 (h14 t b9 g2) g3, g4⟩
  · obtain ⟨q1, q2, q3, k9, f9, m9, t9, q4', q5'⟩ := h9 t b9 hb
    exact ⟨q1, q2, q3, k9, f9, m9, t9, q4', k5 (h14 t b9 hb) q5'⟩
  · obtain ⟨ib, fi, g1, g2, g3, g4, g5, g6, g7, g8, g9, g10, g11⟩ := h11 i hi
    exact ⟨ib, fi, g1, g2, g3, (fr _ (g11 0 (by decide))).trans g4, (fr _ (g11 1 (by decide))).trans g5, (fr _ (g11 2 (by decide))).trans g6, g7, g8, g9, g10, g11⟩
/-- its own cells are those that lie there -/
theorem jXs.trim (h : jXs cI cT cX x P σ w) (hP : ∀ c v, P c → w c = some v → P2 c) : jXs cI cT cX x P2 σ w := by
  obtain ⟨dr, F, G, own, fT, ls, k, f, m, tm, h1, h2, h3, ⟨r4, e4, q4, h4⟩, ⟨r5, e5, q5, h5⟩, ⟨h6a, hz, hd, h6⟩, h7, h8, h9, h10, h11, h12, h13, h14⟩ := h
  have k5 : ∀ {b9 k9 : Nat} {f9 : Nat → Int32} {m9 : Int32 × Int32 × Int64} {t9 : Int32}, jZx cI w b9 k9 f9 m9 t9 → (∀ j, j < 5 → P (b9 + j)) → ∀ j, j < 5 → P2 (b9 + j) := fun hz9 hp j hj => by
    obtain ⟨v, hv⟩ := hz9.has (Nat.le_add_right _ j) (by omega)
    exact hP _ v (hp j hj) hv
  refine ⟨dr, F, G, own, fT, ls, k, f, m, tm, h1, h2, h3, ⟨r4, e4, q4, h4⟩, ⟨r5, e5, q5, h5⟩, ⟨h6a, hz, hd, h6⟩, h7, h8, h9, h10, fun i hi => ?_, fun j hj => ?_, k5 hz h13, fun t b9 hb => ?_⟩
  · obtain ⟨ib, fi, g1, g2, g3, g4, g5, g6, g7, g8, g9, g10, g11⟩ := h11 i hi
    refine ⟨ib, fi, g1, g2, g3, g4, g5, g6, g7, g8, g9, g10, fun j hj => ?_⟩
    match j, hj with
    | 0, hj => exact hP _ _ (g11 0 hj) g4
    | 1, hj => exact hP _ _ (g11 1 hj) g5
    | 2, hj => exact hP _ _ (g11 2 hj) g6
    | j + 3, z => exact absurd z (by omega)
  · match j, hj with
    | 0, hj => exact hP _ _ (h12 0 hj) h1
    | 1, hj => exact hP _ _ (h12 1 hj) h2
    | 2, hj => exact hP _ _ (h12 2 hj) h3
    | 3, hj => exact hP _ _ (h12 3 hj) h4
    | 4, hj => exact hP _ _ (h12 4 hj) h5
    | j + 5, z => exact absurd z (by omega)
  · obtain ⟨q1, q2, q3, k9, f9, m9, t9, q4', q5'⟩ := h9 t b9 hb
    exact k5 q5' (h14 t b9 hb)
theorem jXs.obj (h : jXs cI cT cX x P σ w) : ∃ fs, w x = some (.inr (4, fs)) := by
  obtain ⟨dr, F, G, own, fT, ls, k, f, m, tm, h1, -⟩ := h
  exact ⟨_, h1⟩
/-- behind one of the law's helpers: the class holds σ', the law's long[] a number that z says, all else stays -/
def jLP (cI cJ cT cX : ClassId) (x o : Nat) (P : Nat → Prop) (w : jb_W) (sz : Nat) (σ' : jSt) (z : Int64 → Prop) (w' : jb_W) (sz' : Nat) : Prop := ∃ P' : Nat → Prop, (∀ a, P' a → P a ∨ sz ≤ a) ∧ jXs cI cT cX x P' σ' w' ∧ (∃ g : Nat → Int64, w' o = some (.inl (cJ, 1, .inr (.inl g))) ∧ z (g 0)) ∧ (∀ c, c < sz → ¬ P c → c ≠ o → w' c = w c) ∧ sz ≤ sz'
variable {o sz z1 : Nat} {w1 : jb_W} {g : Nat → Int64} {z : Int64 → Prop}
theorem jXP.out {v : Option va_E} (q : jXP cI cT cX x P w sz σ w1 z1) (ho : o < sz) (hp : ¬ P o) (hw : w o = v) : w1 o = v := by
  obtain ⟨P', p1, p2, p3, p4⟩ := q
  exact (p3 o ho hp).trans hw
theorem jXP.store (q : jXP cI cT cX x P w sz σ w1 z1) (ho : o < sz) (hp : ¬ P o) (hz : z (g 0)) : jLP cI cJ cT cX x o P w sz σ z (va_up w1 o (some (.inl (cJ, 1, .inr (.inl g))))) z1 := by
  obtain ⟨P', p1, p2, p3, p4⟩ := q
  refine ⟨P', p1, p2.keptP (fun c hc => va_up_ne _ _ (fun e => ?_)), ⟨g, va_up_self _ _ _, hz⟩, fun c hc hP hn => (va_up_ne _ _ hn).trans (p3 c hc hP), p4⟩
  subst e
  rcases p1 _ hc with q | q
  · exact hp q
  · omega
theorem jXP.same (q : jXP cI cT cX x P w sz σ w1 z1) (ho : o < sz) (hp : ¬ P o) (hw : w o = some (.inl (cJ, 1, .inr (.inl g)))) (hz : z (g 0)) : jLP cI cJ cT cX x o P w sz σ z w1 z1 := by
  obtain ⟨P', p1, p2, p3, p4⟩ := q
  exact ⟨P', p1, p2, ⟨g, (p3 o ho hp).trans hw, hz⟩, fun c hc hP _ => p3 c hc hP, p4⟩
/-- the class holds σ, the reference σ' with the code th, the law's long[] a number that z says; all three apart -/
def jMid (cI cJ cT cX : ClassId) (x y o : Nat) (P : Nat → Prop) (A : Nat → Nat) (n n2 : Nat) (σ σ' : jSt) (th rk : Int32) (N : Nat → Int32) (z : Int64 → Prop) (w : jb_W) : Prop :=
  jXs cI cT cX x P σ w ∧ jN cI cJ y A n n2 σ' w th rk N ∧ (∃ g : Nat → Int64, w o = some (.inl (cJ, 1, .inr (.inl g))) ∧ z (g 0)) ∧ (∀ a, P a → (∃ v, w a = some v) ∧ a ≠ y ∧ a ≠ o ∧ ∀ j, j < 20 → a ≠ A j) ∧ (o ≠ y ∧ ∀ j, j < 20 → o ≠ A j)
variable {y n n2 : Nat} {A : Nat → Nat} {σ' σ1 σ2 : jSt} {th rk th2 : Int32} {N : Nat → Int32} {z0 : Int64 → Prop} {z2 : Nat}
theorem jN.keptW (h : jN cI cJ y A n n2 σ w th rk N) (fr : ∀ a, (a = y ∨ ∃ j, j < 20 ∧ a = A j) → w2 a = w a) : jN cI cJ y A n n2 σ w2 th rk N := by
  obtain ⟨s, V, VL, ⟨⟨h1, h2, h3⟩, hr⟩, e1, e2, e3⟩ := h
  exact ⟨s, V, VL, ⟨⟨(fr y (Or.inl rfl)).trans h1, fun k hk => (fr _ (Or.inr ⟨k, hk, rfl⟩)).trans (h2 k hk), h3⟩, hr⟩, e1, e2, e3⟩
theorem jN.arr (h : jN cI cJ y A n n2 σ w th rk N) {j : Nat} (hj : j < 20) : ∃ v, w (A j) = some v := by
  obtain ⟨s, V, VL, ⟨⟨h1, h2, h3⟩, hr⟩, e1, e2, e3⟩ := h
  exact ⟨_, h2 j hj⟩
theorem jMid.cls (h : jMid cI cJ cT cX x y o P A n n2 σ σ' th rk N z0 w) (bd : ∀ a v, w a = some v → a < sz) (q : jLP cI cJ cT cX x o P w sz σ1 z w1 z1) : ∃ P1, jMid cI cJ cT cX x y o P1 A n n2 σ1 σ' th rk N z w1 := by
  obtain ⟨P', p1, p2, ⟨g, q1, q2⟩, p3, p4⟩ := q
  obtain ⟨h1, h2, ⟨g0, h3, -⟩, h4, h5, h6⟩ := h
  obtain ⟨fs, hy⟩ := h2.obj
  have hyz : y < sz := bd _ _ hy
  have hoz : o < sz := bd _ _ h3
  have hA : ∀ j, j < 20 → A j < sz := fun j hj => by obtain ⟨v, hv⟩ := h2.arr hj; exact bd _ _ hv
  refine ⟨fun c => P' c ∧ ∃ v, w1 c = some v, p2.trim (fun c v hc hv => ⟨hc, v, hv⟩), h2.keptW (fun a ha => ?_), ⟨g, q1, q2⟩, fun a ha => ⟨ha.2, ?_, ?_, ?_⟩, h5, h6⟩
  · rcases ha with e | ⟨j, hj, e⟩
    · rw [e]
      exact p3 y hyz (fun hp => (h4 y hp).2.1 rfl) (fun e => h5 e.symm)
    · rw [e]
      exact p3 _ (hA j hj) (fun hp => (h4 _ hp).2.2.2 j hj rfl) (fun e => h6 j hj e.symm)
  · rcases p1 a ha.1 with q | q
    · exact (h4 a q).2.1
    · omega
  · rcases p1 a ha.1 with q | q
    · exact (h4 a q).2.2.1
    · omega
  · intro j hj
    rcases p1 a ha.1 with q | q
    · exact (h4 a q).2.2.2 j hj
    · have := hA j hj
      omega
theorem jMid.rfc (h : jMid cI cJ cT cX x y o P A n n2 σ σ' th rk N z w) (bd : ∀ a v, w a = some v → a < sz) (q : jP cI cJ y A w sz σ2 th2 w2 z2) : ∃ (A' : Nat → Nat) (n' n2' : Nat) (rk' : Int32) (N' : Nat → Int32), jMid cI cJ cT cX x y o P A' n' n2' σ σ2 th2 rk' N' z w2 := by
  obtain ⟨A', n', n2', s', V', VL', hM, hs, fr, hA, hz⟩ := q
  obtain ⟨h1, h2, ⟨g0, h3, hg⟩, h4, h5, h6⟩ := h
  have keep : ∀ a v, w a = some v → a ≠ y → (∀ j, j < 20 → a ≠ A j) → w2 a = some v := fun a v hv e1 e2 => fr a v (bd _ _ hv) hv e1 e2
  refine ⟨A', n', n2', s' 5, V' 19, h1.keptP (fun c hc => ?_), ⟨s', V', VL', hM, hs, rfl, fun _ _ => rfl⟩, ⟨g0, keep o _ h3 h5 h6, hg⟩, fun a ha => ?_, h5, fun j hj => ?_⟩
  · obtain ⟨⟨v, hv⟩, e1, e2, e3⟩ := h4 c hc
    rw [keep c v hv e1 e3, hv]
  · obtain ⟨⟨v, hv⟩, e1, e2, e3⟩ := h4 a ha
    refine ⟨⟨v, keep a v hv e1 e3⟩, e1, e2, fun j hj => ?_⟩
    rcases hA j hj with q | q
    · rw [q]; exact e3 j hj
    · have := bd _ _ hv
      omega
  · rcases hA j hj with q | q
    · rw [q]; exact h6 j hj
    · have := bd _ _ h3
      omega
/-- between two calls: class and reference hold the same; at most k tensors and k indices -/
def jInv (cI cJ cT cX : ClassId) (x y o k : Nat) (w : jb_W) : Prop := ∃ (σ : jSt) (P : Nat → Prop) (A : Nat → Nat) (n n2 : Nat) (th rk : Int32) (N : Nat → Int32), (jSt_wf σ ∧ jSt_c σ ≤ k ∧ jSt_i σ ≤ k) ∧ jMid cI cJ cT cX x y o P A n n2 σ σ th rk N (fun _ => True) w
theorem jInv.next {k : Nat} (h : jMid cI cJ cT cX x y o P A n n2 σ1 σ2 th rk N z w) (e : σ1 = σ2) (st : jStep σ σ2) (hw : jSt_wf σ ∧ jSt_c σ ≤ k ∧ jSt_i σ ≤ k) : jInv cI cJ cT cX x y o (k + 1) w := by
  subst e
  obtain ⟨h1, h2, ⟨g0, h3, hg⟩, h4⟩ := h
  exact ⟨σ1, P, A, n, n2, th, rk, N, ⟨st.1 hw.1, Nat.le_trans st.2.1 (Nat.succ_le_succ hw.2.1), Nat.le_trans st.2.2 (Nat.succ_le_succ hw.2.2)⟩, h1, h2, ⟨g0, h3, trivial⟩, h4⟩
theorem jInv.more {k : Nat} (h : jInv cI cJ cT cX x y o k w) : jInv cI cJ cT cX x y o (k + 1) w := by
  obtain ⟨σ, P, A, n, n2, th, rk, N, hw, h⟩ := h
  exact jInv.next h rfl jStep.rf hw
end LW0
section LW1
variable {g : ja_G} {cc : ByteArray} {w : jb_W} {sz kc ks pc : Nat} {lv : List (Nat × Value)} {rest : List Value} {b L : Nat} {xs : Nat → Int32}
/-- the script: it lies below the heap that the law began with -/
theorem ja_sld (C : ja_C g cc) (hX : va_X b L xs (ja_s g) (ja_0 g)) (hb : b < (ja_0 g).size) {i : Nat} (hi : i < L) (hL : L < 2 ^ 31) (hd : decode cc pc = .ok (.iaload, 1)) (k : ja g w sz kc ks (pc + 1) lv (.int (xs i) :: rest)) : ja g w sz kc ks pc lv (.int (nI i) :: .ref b :: rest) := by
  intro H locs cells slots ls a1 a2 a3 a4 hl
  have hS : va_S (fun q => (ja_0 g).size ≤ q) (ja_0 g) H locs := ⟨by rw [a1.1]; exact a1.2.1, fun q h1 _ => a1.2.2.1 q h1, a2⟩
  refine va_sld (A := fun q => (ja_0 g).size ≤ q) C.1.1 C.1.2.1 hX hb (Nat.not_le.mpr hb) hS (vp_in_nI hi hL) hd ?_
  rw [nI_clamp (by omega)]
  exact k H locs cells slots ls a1 a2 a3 a4 hl
theorem ja_slen (C : ja_C g cc) (hX : va_X b L xs (ja_s g) (ja_0 g)) (hb : b < (ja_0 g).size) (hd : decode cc pc = .ok (.arraylength, 1)) (k : ja g w sz kc ks (pc + 1) lv (.int (nI L) :: rest)) : ja g w sz kc ks pc lv (.ref b :: rest) := by
  intro H locs cells slots ls a1 a2 a3 a4 hl
  have hS : va_S (fun q => (ja_0 g).size ≤ q) (ja_0 g) H locs := ⟨by rw [a1.1]; exact a1.2.1, fun q h1 _ => a1.2.2.1 q h1, a2⟩
  exact va_slen (A := fun q => (ja_0 g).size ≤ q) C.1.1 C.1.2.1 hX hb (Nat.not_le.mpr hb) hS hd (k H locs cells slots ls a1 a2 a3 a4 hl)
/-- 'v != 0' as a boolean -/
theorem ja_ne0 (C : ja_C g cc) {v : Int32} (d0 : decode cc pc = .ok (.ifCond .eq 7, 3)) (d3 : decode cc (pc + 3) = .ok (.iconst 1, 1)) (d4 : decode cc (pc + 4) = .ok (.goto 4, 3)) (d7 : decode cc (pc + 7) = .ok (.iconst 0, 1)) (k : ja g w sz kc ks (pc + 8) lv (.int (if v = 0 then nI 0 else nI 1) :: rest)) : ja g w sz kc ks pc lv (.int v :: rest) := by
  refine ja_if_eq C (pc + 7) d0 (by omega) (fun h => ?_) (fun h => ?_)
  · rw [if_pos h] at k
    exact ja_iconst C (nI 0) d7 (by decide) k
  · rw [if_neg h] at k
    exact ja_iconst C (nI 1) d3 (by decide) (ja_goto C (pc + 8) d4 (by omega) k)
theorem jl_b01 (v : Int32) : (if v = 0 then nI 0 else nI 1) = nI 0 ∨ (if v = 0 then nI 0 else nI 1) = nI 1 := by
  by_cases h : v = 0
  · rw [if_pos h]; exact Or.inl rfl
  · rw [if_neg h]; exact Or.inr rfl
end LW1
