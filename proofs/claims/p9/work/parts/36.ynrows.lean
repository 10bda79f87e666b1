/-! THE REFERENCE UNDER WAY: it holds σ, its code is th, the new tensor's sides are rk and N -/
theorem jT_row.op {V : Nat → Nat → Int32} {VL : Nat → Nat → Int64} {t : Nat} {x : jT} (h : jT_row V VL t x) : V 0 t = jT_op x := h.1
theorem jT_row.one {V : Nat → Nat → Int32} {VL : Nat → Nat → Int64} {t : Nat} {x : jT} (h : jT_row V VL t x) : V 1 t = jT_a x := h.2.1
theorem jT_row.two {V : Nat → Nat → Int32} {VL : Nat → Nat → Int64} {t : Nat} {x : jT} (h : jT_row V VL t x) : V 2 t = jT_b x := h.2.2.1
theorem jT_row.rank {V : Nat → Nat → Int32} {VL : Nat → Nat → Int64} {t : Nat} {x : jT} (h : jT_row V VL t x) : V 3 t = nI (jT_k x) := h.2.2.2.1
theorem jT_row.sides {V : Nat → Nat → Int32} {VL : Nat → Nat → Int64} {t : Nat} {x : jT} (h : jT_row V VL t x) {j : Nat} (hj : j < 4) : V 4 (4 * t + j) = nI (jT_S x j) := h.2.2.2.2.1 j hj
theorem jT_row.cells {V : Nat → Nat → Int32} {VL : Nat → Nat → Int64} {t : Nat} {x : jT} (h : jT_row V VL t x) : V 5 t = nI (jl_cells (jT_S x) (jT_k x)) := h.2.2.2.2.2.1
theorem jT_row.terms {V : Nat → Nat → Int32} {VL : Nat → Nat → Int64} {t : Nat} {x : jT} (h : jT_row V VL t x) : V 6 t = nI (jT_t x) := h.2.2.2.2.2.2.1
theorem jT_row.range {V : Nat → Nat → Int32} {VL : Nat → Nat → Int64} {t : Nat} {x : jT} (h : jT_row V VL t x) : V 7 t = nI (jT_r x) := h.2.2.2.2.2.2.2.1
theorem jT_row.depth {V : Nat → Nat → Int32} {VL : Nat → Nat → Int64} {t : Nat} {x : jT} (h : jT_row V VL t x) : V 8 t = nI (jT_e x) := h.2.2.2.2.2.2.2.2.1
theorem jT_row.odd {V : Nat → Nat → Int32} {VL : Nat → Nat → Int64} {t : Nat} {x : jT} (h : jT_row V VL t x) : VL 9 t = lN (jT_q x) := h.2.2.2.2.2.2.2.2.2.1
theorem jT_row.frac {V : Nat → Nat → Int32} {VL : Nat → Nat → Int64} {t : Nat} {x : jT} (h : jT_row V VL t x) : jT_op x = 51 → V 10 t = nI (jT_u x) ∧ V 11 t = nI (jT_l x) ∧ 1 ≤ jT_u x ∧ 1 ≤ jT_l x ∧ jT_u x < 2 ^ 31 ∧ jT_l x < 2 ^ 31 := h.2.2.2.2.2.2.2.2.2.2
def jN (cI cJ : ClassId) (y : Nat) (A : Nat → Nat) (n n2 : Nat) (σ : jSt) (w : jb_W) (th rk : Int32) (N : Nat → Int32) : Prop := ∃ (s : Nat → Int32) (V : Nat → Nat → Int32) (VL : Nat → Nat → Int64), jM cI cJ w y A n n2 s V VL σ ∧ s 0 = th ∧ s 5 = rk ∧ ∀ j, j < 4 → V 19 j = N j
/-- the new sides are these natural numbers -/
def jNS (N : Nat → Int32) (M : Nat → Nat) : Prop := ∀ j, j < 4 → N j = nI (M j)
theorem jNS.st {N : Nat → Int32} {M : Nat → Nat} (h : jNS N M) (i x : Nat) : jNS (upd N i (nI x)) (va_up M i x) := fun j hj => by
  unfold upd va_up
  split
  · rfl
  · exact h j hj
section YN
variable {cI cJ : ClassId} {w w' : jb_W} {sz : Nat} {y : Nat} {A : Nat → Nat} {n n2 : Nat} {σ : jSt} {th rk : Int32} {N : Nat → Int32}
theorem jN.cn (h : jN cI cJ y A n n2 σ w th rk N) : jSt_c σ ≤ n ∧ n ≤ 512 ∧ 32 ≤ n := by
  obtain ⟨s, V, VL, ⟨-, -, -, -, h5, h6, -⟩, -⟩ := h
  have := jl_cap_le h6
  omega
theorem jN.ci (h : jN cI cJ y A n n2 σ w th rk N) : jSt_i σ ≤ n2 ∧ n2 ≤ 512 ∧ 16 ≤ n2 := by
  obtain ⟨s, V, VL, ⟨-, -, -, -, -, -, -, -, h9, h10, h11, -⟩, -⟩ := h
  unfold jl_cap2 at h10
  omega
theorem jN.p64 (h : jN cI cJ y A n n2 σ w th rk N) : jSt_p σ ≤ 64 := by
  obtain ⟨s, V, VL, ⟨-, -, h, -⟩, -⟩ := h
  exact h
theorem jN.wk (h : jN cI cJ y A n n2 σ w th rk N) : jSt_w σ ≤ 1000000 := by
  obtain ⟨s, V, VL, ⟨-, -, -, -, -, -, h7, -⟩, -⟩ := h
  exact h7
theorem jN.ok (h : jN cI cJ y A n n2 σ w th rk N) {t : Nat} (ht : t < jSt_c σ) : jT_ok (jSt_T σ t) := by
  obtain ⟨s, V, VL, ⟨-, -, -, -, -, -, -, -, -, -, -, h12, -⟩, -⟩ := h
  exact (h12 t ht).1
theorem jN.iok (h : jN cI cJ y A n n2 σ w th rk N) {i : Nat} (hi : i < jSt_i σ) : (jSt_I σ i).1 ≤ 4 ∧ ((jSt_I σ i).1 = 1 → 1 ≤ (jSt_I σ i).2.1 ∧ (jSt_I σ i).2.1 ≤ 4096) ∧ 1 ≤ (jSt_I σ i).2.2 ∧ (jSt_I σ i).2.2 ≤ 65536 := by
  obtain ⟨s, V, VL, ⟨-, -, -, -, -, -, -, -, -, -, -, -, h13⟩, -⟩ := h
  exact (h13 i hi).2.2.2
theorem jN.obj (h : jN cI cJ y A n n2 σ w th rk N) : ∃ fs, w y = some (.inr (5, fs)) := by
  obtain ⟨s, V, VL, h1, -⟩ := h
  exact ⟨_, h1.1.1⟩
theorem jN.of {s : Nat → Int32} {V : Nat → Nat → Int32} {VL : Nat → Nat → Int64} (h : jM cI cJ w y A n n2 s V VL σ) : jN cI cJ y A n n2 σ w (s 0) (s 5) (V 19) := ⟨s, V, VL, h, rfl, rfl, fun _ _ => rfl⟩
theorem jN.jP (h : jN cI cJ y A n n2 σ w' th rk N) (r : jR y A w w') : jP cI cJ y A w sz σ th w' sz := by
  obtain ⟨s, V, VL, h1, h2, -, -⟩ := h
  have := jP.of (sz := sz) h1 r
  rw [h2] at this
  exact this
end YN
section YO
variable {l : Launch} {R : Room} {nL : Nat} {D : va_G} {H0 : Heap} {cI cJ cT cX : ClassId} {u : jb_U} {cc : ByteArray} {w : jb_W} {sz kc ks pc : Nat} {lv : List (Nat × Value)} {rest : List Value}
variable {y : Nat} {A : Nat → Nat} {n n2 : Nat} {σ : jSt} {th rk : Int32} {N : Nat → Int32}
/-- an array field -/
theorem jN_ga (C : ja_C (jb_mk l R nL "MeasuredTensorsModel" D H0 (jt_all cI cJ cT cX) u) cc) {index p : Nat} {v : Value} (hF : ja_FL jcl "MeasuredTensorsModel" index 5 p) (hd : decode cc pc = .ok (.getfield index, 3)) (h : jN cI cJ y A n n2 σ w th rk N) (hv : ∀ s wk, (jY_f A s wk)[p]? = some v) (kk : ja (jb_mk l R nL "MeasuredTensorsModel" D H0 (jt_all cI cJ cT cX) u) w sz kc ks (pc + 3) lv (v :: rest)) : ja (jb_mk l R nL "MeasuredTensorsModel" D H0 (jt_all cI cJ cT cX) u) w sz kc ks pc lv (.ref y :: rest) := by
  obtain ⟨s, V, VL, h1, -⟩ := h
  exact ja_get C hF hd h1.1.1 (hv _ _) kk
theorem jN_gc (C : ja_C (jb_mk l R nL "MeasuredTensorsModel" D H0 (jt_all cI cJ cT cX) u) cc) (hd : decode cc pc = .ok (.getfield 81, 3)) (h : jN cI cJ y A n n2 σ w th rk N) (kk : ja (jb_mk l R nL "MeasuredTensorsModel" D H0 (jt_all cI cJ cT cX) u) w sz kc ks (pc + 3) lv (.int (nI (jSt_c σ)) :: rest)) : ja (jb_mk l R nL "MeasuredTensorsModel" D H0 (jt_all cI cJ cT cX) u) w sz kc ks pc lv (.ref y :: rest) := by
  obtain ⟨s, V, VL, h1, -⟩ := h
  exact ja_get C jfl_count hd h1.1.1 (show some (Value.int (s 2)) = _ by rw [h1.2.2.2.1]) kk
theorem jN_gi (C : ja_C (jb_mk l R nL "MeasuredTensorsModel" D H0 (jt_all cI cJ cT cX) u) cc) (hd : decode cc pc = .ok (.getfield 88, 3)) (h : jN cI cJ y A n n2 σ w th rk N) (kk : ja (jb_mk l R nL "MeasuredTensorsModel" D H0 (jt_all cI cJ cT cX) u) w sz kc ks (pc + 3) lv (.int (nI (jSt_i σ)) :: rest)) : ja (jb_mk l R nL "MeasuredTensorsModel" D H0 (jt_all cI cJ cT cX) u) w sz kc ks pc lv (.ref y :: rest) := by
  obtain ⟨s, V, VL, h1, -⟩ := h
  exact ja_get C jfl_indices hd h1.1.1 (show some (Value.int (s 3)) = _ by rw [h1.2.2.2.2.2.2.2.1]) kk
theorem jN_gt (C : ja_C (jb_mk l R nL "MeasuredTensorsModel" D H0 (jt_all cI cJ cT cX) u) cc) (hd : decode cc pc = .ok (.getfield 75, 3)) (h : jN cI cJ y A n n2 σ w th rk N) (kk : ja (jb_mk l R nL "MeasuredTensorsModel" D H0 (jt_all cI cJ cT cX) u) w sz kc ks (pc + 3) lv (.int th :: rest)) : ja (jb_mk l R nL "MeasuredTensorsModel" D H0 (jt_all cI cJ cT cX) u) w sz kc ks pc lv (.ref y :: rest) := by
  obtain ⟨s, V, VL, h1, h2, -⟩ := h
  exact ja_get C jfl_thrown hd h1.1.1 (show some (Value.int (s 0)) = _ by rw [h2]) kk
theorem jN_gr (C : ja_C (jb_mk l R nL "MeasuredTensorsModel" D H0 (jt_all cI cJ cT cX) u) cc) (hd : decode cc pc = .ok (.getfield 102, 3)) (h : jN cI cJ y A n n2 σ w th rk N) (kk : ja (jb_mk l R nL "MeasuredTensorsModel" D H0 (jt_all cI cJ cT cX) u) w sz kc ks (pc + 3) lv (.int rk :: rest)) : ja (jb_mk l R nL "MeasuredTensorsModel" D H0 (jt_all cI cJ cT cX) u) w sz kc ks pc lv (.ref y :: rest) := by
  obtain ⟨s, V, VL, h1, -, h3, -⟩ := h
  exact ja_get C jfl_newRank hd h1.1.1 (show some (Value.int (s 5)) = _ by rw [h3]) kk
theorem jN_gw (C : ja_C (jb_mk l R nL "MeasuredTensorsModel" D H0 (jt_all cI cJ cT cX) u) cc) (hd : decode cc pc = .ok (.getfield 84, 3)) (h : jN cI cJ y A n n2 σ w th rk N) (kk : ja (jb_mk l R nL "MeasuredTensorsModel" D H0 (jt_all cI cJ cT cX) u) w sz kc ks (pc + 3) lv (.long (lN (jSt_w σ)) :: rest)) : ja (jb_mk l R nL "MeasuredTensorsModel" D H0 (jt_all cI cJ cT cX) u) w sz kc ks pc lv (.ref y :: rest) := by
  obtain ⟨s, V, VL, h1, -⟩ := h
  exact ja_get C jfl_work hd h1.1.1 rfl kk
/-- a tensor's number of ints -/
theorem jN_ia (C : ja_C (jb_mk l R nL "MeasuredTensorsModel" D H0 (jt_all cI cJ cT cX) u) cc) {k t : Nat} {v : Int32} (hk : k < 20) (hc : ∀ V VL, jY_c cI cJ n n2 V VL k = .inl (cI, n, .inl (V k))) (hd : decode cc pc = .ok (.iaload, 1)) (h : jN cI cJ y A n n2 σ w th rk N) (ht : t < jSt_c σ) (hv : ∀ V VL, jT_row V VL t (jSt_T σ t) → V k t = v) (kk : ja (jb_mk l R nL "MeasuredTensorsModel" D H0 (jt_all cI cJ cT cX) u) w sz kc ks (pc + 1) lv (.int v :: rest)) : ja (jb_mk l R nL "MeasuredTensorsModel" D H0 (jt_all cI cJ cT cX) u) w sz kc ks pc lv (.int (nI t) :: .ref (A k) :: rest) := by
  have hn := h.cn
  obtain ⟨s, V, VL, h1, -⟩ := h
  have hw := h1.1.2.1 k hk
  rw [hc] at hw
  exact ja_iaN C rfl hd hw (by omega) (by omega) (hv V VL (h1.2.2.2.2.2.2.2.2.2.2.2.1 t ht).2) kk
theorem jN_la (C : ja_C (jb_mk l R nL "MeasuredTensorsModel" D H0 (jt_all cI cJ cT cX) u) cc) {t : Nat} (hd : decode cc pc = .ok (.laload, 1)) (h : jN cI cJ y A n n2 σ w th rk N) (ht : t < jSt_c σ) (kk : ja (jb_mk l R nL "MeasuredTensorsModel" D H0 (jt_all cI cJ cT cX) u) w sz kc ks (pc + 1) lv (.long (lN (jT_q (jSt_T σ t))) :: rest)) : ja (jb_mk l R nL "MeasuredTensorsModel" D H0 (jt_all cI cJ cT cX) u) w sz kc ks pc lv (.int (nI t) :: .ref (A 9) :: rest) := by
  have hn := h.cn
  obtain ⟨s, V, VL, h1, -⟩ := h
  exact ja_laN C rfl hd h1.1.a_odd (by omega) (by omega) (h1.2.2.2.2.2.2.2.2.2.2.2.1 t ht).2.odd kk
/-- an index's number -/
theorem jN_ii (C : ja_C (jb_mk l R nL "MeasuredTensorsModel" D H0 (jt_all cI cJ cT cX) u) cc) {k i : Nat} {v : Int32} (hk : k < 20) (hc : ∀ V VL, jY_c cI cJ n n2 V VL k = .inl (cI, n2, .inl (V k))) (hd : decode cc pc = .ok (.iaload, 1)) (h : jN cI cJ y A n n2 σ w th rk N) (hi : i < jSt_i σ) (hv : ∀ V : Nat → Nat → Int32, V 12 i = nI (jSt_I σ i).1 → V 13 i = nI (jSt_I σ i).2.1 → V 14 i = nI (jSt_I σ i).2.2 → V k i = v) (kk : ja (jb_mk l R nL "MeasuredTensorsModel" D H0 (jt_all cI cJ cT cX) u) w sz kc ks (pc + 1) lv (.int v :: rest)) : ja (jb_mk l R nL "MeasuredTensorsModel" D H0 (jt_all cI cJ cT cX) u) w sz kc ks pc lv (.int (nI i) :: .ref (A k) :: rest) := by
  have hn := h.ci
  obtain ⟨s, V, VL, h1, -⟩ := h
  have hw := h1.1.2.1 k hk
  rw [hc] at hw
  obtain ⟨q1, q2, q3, -⟩ := h1.2.2.2.2.2.2.2.2.2.2.2.2 i hi
  exact ja_iaN C rfl hd hw (by omega) (by omega) (hv V q1 q2 q3) kk
/-- a new side -/
theorem jN_is (C : ja_C (jb_mk l R nL "MeasuredTensorsModel" D H0 (jt_all cI cJ cT cX) u) cc) {i : Nat} (hd : decode cc pc = .ok (.iaload, 1)) (h : jN cI cJ y A n n2 σ w th rk N) (hi : i < 4) (kk : ja (jb_mk l R nL "MeasuredTensorsModel" D H0 (jt_all cI cJ cT cX) u) w sz kc ks (pc + 1) lv (.int (N i) :: rest)) : ja (jb_mk l R nL "MeasuredTensorsModel" D H0 (jt_all cI cJ cT cX) u) w sz kc ks pc lv (.int (nI i) :: .ref (A 19) :: rest) := by
  obtain ⟨s, V, VL, h1, -, -, h4⟩ := h
  exact ja_iaN C rfl hd h1.1.a_newSides hi (by decide) (h4 i hi) kk
theorem jN_st (C : ja_C (jb_mk l R nL "MeasuredTensorsModel" D H0 (jt_all cI cJ cT cX) u) cc) {i : Nat} {x : Int32} (hd : decode cc pc = .ok (.iastore, 1)) (h : jN cI cJ y A n n2 σ w th rk N) (hi : i < 4) (kk : ∀ w', jN cI cJ y A n n2 σ w' th rk (upd N i x) → jR y A w w' → ja (jb_mk l R nL "MeasuredTensorsModel" D H0 (jt_all cI cJ cT cX) u) w' sz kc ks (pc + 1) lv rest) : ja (jb_mk l R nL "MeasuredTensorsModel" D H0 (jt_all cI cJ cT cX) u) w sz kc ks pc lv (.int x :: .int (nI i) :: .ref (A 19) :: rest) := by
  obtain ⟨s, V, VL, h1, h2, h3, h4⟩ := h
  refine jY_iastF C 19 (by decide) (by decide) hd h1.1 hi (by show 4 < 2 ^ 31; decide) (fun w' V' g1 g2 g3 g4 r => kk w' ⟨s, V', VL, h1.sc g1 rfl rfl rfl g2, h2, h3, fun j hj => ?_⟩ r)
  by_cases e : j = i
  · rw [e, g3, pk_us]
  · rw [g4 j e, pk_un e, h4 j hj]
theorem jN_p0 (C : ja_C (jb_mk l R nL "MeasuredTensorsModel" D H0 (jt_all cI cJ cT cX) u) cc) {v : Int32} (hd : decode cc pc = .ok (.putfield 75, 3)) (h : jN cI cJ y A n n2 σ w th rk N) (kk : ∀ w', jN cI cJ y A n n2 σ w' v rk N → jR y A w w' → ja (jb_mk l R nL "MeasuredTensorsModel" D H0 (jt_all cI cJ cT cX) u) w' sz kc ks (pc + 3) lv rest) : ja (jb_mk l R nL "MeasuredTensorsModel" D H0 (jt_all cI cJ cT cX) u) w sz kc ks pc lv (.int v :: .ref y :: rest) := by
  obtain ⟨s, V, VL, h1, h2, h3, h4⟩ := h
  exact jY_put (s' := upd s 0 v) (wk' := lN (jSt_w σ)) C jfp_thrown jfn_thrown hd h1.1 rfl rfl (by decide) rfl (fun w' g r => kk w' ⟨_, V, VL, h1.sc g rfl rfl rfl (fun _ _ => rfl), pk_us, h3, h4⟩ r)
theorem jN_p5 (C : ja_C (jb_mk l R nL "MeasuredTensorsModel" D H0 (jt_all cI cJ cT cX) u) cc) {v : Int32} (hd : decode cc pc = .ok (.putfield 102, 3)) (h : jN cI cJ y A n n2 σ w th rk N) (kk : ∀ w', jN cI cJ y A n n2 σ w' th v N → jR y A w w' → ja (jb_mk l R nL "MeasuredTensorsModel" D H0 (jt_all cI cJ cT cX) u) w' sz kc ks (pc + 3) lv rest) : ja (jb_mk l R nL "MeasuredTensorsModel" D H0 (jt_all cI cJ cT cX) u) w sz kc ks pc lv (.int v :: .ref y :: rest) := by
  obtain ⟨s, V, VL, h1, h2, h3, h4⟩ := h
  exact jY_put (s' := upd s 5 v) (wk' := lN (jSt_w σ)) C jfp_newRank jfn_newRank hd h1.1 rfl rfl (by decide) rfl (fun w' g r => kk w' ⟨_, V, VL, h1.sc g rfl rfl rfl (fun _ _ => rfl), h2, pk_us, h4⟩ r)
end YO
section YP
variable {l : Launch} {D : va_G} {H0 : Heap} {cI cJ cT cX : ClassId} {w : jb_W} {sz : Nat}
variable {y : Nat} {A : Nat → Nat} {n n2 : Nat} {σ : jSt} {th rk : Int32} {N : Nat → Int32}
theorem jn_side {t k : Nat} (h : jN cI cJ y A n n2 σ w th rk N) (ht : t < jSt_c σ) (hk : k < 4) : jb_M l jy_Y_side jc_Y_side 3 (some .int) 0 0 0 0 D H0 (jt_all cI cJ cT cX) [.ref y, .int (nI t), .int (nI k)] w sz (fun v w' sz' => v = some (.int (nI (jT_S (jSt_T σ t) k))) ∧ w' = w ∧ sz' = sz) := by
  have hn := h.cn
  obtain ⟨s, V, VL, h1, -⟩ := h
  rw [← (h1.2.2.2.2.2.2.2.2.2.2.2.1 t ht).2.sides hk]
  exact jy_side (by omega) hk (by omega) h1.1
theorem jn_noTensor {t : Int32} (h : jN cI cJ y A n n2 σ w th rk N) : jb_M l jy_Y_noTensor jc_Y_noTensor 2 (some .boolean) 0 0 0 0 D H0 (jt_all cI cJ cT cX) [.ref y, .int t] w sz (fun v w' sz' => v = some (.int (if t < 0 ∨ nI (jSt_c σ) ≤ t then 1 else 0)) ∧ w' = w ∧ sz' = sz) := by
  obtain ⟨s, V, VL, h1, -⟩ := h
  rw [← h1.2.2.2.1]
  exact jy_noTensor h1.1
theorem jn_isNone {t : Int32} (h : jN cI cJ y A n n2 σ w th rk N) : jb_M l jy_Y_isNone jc_Y_isNone 2 (some .boolean) 0 0 0 0 D H0 (jt_all cI cJ cT cX) [.ref y, .int t] w sz (fun v w' sz' => v = some (.int (if (if t < 0 then nI (jSt_i σ) ≤ -1 - t else nI (jSt_c σ) ≤ t) then 1 else 0)) ∧ w' = w ∧ sz' = sz) := by
  obtain ⟨s, V, VL, h1, -⟩ := h
  rw [← h1.2.2.2.1, ← h1.2.2.2.2.2.2.2.1]
  exact jy_isNone h1.1
theorem jn_shapeOf {t : Nat} (h : jN cI cJ y A n n2 σ w th rk N) (ht : t < jSt_c σ) : jb_M l jy_Y_shapeOf jc_Y_shapeOf 3 none 1 22 0 0 D H0 (jt_all cI cJ cT cX) [.ref y, .int (nI t)] w sz (fun v w' sz' => v = none ∧ (∃ N', jN cI cJ y A n n2 σ w' th (nI (jT_k (jSt_T σ t))) N' ∧ jNS N' (jT_S (jSt_T σ t)) ∧ jR y A w w') ∧ sz' = sz) := by
  have hn := h.cn
  obtain ⟨s, V, VL, h1, h2, -⟩ := h
  refine (jy_shapeOf (by omega) (by omega) h1.1).imp (fun v w' sz' p => ?_)
  obtain ⟨e1, e2, e3, e4⟩ := p
  have hr := (h1.2.2.2.2.2.2.2.2.2.2.2.1 t ht).2
  refine ⟨e1, ⟨_, ⟨_, _, VL, h1.sc e2 rfl rfl rfl (fun k hk => va_up_ne _ _ hk), h2, by rw [pk_us, hr.rank], fun j hj => rfl⟩, fun j hj => ?_, e3⟩, e4⟩
  rw [va_up_self]
  unfold jl_cp
  rw [if_pos hj]
  exact hr.sides hj
theorem jn_take {m a b c d : Int32} (h : jN cI cJ y A n n2 σ w th rk N) : jb_M l jy_Y_take jc_Y_take 8 (some .boolean) 0 0 0 0 D H0 (jt_all cI cJ cT cX) [.ref y, .int m, .int a, .int b, .int c, .int d] w sz (fun v w' sz' => v = some (.int (jl_take m (jl_F a b c d))) ∧ (jN cI cJ y A n n2 σ w' th m (jl_F a b c d) ∧ jR y A w w') ∧ sz' = sz) := by
  obtain ⟨s, V, VL, h1, h2, -⟩ := h
  refine (jy_take h1.1).imp (fun v w' sz' p => ?_)
  obtain ⟨e1, e2, e3, e4⟩ := p
  rw [jl_take_ext (g := jl_F a b c d) jl_four_ext] at e1
  refine ⟨e1, ⟨⟨_, _, VL, h1.sc e2 rfl rfl rfl (fun k hk => va_up_ne _ _ hk), h2, pk_us, fun j hj => ?_⟩, e3⟩, e4⟩
  rw [va_up_self]
  exact jl_four_ext j hj
theorem jn_newCells {r : Nat} {M : Nat → Nat} (h : jN cI cJ y A n n2 σ w th rk N) (hr : r ≤ 4) (hrk : rk = nI r) (hN : ∀ k, k < r → N k = nI (M k) ∧ M k ≤ 8192) : jb_M l jy_Y_newCells jc_Y_newCells 4 (some .long) 0 0 0 0 D H0 (jt_all cI cJ cT cX) [.ref y] w sz (fun v w' sz' => v = some (.long (lN (jl_cells M r))) ∧ w' = w ∧ sz' = sz) := by
  obtain ⟨s, V, VL, h1, h2, h3, h4⟩ := h
  exact jy_newCells hr (h3.trans hrk) (fun k hk => ⟨(h4 k (by omega)).trans (hN k hk).1, (hN k hk).2⟩) h1.1
theorem jn_make {what a b : Int32} {r e q ad rn : Nat} {M : Nat → Nat} (h : jN cI cJ y A n n2 σ w th rk N) (hct : jSt_c σ < 512) (hr : r < 2 ^ 40) (he : e < 2 ^ 40) (hq : q < 2 ^ 62) (had : 1 ≤ ad ∧ ad ≤ 2 ^ 24) (hrn : rn ≤ 4) (hrk : rk = nI rn) (hN : ∀ k, k < rn → N k = nI (M k) ∧ 1 ≤ M k ∧ M k ≤ 8192) (hd : what = 51 → False) :
    jb_M l jy_Y_make jc_Y_make 14 (some .int) 3 111 16 9728 D H0 (jt_all cI cJ cT cX) [.ref y, .int what, .int a, .int b, .long (lN r), .long (lN e), .long (lN q), .int (nI ad)] w sz
      (fun v w' sz' => ∃ (x : Int32) (σ' : jSt), v = some (.int x) ∧ jA σ M rn what a b ad r e q x σ' ∧ jP cI cJ y A w sz σ' th w' sz') := by
  obtain ⟨s, V, VL, h1, h2, h3, h4⟩ := h
  rw [← h2]
  exact jy_makeM h1 hr he hq had hrn (h3.trans hrk) (fun k hk => ⟨(h4 k (by omega)).trans (hN k hk).1, (hN k hk).2.2⟩) (fun k hk => (hN k hk).2.1) hd hct
theorem jn_makeLike {what : Int32} {t rn : Nat} {M : Nat → Nat} (h : jN cI cJ y A n n2 σ w th rk N) (hct : jSt_c σ < 512) (ht : t < jSt_c σ) (hrn : rn ≤ 4) (hrk : rk = nI rn) (hN : ∀ k, k < rn → N k = nI (M k) ∧ 1 ≤ M k ∧ M k ≤ 8192) (hd : what = 51 → False) :
    jb_M l jy_Y_makeLike jc_Y_makeLike 3 (some .int) 4 144 16 9728 D H0 (jt_all cI cJ cT cX) [.ref y, .int what, .int (nI t)] w sz
      (fun v w' sz' => ∃ (x : Int32) (σ' : jSt), v = some (.int x) ∧ jA σ M rn what (nI t) (-1) 1 (jT_r (jSt_T σ t)) (jT_e (jSt_T σ t)) (jT_q (jSt_T σ t)) x σ' ∧ jP cI cJ y A w sz σ' th w' sz') := by
  obtain ⟨s, V, VL, h1, h2, h3, h4⟩ := h
  rw [← h2]
  exact jy_makeLikeM h1 ht hrn (h3.trans hrk) (fun k hk => ⟨(h4 k (by omega)).trans (hN k hk).1, (hN k hk).2.2⟩) (fun k hk => (hN k hk).2.1) hd hct
end YP
section YQ
variable {cc : ByteArray} {w : jb_W} {sz kc ks pc : Nat} {lv : List (Nat × Value)} {rest st0 : List Value} {mc ms : Nat} {r : Value}
variable {l : Launch} {R : Room} {nL : Nat} {D : va_G} {H0 : Heap} {cI cJ cT cX : ClassId} {u : jb_U} {ym : MethodName} {bytes : ByteArray} {maxL d q k index : Nat} {ret : Option FieldType} {As : List Value}
variable {y : Nat} {A : Nat → Nat} {n n2 : Nat} {σ : jSt} {th rk : Int32} {N : Nat → Int32}
theorem jN_pV (z : Nat) (C : ja_C (jb_mk l R nL "MeasuredTensorsModel" D H0 (jt_all cI cJ cT cX) u) cc) (X : jb_X H0 u.1.2.2) (hK : jb_KV "MeasuredTensorsModel" index ym bytes maxL ret k) (h : jN cI cJ y A n n2 σ w th rk N) (hci : some "MeasuredTensorsModel" = some ym.cls) (hM : jb_M l ym bytes maxL ret d q 0 0 D H0 (jt_all cI cJ cT cX) (.ref y :: As) w sz (fun v w' sz' => v = some r ∧ w' = w ∧ sz' = sz)) (hd : decode cc pc = .ok (.invokevirtual index, 3)) (hn : As.length = k) (hst : st0 = As.reverse ++ .ref y :: rest) (hrm : d + 1 ≤ R.frames ∧ z + (maxL + 11) + q ≤ R.locals) (hrs : (rest.map fun v => v.category).sum ≤ z)
    (kk : ja (jb_mk l R nL "MeasuredTensorsModel" D H0 (jt_all cI cJ cT cX) u) w sz kc ks (pc + 3) lv (r :: rest)) : ja (jb_mk l R nL "MeasuredTensorsModel" D H0 (jt_all cI cJ cT cX) u) w sz kc ks pc lv st0 := by
  obtain ⟨fs, hb⟩ := h.obj
  exact jb_pV z C X hK hb hci hM hd hn hst hrm hrs kk
theorem jN_vV {P : jb_W → Prop} (z : Nat) (C : ja_C (jb_mk l R nL "MeasuredTensorsModel" D H0 (jt_all cI cJ cT cX) u) cc) (X : jb_X H0 u.1.2.2) (hK : jb_KV "MeasuredTensorsModel" index ym bytes maxL ret k) (h : jN cI cJ y A n n2 σ w th rk N) (hci : some "MeasuredTensorsModel" = some ym.cls) (hM : jb_M l ym bytes maxL ret d q 0 0 D H0 (jt_all cI cJ cT cX) (.ref y :: As) w sz (fun v w' sz' => v = none ∧ P w' ∧ sz' = sz)) (hd : decode cc pc = .ok (.invokevirtual index, 3)) (hn : As.length = k) (hst : st0 = As.reverse ++ .ref y :: rest) (hrm : d + 1 ≤ R.frames ∧ z + (maxL + 11) + q ≤ R.locals) (hrs : (rest.map fun v => v.category).sum ≤ z)
    (kk : ∀ w' : jb_W, P w' → ja (jb_mk l R nL "MeasuredTensorsModel" D H0 (jt_all cI cJ cT cX) u) w' sz kc ks (pc + 3) lv rest) : ja (jb_mk l R nL "MeasuredTensorsModel" D H0 (jt_all cI cJ cT cX) u) w sz kc ks pc lv st0 := by
  obtain ⟨fs, hb⟩ := h.obj
  exact jb_vV (P := fun w' sz' => P w' ∧ sz' = sz) z C X hK hb hci hM hd hn hst hrm hrs (fun w' sz' hp => by obtain ⟨e1, e2⟩ := hp; rw [e2]; exact kk w' e1)
/-- a call that answers r and changes what P says -/
theorem jN_qV {P : jb_W → Prop} (z : Nat) (C : ja_C (jb_mk l R nL "MeasuredTensorsModel" D H0 (jt_all cI cJ cT cX) u) cc) (X : jb_X H0 u.1.2.2) (hK : jb_KV "MeasuredTensorsModel" index ym bytes maxL ret k) (h : jN cI cJ y A n n2 σ w th rk N) (hci : some "MeasuredTensorsModel" = some ym.cls) (hM : jb_M l ym bytes maxL ret d q 0 0 D H0 (jt_all cI cJ cT cX) (.ref y :: As) w sz (fun v w' sz' => v = some r ∧ P w' ∧ sz' = sz)) (hd : decode cc pc = .ok (.invokevirtual index, 3)) (hn : As.length = k) (hst : st0 = As.reverse ++ .ref y :: rest) (hrm : d + 1 ≤ R.frames ∧ z + (maxL + 11) + q ≤ R.locals) (hrs : (rest.map fun v => v.category).sum ≤ z)
    (kk : ∀ w' : jb_W, P w' → ja (jb_mk l R nL "MeasuredTensorsModel" D H0 (jt_all cI cJ cT cX) u) w' sz kc ks (pc + 3) lv (r :: rest)) : ja (jb_mk l R nL "MeasuredTensorsModel" D H0 (jt_all cI cJ cT cX) u) w sz kc ks pc lv st0 := by
  obtain ⟨fs, hb⟩ := h.obj
  exact jb_callVw (kc := kc) (ks := ks) (mc := 0) (ms := 0) z C X hK hb hci hM hd hn hst hrm hrs (fun v w' sz' hp => by obtain ⟨e1, e2, e3⟩ := hp; rw [e1, e3]; exact kk w' e2)
theorem jN_mV {σt : Type} {P : Int32 → σt → jb_W → Nat → Prop} (z : Nat) (C : ja_C (jb_mk l R nL "MeasuredTensorsModel" D H0 (jt_all cI cJ cT cX) u) cc) (X : jb_X H0 u.1.2.2) (hK : jb_KV "MeasuredTensorsModel" index ym bytes maxL ret k) (h : jN cI cJ y A n n2 σ w th rk N) (hci : some "MeasuredTensorsModel" = some ym.cls) (hM : jb_M l ym bytes maxL ret d q mc ms D H0 (jt_all cI cJ cT cX) (.ref y :: As) w sz (fun v w' sz' => ∃ (x : Int32) (σ' : σt), v = some (.int x) ∧ P x σ' w' sz')) (hd : decode cc pc = .ok (.invokevirtual index, 3)) (hn : As.length = k) (hst : st0 = As.reverse ++ .ref y :: rest) (hrm : d + 1 ≤ R.frames ∧ z + (maxL + 11) + q ≤ R.locals) (hrs : (rest.map fun v => v.category).sum ≤ z) (hkc : mc ≤ kc) (hks : ms ≤ ks)
    (kk : ∀ (x : Int32) (σ' : σt) (w' : jb_W) (sz' : Nat), P x σ' w' sz' → ja (jb_mk l R nL "MeasuredTensorsModel" D H0 (jt_all cI cJ cT cX) u) w' sz' (kc - mc) (ks - ms) (pc + 3) lv (.int x :: rest)) : ja (jb_mk l R nL "MeasuredTensorsModel" D H0 (jt_all cI cJ cT cX) u) w sz kc ks pc lv st0 := by
  obtain ⟨fs, hb⟩ := h.obj
  exact jb_mV z C X hK hb hci hM hd hn hst hrm hrs hkc hks kk
end YQ
