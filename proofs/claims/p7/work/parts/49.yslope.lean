/-! THE REFERENCE'S SLOPES under way: how often each tensor is used (U), the odd parts (Qv); ranges and depths are any -/
def jV (cI cJ : ClassId) (y : Nat) (A : Nat → Nat) (n n2 : Nat) (σ : jSt) (w : jb_W) (th rk : Int32) (N : Nat → Int32) (U Qv : Nat → Nat) : Prop := ∃ (s : Nat → Int32) (V : Nat → Nat → Int32) (VL : Nat → Nat → Int64), jM cI cJ w y A n n2 s V VL σ ∧ s 0 = th ∧ s 5 = rk ∧ (∀ j, j < 4 → V 19 j = N j) ∧ ∀ t, t < jSt_c σ → V 15 t = nI (U t) ∧ VL 18 t = lN (Qv t)
theorem lN_bv (a : Int64) : lN a.toBitVec.toNat = a := by
  apply Int64.toBitVec_inj.mp
  show BitVec.ofNat 64 a.toBitVec.toNat = a.toBitVec
  simp
section YL
variable {cI cJ : ClassId} {w w' : jb_W} {y : Nat} {A : Nat → Nat} {n n2 : Nat} {s : Nat → Int32} {V V' : Nat → Nat → Int32} {VL VL' : Nat → Nat → Int64} {σ : jSt} {th rk : Int32} {N : Nat → Int32} {U Qv : Nat → Nat}
theorem jV.toN (h : jV cI cJ y A n n2 σ w th rk N U Qv) : jN cI cJ y A n n2 σ w th rk N := by
  obtain ⟨s, V, VL, h1, h2, h3, h4, -⟩ := h
  exact ⟨s, V, VL, h1, h2, h3, h4⟩
theorem jN.v (h : jN cI cJ y A n n2 σ w th rk N) : ∃ U Qv, jV cI cJ y A n n2 σ w th rk N U Qv := by
  obtain ⟨s, V, VL, h1, h2, h3, h4⟩ := h
  exact ⟨fun t => (V 15 t).toBitVec.toNat, fun t => (VL 18 t).toBitVec.toNat, s, V, VL, h1, h2, h3, h4, fun t _ => ⟨(nI_bv _).symm, (lN_bv _).symm⟩⟩
/-- uses and slopes aren't of the state -/
theorem jM.sl (h : jM cI cJ w y A n n2 s V VL σ) (h' : jY cI cJ w' y A n n2 s V' VL' (lN (jSt_w σ))) (hV : ∀ k, k ≠ 15 → k ≠ 16 → k ≠ 17 → V' k = V k) (hL : ∀ k, k ≠ 18 → VL' k = VL k) : jM cI cJ w' y A n n2 s V' VL' σ := by
  obtain ⟨-, p1, p2, p3, p4, p5, p6, p7, p8, p9, p10, pT, pI⟩ := h
  refine ⟨h', p1, p2, p3, p4, p5, p6, p7, p8, p9, p10, fun t ht => ⟨(pT t ht).1, ?_⟩, fun i hi => ?_⟩
  · have := (pT t ht).2
    unfold jT_row at this ⊢
    rw [hV 0 (by decide) (by decide) (by decide), hV 1 (by decide) (by decide) (by decide), hV 2 (by decide) (by decide) (by decide), hV 3 (by decide) (by decide) (by decide), hV 4 (by decide) (by decide) (by decide), hV 5 (by decide) (by decide) (by decide), hV 6 (by decide) (by decide) (by decide), hV 7 (by decide) (by decide) (by decide), hV 8 (by decide) (by decide) (by decide), hV 10 (by decide) (by decide) (by decide), hV 11 (by decide) (by decide) (by decide), hL 9 (by decide)]
    exact this
  · rw [hV 12 (by decide) (by decide) (by decide), hV 13 (by decide) (by decide) (by decide), hV 14 (by decide) (by decide) (by decide)]
    exact pI i hi
end YL
section YM
variable {l : Launch} {R : Room} {nL : Nat} {D : va_G} {H0 : Heap} {cI cJ cT cX : ClassId} {u : jb_U} {cc : ByteArray} {w : jb_W} {sz kc ks pc : Nat} {lv : List (Nat × Value)} {rest : List Value}
variable {y : Nat} {A : Nat → Nat} {n n2 : Nat} {σ : jSt} {th rk : Int32} {N : Nat → Int32} {U Qv : Nat → Nat}
theorem jY_lastF {s : Nat → Int32} {V : Nat → Nat → Int32} {VL : Nat → Nat → Int64} {wk : Int64} (C : ja_C (jb_mk l R nL "MeasuredTensorsModel" D H0 (jt_all cI cJ cT cX) u) cc) (k : Nat) (hk : k < 20) (hl : k = 9 ∨ k = 18) {i : Nat} {x : Int64} (hd : decode cc pc = .ok (.lastore, 1)) (h : jY cI cJ w y A n n2 s V VL wk) (hi : i < jY_len n n2 k) (hb : jY_len n n2 k < 2 ^ 31)
    (kk : ∀ (w' : jb_W) (VL' : Nat → Nat → Int64), jY cI cJ w' y A n n2 s V VL' wk → (∀ j, j ≠ k → VL' j = VL j) → VL' k i = x → (∀ m, m ≠ i → VL' k m = VL k m) → jR y A w w' → ja (jb_mk l R nL "MeasuredTensorsModel" D H0 (jt_all cI cJ cT cX) u) w' sz kc ks (pc + 1) lv rest) : ja (jb_mk l R nL "MeasuredTensorsModel" D H0 (jt_all cI cJ cT cX) u) w sz kc ks pc lv (.long x :: .int (nI i) :: .ref (A k) :: rest) := by
  refine jY_last C k hk hl hd h (vp_in_nI hi hb) (fun w' h' r' => ?_)
  rw [nI_clamp (by omega)] at h'
  exact kk w' _ h' (fun j hj => va_up_ne _ _ hj) (by rw [va_up_self, pk_uLs]) (fun m hm => by rw [va_up_self, pk_uLn hm]) r'
theorem jV_u (C : ja_C (jb_mk l R nL "MeasuredTensorsModel" D H0 (jt_all cI cJ cT cX) u) cc) {t : Nat} (hd : decode cc pc = .ok (.iaload, 1)) (h : jV cI cJ y A n n2 σ w th rk N U Qv) (ht : t < jSt_c σ) (kk : ja (jb_mk l R nL "MeasuredTensorsModel" D H0 (jt_all cI cJ cT cX) u) w sz kc ks (pc + 1) lv (.int (nI (U t)) :: rest)) : ja (jb_mk l R nL "MeasuredTensorsModel" D H0 (jt_all cI cJ cT cX) u) w sz kc ks pc lv (.int (nI t) :: .ref (A 15) :: rest) := by
  have hn := h.toN.cn
  obtain ⟨s, V, VL, h1, h2, h3, h4, h5⟩ := h
  exact ja_iaN C rfl hd h1.1.a_uses (by omega) (by omega) (h5 t ht).1 kk
theorem jV_16 (C : ja_C (jb_mk l R nL "MeasuredTensorsModel" D H0 (jt_all cI cJ cT cX) u) cc) {t : Nat} (hd : decode cc pc = .ok (.iaload, 1)) (h : jV cI cJ y A n n2 σ w th rk N U Qv) (ht : t < jSt_c σ) (kk : ∀ v : Int32, ja (jb_mk l R nL "MeasuredTensorsModel" D H0 (jt_all cI cJ cT cX) u) w sz kc ks (pc + 1) lv (.int v :: rest)) : ja (jb_mk l R nL "MeasuredTensorsModel" D H0 (jt_all cI cJ cT cX) u) w sz kc ks pc lv (.int (nI t) :: .ref (A 16) :: rest) := by
  have hn := h.toN.cn
  obtain ⟨s, V, VL, h1, h2, h3, h4, h5⟩ := h
  exact ja_iaN C rfl hd h1.1.a_slopeRange (by omega) (by omega) rfl (kk _)
theorem jV_17 (C : ja_C (jb_mk l R nL "MeasuredTensorsModel" D H0 (jt_all cI cJ cT cX) u) cc) {t : Nat} (hd : decode cc pc = .ok (.iaload, 1)) (h : jV cI cJ y A n n2 σ w th rk N U Qv) (ht : t < jSt_c σ) (kk : ∀ v : Int32, ja (jb_mk l R nL "MeasuredTensorsModel" D H0 (jt_all cI cJ cT cX) u) w sz kc ks (pc + 1) lv (.int v :: rest)) : ja (jb_mk l R nL "MeasuredTensorsModel" D H0 (jt_all cI cJ cT cX) u) w sz kc ks pc lv (.int (nI t) :: .ref (A 17) :: rest) := by
  have hn := h.toN.cn
  obtain ⟨s, V, VL, h1, h2, h3, h4, h5⟩ := h
  exact ja_iaN C rfl hd h1.1.a_slopeDepth (by omega) (by omega) rfl (kk _)
theorem jV_18 (C : ja_C (jb_mk l R nL "MeasuredTensorsModel" D H0 (jt_all cI cJ cT cX) u) cc) {t : Nat} (hd : decode cc pc = .ok (.laload, 1)) (h : jV cI cJ y A n n2 σ w th rk N U Qv) (ht : t < jSt_c σ) (kk : ja (jb_mk l R nL "MeasuredTensorsModel" D H0 (jt_all cI cJ cT cX) u) w sz kc ks (pc + 1) lv (.long (lN (Qv t)) :: rest)) : ja (jb_mk l R nL "MeasuredTensorsModel" D H0 (jt_all cI cJ cT cX) u) w sz kc ks pc lv (.int (nI t) :: .ref (A 18) :: rest) := by
  have hn := h.toN.cn
  obtain ⟨s, V, VL, h1, h2, h3, h4, h5⟩ := h
  exact ja_laN C rfl hd h1.1.a_slopeOdd (by omega) (by omega) (h5 t ht).2 kk
theorem jV_s15 (C : ja_C (jb_mk l R nL "MeasuredTensorsModel" D H0 (jt_all cI cJ cT cX) u) cc) {t x : Nat} (hd : decode cc pc = .ok (.iastore, 1)) (h : jV cI cJ y A n n2 σ w th rk N U Qv) (ht : t < jSt_c σ) (kk : ∀ w', jV cI cJ y A n n2 σ w' th rk N (va_up U t x) Qv → jR y A w w' → ja (jb_mk l R nL "MeasuredTensorsModel" D H0 (jt_all cI cJ cT cX) u) w' sz kc ks (pc + 1) lv rest) : ja (jb_mk l R nL "MeasuredTensorsModel" D H0 (jt_all cI cJ cT cX) u) w sz kc ks pc lv (.int (nI x) :: .int (nI t) :: .ref (A 15) :: rest) := by
  have hn := h.toN.cn
  obtain ⟨s, V, VL, h1, h2, h3, h4, h5⟩ := h
  refine jY_iastF C 15 (by decide) (by decide) hd h1.1 (show t < n by omega) (by show n < 2 ^ 31; omega) (fun w' V' g1 g2 g3 g4 r => kk w' ⟨s, V', VL, h1.sl g1 (fun k z _ _ => g2 k z) (fun _ _ => rfl), h2, h3, fun j hj => by rw [g2 19 (by decide)]; exact h4 j hj, fun i hi => ⟨?_, (h5 i hi).2⟩⟩ r)
  by_cases e : i = t
  · rw [e, g3, va_up_self]
  · rw [g4 i e, va_up_ne _ _ e]; exact (h5 i hi).1
theorem jV_s16 (C : ja_C (jb_mk l R nL "MeasuredTensorsModel" D H0 (jt_all cI cJ cT cX) u) cc) {t : Nat} {x : Int32} (hd : decode cc pc = .ok (.iastore, 1)) (h : jV cI cJ y A n n2 σ w th rk N U Qv) (ht : t < jSt_c σ) (kk : ∀ w', jV cI cJ y A n n2 σ w' th rk N U Qv → jR y A w w' → ja (jb_mk l R nL "MeasuredTensorsModel" D H0 (jt_all cI cJ cT cX) u) w' sz kc ks (pc + 1) lv rest) : ja (jb_mk l R nL "MeasuredTensorsModel" D H0 (jt_all cI cJ cT cX) u) w sz kc ks pc lv (.int x :: .int (nI t) :: .ref (A 16) :: rest) := by
  have hn := h.toN.cn
  obtain ⟨s, V, VL, h1, h2, h3, h4, h5⟩ := h
  exact jY_iastF C 16 (by decide) (by decide) hd h1.1 (show t < n by omega) (by show n < 2 ^ 31; omega) (fun w' V' g1 g2 g3 g4 r => kk w' ⟨s, V', VL, h1.sl g1 (fun k _ z _ => g2 k z) (fun _ _ => rfl), h2, h3, fun j hj => by rw [g2 19 (by decide)]; exact h4 j hj, fun i hi => by rw [g2 15 (by decide)]; exact h5 i hi⟩ r)
theorem jV_s17 (C : ja_C (jb_mk l R nL "MeasuredTensorsModel" D H0 (jt_all cI cJ cT cX) u) cc) {t : Nat} {x : Int32} (hd : decode cc pc = .ok (.iastore, 1)) (h : jV cI cJ y A n n2 σ w th rk N U Qv) (ht : t < jSt_c σ) (kk : ∀ w', jV cI cJ y A n n2 σ w' th rk N U Qv → jR y A w w' → ja (jb_mk l R nL "MeasuredTensorsModel" D H0 (jt_all cI cJ cT cX) u) w' sz kc ks (pc + 1) lv rest) : ja (jb_mk l R nL "MeasuredTensorsModel" D H0 (jt_all cI cJ cT cX) u) w sz kc ks pc lv (.int x :: .int (nI t) :: .ref (A 17) :: rest) := by
  have hn := h.toN.cn
  obtain ⟨s, V, VL, h1, h2, h3, h4, h5⟩ := h
  exact jY_iastF C 17 (by decide) (by decide) hd h1.1 (show t < n by omega) (by show n < 2 ^ 31; omega) (fun w' V' g1 g2 g3 g4 r => kk w' ⟨s, V', VL, h1.sl g1 (fun k _ _ z => g2 k z) (fun _ _ => rfl), h2, h3, fun j hj => by rw [g2 19 (by decide)]; exact h4 j hj, fun i hi => by rw [g2 15 (by decide)]; exact h5 i hi⟩ r)
theorem jV_s18 (C : ja_C (jb_mk l R nL "MeasuredTensorsModel" D H0 (jt_all cI cJ cT cX) u) cc) {t x : Nat} (hd : decode cc pc = .ok (.lastore, 1)) (h : jV cI cJ y A n n2 σ w th rk N U Qv) (ht : t < jSt_c σ) (kk : ∀ w', jV cI cJ y A n n2 σ w' th rk N U (va_up Qv t x) → jR y A w w' → ja (jb_mk l R nL "MeasuredTensorsModel" D H0 (jt_all cI cJ cT cX) u) w' sz kc ks (pc + 1) lv rest) : ja (jb_mk l R nL "MeasuredTensorsModel" D H0 (jt_all cI cJ cT cX) u) w sz kc ks pc lv (.long (lN x) :: .int (nI t) :: .ref (A 18) :: rest) := by
  have hn := h.toN.cn
  obtain ⟨s, V, VL, h1, h2, h3, h4, h5⟩ := h
  refine jY_lastF C 18 (by decide) (by decide) hd h1.1 (show t < n by omega) (by show n < 2 ^ 31; omega) (fun w' V' g1 g2 g3 g4 r => kk w' ⟨s, V, V', h1.sl g1 (fun _ _ _ _ => rfl) (fun k z => g2 k z), h2, h3, h4, fun i hi => ⟨(h5 i hi).1, ?_⟩⟩ r)
  by_cases e : i = t
  · rw [e, g3, va_up_self]
  · rw [g4 i e, va_up_ne _ _ e]; exact (h5 i hi).2
/-- which loss there is, is any -/
theorem jN_gl (C : ja_C (jb_mk l R nL "MeasuredTensorsModel" D H0 (jt_all cI cJ cT cX) u) cc) (hd : decode cc pc = .ok (.getfield 56, 3)) (h : jN cI cJ y A n n2 σ w th rk N) (kk : ∀ v : Int32, ja (jb_mk l R nL "MeasuredTensorsModel" D H0 (jt_all cI cJ cT cX) u) w sz kc ks (pc + 3) lv (.int v :: rest)) : ja (jb_mk l R nL "MeasuredTensorsModel" D H0 (jt_all cI cJ cT cX) u) w sz kc ks pc lv (.ref y :: rest) := by
  obtain ⟨s, V, VL, h1, -⟩ := h
  exact ja_get C jfl_loss hd h1.1.1 rfl (kk _)
theorem jV_p4 (C : ja_C (jb_mk l R nL "MeasuredTensorsModel" D H0 (jt_all cI cJ cT cX) u) cc) {v : Int32} (hd : decode cc pc = .ok (.putfield 56, 3)) (h : jV cI cJ y A n n2 σ w th rk N U Qv) (kk : ∀ w', jV cI cJ y A n n2 σ w' th rk N U Qv → jR y A w w' → ja (jb_mk l R nL "MeasuredTensorsModel" D H0 (jt_all cI cJ cT cX) u) w' sz kc ks (pc + 3) lv rest) : ja (jb_mk l R nL "MeasuredTensorsModel" D H0 (jt_all cI cJ cT cX) u) w sz kc ks pc lv (.int v :: .ref y :: rest) := by
  obtain ⟨s, V, VL, h1, h2, h3, h4, h5⟩ := h
  exact jY_put (s' := upd s 4 v) (wk' := lN (jSt_w σ)) C jfp_loss jfn_loss hd h1.1 rfl rfl (by decide) rfl (fun w' g r => kk w' ⟨_, V, VL, h1.sc g rfl rfl rfl (fun _ _ => rfl), h2, h3, h4, h5⟩ r)
end YM
section YN2
variable {l : Launch} {D : va_G} {H0 : Heap} {cI cJ cT cX : ClassId} {w : jb_W} {sz : Nat}
variable {y : Nat} {A : Nat → Nat} {n n2 : Nat} {σ : jSt} {th rk : Int32} {N : Nat → Int32} {U Qv : Nat → Nat}
theorem jv_hasSlope {t : Nat} (h : jV cI cJ y A n n2 σ w th rk N U Qv) (ht : t < jSt_c σ) (hu : U t < 2 ^ 31) : jb_M l jy_Y_hasSlope jc_Y_hasSlope 2 (some .boolean) 0 0 0 0 D H0 (jt_all cI cJ cT cX) [.ref y, .int (nI t)] w sz (fun v w' sz' => v = some (.int (if 0 < U t ∧ jT_op (jSt_T σ t) ≠ 3 ∧ jT_op (jSt_T σ t) ≠ 4 then 1 else 0)) ∧ w' = w ∧ sz' = sz) := by
  have hn := h.toN.cn
  obtain ⟨s, V, VL, h1, h2, h3, h4, h5⟩ := h
  have hr := (h1.2.2.2.2.2.2.2.2.2.2.2.1 t ht).2
  refine (jy_hasSlope (by omega) (by omega) h1.1).imp (fun v w' sz' p => ?_)
  obtain ⟨e1, e2, e3⟩ := p
  rw [hr.op, (h5 t ht).1] at e1
  refine ⟨?_, e2, e3⟩
  rw [e1]
  have : (0 < nI (U t)) ↔ 0 < U t := by rw [← nI_0]; exact nI_ltI (by decide) hu
  by_cases z : 0 < U t
  · simp [z, this]
  · simp [z, this]
end YN2
