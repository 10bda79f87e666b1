/-! THE REFERENCE: make and makeLike over the abstract state -/
theorem jb_M.imp {l : Launch} {y : MethodName} {bytes : ByteArray} {maxL : Nat} {ret : Option FieldType} {d q mc ms : Nat} {D : va_G} {H0 : Heap} {tys : List (ClassId × FieldType)} {av : List Value} {w : jb_W} {sz : Nat} {post post' : Option Value → jb_W → Nat → Prop} (h : jb_M l y bytes maxL ret d q mc ms D H0 tys av w sz post) (hi : ∀ v w' sz', post v w' sz' → post' v w' sz') : jb_M l y bytes maxL ret d q mc ms D H0 tys av w sz post' := by
  intro p e ha hc hk s m args below hf happ hP hK
  obtain ⟨n, o, h1, h2, h3, ⟨v, w', sz', e1, e2, e3⟩, h5⟩ := h p e ha hc hk s m args below hf happ hP hK
  exact ⟨n, o, h1, h2, h3, ⟨v, w', sz', e1, hi v w' sz' e2, e3⟩, h5⟩
/-- what a making answers, and the state behind it -/
def jA (σ : jSt) (N : Nat → Nat) (rk : Nat) (what a b : Int32) (ad r e q : Nat) (x : Int32) (σ' : jSt) : Prop :=
  (jl_full N rk r e q ad (jSt_w σ) → x = -8 ∧ σ' = σ) ∧ (¬ jl_full N rk r e q ad (jSt_w σ) → x = nI (jSt_c σ) ∧ σ' = jSt_add σ ((what, a, b), (rk, jl_S N rk), (ad, r, e, q), (0, 0)))
/-- the reference behind a call: it holds σ', its last code is th, nothing of others has changed -/
def jP (cI cJ : ClassId) (y : Nat) (A : Nat → Nat) (w : jb_W) (sz : Nat) (σ' : jSt) (th : Int32) (w' : jb_W) (sz' : Nat) : Prop :=
  ∃ (A' : Nat → Nat) (n' n2' : Nat) (s' : Nat → Int32) (V' : Nat → Nat → Int32) (VL' : Nat → Nat → Int64), jM cI cJ w' y A' n' n2' s' V' VL' σ' ∧ s' 0 = th ∧ jS sz y A w w' ∧ (∀ j, j < 20 → A' j = A j ∨ sz ≤ A' j) ∧ sz ≤ sz'
theorem jk_make : jb_KV "MeasuredTensorsModel" 131 jy_Y_make jc_Y_make 14 (some .int) 7 := ⟨jw_in (by decide +kernel) (by decide +kernel), jw_in (by decide +kernel) (by decide +kernel), jw_in (by decide +kernel) (by decide +kernel), jw_in (by decide +kernel) (by decide +kernel), jw_in (by decide +kernel) (by decide +kernel), by decide +kernel⟩
section YC
variable {l : Launch} {D : va_G} {H0 : Heap} {cI cJ cT cX : ClassId} {w : jb_W} {sz : Nat}
variable {y : Nat} {A : Nat → Nat} {n n2 : Nat} {s : Nat → Int32} {V : Nat → Nat → Int32} {VL : Nat → Nat → Int64} {σ : jSt}
theorem jl_cap_le {n : Nat} (h : jl_cap n) : 32 ≤ n ∧ n ≤ 512 := by unfold jl_cap at h; omega
theorem jS.rf {sz y : Nat} {A : Nat → Nat} {w : jb_W} : jS sz y A w w := fun _ _ _ hx _ _ => hx
theorem jy_makeM {what a b : Int32} {r e q ad rk : Nat} {N : Nat → Nat} (h : jM cI cJ w y A n n2 s V VL σ) (hr : r < 2 ^ 40) (he : e < 2 ^ 40) (hq : q < 2 ^ 62) (had : 1 ≤ ad ∧ ad ≤ 2 ^ 24) (hrk : rk ≤ 4) (hs5 : s 5 = nI rk) (hN : ∀ k, k < rk → V 19 k = nI (N k) ∧ N k ≤ 8192) (hN1 : ∀ k, k < rk → 1 ≤ N k) (hd : what = 51 → False) (hct : jSt_c σ < 512) :
    jb_M l jy_Y_make jc_Y_make 14 (some .int) 3 111 16 9728 D H0 (jt_all cI cJ cT cX) [.ref y, .int what, .int a, .int b, .long (lN r), .long (lN e), .long (lN q), .int (nI ad)] w sz
      (fun v w' sz' => ∃ (x : Int32) (σ' : jSt), v = some (.int x) ∧ jA σ N rk what a b ad r e q x σ' ∧ jP cI cJ y A w sz σ' (s 0) w' sz') := by
  obtain ⟨h1, h2, h3, h4, h5, h6, h7, h8, h9, h10, h11, -⟩ := id h
  have hc := jl_cap_le h6
  refine (jy_make (l := l) (D := D) (H0 := H0) (cT := cT) (cX := cX) (sz := sz) (what := what) (a := a) (b := b) hr he hq had.2 hrk hs5 hN h4 h5 (by omega) hc.2 (fun z => by unfold jl_cap at h6; omega) (by omega) rfl h7 h1).imp (fun v w' sz' p => ?_)
  rcases Classical.em (jl_full N rk r e q ad (jSt_w σ)) with hf | hf
  · obtain ⟨e1, e2, e3⟩ := p.1 hf
    rw [e1, e2, e3]
    exact ⟨-8, σ, rfl, ⟨fun _ => ⟨rfl, rfl⟩, fun z => absurd hf z⟩, A, n, n2, s, V, VL, h, rfl, jS.rf, fun _ _ => Or.inl rfl, Nat.le_refl _⟩
  · obtain ⟨e1, hm⟩ := p.2 hf
    obtain ⟨A', n', s', V', VL', q1, q2, q3, q4, q5⟩ := h.add ⟨rfl, rfl⟩ (fun _ _ => rfl) hf hrk hN1 had hq hd hct hm
    exact ⟨nI (jSt_c σ), _, e1, ⟨fun z => absurd z hf, fun _ => ⟨rfl, rfl⟩⟩, A', n', n2, s', V', VL', q2, by rw [q1, pk_un (by decide)], q3, q4, q5⟩
theorem jy_makeLikeM {what : Int32} {t rk : Nat} {N : Nat → Nat} (h : jM cI cJ w y A n n2 s V VL σ) (ht : t < jSt_c σ) (hrk : rk ≤ 4) (hs5 : s 5 = nI rk) (hN : ∀ k, k < rk → V 19 k = nI (N k) ∧ N k ≤ 8192) (hN1 : ∀ k, k < rk → 1 ≤ N k) (hd : what = 51 → False) (hct : jSt_c σ < 512) :
    jb_M l jy_Y_makeLike jc_Y_makeLike 3 (some .int) 4 144 16 9728 D H0 (jt_all cI cJ cT cX) [.ref y, .int what, .int (nI t)] w sz
      (fun v w' sz' => ∃ (x : Int32) (σ' : jSt), v = some (.int x) ∧ jA σ N rk what (nI t) (-1) 1 (jT_r (jSt_T σ t)) (jT_e (jSt_T σ t)) (jT_q (jSt_T σ t)) x σ' ∧ jP cI cJ y A w sz σ' (s 0) w' sz') := by
  obtain ⟨h1, h2, h3, h4, h5, h6, h7, h8, h9, h10, h11, hT, -⟩ := id h
  have hc := jl_cap_le h6
  obtain ⟨⟨o1, o2, o3, o4, o5, o6, o7, o8, o9, o10⟩, x0, x1, x2, x3, x4, x5, x6, x7, x8, x9, x10⟩ := hT t ht
  refine jb_meth_i (by decide) (Nat.le_of_ble_eq_true rfl) (fun u C X E => ?_)
  refine ja_aload_n C jd_Y_makeLike_0 0 rfl ?_
  refine ja_iload_n C jd_Y_makeLike_1 1 rfl ?_
  refine ja_iload_n C jd_Y_makeLike_2 2 rfl ?_
  refine ja_iconst C (-1) jd_Y_makeLike_3 (by decide) ?_
  refine ja_aload_n C jd_Y_makeLike_4 0 rfl ?_
  refine ja_get C jfl_range jd_Y_makeLike_5 h1.1 rfl ?_
  refine ja_iload_n C jd_Y_makeLike_8 2 rfl ?_
  refine ja_iald C 0 rfl jd_Y_makeLike_9 h1.a_range (vp_in_nI (by omega) (by omega)) ?_
  refine ja_i2l C jd_Y_makeLike_10 ?_
  rw [nI_clamp (by omega), x7, nI_l (by omega)]
  refine ja_aload_n C jd_Y_makeLike_11 0 rfl ?_
  refine ja_get C jfl_depth jd_Y_makeLike_12 h1.1 rfl ?_
  refine ja_iload_n C jd_Y_makeLike_15 2 rfl ?_
  refine ja_iald C 0 rfl jd_Y_makeLike_16 h1.a_depth (vp_in_nI (by omega) (by omega)) ?_
  refine ja_i2l C jd_Y_makeLike_17 ?_
  rw [nI_clamp (by omega), x8, nI_l (by omega)]
  refine ja_aload_n C jd_Y_makeLike_18 0 rfl ?_
  refine ja_get C jfl_odd jd_Y_makeLike_19 h1.1 rfl ?_
  refine ja_iload_n C jd_Y_makeLike_22 2 rfl ?_
  refine ja_lald C 1 rfl jd_Y_makeLike_23 h1.a_odd (vp_in_nI (by omega) (by omega)) ?_
  rw [nI_clamp (by omega), x9]
  refine ja_iconst C 1 jd_Y_makeLike_24 (by decide) ?_
  refine jb_callV (kc := 0) (ks := 0) (mc := 16) (ms := 9728) (As := [.int what, .int (nI t), .int (-1), .long (lN (jT_r (jSt_T σ t))), .long (lN (jT_e (jSt_T σ t))), .long (lN (jT_q (jSt_T σ t))), .int (nI 1)]) (rest := []) C X jk_make h1.1 rfl (jy_makeM (l := l) (D := D) (H0 := H0) (cT := cT) (cX := cX) (sz := sz) h (by omega) (by omega) o10 ⟨by decide, by decide⟩ hrk hs5 hN hN1 hd hct) jd_Y_makeLike_25 rfl rfl ⟨by decide, by decide⟩ (Nat.le_of_ble_eq_true rfl) (fun v w' sz' hp => ?_)
  obtain ⟨x, σ', e1, e2, e3⟩ := hp
  rw [e1]
  exact E jd_Y_makeLike_28 ⟨x, σ', rfl, e2, e3⟩
end YC
