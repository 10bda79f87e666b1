/-! ROWS over the reference's state -/
abbrev jt_all (cI cJ cT cX : ClassId) : List (ClassId × FieldType) := [(cI, .int), (cJ, .long), (cT, .object "MeasuredTensors$Tensor"), (cX, .object "MeasuredTensors$Index")]
section YR
variable {l : Launch} {R : Room} {nL : Nat} {D : va_G} {H0 : Heap} {cI cJ cT cX : ClassId} {u : jb_U} {cc : ByteArray} {w : jb_W} {sz kc ks pc : Nat} {lv : List (Nat × Value)} {rest : List Value}
variable {y : Nat} {A : Nat → Nat} {n n2 : Nat} {s s' : Nat → Int32} {V : Nat → Nat → Int32} {VL : Nat → Nat → Int64} {wk wk' : Int64}
theorem jY_put (C : ja_C (jb_mk l R nL "MeasuredTensorsModel" D H0 (jt_all cI cJ cT cX) u) cc) {index p : Nat} {ty : FieldType} {v : Value} (hF : ja_FP jcl "MeasuredTensorsModel" index 5 p ty) (hnf : ∀ r, jcl[5]? = some r → (r.2.1 p).2.2.2 = false) (hd : decode cc pc = .ok (.putfield index, 3)) (h : jY cI cJ w y A n n2 s V VL wk) (hn : narrow ty v = v) (hfit : fits ty v = true) (hp : p < 27) (hset : (jY_f A s wk).set p v = jY_f A s' wk')
    (kk : ∀ w', jY cI cJ w' y A n n2 s' V VL wk' → jR y A w w' → ja (jb_mk l R nL "MeasuredTensorsModel" D H0 (jt_all cI cJ cT cX) u) w' sz kc ks (pc + 3) lv rest) : ja (jb_mk l R nL "MeasuredTensorsModel" D H0 (jt_all cI cJ cT cX) u) w sz kc ks pc lv (v :: .ref y :: rest) := by
  obtain ⟨h1, h2⟩ := h.wr hset
  exact ja_put C hF hnf hd h.1 hn hfit hp (kk _ h1 h2)
theorem jY_iast (C : ja_C (jb_mk l R nL "MeasuredTensorsModel" D H0 (jt_all cI cJ cT cX) u) cc) (k : Nat) (hk : k < 20) (hl : ¬ (k = 9 ∨ k = 18)) {i x : Int32} (hd : decode cc pc = .ok (.iastore, 1)) (h : jY cI cJ w y A n n2 s V VL wk) (hin : vp_in i (jY_len n n2 k))
    (kk : ∀ w', jY cI cJ w' y A n n2 s (va_up V k (upd (V k) i.toNatClampNeg x)) VL wk → jR y A w w' → ja (jb_mk l R nL "MeasuredTensorsModel" D H0 (jt_all cI cJ cT cX) u) w' sz kc ks (pc + 1) lv rest) : ja (jb_mk l R nL "MeasuredTensorsModel" D H0 (jt_all cI cJ cT cX) u) w sz kc ks pc lv (.int x :: .int i :: .ref (A k) :: rest) := by
  obtain ⟨h1, h2⟩ := h.wa hk hl (upd (V k) i.toNatClampNeg x)
  have hw := h.2.1 k hk
  unfold jY_c at hw
  rw [if_neg hl] at hw
  exact ja_iast C 0 rfl hd hw hin (kk _ h1 h2)
theorem jY_last (C : ja_C (jb_mk l R nL "MeasuredTensorsModel" D H0 (jt_all cI cJ cT cX) u) cc) (k : Nat) (hk : k < 20) (hl : k = 9 ∨ k = 18) {i : Int32} {x : Int64} (hd : decode cc pc = .ok (.lastore, 1)) (h : jY cI cJ w y A n n2 s V VL wk) (hin : vp_in i (jY_len n n2 k))
    (kk : ∀ w', jY cI cJ w' y A n n2 s V (va_up VL k (vp_updL (VL k) i.toNatClampNeg x)) wk → jR y A w w' → ja (jb_mk l R nL "MeasuredTensorsModel" D H0 (jt_all cI cJ cT cX) u) w' sz kc ks (pc + 1) lv rest) : ja (jb_mk l R nL "MeasuredTensorsModel" D H0 (jt_all cI cJ cT cX) u) w sz kc ks pc lv (.long x :: .int i :: .ref (A k) :: rest) := by
  obtain ⟨h1, h2⟩ := h.wl hk hl (vp_updL (VL k) i.toNatClampNeg x)
  have hw := h.2.1 k hk
  unfold jY_c at hw
  rw [if_pos hl] at hw
  exact ja_last C 1 rfl hd hw hin (kk _ h1 h2)
end YR
section YT
variable {l : Launch} {D : va_G} {H0 : Heap} {cI cJ cT cX : ClassId} {w : jb_W} {sz : Nat}
variable {y : Nat} {A : Nat → Nat} {n n2 : Nat} {s : Nat → Int32} {V : Nat → Nat → Int32} {VL : Nat → Nat → Int64} {wk : Int64}
theorem jy_thrown (h : jY cI cJ w y A n n2 s V VL wk) : jb_M l jy_Y_thrown jc_Y_thrown 1 (some .int) 0 0 0 0 D H0 (jt_all cI cJ cT cX) [.ref y] w sz (fun v w' sz' => v = some (.int (s 0)) ∧ w' = w ∧ sz' = sz) := by
  refine jb_meth_i (by decide) (Nat.le_of_ble_eq_true rfl) (fun u C X E => ?_)
  refine ja_aload_n C jd_Y_thrown_0 0 rfl ?_
  refine ja_get C jfl_thrown jd_Y_thrown_1 h.1 rfl ?_
  exact E jd_Y_thrown_4 ⟨rfl, rfl, rfl⟩
theorem jy_side {t k : Nat} (ht : t < n) (hk : k < 4) (hn : n ≤ 8192) (h : jY cI cJ w y A n n2 s V VL wk) : jb_M l jy_Y_side jc_Y_side 3 (some .int) 0 0 0 0 D H0 (jt_all cI cJ cT cX) [.ref y, .int (nI t), .int (nI k)] w sz (fun v w' sz' => v = some (.int (V 4 (4 * t + k))) ∧ w' = w ∧ sz' = sz) := by
  refine jb_meth_i (by decide) (Nat.le_of_ble_eq_true rfl) (fun u C X E => ?_)
  refine ja_aload_n C jd_Y_side_0 0 rfl ?_
  refine ja_get C jfl_sides jd_Y_side_1 h.1 rfl ?_
  refine ja_iconst C 4 jd_Y_side_4 (by decide) ?_
  refine ja_iload_n C jd_Y_side_5 1 rfl ?_
  refine ja_imul C jd_Y_side_6 ?_
  refine ja_iload_n C jd_Y_side_7 2 rfl ?_
  refine ja_iadd C jd_Y_side_8 ?_
  have e : (4 : Int32) * nI t + nI k = nI (4 * t + k) := by rw [show (4 : Int32) = nI 4 by decide, pk_mul, nI_add]
  rw [e]
  refine ja_iald C 0 rfl jd_Y_side_9 h.a_sides (vp_in_nI (by omega) (by omega)) ?_
  exact E jd_Y_side_10 ⟨by rw [nI_clamp (by omega)], rfl, rfl⟩
theorem jy_noTensor {t : Int32} (h : jY cI cJ w y A n n2 s V VL wk) : jb_M l jy_Y_noTensor jc_Y_noTensor 2 (some .boolean) 0 0 0 0 D H0 (jt_all cI cJ cT cX) [.ref y, .int t] w sz (fun v w' sz' => v = some (.int (if t < 0 ∨ s 2 ≤ t then 1 else 0)) ∧ w' = w ∧ sz' = sz) := by
  refine jb_meth_z (by decide) (Nat.le_of_ble_eq_true rfl) (fun u C X E => ?_)
  refine ja_iload_n C jd_Y_noTensor_0 1 rfl ?_
  refine ja_if_lt C 12 jd_Y_noTensor_1 (by decide) (fun c_1 => ?_) (fun c_1 => ?_)
  · refine ja_iconst C 1 jd_Y_noTensor_12 (by decide) ?_
    refine ja_goto C 17 jd_Y_noTensor_13 (by decide) ?_
    exact E jd_Y_noTensor_17 (Or.inr rfl) ⟨by rw [if_pos (Or.inl c_1)], rfl, rfl⟩
  · refine ja_iload_n C jd_Y_noTensor_4 1 rfl ?_
    refine ja_aload_n C jd_Y_noTensor_5 0 rfl ?_
    refine ja_get C jfl_count jd_Y_noTensor_6 h.1 rfl ?_
    refine ja_icmp_lt C 16 jd_Y_noTensor_9 (by decide) (fun c_9 => ?_) (fun c_9 => ?_)
    · refine ja_iconst C 0 jd_Y_noTensor_16 (by decide) ?_
      exact E jd_Y_noTensor_17 (Or.inl rfl) ⟨by rw [if_neg (fun z => z.elim c_1 (fun q => k2_nle c_9 q))], rfl, rfl⟩
    · refine ja_iconst C 1 jd_Y_noTensor_12 (by decide) ?_
      refine ja_goto C 17 jd_Y_noTensor_13 (by decide) ?_
      exact E jd_Y_noTensor_17 (Or.inr rfl) ⟨by rw [if_pos (Or.inr (k2_le c_9))], rfl, rfl⟩
end YT
