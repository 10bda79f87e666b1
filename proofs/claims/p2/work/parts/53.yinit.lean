/-! THE REFERENCE is made -/
/-- the reference while it is made: k arrays stand -/
def jI (cI cJ : ClassId) (w0 : jb_W) (sz0 y : Nat) (w : jb_W) (k : Nat) (fs : List Value) : Prop := w y = some (.inr (5, fs)) ∧ (∀ j, j < k → w (sz0 + j) = some (jY_c cI cJ 32 16 (fun _ _ => 0) (fun _ _ => 0) j)) ∧ ∀ a, a < sz0 → a ≠ y → w a = w0 a
/-- nothing yet -/
def jSt_0 : jSt := ((0, 0, (fun _ => ((0, 0, 0), (0, fun _ => 0), (0, 0, 0, 0), (0, 0))), 0), (0, fun _ => (0, 0, 0)))
/-- the fields of a reference that is only born -/
def jY_0 : List Value := [.int 0, .int 0, .int 0, .null, .null, .null, .null, .null, .null, .null, .null, .null, .null, .null, .null, .long 0, .int 0, .null, .null, .null, .int 0, .null, .null, .null, .null, .int 0, .null]
theorem jk_objY : Cond.methodLink "MeasuredTensorsModel" 1 objectInit ∈ jw_all := jw_in (by decide +kernel) (by decide +kernel)
theorem jk_objM : Cond.instanceMethod objectInit ∈ jw_all := jw_in (by decide +kernel) (by decide +kernel)
theorem jk_objC : Cond.code objectInit ⟨#[0xb1]⟩ 1 none ∈ jw_all := jw_in (by decide +kernel) (by decide +kernel)
theorem jfF_newSides : ∀ r, jcl[5]? = some r → (r.2.1 26).2.2.2 = true ∧ (r.2.1 26).1 = "MeasuredTensorsModel" := fun r h => by cases h; exact ⟨rfl, rfl⟩
section YI
variable {l : Launch} {R : Room} {nL : Nat} {D : va_G} {H0 : Heap} {cI cJ cT cX : ClassId} {u : jb_U} {cc : ByteArray} {w w0 : jb_W} {sz0 kc ks pc : Nat} {lv : List (Nat × Value)} {rest : List Value} {y : Nat} {fs : List Value}
theorem jI_new (C : ja_C (jb_mk l R nL "MeasuredTensorsModel" D H0 (jt_all cI cJ cT cX) u) cc) (k p idx : Nat) {Nn : Nat} (hk : ¬ (k = 9 ∨ k = 18)) (hF : ja_FP jcl "MeasuredTensorsModel" idx 5 p (.array .int)) (hnf : ∀ r, jcl[5]? = some r → (r.2.1 p).2.2.2 = false) (hd1 : decode cc pc = .ok (.newarray .int, 2)) (hd2 : decode cc (pc + 2) = .ok (.putfield idx, 3)) (hN : jY_len 32 16 k = Nn) (hb : Nn ≤ 1000) (hlen : p < fs.length) (fs2 : List Value) (hset : fs.set p (.ref (sz0 + k)) = fs2) (h : jI cI cJ w0 sz0 y w k fs) (hy : y < sz0) (kk : ∀ w', jI cI cJ w0 sz0 y w' (k + 1) fs2 → ja (jb_mk l R nL "MeasuredTensorsModel" D H0 (jt_all cI cJ cT cX) u) w' (sz0 + (k + 1)) kc ks (pc + 5) lv rest) : ja (jb_mk l R nL "MeasuredTensorsModel" D H0 (jt_all cI cJ cT cX) u) w (sz0 + k) (kc + 1) (ks + Nn) pc lv (.int (nI Nn) :: .ref y :: rest) := by
  subst hset
  obtain ⟨h1, h2, h3⟩ := h
  refine ja_newa (atype := .int) (ty := .int) C rfl jw_aI 0 rfl Nn (Nn, .inl (fun _ => 0)) (fun _ => rfl) (nI_pos (by omega)) (nI_clamp (by omega)) (by show Nn * 4 ≤ 536870912; omega) hd1 ?_
  refine ja_put C hF hnf hd2 ((va_up_ne _ _ (by omega)).trans h1) rfl rfl hlen ?_
  refine kk _ ⟨va_up_self _ _ _, fun j hj => ?_, fun a ha hn => ?_⟩
  · rw [va_up_ne _ _ (by omega)]
    by_cases e : j = k
    · subst e
      rw [va_up_self]
      unfold jY_c
      rw [if_neg hk, hN]
    · rw [va_up_ne _ _ (by omega)]
      exact h2 j (by omega)
  · rw [va_up_ne _ _ hn, va_up_ne _ _ (by omega)]
    exact h3 a ha hn
theorem jI_newL (C : ja_C (jb_mk l R nL "MeasuredTensorsModel" D H0 (jt_all cI cJ cT cX) u) cc) (k p idx : Nat) {Nn : Nat} (hk : k = 9 ∨ k = 18) (hF : ja_FP jcl "MeasuredTensorsModel" idx 5 p (.array .long)) (hnf : ∀ r, jcl[5]? = some r → (r.2.1 p).2.2.2 = false) (hd1 : decode cc pc = .ok (.newarray .long, 2)) (hd2 : decode cc (pc + 2) = .ok (.putfield idx, 3)) (hN : jY_len 32 16 k = Nn) (hb : Nn ≤ 1000) (hlen : p < fs.length) (fs2 : List Value) (hset : fs.set p (.ref (sz0 + k)) = fs2) (h : jI cI cJ w0 sz0 y w k fs) (hy : y < sz0) (kk : ∀ w', jI cI cJ w0 sz0 y w' (k + 1) fs2 → ja (jb_mk l R nL "MeasuredTensorsModel" D H0 (jt_all cI cJ cT cX) u) w' (sz0 + (k + 1)) kc ks (pc + 5) lv rest) : ja (jb_mk l R nL "MeasuredTensorsModel" D H0 (jt_all cI cJ cT cX) u) w (sz0 + k) (kc + 1) (ks + Nn) pc lv (.int (nI Nn) :: .ref y :: rest) := by
  subst hset
  obtain ⟨h1, h2, h3⟩ := h
  refine ja_newa (atype := .long) (ty := .long) C rfl jw_aJ 1 rfl Nn (Nn, .inr (.inl (fun _ => 0))) (fun _ => rfl) (nI_pos (by omega)) (nI_clamp (by omega)) (by show Nn * 8 ≤ 536870912; omega) hd1 ?_
  refine ja_put C hF hnf hd2 ((va_up_ne _ _ (by omega)).trans h1) rfl rfl hlen ?_
  refine kk _ ⟨va_up_self _ _ _, fun j hj => ?_, fun a ha hn => ?_⟩
  · rw [va_up_ne _ _ (by omega)]
    by_cases e : j = k
    · subst e
      rw [va_up_self]
      unfold jY_c
      rw [if_pos hk, hN]
    · rw [va_up_ne _ _ (by omega)]
      exact h2 j (by omega)
  · rw [va_up_ne _ _ hn, va_up_ne _ _ (by omega)]
    exact h3 a ha hn
theorem jI_newF (C : ja_C (jb_mk l R nL "MeasuredTensorsModel" D H0 (jt_all cI cJ cT cX) u) cc) (k p idx : Nat) {Nn : Nat} (hk : ¬ (k = 9 ∨ k = 18)) (hF : ja_FP jcl "MeasuredTensorsModel" idx 5 p (.array .int)) (hnf : ∀ r, jcl[5]? = some r → (r.2.1 p).2.2.2 = true ∧ (r.2.1 p).1 = "MeasuredTensorsModel") (hnm : u.2.1.2.2.2.1.name = "<init>") (hd1 : decode cc pc = .ok (.newarray .int, 2)) (hd2 : decode cc (pc + 2) = .ok (.putfield idx, 3)) (hN : jY_len 32 16 k = Nn) (hb : Nn ≤ 1000) (hlen : p < fs.length) (fs2 : List Value) (hset : fs.set p (.ref (sz0 + k)) = fs2) (h : jI cI cJ w0 sz0 y w k fs) (hy : y < sz0) (kk : ∀ w', jI cI cJ w0 sz0 y w' (k + 1) fs2 → ja (jb_mk l R nL "MeasuredTensorsModel" D H0 (jt_all cI cJ cT cX) u) w' (sz0 + (k + 1)) kc ks (pc + 5) lv rest) : ja (jb_mk l R nL "MeasuredTensorsModel" D H0 (jt_all cI cJ cT cX) u) w (sz0 + k) (kc + 1) (ks + Nn) pc lv (.int (nI Nn) :: .ref y :: rest) := by
  subst hset
  obtain ⟨h1, h2, h3⟩ := h
  refine ja_newa (atype := .int) (ty := .int) C rfl jw_aI 0 rfl Nn (Nn, .inl (fun _ => 0)) (fun _ => rfl) (nI_pos (by omega)) (nI_clamp (by omega)) (by show Nn * 4 ≤ 536870912; omega) hd1 ?_
  refine ja_putF C hF hnf hnm hd2 ((va_up_ne _ _ (by omega)).trans h1) rfl rfl hlen ?_
  refine kk _ ⟨va_up_self _ _ _, fun j hj => ?_, fun a ha hn => ?_⟩
  · rw [va_up_ne _ _ (by omega)]
    by_cases e : j = k
    · subst e
      rw [va_up_self]
      unfold jY_c
      rw [if_neg hk, hN]
    · rw [va_up_ne _ _ (by omega)]
      exact h2 j (by omega)
  · rw [va_up_ne _ _ hn, va_up_ne _ _ (by omega)]
    exact h3 a ha hn
theorem jI_put (C : ja_C (jb_mk l R nL "MeasuredTensorsModel" D H0 (jt_all cI cJ cT cX) u) cc) {k p idx sz1 : Nat} {ty : FieldType} {v : Value} (hF : ja_FP jcl "MeasuredTensorsModel" idx 5 p ty) (hnf : ∀ r, jcl[5]? = some r → (r.2.1 p).2.2.2 = false) (hd : decode cc pc = .ok (.putfield idx, 3)) (hn : narrow ty v = v) (hfit : fits ty v = true) (hlen : p < fs.length) (fs2 : List Value) (hset : fs.set p v = fs2) (h : jI cI cJ w0 sz0 y w k fs) (hy : y < sz0) (kk : ∀ w', jI cI cJ w0 sz0 y w' k fs2 → ja (jb_mk l R nL "MeasuredTensorsModel" D H0 (jt_all cI cJ cT cX) u) w' sz1 kc ks (pc + 3) lv rest) : ja (jb_mk l R nL "MeasuredTensorsModel" D H0 (jt_all cI cJ cT cX) u) w sz1 kc ks pc lv (v :: .ref y :: rest) := by
  subst hset
  exact ja_put C hF hnf hd h.1 hn hfit hlen (kk _ ⟨va_up_self _ _ _, fun j hj => (va_up_ne _ _ (by omega)).trans (h.2.1 j hj), fun a ha hn => (va_up_ne _ _ hn).trans (h.2.2 a ha hn)⟩)
end YI
section YJ
variable {l : Launch} {D : va_G} {H0 : Heap} {cI cJ cT cX : ClassId} {w : jb_W} {sz y : Nat}
theorem jy_init (hw : w y = some (.inr (5, jY_0))) (hy : y < sz) : jb_M l jy_Y_init jc_Y_init 1 none 1 20 20 660 D H0 (jt_all cI cJ cT cX) [.ref y] w sz (fun v w' sz' => v = none ∧ (∃ (A : Nat → Nat) (s : Nat → Int32) (V : Nat → Nat → Int32) (VL : Nat → Nat → Int64), jM cI cJ w' y A 32 16 s V VL jSt_0 ∧ (∀ k, k < 20 → sz ≤ A k)) ∧ (∀ a, a < sz → a ≠ y → w' a = w a) ∧ sz' = sz + 20) := by
  refine jb_meth_v (by decide) (Nat.le_of_ble_eq_true rfl) (fun u C X hnm E => ?_)
  refine ja_aload_n C jd_Y_init_0 0 rfl ?_
  refine jb_objInit C jk_objY jk_objM jk_objC jd_Y_init_1 ⟨by decide, by decide⟩ (Nat.le_of_ble_eq_true rfl) ?_
  have i0 : jI cI cJ w sz y w 0 jY_0 := ⟨hw, fun j hj => absurd hj (Nat.not_lt_zero j), fun _ _ _ => rfl⟩
  refine ja_aload_n C jd_Y_init_4 0 rfl ?_
  refine ja_bipush C (nI 32) jd_Y_init_5 (by decide) ?_
  refine jI_new (kc := 19) (ks := 628) C 0 3 _ (by decide) jfp_op jfn_op jd_Y_init_7 jd_Y_init_9 rfl (by decide) (Nat.le_of_ble_eq_true rfl) [.int 0, .int 0, .int 0, .ref (sz + 0), .null, .null, .null, .null, .null, .null, .null, .null, .null, .null, .null, .long 0, .int 0, .null, .null, .null, .int 0, .null, .null, .null, .null, .int 0, .null] rfl i0 hy (fun w1 i1 => ?_)
  refine ja_aload_n C jd_Y_init_12 0 rfl ?_
  refine ja_bipush C (nI 32) jd_Y_init_13 (by decide) ?_
  refine jI_new (kc := 18) (ks := 596) C 1 4 _ (by decide) jfp_one jfn_one jd_Y_init_15 jd_Y_init_17 rfl (by decide) (Nat.le_of_ble_eq_true rfl) [.int 0, .int 0, .int 0, .ref (sz + 0), .ref (sz + 1), .null, .null, .null, .null, .null, .null, .null, .null, .null, .null, .long 0, .int 0, .null, .null, .null, .int 0, .null, .null, .null, .null, .int 0, .null] rfl i1 hy (fun w2 i2 => ?_)
  refine ja_aload_n C jd_Y_init_20 0 rfl ?_
  refine ja_bipush C (nI 32) jd_Y_init_21 (by decide) ?_
  refine jI_new (kc := 17) (ks := 564) C 2 5 _ (by decide) jfp_two jfn_two jd_Y_init_23 jd_Y_init_25 rfl (by decide) (Nat.le_of_ble_eq_true rfl) [.int 0, .int 0, .int 0, .ref (sz + 0), .ref (sz + 1), .ref (sz + 2), .null, .null, .null, .null, .null, .null, .null, .null, .null, .long 0, .int 0, .null, .null, .null, .int 0, .null, .null, .null, .null, .int 0, .null] rfl i2 hy (fun w3 i3 => ?_)
  refine ja_aload_n C jd_Y_init_28 0 rfl ?_
  refine ja_bipush C (nI 32) jd_Y_init_29 (by decide) ?_
  refine jI_new (kc := 16) (ks := 532) C 3 6 _ (by decide) jfp_rank jfn_rank jd_Y_init_31 jd_Y_init_33 rfl (by decide) (Nat.le_of_ble_eq_true rfl) [.int 0, .int 0, .int 0, .ref (sz + 0), .ref (sz + 1), .ref (sz + 2), .ref (sz + 3), .null, .null, .null, .null, .null, .null, .null, .null, .long 0, .int 0, .null, .null, .null, .int 0, .null, .null, .null, .null, .int 0, .null] rfl i3 hy (fun w4 i4 => ?_)
  refine ja_aload_n C jd_Y_init_36 0 rfl ?_
  refine ja_sipush C (nI 128) jd_Y_init_37 (by decide) ?_
  refine jI_new (kc := 15) (ks := 404) C 4 7 _ (by decide) jfp_sides jfn_sides jd_Y_init_40 jd_Y_init_42 rfl (by decide) (Nat.le_of_ble_eq_true rfl) [.int 0, .int 0, .int 0, .ref (sz + 0), .ref (sz + 1), .ref (sz + 2), .ref (sz + 3), .ref (sz + 4), .null, .null, .null, .null, .null, .null, .null, .long 0, .int 0, .null, .null, .null, .int 0, .null, .null, .null, .null, .int 0, .null] rfl i4 hy (fun w5 i5 => ?_)
  refine ja_aload_n C jd_Y_init_45 0 rfl ?_
  refine ja_bipush C (nI 32) jd_Y_init_46 (by decide) ?_
  refine jI_new (kc := 14) (ks := 372) C 5 8 _ (by decide) jfp_cells jfn_cells jd_Y_init_48 jd_Y_init_50 rfl (by decide) (Nat.le_of_ble_eq_true rfl) [.int 0, .int 0, .int 0, .ref (sz + 0), .ref (sz + 1), .ref (sz + 2), .ref (sz + 3), .ref (sz + 4), .ref (sz + 5), .null, .null, .null, .null, .null, .null, .long 0, .int 0, .null, .null, .null, .int 0, .null, .null, .null, .null, .int 0, .null] rfl i5 hy (fun w6 i6 => ?_)
  refine ja_aload_n C jd_Y_init_53 0 rfl ?_
  refine ja_bipush C (nI 32) jd_Y_init_54 (by decide) ?_
  refine jI_new (kc := 13) (ks := 340) C 6 9 _ (by decide) jfp_terms jfn_terms jd_Y_init_56 jd_Y_init_58 rfl (by decide) (Nat.le_of_ble_eq_true rfl) [.int 0, .int 0, .int 0, .ref (sz + 0), .ref (sz + 1), .ref (sz + 2), .ref (sz + 3), .ref (sz + 4), .ref (sz + 5), .ref (sz + 6), .null, .null, .null, .null, .null, .long 0, .int 0, .null, .null, .null, .int 0, .null, .null, .null, .null, .int 0, .null] rfl i6 hy (fun w7 i7 => ?_)
  refine ja_aload_n C jd_Y_init_61 0 rfl ?_
  refine ja_bipush C (nI 32) jd_Y_init_62 (by decide) ?_
  refine jI_new (kc := 12) (ks := 308) C 7 10 _ (by decide) jfp_range jfn_range jd_Y_init_64 jd_Y_init_66 rfl (by decide) (Nat.le_of_ble_eq_true rfl) [.int 0, .int 0, .int 0, .ref (sz + 0), .ref (sz + 1), .ref (sz + 2), .ref (sz + 3), .ref (sz + 4), .ref (sz + 5), .ref (sz + 6), .ref (sz + 7), .null, .null, .null, .null, .long 0, .int 0, .null, .null, .null, .int 0, .null, .null, .null, .null, .int 0, .null] rfl i7 hy (fun w8 i8 => ?_)
  refine ja_aload_n C jd_Y_init_69 0 rfl ?_
  refine ja_bipush C (nI 32) jd_Y_init_70 (by decide) ?_
  refine jI_new (kc := 11) (ks := 276) C 8 11 _ (by decide) jfp_depth jfn_depth jd_Y_init_72 jd_Y_init_74 rfl (by decide) (Nat.le_of_ble_eq_true rfl) [.int 0, .int 0, .int 0, .ref (sz + 0), .ref (sz + 1), .ref (sz + 2), .ref (sz + 3), .ref (sz + 4), .ref (sz + 5), .ref (sz + 6), .ref (sz + 7), .ref (sz + 8), .null, .null, .null, .long 0, .int 0, .null, .null, .null, .int 0, .null, .null, .null, .null, .int 0, .null] rfl i8 hy (fun w9 i9 => ?_)
  refine ja_aload_n C jd_Y_init_77 0 rfl ?_
  refine ja_bipush C (nI 32) jd_Y_init_78 (by decide) ?_
  refine jI_newL (kc := 10) (ks := 244) C 9 12 _ (by decide) jfp_odd jfn_odd jd_Y_init_80 jd_Y_init_82 rfl (by decide) (Nat.le_of_ble_eq_true rfl) [.int 0, .int 0, .int 0, .ref (sz + 0), .ref (sz + 1), .ref (sz + 2), .ref (sz + 3), .ref (sz + 4), .ref (sz + 5), .ref (sz + 6), .ref (sz + 7), .ref (sz + 8), .ref (sz + 9), .null, .null, .long 0, .int 0, .null, .null, .null, .int 0, .null, .null, .null, .null, .int 0, .null] rfl i9 hy (fun w10 i10 => ?_)
  refine ja_aload_n C jd_Y_init_85 0 rfl ?_
  refine ja_bipush C (nI 32) jd_Y_init_86 (by decide) ?_
  refine jI_new (kc := 9) (ks := 212) C 10 13 _ (by decide) jfp_upper jfn_upper jd_Y_init_88 jd_Y_init_90 rfl (by decide) (Nat.le_of_ble_eq_true rfl) [.int 0, .int 0, .int 0, .ref (sz + 0), .ref (sz + 1), .ref (sz + 2), .ref (sz + 3), .ref (sz + 4), .ref (sz + 5), .ref (sz + 6), .ref (sz + 7), .ref (sz + 8), .ref (sz + 9), .ref (sz + 10), .null, .long 0, .int 0, .null, .null, .null, .int 0, .null, .null, .null, .null, .int 0, .null] rfl i10 hy (fun w11 i11 => ?_)
  refine ja_aload_n C jd_Y_init_93 0 rfl ?_
  refine ja_bipush C (nI 32) jd_Y_init_94 (by decide) ?_
  refine jI_new (kc := 8) (ks := 180) C 11 14 _ (by decide) jfp_lower jfn_lower jd_Y_init_96 jd_Y_init_98 rfl (by decide) (Nat.le_of_ble_eq_true rfl) [.int 0, .int 0, .int 0, .ref (sz + 0), .ref (sz + 1), .ref (sz + 2), .ref (sz + 3), .ref (sz + 4), .ref (sz + 5), .ref (sz + 6), .ref (sz + 7), .ref (sz + 8), .ref (sz + 9), .ref (sz + 10), .ref (sz + 11), .long 0, .int 0, .null, .null, .null, .int 0, .null, .null, .null, .null, .int 0, .null] rfl i11 hy (fun w12 i12 => ?_)
  refine ja_aload_n C jd_Y_init_101 0 rfl ?_
  refine ja_bipush C (nI 16) jd_Y_init_102 (by decide) ?_
  refine jI_new (kc := 7) (ks := 164) C 12 17 _ (by decide) jfp_indexRank jfn_indexRank jd_Y_init_104 jd_Y_init_106 rfl (by decide) (Nat.le_of_ble_eq_true rfl) [.int 0, .int 0, .int 0, .ref (sz + 0), .ref (sz + 1), .ref (sz + 2), .ref (sz + 3), .ref (sz + 4), .ref (sz + 5), .ref (sz + 6), .ref (sz + 7), .ref (sz + 8), .ref (sz + 9), .ref (sz + 10), .ref (sz + 11), .long 0, .int 0, .ref (sz + 12), .null, .null, .int 0, .null, .null, .null, .null, .int 0, .null] rfl i12 hy (fun w13 i13 => ?_)
  refine ja_aload_n C jd_Y_init_109 0 rfl ?_
  refine ja_bipush C (nI 16) jd_Y_init_110 (by decide) ?_
  refine jI_new (kc := 6) (ks := 148) C 13 18 _ (by decide) jfp_indexSide jfn_indexSide jd_Y_init_112 jd_Y_init_114 rfl (by decide) (Nat.le_of_ble_eq_true rfl) [.int 0, .int 0, .int 0, .ref (sz + 0), .ref (sz + 1), .ref (sz + 2), .ref (sz + 3), .ref (sz + 4), .ref (sz + 5), .ref (sz + 6), .ref (sz + 7), .ref (sz + 8), .ref (sz + 9), .ref (sz + 10), .ref (sz + 11), .long 0, .int 0, .ref (sz + 12), .ref (sz + 13), .null, .int 0, .null, .null, .null, .null, .int 0, .null] rfl i13 hy (fun w14 i14 => ?_)
  refine ja_aload_n C jd_Y_init_117 0 rfl ?_
  refine ja_bipush C (nI 16) jd_Y_init_118 (by decide) ?_
  refine jI_new (kc := 5) (ks := 132) C 14 19 _ (by decide) jfp_below jfn_below jd_Y_init_120 jd_Y_init_122 rfl (by decide) (Nat.le_of_ble_eq_true rfl) [.int 0, .int 0, .int 0, .ref (sz + 0), .ref (sz + 1), .ref (sz + 2), .ref (sz + 3), .ref (sz + 4), .ref (sz + 5), .ref (sz + 6), .ref (sz + 7), .ref (sz + 8), .ref (sz + 9), .ref (sz + 10), .ref (sz + 11), .long 0, .int 0, .ref (sz + 12), .ref (sz + 13), .ref (sz + 14), .int 0, .null, .null, .null, .null, .int 0, .null] rfl i14 hy (fun w15 i15 => ?_)
  refine ja_aload_n C jd_Y_init_125 0 rfl ?_
  refine ja_iconst C (-1) jd_Y_init_126 (by decide) ?_
  refine jI_put C jfp_loss jfn_loss jd_Y_init_127 rfl rfl (Nat.le_of_ble_eq_true rfl) [.int 0, .int 0, .int 0, .ref (sz + 0), .ref (sz + 1), .ref (sz + 2), .ref (sz + 3), .ref (sz + 4), .ref (sz + 5), .ref (sz + 6), .ref (sz + 7), .ref (sz + 8), .ref (sz + 9), .ref (sz + 10), .ref (sz + 11), .long 0, .int 0, .ref (sz + 12), .ref (sz + 13), .ref (sz + 14), .int (-1), .null, .null, .null, .null, .int 0, .null] rfl i15 hy (fun w15b i15' => ?_)
  refine ja_aload_n C jd_Y_init_130 0 rfl ?_
  refine ja_bipush C (nI 32) jd_Y_init_131 (by decide) ?_
  refine jI_new (kc := 4) (ks := 100) C 15 21 _ (by decide) jfp_uses jfn_uses jd_Y_init_133 jd_Y_init_135 rfl (by decide) (Nat.le_of_ble_eq_true rfl) [.int 0, .int 0, .int 0, .ref (sz + 0), .ref (sz + 1), .ref (sz + 2), .ref (sz + 3), .ref (sz + 4), .ref (sz + 5), .ref (sz + 6), .ref (sz + 7), .ref (sz + 8), .ref (sz + 9), .ref (sz + 10), .ref (sz + 11), .long 0, .int 0, .ref (sz + 12), .ref (sz + 13), .ref (sz + 14), .int (-1), .ref (sz + 15), .null, .null, .null, .int 0, .null] rfl i15' hy (fun w16 i16 => ?_)
  refine ja_aload_n C jd_Y_init_138 0 rfl ?_
  refine ja_bipush C (nI 32) jd_Y_init_139 (by decide) ?_
  refine jI_new (kc := 3) (ks := 68) C 16 22 _ (by decide) jfp_slopeRange jfn_slopeRange jd_Y_init_141 jd_Y_init_143 rfl (by decide) (Nat.le_of_ble_eq_true rfl) [.int 0, .int 0, .int 0, .ref (sz + 0), .ref (sz + 1), .ref (sz + 2), .ref (sz + 3), .ref (sz + 4), .ref (sz + 5), .ref (sz + 6), .ref (sz + 7), .ref (sz + 8), .ref (sz + 9), .ref (sz + 10), .ref (sz + 11), .long 0, .int 0, .ref (sz + 12), .ref (sz + 13), .ref (sz + 14), .int (-1), .ref (sz + 15), .ref (sz + 16), .null, .null, .int 0, .null] rfl i16 hy (fun w17 i17 => ?_)
  refine ja_aload_n C jd_Y_init_146 0 rfl ?_
  refine ja_bipush C (nI 32) jd_Y_init_147 (by decide) ?_
  refine jI_new (kc := 2) (ks := 36) C 17 23 _ (by decide) jfp_slopeDepth jfn_slopeDepth jd_Y_init_149 jd_Y_init_151 rfl (by decide) (Nat.le_of_ble_eq_true rfl) [.int 0, .int 0, .int 0, .ref (sz + 0), .ref (sz + 1), .ref (sz + 2), .ref (sz + 3), .ref (sz + 4), .ref (sz + 5), .ref (sz + 6), .ref (sz + 7), .ref (sz + 8), .ref (sz + 9), .ref (sz + 10), .ref (sz + 11), .long 0, .int 0, .ref (sz + 12), .ref (sz + 13), .ref (sz + 14), .int (-1), .ref (sz + 15), .ref (sz + 16), .ref (sz + 17), .null, .int 0, .null] rfl i17 hy (fun w18 i18 => ?_)
  refine ja_aload_n C jd_Y_init_154 0 rfl ?_
  refine ja_bipush C (nI 32) jd_Y_init_155 (by decide) ?_
  refine jI_newL (kc := 1) (ks := 4) C 18 24 _ (by decide) jfp_slopeOdd jfn_slopeOdd jd_Y_init_157 jd_Y_init_159 rfl (by decide) (Nat.le_of_ble_eq_true rfl) [.int 0, .int 0, .int 0, .ref (sz + 0), .ref (sz + 1), .ref (sz + 2), .ref (sz + 3), .ref (sz + 4), .ref (sz + 5), .ref (sz + 6), .ref (sz + 7), .ref (sz + 8), .ref (sz + 9), .ref (sz + 10), .ref (sz + 11), .long 0, .int 0, .ref (sz + 12), .ref (sz + 13), .ref (sz + 14), .int (-1), .ref (sz + 15), .ref (sz + 16), .ref (sz + 17), .ref (sz + 18), .int 0, .null] rfl i18 hy (fun w19 i19 => ?_)
  refine ja_aload_n C jd_Y_init_162 0 rfl ?_
  refine ja_iconst C (nI 4) jd_Y_init_163 (by decide) ?_
  refine jI_newF (kc := 0) (ks := 0) C 19 26 _ (by decide) jfp_newSides jfF_newSides hnm jd_Y_init_164 jd_Y_init_166 rfl (by decide) (Nat.le_of_ble_eq_true rfl) [.int 0, .int 0, .int 0, .ref (sz + 0), .ref (sz + 1), .ref (sz + 2), .ref (sz + 3), .ref (sz + 4), .ref (sz + 5), .ref (sz + 6), .ref (sz + 7), .ref (sz + 8), .ref (sz + 9), .ref (sz + 10), .ref (sz + 11), .long 0, .int 0, .ref (sz + 12), .ref (sz + 13), .ref (sz + 14), .int (-1), .ref (sz + 15), .ref (sz + 16), .ref (sz + 17), .ref (sz + 18), .int 0, .ref (sz + 19)] rfl i19 hy (fun w20 i20 => ?_)
  refine E jd_Y_init_169 ⟨rfl, ⟨fun k => sz + k, fun k => if k = 4 then -1 else 0, fun _ _ => 0, fun _ _ => 0, ⟨⟨i20.1, fun k hk => i20.2.1 k hk, fun i j _ _ e => Nat.add_left_cancel e⟩, rfl, by decide, rfl, by decide, Or.inl rfl, by decide, rfl, by decide, Or.inl rfl, by decide, fun t ht => absurd ht (Nat.not_lt_zero t), fun t ht => absurd ht (Nat.not_lt_zero t)⟩, fun k hk => Nat.le_add_right _ _⟩, i20.2.2, rfl⟩
end YJ
