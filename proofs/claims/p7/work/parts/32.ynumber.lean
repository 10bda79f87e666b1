/-! THE REFERENCE: number, made, turned -/
theorem jl_log_le {m : Nat} (h : m ≤ 2 ^ 40) : jl_log m ≤ 41 := by
  unfold jl_log
  split
  · omega
  · have : (m - 1).log2 < 41 := (Nat.log2_lt (by omega)).mpr (by omega)
    omega
theorem jl_twos_le : ∀ f m, jl_twos f m ≤ f
  | 0, _ => Nat.le_refl 0
  | f + 1, m => by
    rw [jl_twos]
    split
    · have := jl_twos_le f (m / 2); omega
    · omega
theorem jl_odd_le : ∀ f m, jl_odd f m ≤ m
  | 0, m => Nat.le_refl m
  | f + 1, m => by
    rw [jl_odd]
    split
    · have := jl_odd_le f (m / 2); omega
    · exact Nat.le_refl m
theorem jk_isLeast : jb_KV "MeasuredTensorsModel" 135 jy_Y_isLeast jc_Y_isLeast 3 (some .boolean) 2 := ⟨jw_in (by decide +kernel) (by decide +kernel), jw_in (by decide +kernel) (by decide +kernel), jw_in (by decide +kernel) (by decide +kernel), jw_in (by decide +kernel) (by decide +kernel), jw_in (by decide +kernel) (by decide +kernel), by decide +kernel⟩
theorem jk_take : jb_KV "MeasuredTensorsModel" 150 jy_Y_take jc_Y_take 8 (some .boolean) 5 := ⟨jw_in (by decide +kernel) (by decide +kernel), jw_in (by decide +kernel) (by decide +kernel), jw_in (by decide +kernel) (by decide +kernel), jw_in (by decide +kernel) (by decide +kernel), jw_in (by decide +kernel) (by decide +kernel), by decide +kernel⟩
theorem jk_noTensor : jb_KV "MeasuredTensorsModel" 161 jy_Y_noTensor jc_Y_noTensor 2 (some .boolean) 1 := ⟨jw_in (by decide +kernel) (by decide +kernel), jw_in (by decide +kernel) (by decide +kernel), jw_in (by decide +kernel) (by decide +kernel), jw_in (by decide +kernel) (by decide +kernel), jw_in (by decide +kernel) (by decide +kernel), by decide +kernel⟩
theorem jk_shapeOf : jb_KV "MeasuredTensorsModel" 171 jy_Y_shapeOf jc_Y_shapeOf 3 none 1 := ⟨jw_in (by decide +kernel) (by decide +kernel), jw_in (by decide +kernel) (by decide +kernel), jw_in (by decide +kernel) (by decide +kernel), jw_in (by decide +kernel) (by decide +kernel), jw_in (by decide +kernel) (by decide +kernel), by decide +kernel⟩
theorem jk_makeLike : jb_KV "MeasuredTensorsModel" 183 jy_Y_makeLike jc_Y_makeLike 3 (some .int) 2 := ⟨jw_in (by decide +kernel) (by decide +kernel), jw_in (by decide +kernel) (by decide +kernel), jw_in (by decide +kernel) (by decide +kernel), jw_in (by decide +kernel) (by decide +kernel), jw_in (by decide +kernel) (by decide +kernel), by decide +kernel⟩
theorem jk_log : jb_KS "MeasuredTensorsModel" 139 jy_Y_log jc_Y_log 5 (some .int) 1 := ⟨jw_in (by decide +kernel) (by decide +kernel), jw_in (by decide +kernel) (by decide +kernel), jw_in (by decide +kernel) (by decide +kernel), jw_in (by decide +kernel) (by decide +kernel), by decide +kernel⟩
theorem jk_twos : jb_KS "MeasuredTensorsModel" 143 jy_Y_twos jc_Y_twos 5 (some .int) 1 := ⟨jw_in (by decide +kernel) (by decide +kernel), jw_in (by decide +kernel) (by decide +kernel), jw_in (by decide +kernel) (by decide +kernel), jw_in (by decide +kernel) (by decide +kernel), by decide +kernel⟩
theorem jk_oddPart : jb_KS "MeasuredTensorsModel" 146 jy_Y_oddPart jc_Y_oddPart 4 (some .long) 1 := ⟨jw_in (by decide +kernel) (by decide +kernel), jw_in (by decide +kernel) (by decide +kernel), jw_in (by decide +kernel) (by decide +kernel), jw_in (by decide +kernel) (by decide +kernel), by decide +kernel⟩
theorem jk_15 : Cond.constantLong "MeasuredTensorsModel" 154 15 ∈ jw_all := jw_in (by decide +kernel) (by decide +kernel)
theorem jk_16 : Cond.constantLong "MeasuredTensorsModel" 156 16 ∈ jw_all := jw_in (by decide +kernel) (by decide +kernel)
/-- number: refused, or a making -/
def jA_number (σ : jSt) (u l : Int32) (x th : Int32) (σ' : jSt) : Prop :=
  ((u < 0 ∨ l < 1 ∨ ¬ Nat.gcd u.toNatClampNeg l.toNatClampNeg = 1) → th = 1 ∧ σ' = σ) ∧ (¬ (u < 0 ∨ l < 1 ∨ ¬ Nat.gcd u.toNatClampNeg l.toNatClampNeg = 1) → th = 0 ∧ jA σ (fun _ => 1) 0 30 (-1) (-1) 1 (jl_log (u.toNatClampNeg + 1)) (jl_twos 40 l.toNatClampNeg) (jl_odd 40 l.toNatClampNeg) x σ')
/-- turned: refused, or a making -/
def jA_turned (σ : jSt) (a : Int32) (x th : Int32) (σ' : jSt) : Prop :=
  ((a < 0 ∨ nI (jSt_c σ) ≤ a) → th = 1 ∧ σ' = σ) ∧ (∀ t, t < jSt_c σ → a = nI t → th = 0 ∧ jA σ (jT_S (jSt_T σ t)) (jT_k (jSt_T σ t)) 50 a (-1) 1 (jT_r (jSt_T σ t)) (jT_e (jSt_T σ t)) (jT_q (jSt_T σ t)) x σ')
section YE
variable {l : Launch} {D : va_G} {H0 : Heap} {cI cJ cT cX : ClassId} {w w' w1 : jb_W} {sz sz' : Nat}
variable {y : Nat} {A : Nat → Nat} {n n2 : Nat} {s s' : Nat → Int32} {V V' : Nat → Nat → Int32} {VL : Nat → Nat → Int64} {σ σ' : jSt} {th : Int32}
/-- the refusal's code and the sides under way aren't of the state -/
theorem jM.sc (h : jM cI cJ w y A n n2 s V VL σ) (h' : jY cI cJ w' y A n n2 s' V' VL (lN (jSt_w σ))) (h1 : s' 1 = s 1) (h2 : s' 2 = s 2) (h3 : s' 3 = s 3) (hV : ∀ k, k ≠ 19 → V' k = V k) : jM cI cJ w' y A n n2 s' V' VL σ := by
  obtain ⟨-, p1, p2, p3, p4, p5, p6, p7, p8, p9, p10, pT, pI⟩ := h
  refine ⟨h', h1.trans p1, p2, h2.trans p3, p4, p5, p6, h3.trans p7, p8, p9, p10, fun t ht => ⟨(pT t ht).1, ?_⟩, fun i hi => ?_⟩
  · have := (pT t ht).2
    unfold jT_row at this ⊢
    rw [hV 0 (by decide), hV 1 (by decide), hV 2 (by decide), hV 3 (by decide), hV 4 (by decide), hV 5 (by decide), hV 6 (by decide), hV 7 (by decide), hV 8 (by decide), hV 10 (by decide), hV 11 (by decide)]
    exact this
  · rw [hV 12 (by decide), hV 13 (by decide), hV 14 (by decide)]
    exact pI i hi
theorem jP.from (r : jR y A w w1) (p : jP cI cJ y A w1 sz σ' th w' sz') : jP cI cJ y A w sz σ' th w' sz' := by
  obtain ⟨A', n', n2', s', V', VL', q1, q2, q3, q4, q5⟩ := p
  exact ⟨A', n', n2', s', V', VL', q1, q2, fun a x ha hx h0 hk => q3 a x ha (r a x hx h0 hk) h0 hk, q4, q5⟩
theorem jP.of (h : jM cI cJ w' y A n n2 s V VL σ) (r : jR y A w w') : jP cI cJ y A w sz σ (s 0) w' sz := ⟨A, n, n2, s, V, VL, h, rfl, fun a x _ hx h0 hk => r a x hx h0 hk, fun _ _ => Or.inl rfl, Nat.le_refl _⟩
theorem jl_clamp {x : Int32} (h : ¬ x < 0) : ∃ m : Nat, m < 2 ^ 31 ∧ x = nI m ∧ x.toNatClampNeg = m := by
  obtain ⟨m, h1, h2⟩ := nI_of h
  exact ⟨m, h1, h2, by rw [h2]; exact nI_clamp h1⟩
theorem jy_number {p q : Int32} (h : jM cI cJ w y A n n2 s V VL σ) (hct : jSt_c σ < 512) : jb_M l jy_Y_number jc_Y_number 3 (some .int) 4 144 16 9728 D H0 (jt_all cI cJ cT cX) [.ref y, .int p, .int q] w sz
    (fun v w' sz' => ∃ (x th : Int32) (σ' : jSt), v = some (.int x) ∧ jA_number σ p q x th σ' ∧ jP cI cJ y A w sz σ' th w' sz') := by
  refine jb_meth_i (by decide) (Nat.le_of_ble_eq_true rfl) (fun u C X E => ?_)
  have hY := h.1
  have bad : (p < 0 ∨ q < 1 ∨ ¬ Nat.gcd p.toNatClampNeg q.toNatClampNeg = 1) → ja (jb_mk l (jb_rm 4 144 16 9728) 3 "MeasuredTensorsModel" D H0 (jt_all cI cJ cT cX) u) w sz 16 9728 19 (lv_args 0 [.ref y, .int p, .int q]) [.ref y] := fun hb => by
    refine ja_iconst C 1 jd_Y_number_19 (by decide) ?_
    refine ja_goto C 24 jd_Y_number_20 (by decide) ?_
    refine jY_put (s' := upd s 0 1) (wk' := lN (jSt_w σ)) C jfp_thrown jfn_thrown jd_Y_number_24 hY rfl rfl (by decide) rfl (fun w1 h1 r1 => ?_)
    refine ja_aload_n C jd_Y_number_27 0 rfl ?_
    refine ja_get C jfl_thrown jd_Y_number_28 h1.1 rfl ?_
    refine ja_if_le C 36 jd_Y_number_31 (by decide) (fun c => absurd c (by rw [pk_us]; decide)) (fun c => ?_)
    refine ja_iconst C 0 jd_Y_number_34 (by decide) ?_
    exact E jd_Y_number_35 ⟨0, 1, σ, rfl, ⟨fun _ => ⟨rfl, rfl⟩, fun z => absurd hb z⟩, jP.of (h.sc h1 rfl rfl rfl (fun _ _ => rfl)) r1⟩
  refine ja_aload_n C jd_Y_number_0 0 rfl ?_
  refine ja_iload_n C jd_Y_number_1 1 rfl ?_
  refine ja_if_lt C 19 jd_Y_number_2 (by decide) (fun c2 => bad (Or.inl c2)) (fun c2 => ?_)
  refine ja_iload_n C jd_Y_number_5 2 rfl ?_
  refine ja_iconst C 1 jd_Y_number_6 (by decide) ?_
  refine ja_icmp_lt C 19 jd_Y_number_7 (by decide) (fun c7 => bad (Or.inr (Or.inl c7))) (fun c7 => ?_)
  have hq0 : ¬ q < 0 := fun z => c7 (Int32.lt_iff_toInt_lt.mpr (Int.lt_trans (Int32.lt_iff_toInt_lt.mp z) (by decide)))
  obtain ⟨a, ha, hpa, hpc⟩ := jl_clamp c2
  obtain ⟨b, hb, hqb, hqc⟩ := jl_clamp hq0
  have hb1 : 1 ≤ b := by
    rcases Nat.eq_zero_or_pos b with z | z
    · exact absurd (by rw [hqb, z]; decide) c7
    · exact z
  refine ja_aload_n C jd_Y_number_10 0 rfl ?_
  refine ja_iload_n C jd_Y_number_11 1 rfl ?_
  refine ja_iload_n C jd_Y_number_12 2 rfl ?_
  rw [hpa, hqb]
  refine jb_callV (kc := 16) (ks := 9728) (mc := 0) (ms := 0) (As := [.int (nI a), .int (nI b)]) (rest := [.ref y]) C X jk_isLeast hY.1 rfl (jy_isLeast (l := l) (D := D) (H0 := H0) (cI := cI) (cJ := cJ) (cT := cT) (cX := cX) (w := w) (sz := sz) ha hb) jd_Y_number_13 rfl rfl ⟨by decide, by decide⟩ (Nat.le_of_ble_eq_true rfl) (fun v w' sz' hp => ?_)
  obtain ⟨e1, e2, e3⟩ := hp
  rw [e1, e2, e3]
  show ja (jb_mk l (jb_rm 4 144 16 9728) 3 "MeasuredTensorsModel" D H0 (jt_all cI cJ cT cX) u) w sz 16 9728 16 _ [.int _, .ref y]
  have bad2 : ¬ Nat.gcd a b = 1 → ja (jb_mk l (jb_rm 4 144 16 9728) 3 "MeasuredTensorsModel" D H0 (jt_all cI cJ cT cX) u) w sz 16 9728 19 (lv_args 0 [.ref y, .int (nI a), .int (nI b)]) [.ref y] := fun z => by
    have := bad (Or.inr (Or.inr (by rw [hpc, hqc]; exact z)))
    rw [hpa, hqb] at this
    exact this
  refine ja_if_ne C 23 jd_Y_number_16 (by decide) (fun c16 => ?_) (fun c16 => bad2 (fun z => by rw [if_pos z] at c16; exact absurd c16 (by decide)))
  have hg : Nat.gcd a b = 1 := by
    rcases Classical.em (Nat.gcd a b = 1) with z | z
    · exact z
    · rw [if_neg z] at c16; exact absurd rfl c16
  have good : ¬ (p < 0 ∨ q < 1 ∨ ¬ Nat.gcd p.toNatClampNeg q.toNatClampNeg = 1) := fun z => z.elim c2 (fun z => z.elim c7 (fun z => z (by rw [hpc, hqc]; exact hg)))
  refine ja_iconst C 0 jd_Y_number_23 (by decide) ?_
  refine jY_put (s' := upd s 0 0) (wk' := lN (jSt_w σ)) C jfp_thrown jfn_thrown jd_Y_number_24 hY rfl rfl (by decide) rfl (fun w1 h1 r1 => ?_)
  refine ja_aload_n C jd_Y_number_27 0 rfl ?_
  refine ja_get C jfl_thrown jd_Y_number_28 h1.1 rfl ?_
  refine ja_if_le C 36 jd_Y_number_31 (by decide) (fun c => ?_) (fun c => absurd (by rw [pk_us]; decide) c)
  refine ja_aload_n C jd_Y_number_36 0 rfl ?_
  refine ja_iconst C 0 jd_Y_number_37 (by decide) ?_
  refine jY_put (s' := upd (upd s 0 0) 5 0) (wk' := lN (jSt_w σ)) C jfp_newRank jfn_newRank jd_Y_number_38 h1 rfl rfl (by decide) rfl (fun w2 h2 r2 => ?_)
  refine ja_aload_n C jd_Y_number_41 0 rfl ?_
  refine ja_bipush C 30 jd_Y_number_42 (by decide) ?_
  refine ja_iconst C (-1) jd_Y_number_44 (by decide) ?_
  refine ja_iconst C (-1) jd_Y_number_45 (by decide) ?_
  refine ja_iload_n C jd_Y_number_46 1 rfl ?_
  refine ja_i2l C jd_Y_number_47 ?_
  refine ja_lconst C 1 jd_Y_number_48 (by decide) ?_
  refine ja_ladd C jd_Y_number_49 ?_
  rw [nI_l ha, lN_1]
  refine jb_callS (kc := 16) (ks := 9728) (mc := 0) (ms := 0) (As := [.long (lN (a + 1))]) (rest := [.int (-1), .int (-1), .int 30, .ref y]) C X jk_log (jy_log (l := l) (D := D) (H0 := H0) (tys := jt_all cI cJ cT cX) (w := w2) (sz := sz) (show a + 1 ≤ 2 ^ 40 by omega)) jd_Y_number_50 rfl rfl ⟨by decide, by decide⟩ (Nat.le_of_ble_eq_true rfl) (fun v w' sz' hp => ?_)
  obtain ⟨e1, e2, e3⟩ := hp
  rw [e1, e2, e3]
  have hlg := jl_log_le (show a + 1 ≤ 2 ^ 40 by omega)
  have htw := jl_twos_le 40 b
  have hod := jl_odd_le 40 b
  show ja (jb_mk l (jb_rm 4 144 16 9728) 3 "MeasuredTensorsModel" D H0 (jt_all cI cJ cT cX) u) w2 sz 16 9728 53 _ [.int (nI (jl_log (a + 1))), .int (-1), .int (-1), .int 30, .ref y]
  refine ja_i2l C jd_Y_number_53 ?_
  refine ja_iload_n C jd_Y_number_54 2 rfl ?_
  refine ja_i2l C jd_Y_number_55 ?_
  rw [nI_l hb, nI_l (show jl_log (a + 1) < 2 ^ 31 by omega)]
  refine jb_callS (kc := 16) (ks := 9728) (mc := 0) (ms := 0) (As := [.long (lN b)]) (rest := [.long (lN (jl_log (a + 1))), .int (-1), .int (-1), .int 30, .ref y]) C X jk_twos (jy_twos (l := l) (D := D) (H0 := H0) (tys := jt_all cI cJ cT cX) (w := w2) (sz := sz) hb1 (show b < 2 ^ 40 by omega)) jd_Y_number_56 rfl rfl ⟨by decide, by decide⟩ (Nat.le_of_ble_eq_true rfl) (fun v w' sz' hp => ?_)
  obtain ⟨e1, e2, e3⟩ := hp
  rw [e1, e2, e3]
  show ja (jb_mk l (jb_rm 4 144 16 9728) 3 "MeasuredTensorsModel" D H0 (jt_all cI cJ cT cX) u) w2 sz 16 9728 59 _ [.int (nI (jl_twos 40 b)), .long (lN (jl_log (a + 1))), .int (-1), .int (-1), .int 30, .ref y]
  refine ja_i2l C jd_Y_number_59 ?_
  refine ja_iload_n C jd_Y_number_60 2 rfl ?_
  refine ja_i2l C jd_Y_number_61 ?_
  rw [nI_l hb, nI_l (show jl_twos 40 b < 2 ^ 31 by omega)]
  refine jb_callS (kc := 16) (ks := 9728) (mc := 0) (ms := 0) (As := [.long (lN b)]) (rest := [.long (lN (jl_twos 40 b)), .long (lN (jl_log (a + 1))), .int (-1), .int (-1), .int 30, .ref y]) C X jk_oddPart (jy_oddPart (l := l) (D := D) (H0 := H0) (tys := jt_all cI cJ cT cX) (w := w2) (sz := sz) hb1 (show b < 2 ^ 40 by omega)) jd_Y_number_62 rfl rfl ⟨by decide, by decide⟩ (Nat.le_of_ble_eq_true rfl) (fun v w' sz' hp => ?_)
  obtain ⟨e1, e2, e3⟩ := hp
  rw [e1, e2, e3]
  show ja (jb_mk l (jb_rm 4 144 16 9728) 3 "MeasuredTensorsModel" D H0 (jt_all cI cJ cT cX) u) w2 sz 16 9728 65 _ [.long (lN (jl_odd 40 b)), .long (lN (jl_twos 40 b)), .long (lN (jl_log (a + 1))), .int (-1), .int (-1), .int 30, .ref y]
  refine ja_iconst C 1 jd_Y_number_65 (by decide) ?_
  have hM2 : jM cI cJ w2 y A n n2 (upd (upd s 0 0) 5 0) V VL σ := h.sc h2 rfl rfl rfl (fun _ _ => rfl)
  refine jb_callV (kc := 0) (ks := 0) (mc := 16) (ms := 9728) (As := [.int 30, .int (-1), .int (-1), .long (lN (jl_log (a + 1))), .long (lN (jl_twos 40 b)), .long (lN (jl_odd 40 b)), .int (nI 1)]) (rest := []) C X jk_make h2.1 rfl (jy_makeM (l := l) (D := D) (H0 := H0) (cT := cT) (cX := cX) (sz := sz) (rk := 0) (N := fun _ => 1) hM2 (by omega) (by omega) (by omega) ⟨by decide, by decide⟩ (by decide) rfl (fun k hk => absurd hk (Nat.not_lt_zero k)) (fun k hk => absurd hk (Nat.not_lt_zero k)) (by decide) hct) jd_Y_number_66 rfl rfl ⟨by decide, by decide⟩ (Nat.le_of_ble_eq_true rfl) (fun v w' sz' hp => ?_)
  obtain ⟨x, σ', e1, e2, e3⟩ := hp
  rw [e1]
  exact E jd_Y_number_69 ⟨x, 0, σ', rfl, ⟨fun z => absurd z good, fun _ => ⟨rfl, by rw [hpc, hqc]; exact e2⟩⟩, jP.from (r1.tr r2) e3⟩
theorem jy_turned {p : Int32} (h : jM cI cJ w y A n n2 s V VL σ) (hct : jSt_c σ < 512) : jb_M l jy_Y_turned jc_Y_turned 2 (some .int) 5 166 16 9728 D H0 (jt_all cI cJ cT cX) [.ref y, .int p] w sz
    (fun v w' sz' => ∃ (x th : Int32) (σ' : jSt), v = some (.int x) ∧ jA_turned σ p x th σ' ∧ jP cI cJ y A w sz σ' th w' sz') := by
  refine jb_meth_i (by decide) (Nat.le_of_ble_eq_true rfl) (fun u C X E => ?_)
  obtain ⟨hY, h2, h3, h4, h5, h6, h7, h8, h9, h10, h11, hT, -⟩ := id h
  have hcap := jl_cap_le h6
  refine ja_aload_n C jd_Y_turned_0 0 rfl ?_
  refine ja_aload_n C jd_Y_turned_1 0 rfl ?_
  refine ja_iload_n C jd_Y_turned_2 1 rfl ?_
  refine jb_callV (kc := 16) (ks := 9728) (mc := 0) (ms := 0) (As := [.int p]) (rest := [.ref y]) C X jk_noTensor hY.1 rfl (jy_noTensor (l := l) (D := D) (H0 := H0) (cT := cT) (cX := cX) (sz := sz) (t := p) hY) jd_Y_turned_3 rfl rfl ⟨by decide, by decide⟩ (Nat.le_of_ble_eq_true rfl) (fun v w' sz' hp => ?_)
  obtain ⟨e1, e2, e3⟩ := hp
  rw [e1, e2, e3]
  show ja (jb_mk l (jb_rm 5 166 16 9728) 2 "MeasuredTensorsModel" D H0 (jt_all cI cJ cT cX) u) w sz 16 9728 6 _ [.int _, .ref y]
  rw [h4]
  refine ja_if_eq C 13 jd_Y_turned_6 (by decide) (fun c6 => ?_) (fun c6 => ?_)
  · have hg : ¬ (p < 0 ∨ nI (jSt_c σ) ≤ p) := fun z => by rw [if_pos z] at c6; exact absurd c6 (by decide)
    obtain ⟨t, ht, hpt⟩ : ∃ t, t < jSt_c σ ∧ p = nI t := by
      rcases pk_ix p (show jSt_c σ < 2 ^ 31 by omega) with z | z | z
      · exact absurd (Or.inl z) hg
      · exact absurd (Or.inr z) hg
      · exact z
    obtain ⟨⟨o1, o2, o3, o4, o5, o6, o7, o8, o9, o10⟩, x0, x1, x2, x3, x4, x5, x6, x7, x8, x9, x10⟩ := hT t ht
    refine ja_iconst C 0 jd_Y_turned_13 (by decide) ?_
    refine jY_put (s' := upd s 0 0) (wk' := lN (jSt_w σ)) C jfp_thrown jfn_thrown jd_Y_turned_14 hY rfl rfl (by decide) rfl (fun w1 h1 r1 => ?_)
    refine ja_aload_n C jd_Y_turned_17 0 rfl ?_
    refine ja_get C jfl_thrown jd_Y_turned_18 h1.1 rfl ?_
    refine ja_if_le C 26 jd_Y_turned_21 (by decide) (fun c => ?_) (fun c => absurd (by rw [pk_us]; decide) c)
    refine ja_aload_n C jd_Y_turned_26 0 rfl ?_
    refine ja_iload_n C jd_Y_turned_27 1 rfl ?_
    rw [hpt]
    refine jb_callV (kc := 16) (ks := 9728) (mc := 0) (ms := 0) (As := [.int (nI t)]) (rest := []) C X jk_shapeOf h1.1 rfl (jy_shapeOf (l := l) (D := D) (H0 := H0) (cT := cT) (cX := cX) (sz := sz) (t := t) (by omega) (by omega) h1) jd_Y_turned_28 rfl rfl ⟨by decide, by decide⟩ (Nat.le_of_ble_eq_true rfl) (fun v w2 sz' hp => ?_)
    obtain ⟨e1, hY2, r2, e3⟩ := hp
    rw [e1, e3]
    show ja (jb_mk l (jb_rm 5 166 16 9728) 2 "MeasuredTensorsModel" D H0 (jt_all cI cJ cT cX) u) w2 sz 16 9728 31 _ []
    have hM2 := h.sc hY2 rfl rfl rfl (fun k hk => va_up_ne _ _ hk)
    refine ja_aload_n C jd_Y_turned_31 0 rfl ?_
    refine ja_bipush C 50 jd_Y_turned_32 (by decide) ?_
    refine ja_iload_n C jd_Y_turned_34 1 rfl ?_
    refine jb_callV (kc := 0) (ks := 0) (mc := 16) (ms := 9728) (As := [.int 50, .int (nI t)]) (rest := []) C X jk_makeLike hY2.1 rfl (jy_makeLikeM (l := l) (D := D) (H0 := H0) (cT := cT) (cX := cX) (sz := sz) (rk := jT_k (jSt_T σ t)) (N := jT_S (jSt_T σ t)) hM2 ht o1 (by rw [pk_us]; exact x3) (fun k hk => ⟨by rw [va_up_self]; unfold jl_cp; rw [if_pos (by omega)]; exact x4 k (by omega), by have := o2 k (by omega); omega⟩) (fun k hk => (o2 k (by omega)).1) (by decide) hct) jd_Y_turned_35 rfl rfl ⟨by decide, by decide⟩ (Nat.le_of_ble_eq_true rfl) (fun v w' sz' hp => ?_)
    obtain ⟨x, σ', e1, e2, e3⟩ := hp
    rw [e1]
    exact E jd_Y_turned_38 ⟨x, 0, σ', rfl, ⟨fun z => absurd z hg, fun t' ht' et => by
      have : t' = t := (nI_eq (by omega) (by omega)).mp (et.symm.trans hpt)
      rw [this, hpt]
      exact ⟨rfl, e2⟩⟩, jP.from (r1.tr r2) e3⟩
  · have hb : p < 0 ∨ nI (jSt_c σ) ≤ p := by
      rcases Classical.em (p < 0 ∨ nI (jSt_c σ) ≤ p) with z | z
      · exact z
      · rw [if_neg z] at c6; exact absurd rfl c6
    refine ja_iconst C 1 jd_Y_turned_9 (by decide) ?_
    refine ja_goto C 14 jd_Y_turned_10 (by decide) ?_
    refine jY_put (s' := upd s 0 1) (wk' := lN (jSt_w σ)) C jfp_thrown jfn_thrown jd_Y_turned_14 hY rfl rfl (by decide) rfl (fun w1 h1 r1 => ?_)
    refine ja_aload_n C jd_Y_turned_17 0 rfl ?_
    refine ja_get C jfl_thrown jd_Y_turned_18 h1.1 rfl ?_
    refine ja_if_le C 26 jd_Y_turned_21 (by decide) (fun c => absurd c (by rw [pk_us]; decide)) (fun c => ?_)
    refine ja_iconst C 0 jd_Y_turned_24 (by decide) ?_
    exact E jd_Y_turned_25 ⟨0, 1, σ, rfl, ⟨fun _ => ⟨rfl, rfl⟩, fun t' ht' et => absurd hb (by rw [et]; exact fun z => z.elim (nI_pos (by omega)) (nI_ge ht' (by omega)))⟩, jP.of (h.sc h1 rfl rfl rfl (fun _ _ => rfl)) r1⟩
end YE
