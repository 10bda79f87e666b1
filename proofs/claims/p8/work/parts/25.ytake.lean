/-! THE REFERENCE: take -/
def jl_okS (f : Nat → Int32) : Nat → Bool
  | 0 => true
  | k + 1 => jl_okS f k && decide (1 ≤ f k ∧ f k ≤ 4096)
theorem jl_okS_f {f : Nat → Int32} {k r : Nat} (h : jl_okS f k = false) (hr : k ≤ r) : jl_okS f r = false := by
  induction r with
  | zero => rw [← h, show k = 0 by omega]
  | succ r ih =>
    by_cases e : k = r + 1
    · rw [← e]; exact h
    · rw [jl_okS, ih (by omega), Bool.false_and]
theorem jl_okS_t {f : Nat → Int32} {k r : Nat} (h : jl_okS f r = true) (hk : k < r) : 1 ≤ f k ∧ f k ≤ 4096 := by
  have h1 : jl_okS f (k + 1) = true := by
    cases h2 : jl_okS f (k + 1) with
    | true => rfl
    | false => rw [jl_okS_f h2 hk] at h; cases h
  rw [jl_okS, Bool.and_eq_true] at h1
  exact of_decide_eq_true h1.2
def jl_four (f : Nat → Int32) (a b c d : Int32) : Nat → Int32 := upd (upd (upd (upd f 0 a) 1 b) 2 c) 3 d
/-- 1 where so many sides are told, each as long as it may be -/
def jl_take (n : Int32) (f : Nat → Int32) : Int32 := if n < 0 ∨ 4 < n then 0 else if jl_okS f n.toNatClampNeg = true then 1 else 0
def jl_b (b : Bool) : Int32 := if b = true then 1 else 0
section YW
variable {l : Launch} {D : va_G} {H0 : Heap} {cI cJ cT cX : ClassId} {w : jb_W} {sz : Nat}
variable {y : Nat} {A : Nat → Nat} {n n2 : Nat} {s : Nat → Int32} {V : Nat → Nat → Int32} {VL : Nat → Nat → Int64} {wk : Int64}
theorem jy_take {m a b c d : Int32} (h : jY cI cJ w y A n n2 s V VL wk) : jb_M l jy_Y_take jc_Y_take 8 (some .boolean) 0 0 0 0 D H0 (jt_all cI cJ cT cX) [.ref y, .int m, .int a, .int b, .int c, .int d] w sz (fun v w' sz' => v = some (.int (jl_take m (jl_four (V 19) a b c d))) ∧ jY cI cJ w' y A n n2 (upd s 5 m) (va_up V 19 (jl_four (V 19) a b c d)) VL wk ∧ jR y A w w' ∧ sz' = sz) := by
  refine jb_meth_z (by decide) (Nat.le_of_ble_eq_true rfl) (fun u C X E => ?_)
  refine ja_aload_n C jd_Y_take_0 0 rfl ?_
  refine ja_iload_n C jd_Y_take_1 1 rfl ?_
  refine jY_put (s' := upd s 5 m) (wk' := wk) C jfp_newRank jfn_newRank jd_Y_take_2 h rfl rfl (by decide) rfl (fun w1 h1 r1 => ?_)
  refine ja_aload_n C jd_Y_take_5 0 rfl ?_
  refine ja_get C jfl_newSides jd_Y_take_6 h1.1 rfl ?_
  refine ja_iconst C 0 jd_Y_take_9 (by decide) ?_
  refine ja_iload_n C jd_Y_take_10 2 rfl ?_
  refine jY_iast C 19 (by decide) (by decide) jd_Y_take_11 h1 (vp_in_nI (n := 0) (N := 4) (by decide) (by decide)) (fun w2 h2 r2 => ?_)
  refine ja_aload_n C jd_Y_take_12 0 rfl ?_
  refine ja_get C jfl_newSides jd_Y_take_13 h2.1 rfl ?_
  refine ja_iconst C 1 jd_Y_take_16 (by decide) ?_
  refine ja_iload_n C jd_Y_take_17 3 rfl ?_
  refine jY_iast C 19 (by decide) (by decide) jd_Y_take_18 h2 (vp_in_nI (n := 1) (N := 4) (by decide) (by decide)) (fun w3 h3 r3 => ?_)
  refine ja_aload_n C jd_Y_take_19 0 rfl ?_
  refine ja_get C jfl_newSides jd_Y_take_20 h3.1 rfl ?_
  refine ja_iconst C 2 jd_Y_take_23 (by decide) ?_
  refine ja_iload C jd_Y_take_24 4 rfl ?_
  refine jY_iast C 19 (by decide) (by decide) jd_Y_take_26 h3 (vp_in_nI (n := 2) (N := 4) (by decide) (by decide)) (fun w4 h4 r4 => ?_)
  refine ja_aload_n C jd_Y_take_27 0 rfl ?_
  refine ja_get C jfl_newSides jd_Y_take_28 h4.1 rfl ?_
  refine ja_iconst C 3 jd_Y_take_31 (by decide) ?_
  refine ja_iload C jd_Y_take_32 5 rfl ?_
  refine jY_iast C 19 (by decide) (by decide) jd_Y_take_34 h4 (vp_in_nI (n := 3) (N := 4) (by decide) (by decide)) (fun w5 h5 r5 => ?_)
  have h5 : jY cI cJ w5 y A n n2 (upd s 5 m) (va_up V 19 (jl_four (V 19) a b c d)) VL wk := by
    simp only [va_up_self, bx_uu] at h5
    exact h5
  have r5 := (((r1.tr r2).tr r3).tr r4).tr r5
  generalize hf : jl_four (V 19) a b c d = f at h5
  have fin : ∀ (lv : List (Nat × Value)) (q : Nat) (v : Int32), lv[q]? = some (6, .int v) → (v = 0 ∨ v = 1) → v = jl_take m f → ja (jb_mk l (jb_rm 0 0 0 0) 8 "MeasuredTensorsModel" D H0 (jt_all cI cJ cT cX) u) w5 sz 0 0 102 lv [] := by
    intro lv q v hq hv he
    refine ja_iload C jd_Y_take_102 q hq ?_
    exact E jd_Y_take_104 hv ⟨by rw [hf, he], by rw [hf]; exact h5, r5, rfl⟩
  have head : ∀ (f9 k r : Nat), m = nI r → r ≤ 4 → k + f9 = r → ja (jb_mk l (jb_rm 0 0 0 0) 8 "MeasuredTensorsModel" D H0 (jt_all cI cJ cT cX) u) w5 sz 0 0 54 [(7, .int (nI k)), (6, .int (jl_b (jl_okS f k))), (0, .ref y), (1, .int m)] [] := by
    intro f9
    induction f9 with
    | zero =>
      intro k r hm hr hk
      have hk : k = r := by omega
      subst hk
      refine ja_iload C jd_Y_take_54 0 rfl ?_
      refine ja_iload_n C jd_Y_take_56 3 rfl ?_
      refine ja_icmp_ge C 102 jd_Y_take_57 (by decide) (fun c9 => ?_) (fun c9 => absurd (by rw [hm]; exact nI_le (Nat.le_refl k) (by omega)) c9)
      refine fin _ 1 _ rfl (by unfold jl_b; split <;> simp) ?_
      have hgood : ¬ (m < 0 ∨ 4 < m) := by rw [hm]; exact fun z => z.elim (nI_pos (by omega)) (fun q => absurd q (by rw [show (4 : Int32) = nI 4 by decide]; exact nI_nlt hr (by decide)))
      unfold jl_take jl_b
      rw [if_neg hgood, hm, nI_clamp (by omega)]
    | succ f9 ih =>
      intro k r hm hr hk
      have hgood : ¬ (m < 0 ∨ 4 < m) := by rw [hm]; exact fun z => z.elim (nI_pos (by omega)) (fun q => absurd q (by rw [show (4 : Int32) = nI 4 by decide]; exact nI_nlt hr (by decide)))
      refine ja_iload C jd_Y_take_54 0 rfl ?_
      refine ja_iload_n C jd_Y_take_56 3 rfl ?_
      refine ja_icmp_ge C 102 jd_Y_take_57 (by decide) (fun c9 => absurd (by rw [hm] at c9; exact c9) (nI_ge (show k < r by omega) (by omega))) (fun c9 => ?_)
      refine ja_iload C jd_Y_take_60 1 rfl ?_
      refine ja_if_eq C 102 jd_Y_take_62 (by decide) (fun c10 => ?_) (fun c10 => ?_)
      · have ho : jl_okS f k = false := by
          cases q : jl_okS f k with
          | false => rfl
          | true => rw [q] at c10; exact absurd c10 (by decide)
        refine fin _ 1 _ rfl (by unfold jl_b; split <;> simp) ?_
        unfold jl_take jl_b
        rw [if_neg hgood, hm, nI_clamp (by omega), jl_okS_f ho (show k ≤ r by omega), ho]
      · have ho : jl_okS f k = true := by
          cases q : jl_okS f k with
          | true => rfl
          | false => rw [q] at c10; exact absurd rfl c10
        have next : ∀ (v : Int32), v = jl_b (jl_okS f (k + 1)) → ja (jb_mk l (jb_rm 0 0 0 0) 8 "MeasuredTensorsModel" D H0 (jt_all cI cJ cT cX) u) w5 sz 0 0 94 [(7, .int (nI k)), (6, .int (jl_b (jl_okS f k))), (0, .ref y), (1, .int m)] [.int v] := by
          intro v hv
          refine ja_istore C [(6, .int v), (7, .int (nI k)), (0, .ref y), (1, .int m)] jd_Y_take_94 (Nat.le_of_ble_eq_true rfl) rfl ?_
          refine ja_iinc C (nI k + 1) [(7, .int (nI k + 1)), (6, .int v), (0, .ref y), (1, .int m)] jd_Y_take_96 1 rfl rfl (Nat.le_of_ble_eq_true rfl) rfl ?_
          refine ja_goto C 54 jd_Y_take_99 (by decide) ?_
          rw [nI_1, hv]
          exact ih (k + 1) r hm hr (by omega)
        have hs : (va_up V 19 f 19) = f := va_up_self _ _ _
        have bad : ¬ (1 ≤ f k ∧ f k ≤ 4096) → ja (jb_mk l (jb_rm 0 0 0 0) 8 "MeasuredTensorsModel" D H0 (jt_all cI cJ cT cX) u) w5 sz 0 0 93 [(7, .int (nI k)), (6, .int (jl_b (jl_okS f k))), (0, .ref y), (1, .int m)] [] := fun hb => by
          refine ja_iconst C 0 jd_Y_take_93 (by decide) ?_
          exact next 0 (by rw [jl_okS, decide_eq_false hb, Bool.and_false]; rfl)
        refine ja_aload_n C jd_Y_take_65 2 rfl ?_
        refine ja_get C jfl_newSides jd_Y_take_66 h5.1 rfl ?_
        refine ja_iload C jd_Y_take_69 0 rfl ?_
        refine ja_iald C 0 rfl jd_Y_take_71 h5.a_newSides (vp_in_nI (by omega) (by decide)) ?_
        rw [nI_clamp (by omega), hs]
        refine ja_iconst C 1 jd_Y_take_72 (by decide) ?_
        refine ja_icmp_lt C 93 jd_Y_take_73 (by decide) (fun c11 => bad (fun z => k2_nle c11 z.1)) (fun c11 => ?_)
        refine ja_aload_n C jd_Y_take_76 2 rfl ?_
        refine ja_get C jfl_newSides jd_Y_take_77 h5.1 rfl ?_
        refine ja_iload C jd_Y_take_80 0 rfl ?_
        refine ja_iald C 0 rfl jd_Y_take_82 h5.a_newSides (vp_in_nI (by omega) (by decide)) ?_
        rw [nI_clamp (by omega), hs]
        refine ja_sipush C 4096 jd_Y_take_83 (by decide) ?_
        refine ja_icmp_gt C 93 jd_Y_take_86 (by decide) (fun c12 => bad (fun z => k2_nle c12 z.2)) (fun c12 => ?_)
        refine ja_iconst C 1 jd_Y_take_89 (by decide) ?_
        refine ja_goto C 94 jd_Y_take_90 (by decide) ?_
        exact next 1 (by rw [jl_okS, decide_eq_true ⟨k2_le c11, k2_le c12⟩, Bool.and_true, ho]; rfl)
  have bad : (m < 0 ∨ 4 < m) → ja (jb_mk l (jb_rm 0 0 0 0) 8 "MeasuredTensorsModel" D H0 (jt_all cI cJ cT cX) u) w5 sz 0 0 48 (lv_args 0 [.ref y, .int m, .int a, .int b, .int c, .int d]) [] := fun hb => by
    refine ja_iconst C 0 jd_Y_take_48 (by decide) ?_
    refine ja_istore C [(6, .int 0), (0, .ref y), (1, .int m), (2, .int a), (3, .int b), (4, .int c), (5, .int d)] jd_Y_take_49 (Nat.le_of_ble_eq_true rfl) rfl ?_
    refine ja_iconst C 0 jd_Y_take_51 (by decide) ?_
    refine ja_istore C [(7, .int 0), (6, .int 0), (0, .ref y), (1, .int m), (2, .int a), (3, .int b), (4, .int c), (5, .int d)] jd_Y_take_52 (Nat.le_of_ble_eq_true rfl) rfl ?_
    have he : (0 : Int32) = jl_take m f := by unfold jl_take; rw [if_pos hb]
    refine ja_iload C jd_Y_take_54 0 rfl ?_
    refine ja_iload_n C jd_Y_take_56 3 rfl ?_
    refine ja_icmp_ge C 102 jd_Y_take_57 (by decide) (fun _ => fin _ 1 0 rfl (Or.inl rfl) he) (fun _ => ?_)
    refine ja_iload C jd_Y_take_60 1 rfl ?_
    exact ja_if_eq C 102 jd_Y_take_62 (by decide) (fun _ => fin _ 1 0 rfl (Or.inl rfl) he) (fun z => absurd rfl z)
  refine ja_iload_n C jd_Y_take_35 1 rfl ?_
  refine ja_if_lt C 48 jd_Y_take_36 (by decide) (fun c1 => bad (Or.inl c1)) (fun c1 => ?_)
  refine ja_iload_n C jd_Y_take_39 1 rfl ?_
  refine ja_iconst C 4 jd_Y_take_40 (by decide) ?_
  refine ja_icmp_gt C 48 jd_Y_take_41 (by decide) (fun c2 => bad (Or.inr c2)) (fun c2 => ?_)
  obtain ⟨r, hr, hm⟩ := nI_of2 (M := 4) (n := 4) (by decide) c1 (k2_le c2)
  refine ja_iconst C 1 jd_Y_take_44 (by decide) ?_
  refine ja_goto C 49 jd_Y_take_45 (by decide) ?_
  refine ja_istore C [(6, .int 1), (0, .ref y), (1, .int m), (2, .int a), (3, .int b), (4, .int c), (5, .int d)] jd_Y_take_49 (Nat.le_of_ble_eq_true rfl) rfl ?_
  refine ja_iconst C 0 jd_Y_take_51 (by decide) ?_
  refine ja_istore C [(7, .int 0), (6, .int 1), (0, .ref y), (1, .int m), (2, .int a), (3, .int b), (4, .int c), (5, .int d)] jd_Y_take_52 (Nat.le_of_ble_eq_true rfl) rfl ?_
  refine ja_lv (lv' := [(7, .int (nI 0)), (6, .int (jl_b (jl_okS f 0))), (0, .ref y), (1, .int m)]) (by simp [nI_0, jl_b, jl_okS]) ?_
  exact head r 0 r hm hr (by omega)
end YW
