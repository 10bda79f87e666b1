/-! THE REFERENCE: made -/
theorem jl_okS_ext {f g : Nat → Int32} {r : Nat} (h : ∀ j, j < r → f j = g j) : jl_okS f r = jl_okS g r := by
  induction r with
  | zero => rfl
  | succ r ih => rw [jl_okS, jl_okS, ih (fun j hj => h j (by omega)), h r (by omega)]
theorem jl_take_ext {f g : Nat → Int32} {m : Int32} (h : ∀ j, j < 4 → f j = g j) : jl_take m f = jl_take m g := by
  unfold jl_take
  split
  · rfl
  · rename_i z
    have z1 : ¬ m < 0 := fun q => z (Or.inl q)
    obtain ⟨r, hr, hm⟩ := nI_of2 (M := 4) (n := 4) (by decide) z1 (k2_le (fun q => z (Or.inr q)))
    rw [hm, nI_clamp (by omega), jl_okS_ext (fun j hj => h j (by omega))]
theorem jl_four_ext {f g : Nat → Int32} {a b c d : Int32} : ∀ j, j < 4 → jl_four f a b c d j = jl_four g a b c d j := fun j hj => by
  match j, hj with
  | 0, _ => rfl
  | 1, _ => rfl
  | 2, _ => rfl
  | 3, _ => rfl
  | j + 4, h => omega
/-- the four numbers told -/
def jl_F (a b c d : Int32) : Nat → Int32 := jl_four (fun _ => 0) a b c d
/-- where take says 1: how many sides, each from 1 to 4096 -/
theorem jl_take_1 {m : Int32} {f : Nat → Int32} (h : jl_take m f = 1) : ∃ r, r ≤ 4 ∧ m = nI r ∧ m.toNatClampNeg = r ∧ ∀ k, k < r → f k = nI (f k).toNatClampNeg ∧ 1 ≤ (f k).toNatClampNeg ∧ (f k).toNatClampNeg ≤ 4096 := by
  unfold jl_take at h
  split at h
  · exact absurd h (by decide)
  · rename_i z
    have z1 : ¬ m < 0 := fun q => z (Or.inl q)
    obtain ⟨r, hr, hm⟩ := nI_of2 (M := 4) (n := 4) (by decide) z1 (k2_le (fun q => z (Or.inr q)))
    split at h
    · rename_i ho
      rw [hm, nI_clamp (by omega)] at ho
      refine ⟨r, hr, hm, by rw [hm]; exact nI_clamp (by omega), fun k hk => ?_⟩
      obtain ⟨g1, g2⟩ := jl_okS_t ho hk
      obtain ⟨v, hv, he⟩ := nI_of2 (x := f k) (M := 4096) (n := 4096) (by decide) (fun q => k2_nle (Int32.lt_iff_toInt_lt.mpr (Int.lt_trans (Int32.lt_iff_toInt_lt.mp q) (by decide))) g1) g2
      have h1 : 1 ≤ v := by
        rcases Nat.eq_zero_or_pos v with q | q
        · rw [he, q] at g1; exact absurd g1 (by decide)
        · exact q
      rw [he, nI_clamp (by omega)]
      exact ⟨rfl, h1, hv⟩
    · exact absurd h (by decide)
theorem jl_take_01 (m : Int32) (f : Nat → Int32) : jl_take m f = 0 ∨ jl_take m f = 1 := by
  unfold jl_take
  split
  · exact Or.inl rfl
  · split
    · exact Or.inr rfl
    · exact Or.inl rfl
/-- made: refused, or a making -/
def jA_made (σ : jSt) (pz m a b c d : Int32) (x th : Int32) (σ' : jSt) : Prop :=
  (jl_take m (jl_F a b c d) = 0 → th = 1 ∧ σ' = σ) ∧ (jl_take m (jl_F a b c d) = 1 → th = 0 ∧ jA σ (fun k => (jl_F a b c d k).toNatClampNeg) m.toNatClampNeg (if pz = 0 then 31 else 32) (-1) (-1) 1 (if pz = 0 then 16 else 15) (if pz = 0 then 16 else jSt_p σ) 1 x σ')
section YF
variable {l : Launch} {D : va_G} {H0 : Heap} {cI cJ cT cX : ClassId} {w : jb_W} {sz : Nat}
variable {y : Nat} {A : Nat → Nat} {n n2 : Nat} {s : Nat → Int32} {V : Nat → Nat → Int32} {VL : Nat → Nat → Int64} {σ : jSt}
theorem jy_made {pz m a b c d : Int32} (h : jM cI cJ w y A n n2 s V VL σ) (hct : jSt_c σ < 512) : jb_M l jy_Y_made jc_Y_made 7 (some .int) 4 144 16 9728 D H0 (jt_all cI cJ cT cX) [.ref y, .int pz, .int m, .int a, .int b, .int c, .int d] w sz
    (fun v w' sz' => ∃ (x th : Int32) (σ' : jSt), v = some (.int x) ∧ jA_made σ pz m a b c d x th σ' ∧ jP cI cJ y A w sz σ' th w' sz') := by
  refine jb_meth_i (by decide) (Nat.le_of_ble_eq_true rfl) (fun u C X E => ?_)
  obtain ⟨hY, hp1, hp2, -⟩ := id h
  refine ja_aload_n C jd_Y_made_0 0 rfl ?_
  refine ja_aload_n C jd_Y_made_1 0 rfl ?_
  refine ja_iload_n C jd_Y_made_2 2 rfl ?_
  refine ja_iload_n C jd_Y_made_3 3 rfl ?_
  refine ja_iload C jd_Y_made_4 4 rfl ?_
  refine ja_iload C jd_Y_made_6 5 rfl ?_
  refine ja_iload C jd_Y_made_8 6 rfl ?_
  refine jb_callV (kc := 16) (ks := 9728) (mc := 0) (ms := 0) (As := [.int m, .int a, .int b, .int c, .int d]) (rest := [.ref y]) C X jk_take hY.1 rfl (jy_take (l := l) (D := D) (H0 := H0) (cT := cT) (cX := cX) (sz := sz) (m := m) (a := a) (b := b) (c := c) (d := d) hY) jd_Y_made_10 rfl rfl ⟨by decide, by decide⟩ (Nat.le_of_ble_eq_true rfl) (fun v w1 sz' hp => ?_)
  obtain ⟨e1, h1, r1, e3⟩ := hp
  rw [jl_take_ext (g := jl_F a b c d) jl_four_ext] at e1
  rw [e1, e3]
  show ja (jb_mk l (jb_rm 4 144 16 9728) 7 "MeasuredTensorsModel" D H0 (jt_all cI cJ cT cX) u) w1 sz 16 9728 13 _ [.int _, .ref y]
  refine ja_if_eq C 20 jd_Y_made_13 (by decide) (fun c13 => ?_) (fun c13 => ?_)
  · refine ja_iconst C 1 jd_Y_made_20 (by decide) ?_
    refine jY_put (s' := upd (upd s 5 m) 0 1) (wk' := lN (jSt_w σ)) C jfp_thrown jfn_thrown jd_Y_made_21 h1 rfl rfl (by decide) rfl (fun w2 h2 r2 => ?_)
    refine ja_aload_n C jd_Y_made_24 0 rfl ?_
    refine ja_get C jfl_thrown jd_Y_made_25 h2.1 rfl ?_
    refine ja_if_le C 33 jd_Y_made_28 (by decide) (fun q => absurd q (by rw [pk_us]; decide)) (fun _ => ?_)
    refine ja_iconst C 0 jd_Y_made_31 (by decide) ?_
    exact E jd_Y_made_32 ⟨0, 1, σ, rfl, ⟨fun _ => ⟨rfl, rfl⟩, fun z => by rw [c13] at z; exact absurd z (by decide)⟩, jP.of (h.sc h2 rfl rfl rfl (fun k hk => va_up_ne _ _ hk)) (r1.tr r2)⟩
  · have ht1 : jl_take m (jl_F a b c d) = 1 := (jl_take_01 m (jl_F a b c d)).resolve_left c13
    obtain ⟨rk, hrk, hm, hmc, hF⟩ := jl_take_1 ht1
    refine ja_iconst C 0 jd_Y_made_16 (by decide) ?_
    refine ja_goto C 21 jd_Y_made_17 (by decide) ?_
    refine jY_put (s' := upd (upd s 5 m) 0 0) (wk' := lN (jSt_w σ)) C jfp_thrown jfn_thrown jd_Y_made_21 h1 rfl rfl (by decide) rfl (fun w2 h2 r2 => ?_)
    have hM2 := h.sc h2 rfl rfl rfl (fun k hk => va_up_ne _ _ hk)
    have hfin : ∀ (what : Int32) (r e : Nat), r < 2 ^ 31 → e < 2 ^ 31 → (what = 51 → False) → what = (if pz = 0 then 31 else 32) → r = (if pz = 0 then 16 else 15) → e = (if pz = 0 then 16 else jSt_p σ) → ja (jb_mk l (jb_rm 4 144 16 9728) 7 "MeasuredTensorsModel" D H0 (jt_all cI cJ cT cX) u) w2 sz 16 9728 75 (lv_args 0 [.ref y, .int pz, .int m, .int a, .int b, .int c, .int d]) [.long (lN e), .long (lN r), .int (-1), .int (-1), .int what, .ref y] := by
      intro what r e hr he h51 q1 q2 q3
      refine ja_lconst C 1 jd_Y_made_75 (by decide) ?_
      refine ja_iconst C 1 jd_Y_made_76 (by decide) ?_
      refine jb_callV (kc := 0) (ks := 0) (mc := 16) (ms := 9728) (As := [.int what, .int (-1), .int (-1), .long (lN r), .long (lN e), .long (lN 1), .int (nI 1)]) (rest := []) C X jk_make h2.1 rfl (jy_makeM (l := l) (D := D) (H0 := H0) (cT := cT) (cX := cX) (sz := sz) (rk := rk) (N := fun k => (jl_F a b c d k).toNatClampNeg) hM2 (by omega) (by omega) (by decide) ⟨by decide, by decide⟩ hrk (by rw [pk_un (by decide), pk_us]; exact hm) (fun k hk => ⟨by rw [va_up_self, jl_four_ext (g := fun _ => 0) k (by omega)]; exact (hF k hk).1, by have := (hF k hk).2.2; omega⟩) (fun k hk => (hF k hk).2.1) h51 hct) jd_Y_made_77 rfl rfl ⟨by decide, by decide⟩ (Nat.le_of_ble_eq_true rfl) (fun v w' sz' hp => ?_)
      obtain ⟨x, σ', e1, e2, e3⟩ := hp
      rw [e1]
      refine E jd_Y_made_80 ⟨x, 0, σ', rfl, ⟨fun z => by rw [ht1] at z; exact absurd z (by decide), fun _ => ⟨rfl, ?_⟩⟩, jP.from (r1.tr r2) e3⟩
      rw [hmc, ← q1, ← q2, ← q3]
      exact e2
    refine ja_aload_n C jd_Y_made_24 0 rfl ?_
    refine ja_get C jfl_thrown jd_Y_made_25 h2.1 rfl ?_
    refine ja_if_le C 33 jd_Y_made_28 (by decide) (fun _ => ?_) (fun q => absurd (by rw [pk_us]; decide) q)
    refine ja_aload_n C jd_Y_made_33 0 rfl ?_
    refine ja_iload_n C jd_Y_made_34 1 rfl ?_
    refine ja_if_eq C 43 jd_Y_made_35 (by decide) (fun z => ?_) (fun z => ?_)
    · refine ja_bipush C 31 jd_Y_made_43 (by decide) ?_
      refine ja_iconst C (-1) jd_Y_made_45 (by decide) ?_
      refine ja_iconst C (-1) jd_Y_made_46 (by decide) ?_
      refine ja_iload_n C jd_Y_made_47 1 rfl ?_
      refine ja_if_eq C 57 jd_Y_made_48 (by decide) (fun _ => ?_) (fun q => absurd z q)
      refine ja_ldc2 C 16 jk_16 jd_Y_made_57 ?_
      refine ja_iload_n C jd_Y_made_60 1 rfl ?_
      refine ja_if_eq C 72 jd_Y_made_61 (by decide) (fun _ => ?_) (fun q => absurd z q)
      refine ja_ldc2 C 16 jk_16 jd_Y_made_72 ?_
      exact hfin 31 16 16 (by decide) (by decide) (by decide) (by rw [if_pos z]) (by rw [if_pos z]) (by rw [if_pos z])
    · refine ja_bipush C 32 jd_Y_made_38 (by decide) ?_
      refine ja_goto C 45 jd_Y_made_40 (by decide) ?_
      refine ja_iconst C (-1) jd_Y_made_45 (by decide) ?_
      refine ja_iconst C (-1) jd_Y_made_46 (by decide) ?_
      refine ja_iload_n C jd_Y_made_47 1 rfl ?_
      refine ja_if_eq C 57 jd_Y_made_48 (by decide) (fun q => absurd q z) (fun _ => ?_)
      refine ja_ldc2 C 15 jk_15 jd_Y_made_51 ?_
      refine ja_goto C 60 jd_Y_made_54 (by decide) ?_
      refine ja_iload_n C jd_Y_made_60 1 rfl ?_
      refine ja_if_eq C 72 jd_Y_made_61 (by decide) (fun q => absurd q z) (fun _ => ?_)
      refine ja_aload_n C jd_Y_made_64 0 rfl ?_
      refine ja_get C jfl_places jd_Y_made_65 h2.1 rfl ?_
      refine ja_i2l C jd_Y_made_68 ?_
      rw [show upd (upd s 5 m) 0 0 1 = nI (jSt_p σ) from hp1, nI_l (by omega)]
      refine ja_goto C 75 jd_Y_made_69 (by decide) ?_
      exact hfin 32 15 (jSt_p σ) (by decide) (by omega) (by decide) (by rw [if_neg z]) (by rw [if_neg z]) (by rw [if_neg z])
end YF
