/-! THE REFERENCE: grow; while it grows, its arrays have lengths of their own (ln) -/
def jG_c (cI cJ : ClassId) (ln : Nat → Nat) (V : Nat → Nat → Int32) (VL : Nat → Nat → Int64) (k : Nat) : va_E := if k = 9 ∨ k = 18 then .inl (cJ, ln k, .inr (.inl (VL k))) else .inl (cI, ln k, .inl (V k))
def jG (cI cJ : ClassId) (w : jb_W) (y : Nat) (A ln : Nat → Nat) (s : Nat → Int32) (V : Nat → Nat → Int32) (VL : Nat → Nat → Int64) (wk : Int64) : Prop :=
  w y = some (.inr (5, jY_f A s wk)) ∧ (∀ k, k < 20 → w (A k) = some (jG_c cI cJ ln V VL k)) ∧ ∀ i j, i < 20 → j < 20 → A i = A j → i = j
theorem ja_bd {g : ja_G} {w : jb_W} {sz kc ks pc : Nat} {lv : List (Nat × Value)} {st : List Value} (k : (∀ a x, w a = some x → a < sz) → ja g w sz kc ks pc lv st) : ja g w sz kc ks pc lv st := fun H locs cells slots ls a1 a2 a3 a4 hl => k (fun _ _ h => a1.lt h) H locs cells slots ls a1 a2 a3 a4 hl
/-- cells of old stay, but the object and its arrays as they were -/
def jS (sz : Nat) (y : Nat) (A : Nat → Nat) (w w' : jb_W) : Prop := ∀ (a : Nat) (x : va_E), a < sz → w a = some x → a ≠ y → (∀ k, k < 20 → a ≠ A k) → w' a = some x
theorem jk_copyI : jb_KS "MeasuredTensorsModel" 109 jy_copyI jc_copyI 3 (some (.array .int)) 2 := ⟨jw_in (by decide +kernel) (by decide +kernel), jw_in (by decide +kernel) (by decide +kernel), jw_in (by decide +kernel) (by decide +kernel), jw_in (by decide +kernel) (by decide +kernel), by decide +kernel⟩
theorem jk_copyJ : jb_KS "MeasuredTensorsModel" 115 jy_copyJ jc_copyJ 3 (some (.array .long)) 2 := ⟨jw_in (by decide +kernel) (by decide +kernel), jw_in (by decide +kernel) (by decide +kernel), jw_in (by decide +kernel) (by decide +kernel), jw_in (by decide +kernel) (by decide +kernel), by decide +kernel⟩
/-- the old places hold what they held -/
def jE {α : Type} (ln0 : Nat → Nat) (V0 V : Nat → Nat → α) : Prop := ∀ k i, i < ln0 k → V k i = V0 k i
theorem jE.rf {α : Type} {ln0 : Nat → Nat} {V0 : Nat → Nat → α} : jE ln0 V0 V0 := fun _ _ _ => rfl
theorem jE.cp {α : Type} {ln0 : Nat → Nat} {V0 V : Nat → Nat → α} (h : jE ln0 V0 V) {k m : Nat} {z : Nat → α} (hm : ln0 k ≤ m) : jE ln0 V0 (va_up V k (va_cpy (V k) z 0 0 m)) := fun j i hi => by
  by_cases e : j = k
  · subst e
    rw [va_up_self, pk_cpy_in (Nat.zero_le i) (by omega), show 0 + (i - 0) = i by omega]
    exact h j i hi
  · rw [va_up_ne _ _ e]
    exact h j i hi
section YG
variable {l : Launch} {R : Room} {nL : Nat} {D : va_G} {H0 : Heap} {cI cJ cT cX : ClassId} {u : jb_U} {cc : ByteArray} {w : jb_W} {sz kc ks pc : Nat} {lv : List (Nat × Value)} {rest : List Value}
variable {y : Nat} {A ln : Nat → Nat} {s : Nat → Int32} {V : Nat → Nat → Int32} {VL : Nat → Nat → Int64} {wk : Int64} {sz0 : Nat} {w0 : jb_W} {A0 ln0 : Nat → Nat} {V0 : Nat → Nat → Int32} {VL0 : Nat → Nat → Int64}
theorem jG.ne (h : jG cI cJ w y A ln s V VL wk) {k : Nat} (hk : k < 20) : A k ≠ y := fun e => by
  have h1 := h.2.1 k hk
  rw [e, h.1] at h1
  unfold jG_c at h1
  split at h1 <;> cases h1
theorem jG_grow (C : ja_C (jb_mk l R nL "MeasuredTensorsModel" D H0 (jt_all cI cJ cT cX) u) cc) (X : jb_X H0 u.1.2.2) (k p idx n1 : Nat) (hk : k < 20) (hl : ¬ (k = 9 ∨ k = 18)) (hF : ja_FP jcl "MeasuredTensorsModel" idx 5 p (.array .int)) (hnf : ∀ r, jcl[5]? = some r → (r.2.1 p).2.2.2 = false) (hp : p < 27) (hd1 : decode cc pc = .ok (.invokestatic 109, 3)) (hd2 : decode cc (pc + 3) = .ok (.putfield idx, 3)) (hset : ∀ q, (jY_f A s wk).set p (.ref q) = jY_f (va_up A k q) s wk) (hlt : ln k < n1) (h1 : n1 ≤ 65536) (hR : 2 ≤ R.frames ∧ 90 ≤ R.locals) (hrs : ((Value.ref y :: rest).map fun v => v.category).sum ≤ 8)
    (h : jG cI cJ w y A ln s V VL wk) (h0 : jS sz0 y A0 w0 w) (hs0 : sz0 ≤ sz) (hA : ∀ j, j < 20 → A j = A0 j ∨ sz0 ≤ A j) (hE : jE ln0 V0 V) (hln : ln0 k ≤ ln k)
    (kk : ∀ (w' : jb_W) (V' : Nat → Nat → Int32), jE ln0 V0 V' → jG cI cJ w' y (va_up A k sz) (va_up ln k n1) s V' VL wk → jS sz0 y A0 w0 w' → (∀ j, j < 20 → va_up A k sz j = A0 j ∨ sz0 ≤ va_up A k sz j) → ja (jb_mk l R nL "MeasuredTensorsModel" D H0 (jt_all cI cJ cT cX) u) w' (sz + 1) kc ks (pc + 6) lv rest) : ja (jb_mk l R nL "MeasuredTensorsModel" D H0 (jt_all cI cJ cT cX) u) w sz (kc + 1) (ks + n1) pc lv (.int (nI n1) :: .ref (A k) :: .ref y :: rest) := by
  refine ja_bd (fun bd => ?_)
  have hw := h.2.1 k hk
  unfold jG_c at hw
  rw [if_neg hl] at hw
  have hak : ∀ j, j < 20 → A j < sz := fun j hj => bd _ _ (h.2.1 j hj)
  have hy := bd _ _ h.1
  refine jb_callS (As := [.ref (A k), .int (nI n1)]) (rest := .ref y :: rest) C X jk_copyI (jz_copyI (l := l) (D := D) (H0 := H0) (cI := cI) (cJ := cJ) (cT := cT) (cX := cX) (w := w) (sz := sz) hw hlt h1 (hak k hk)) hd1 rfl rfl hR hrs (fun v w' sz' hp9 => ?_)
  obtain ⟨rfl, rfl, rfl⟩ := hp9
  show ja _ _ _ kc ks (pc + 3) lv (.ref sz :: .ref y :: rest)
  have hy2 : va_up w sz (some (.inl (cI, n1, .inl (va_cpy (V k) (fun _ => 0) 0 0 (ln k))))) y = some (.inr (5, jY_f A s wk)) := (va_up_ne _ _ (by omega)).trans h.1
  refine ja_put C hF hnf hd2 hy2 rfl rfl hp ?_
  rw [hset]
  refine kk _ (va_up V k (va_cpy (V k) (fun _ => 0) 0 0 (ln k))) (hE.cp hln) ⟨va_up_self _ _ _, fun j hj => ?_, fun i j hi hj e => ?_⟩ (fun a x ha hx n1' n2' => ?_) (fun j hj => ?_)
  · by_cases e : j = k
    · subst e
      rw [va_up_self, va_up_ne _ _ (by omega), va_up_self]
      unfold jG_c
      rw [if_neg hl, va_up_self, va_up_self]
    · have hj2 := hak j hj
      have hj3 := h.ne hj
      rw [va_up_ne _ _ e, va_up_ne _ _ hj3, va_up_ne _ _ (by omega), h.2.1 j hj]
      unfold jG_c
      rw [va_up_ne _ _ e, va_up_ne _ _ e]
  · by_cases ei : i = k
    · by_cases ej : j = k
      · rw [ei, ej]
      · rw [ei, va_up_self, va_up_ne _ _ ej] at e
        have := hak j hj
        omega
    · by_cases ej : j = k
      · rw [ej, va_up_self, va_up_ne _ _ ei] at e
        have := hak i hi
        omega
      · rw [va_up_ne _ _ ei, va_up_ne _ _ ej] at e
        exact h.2.2 i j hi hj e
  · rw [va_up_ne _ _ n1', va_up_ne _ _ (by omega)]
    exact h0 a x ha hx n1' n2'
  · by_cases e : j = k
    · rw [e, va_up_self]; exact Or.inr hs0
    · rw [va_up_ne _ _ e]; exact hA j hj
theorem jG_growL (C : ja_C (jb_mk l R nL "MeasuredTensorsModel" D H0 (jt_all cI cJ cT cX) u) cc) (X : jb_X H0 u.1.2.2) (k p idx n1 : Nat) (hk : k < 20) (hl : k = 9 ∨ k = 18) (hF : ja_FP jcl "MeasuredTensorsModel" idx 5 p (.array .long)) (hnf : ∀ r, jcl[5]? = some r → (r.2.1 p).2.2.2 = false) (hp : p < 27) (hd1 : decode cc pc = .ok (.invokestatic 115, 3)) (hd2 : decode cc (pc + 3) = .ok (.putfield idx, 3)) (hset : ∀ q, (jY_f A s wk).set p (.ref q) = jY_f (va_up A k q) s wk) (hlt : ln k < n1) (h1 : n1 ≤ 65536) (hR : 2 ≤ R.frames ∧ 90 ≤ R.locals) (hrs : ((Value.ref y :: rest).map fun v => v.category).sum ≤ 8)
    (h : jG cI cJ w y A ln s V VL wk) (h0 : jS sz0 y A0 w0 w) (hs0 : sz0 ≤ sz) (hA : ∀ j, j < 20 → A j = A0 j ∨ sz0 ≤ A j) (hE : jE ln0 VL0 VL) (hln : ln0 k ≤ ln k)
    (kk : ∀ (w' : jb_W) (V' : Nat → Nat → Int64), jE ln0 VL0 V' → jG cI cJ w' y (va_up A k sz) (va_up ln k n1) s V V' wk → jS sz0 y A0 w0 w' → (∀ j, j < 20 → va_up A k sz j = A0 j ∨ sz0 ≤ va_up A k sz j) → ja (jb_mk l R nL "MeasuredTensorsModel" D H0 (jt_all cI cJ cT cX) u) w' (sz + 1) kc ks (pc + 6) lv rest) : ja (jb_mk l R nL "MeasuredTensorsModel" D H0 (jt_all cI cJ cT cX) u) w sz (kc + 1) (ks + n1) pc lv (.int (nI n1) :: .ref (A k) :: .ref y :: rest) := by
  refine ja_bd (fun bd => ?_)
  have hw := h.2.1 k hk
  unfold jG_c at hw
  rw [if_pos hl] at hw
  have hak : ∀ j, j < 20 → A j < sz := fun j hj => bd _ _ (h.2.1 j hj)
  have hy := bd _ _ h.1
  refine jb_callS (As := [.ref (A k), .int (nI n1)]) (rest := .ref y :: rest) C X jk_copyJ (jz_copyJ (l := l) (D := D) (H0 := H0) (cI := cI) (cJ := cJ) (cT := cT) (cX := cX) (w := w) (sz := sz) hw hlt h1 (hak k hk)) hd1 rfl rfl hR hrs (fun v w' sz' hp9 => ?_)
  obtain ⟨rfl, rfl, rfl⟩ := hp9
  show ja _ _ _ kc ks (pc + 3) lv (.ref sz :: .ref y :: rest)
  have hy2 : va_up w sz (some (.inl (cJ, n1, .inr (.inl (va_cpy (VL k) (fun _ => 0) 0 0 (ln k)))))) y = some (.inr (5, jY_f A s wk)) := (va_up_ne _ _ (by omega)).trans h.1
  refine ja_put C hF hnf hd2 hy2 rfl rfl hp ?_
  rw [hset]
  refine kk _ (va_up VL k (va_cpy (VL k) (fun _ => 0) 0 0 (ln k))) (hE.cp hln) ⟨va_up_self _ _ _, fun j hj => ?_, fun i j hi hj e => ?_⟩ (fun a x ha hx n1' n2' => ?_) (fun j hj => ?_)
  · by_cases e : j = k
    · subst e
      rw [va_up_self, va_up_ne _ _ (by omega), va_up_self]
      unfold jG_c
      rw [if_pos hl, va_up_self, va_up_self]
    · have hj2 := hak j hj
      have hj3 := h.ne hj
      rw [va_up_ne _ _ e, va_up_ne _ _ hj3, va_up_ne _ _ (by omega), h.2.1 j hj]
      unfold jG_c
      rw [va_up_ne _ _ e, va_up_ne _ _ e]
  · by_cases ei : i = k
    · by_cases ej : j = k
      · rw [ei, ej]
      · rw [ei, va_up_self, va_up_ne _ _ ej] at e
        have := hak j hj
        omega
    · by_cases ej : j = k
      · rw [ej, va_up_self, va_up_ne _ _ ei] at e
        have := hak i hi
        omega
      · rw [va_up_ne _ _ ei, va_up_ne _ _ ej] at e
        exact h.2.2 i j hi hj e
  · rw [va_up_ne _ _ n1', va_up_ne _ _ (by omega)]
    exact h0 a x ha hx n1' n2'
  · by_cases e : j = k
    · rw [e, va_up_self]; exact Or.inr hs0
    · rw [va_up_ne _ _ e]; exact hA j hj
end YG
section YGB
variable {l : Launch} {D : va_G} {H0 : Heap} {cI cJ cT cX : ClassId} {w : jb_W} {sz : Nat}
variable {y : Nat} {A : Nat → Nat} {n n2 : Nat} {s : Nat → Int32} {V : Nat → Nat → Int32} {VL : Nat → Nat → Int64} {wk : Int64}
/-- grow: there is a place behind the last; what was held is held -/
def jl_grown (cI cJ : ClassId) (w : jb_W) (sz y : Nat) (A : Nat → Nat) (n n2 : Nat) (s : Nat → Int32) (V : Nat → Nat → Int32) (VL : Nat → Nat → Int64) (wk : Int64) (w' : jb_W) (sz' : Nat) : Prop :=
  ∃ (A' : Nat → Nat) (n' : Nat) (V' : Nat → Nat → Int32) (VL' : Nat → Nat → Int64), jY cI cJ w' y A' n' n2 s V' VL' wk ∧ (n' = n ∨ n' = 2 * n) ∧ jE (jY_len n n2) V V' ∧ jE (jY_len n n2) VL VL' ∧ jS sz y A w w' ∧ (∀ j, j < 20 → A' j = A j ∨ sz ≤ A' j) ∧ sz ≤ sz'
theorem jy_grow {ct : Nat} (hn1 : 1 ≤ n) (hc : s 2 = nI ct) (hcn : ct ≤ n) (hn : n ≤ 512) (hg : ct = n → n ≤ 256) (h : jY cI cJ w y A n n2 s V VL wk) : jb_M l jy_Y_grow jc_Y_grow 2 none 2 90 16 9728 D H0 (jt_all cI cJ cT cX) [.ref y] w sz (fun v w' sz' => v = none ∧ jl_grown cI cJ w sz y A n n2 s V VL wk w' sz' ∧ (ct < n → w' = w ∧ sz' = sz) ∧ (ct = n → ∃ (A' : Nat → Nat) (V' : Nat → Nat → Int32) (VL' : Nat → Nat → Int64), jY cI cJ w' y A' (2 * n) n2 s V' VL' wk ∧ jE (jY_len n n2) V V' ∧ jE (jY_len n n2) VL VL' ∧ jS sz y A w w' ∧ (∀ j, j < 20 → A' j = A j ∨ sz ≤ A' j))) := by
  refine jb_meth_v (by decide) (Nat.le_of_ble_eq_true rfl) (fun u C X hnm E => ?_)
  refine ja_aload_n C jd_Y_grow_0 0 rfl ?_
  refine ja_get C jfl_count jd_Y_grow_1 h.1 rfl ?_
  refine ja_aload_n C jd_Y_grow_4 0 rfl ?_
  refine ja_get C jfl_op jd_Y_grow_5 h.1 rfl ?_
  refine ja_alen C 0 rfl jd_Y_grow_8 h.a_op (nI n) rfl ?_
  have stay : ¬ nI n ≤ s 2 → ja (jb_mk l (jb_rm 2 90 16 9728) 2 "MeasuredTensorsModel" D H0 (jt_all cI cJ cT cX) u) w sz 16 9728 12 (lv_args 0 [.ref y]) [] := fun c_9 => by
    have hlt : ct < n := by
      rcases Nat.lt_or_ge ct n with q | q
      · exact q
      · exact absurd (by rw [hc]; exact nI_le q (by omega)) c_9
    exact E jd_Y_grow_12 ⟨rfl, ⟨A, n, V, VL, h, Or.inl rfl, jE.rf, jE.rf, fun _ _ _ hx _ _ => hx, fun _ _ => Or.inl rfl, Nat.le_refl _⟩, fun _ => ⟨rfl, rfl⟩, fun e => absurd e (by omega)⟩
  refine ja_icmp_ge C 13 jd_Y_grow_9 (by decide) (fun c_9 => ?_) (fun c_9 => stay c_9)
  have hcn : ct = n := by
    rw [hc] at c_9
    have := (nI_leI (by omega) (by omega)).mp c_9
    omega
  have hn := hg hcn
  refine ja_iconst C 2 jd_Y_grow_13 (by decide) ?_
  refine ja_aload_n C jd_Y_grow_14 0 rfl ?_
  refine ja_get C jfl_count jd_Y_grow_15 h.1 rfl ?_
  refine ja_imul C jd_Y_grow_18 ?_
  rw [hc, hcn, show (2 : Int32) = nI 2 by decide, pk_mul]
  refine ja_istore_n C [(1, .int (nI (2 * n))), (0, .ref y)] jd_Y_grow_19 rfl (Nat.le_of_ble_eq_true rfl) rfl ?_
  have g0 : jG cI cJ w y A (jY_len n n2) s V VL wk := h
  have z0 : jS sz y A w w := fun _ _ _ hx _ _ => hx
  have b0 : ∀ j, j < 20 → A j = A j ∨ sz ≤ A j := fun _ _ => Or.inl rfl
  have e0 : jE (jY_len n n2) V V := jE.rf
  have f0 : jE (jY_len n n2) VL VL := jE.rf
  refine ja_less (kc' := 16) (ks' := 38 * n) (Nat.le_refl _) (by omega) ?_
  refine ja_aload_n C jd_Y_grow_20 1 rfl ?_
  refine ja_aload_n C jd_Y_grow_21 1 rfl ?_
  refine ja_get C jfl_op jd_Y_grow_22 g0.1 rfl ?_
  refine ja_iload_n C jd_Y_grow_25 0 rfl ?_
  refine ja_less (kc' := 15 + 1) (ks' := 36 * n + (2 * n)) (by omega) (by omega) ?_
  refine jG_grow C X 0 3 _ (2 * n) (by decide) (by decide) jfp_op jfn_op (by decide) jd_Y_grow_26 jd_Y_grow_29 (fun _ => rfl) (show n < (2 * n) by omega) (by omega) ⟨by decide, by decide⟩ (Nat.le_of_ble_eq_true rfl) g0 z0 (by omega) b0 e0 (Nat.le_refl _) (fun w1 V1 e1 g1 z1 b1 => ?_)
  have f1 := f0
  refine ja_aload_n C jd_Y_grow_32 1 rfl ?_
  refine ja_aload_n C jd_Y_grow_33 1 rfl ?_
  refine ja_get C jfl_one jd_Y_grow_34 g1.1 rfl ?_
  refine ja_iload_n C jd_Y_grow_37 0 rfl ?_
  refine ja_less (kc' := 14 + 1) (ks' := 34 * n + (2 * n)) (by omega) (by omega) ?_
  refine jG_grow C X 1 4 _ (2 * n) (by decide) (by decide) jfp_one jfn_one (by decide) jd_Y_grow_38 jd_Y_grow_41 (fun _ => rfl) (show n < (2 * n) by omega) (by omega) ⟨by decide, by decide⟩ (Nat.le_of_ble_eq_true rfl) g1 z1 (by omega) b1 e1 (Nat.le_refl _) (fun w2 V2 e2 g2 z2 b2 => ?_)
  have f2 := f1
  refine ja_aload_n C jd_Y_grow_44 1 rfl ?_
  refine ja_aload_n C jd_Y_grow_45 1 rfl ?_
  refine ja_get C jfl_two jd_Y_grow_46 g2.1 rfl ?_
  refine ja_iload_n C jd_Y_grow_49 0 rfl ?_
  refine ja_less (kc' := 13 + 1) (ks' := 32 * n + (2 * n)) (by omega) (by omega) ?_
  refine jG_grow C X 2 5 _ (2 * n) (by decide) (by decide) jfp_two jfn_two (by decide) jd_Y_grow_50 jd_Y_grow_53 (fun _ => rfl) (show n < (2 * n) by omega) (by omega) ⟨by decide, by decide⟩ (Nat.le_of_ble_eq_true rfl) g2 z2 (by omega) b2 e2 (Nat.le_refl _) (fun w3 V3 e3 g3 z3 b3 => ?_)
  have f3 := f2
  refine ja_aload_n C jd_Y_grow_56 1 rfl ?_
  refine ja_aload_n C jd_Y_grow_57 1 rfl ?_
  refine ja_get C jfl_rank jd_Y_grow_58 g3.1 rfl ?_
  refine ja_iload_n C jd_Y_grow_61 0 rfl ?_
  refine ja_less (kc' := 12 + 1) (ks' := 30 * n + (2 * n)) (by omega) (by omega) ?_
  refine jG_grow C X 3 6 _ (2 * n) (by decide) (by decide) jfp_rank jfn_rank (by decide) jd_Y_grow_62 jd_Y_grow_65 (fun _ => rfl) (show n < (2 * n) by omega) (by omega) ⟨by decide, by decide⟩ (Nat.le_of_ble_eq_true rfl) g3 z3 (by omega) b3 e3 (Nat.le_refl _) (fun w4 V4 e4 g4 z4 b4 => ?_)
  have f4 := f3
  refine ja_aload_n C jd_Y_grow_68 1 rfl ?_
  refine ja_aload_n C jd_Y_grow_69 1 rfl ?_
  refine ja_get C jfl_sides jd_Y_grow_70 g4.1 rfl ?_
  refine ja_iconst C 4 jd_Y_grow_73 (by decide) ?_
  refine ja_iload_n C jd_Y_grow_74 0 rfl ?_
  refine ja_imul C jd_Y_grow_75 ?_
  rw [show (4 : Int32) = nI 4 by decide, pk_mul]
  refine ja_less (kc' := 11 + 1) (ks' := 22 * n + (4 * (2 * n))) (by omega) (by omega) ?_
  refine jG_grow C X 4 7 _ (4 * (2 * n)) (by decide) (by decide) jfp_sides jfn_sides (by decide) jd_Y_grow_76 jd_Y_grow_79 (fun _ => rfl) (show 4 * n < (4 * (2 * n)) by omega) (by omega) ⟨by decide, by decide⟩ (Nat.le_of_ble_eq_true rfl) g4 z4 (by omega) b4 e4 (Nat.le_refl _) (fun w5 V5 e5 g5 z5 b5 => ?_)
  have f5 := f4
  refine ja_aload_n C jd_Y_grow_82 1 rfl ?_
  refine ja_aload_n C jd_Y_grow_83 1 rfl ?_
  refine ja_get C jfl_cells jd_Y_grow_84 g5.1 rfl ?_
  refine ja_iload_n C jd_Y_grow_87 0 rfl ?_
  refine ja_less (kc' := 10 + 1) (ks' := 20 * n + (2 * n)) (by omega) (by omega) ?_
  refine jG_grow C X 5 8 _ (2 * n) (by decide) (by decide) jfp_cells jfn_cells (by decide) jd_Y_grow_88 jd_Y_grow_91 (fun _ => rfl) (show n < (2 * n) by omega) (by omega) ⟨by decide, by decide⟩ (Nat.le_of_ble_eq_true rfl) g5 z5 (by omega) b5 e5 (Nat.le_refl _) (fun w6 V6 e6 g6 z6 b6 => ?_)
  have f6 := f5
  refine ja_aload_n C jd_Y_grow_94 1 rfl ?_
  refine ja_aload_n C jd_Y_grow_95 1 rfl ?_
  refine ja_get C jfl_terms jd_Y_grow_96 g6.1 rfl ?_
  refine ja_iload_n C jd_Y_grow_99 0 rfl ?_
  refine ja_less (kc' := 9 + 1) (ks' := 18 * n + (2 * n)) (by omega) (by omega) ?_
  refine jG_grow C X 6 9 _ (2 * n) (by decide) (by decide) jfp_terms jfn_terms (by decide) jd_Y_grow_100 jd_Y_grow_103 (fun _ => rfl) (show n < (2 * n) by omega) (by omega) ⟨by decide, by decide⟩ (Nat.le_of_ble_eq_true rfl) g6 z6 (by omega) b6 e6 (Nat.le_refl _) (fun w7 V7 e7 g7 z7 b7 => ?_)
  have f7 := f6
  refine ja_aload_n C jd_Y_grow_106 1 rfl ?_
  refine ja_aload_n C jd_Y_grow_107 1 rfl ?_
  refine ja_get C jfl_range jd_Y_grow_108 g7.1 rfl ?_
  refine ja_iload_n C jd_Y_grow_111 0 rfl ?_
  refine ja_less (kc' := 8 + 1) (ks' := 16 * n + (2 * n)) (by omega) (by omega) ?_
  refine jG_grow C X 7 10 _ (2 * n) (by decide) (by decide) jfp_range jfn_range (by decide) jd_Y_grow_112 jd_Y_grow_115 (fun _ => rfl) (show n < (2 * n) by omega) (by omega) ⟨by decide, by decide⟩ (Nat.le_of_ble_eq_true rfl) g7 z7 (by omega) b7 e7 (Nat.le_refl _) (fun w8 V8 e8 g8 z8 b8 => ?_)
  have f8 := f7
  refine ja_aload_n C jd_Y_grow_118 1 rfl ?_
  refine ja_aload_n C jd_Y_grow_119 1 rfl ?_
  refine ja_get C jfl_depth jd_Y_grow_120 g8.1 rfl ?_
  refine ja_iload_n C jd_Y_grow_123 0 rfl ?_
  refine ja_less (kc' := 7 + 1) (ks' := 14 * n + (2 * n)) (by omega) (by omega) ?_
  refine jG_grow C X 8 11 _ (2 * n) (by decide) (by decide) jfp_depth jfn_depth (by decide) jd_Y_grow_124 jd_Y_grow_127 (fun _ => rfl) (show n < (2 * n) by omega) (by omega) ⟨by decide, by decide⟩ (Nat.le_of_ble_eq_true rfl) g8 z8 (by omega) b8 e8 (Nat.le_refl _) (fun w9 V9 e9 g9 z9 b9 => ?_)
  have f9 := f8
  refine ja_aload_n C jd_Y_grow_130 1 rfl ?_
  refine ja_aload_n C jd_Y_grow_131 1 rfl ?_
  refine ja_get C jfl_odd jd_Y_grow_132 g9.1 rfl ?_
  refine ja_iload_n C jd_Y_grow_135 0 rfl ?_
  refine ja_less (kc' := 6 + 1) (ks' := 12 * n + (2 * n)) (by omega) (by omega) ?_
  refine jG_growL C X 9 12 _ (2 * n) (by decide) (by decide) jfp_odd jfn_odd (by decide) jd_Y_grow_136 jd_Y_grow_139 (fun _ => rfl) (show n < (2 * n) by omega) (by omega) ⟨by decide, by decide⟩ (Nat.le_of_ble_eq_true rfl) g9 z9 (by omega) b9 f9 (Nat.le_refl _) (fun w10 V10 f10 g10 z10 b10 => ?_)
  have e10 := e9
  refine ja_aload_n C jd_Y_grow_142 1 rfl ?_
  refine ja_aload_n C jd_Y_grow_143 1 rfl ?_
  refine ja_get C jfl_upper jd_Y_grow_144 g10.1 rfl ?_
  refine ja_iload_n C jd_Y_grow_147 0 rfl ?_
  refine ja_less (kc' := 5 + 1) (ks' := 10 * n + (2 * n)) (by omega) (by omega) ?_
  refine jG_grow C X 10 13 _ (2 * n) (by decide) (by decide) jfp_upper jfn_upper (by decide) jd_Y_grow_148 jd_Y_grow_151 (fun _ => rfl) (show n < (2 * n) by omega) (by omega) ⟨by decide, by decide⟩ (Nat.le_of_ble_eq_true rfl) g10 z10 (by omega) b10 e10 (Nat.le_refl _) (fun w11 V11 e11 g11 z11 b11 => ?_)
  have f11 := f10
  refine ja_aload_n C jd_Y_grow_154 1 rfl ?_
  refine ja_aload_n C jd_Y_grow_155 1 rfl ?_
  refine ja_get C jfl_lower jd_Y_grow_156 g11.1 rfl ?_
  refine ja_iload_n C jd_Y_grow_159 0 rfl ?_
  refine ja_less (kc' := 4 + 1) (ks' := 8 * n + (2 * n)) (by omega) (by omega) ?_
  refine jG_grow C X 11 14 _ (2 * n) (by decide) (by decide) jfp_lower jfn_lower (by decide) jd_Y_grow_160 jd_Y_grow_163 (fun _ => rfl) (show n < (2 * n) by omega) (by omega) ⟨by decide, by decide⟩ (Nat.le_of_ble_eq_true rfl) g11 z11 (by omega) b11 e11 (Nat.le_refl _) (fun w12 V12 e12 g12 z12 b12 => ?_)
  have f12 := f11
  refine ja_aload_n C jd_Y_grow_166 1 rfl ?_
  refine ja_aload_n C jd_Y_grow_167 1 rfl ?_
  refine ja_get C jfl_uses jd_Y_grow_168 g12.1 rfl ?_
  refine ja_iload_n C jd_Y_grow_171 0 rfl ?_
  refine ja_less (kc' := 3 + 1) (ks' := 6 * n + (2 * n)) (by omega) (by omega) ?_
  refine jG_grow C X 15 21 _ (2 * n) (by decide) (by decide) jfp_uses jfn_uses (by decide) jd_Y_grow_172 jd_Y_grow_175 (fun _ => rfl) (show n < (2 * n) by omega) (by omega) ⟨by decide, by decide⟩ (Nat.le_of_ble_eq_true rfl) g12 z12 (by omega) b12 e12 (Nat.le_refl _) (fun w13 V13 e13 g13 z13 b13 => ?_)
  have f13 := f12
  refine ja_aload_n C jd_Y_grow_178 1 rfl ?_
  refine ja_aload_n C jd_Y_grow_179 1 rfl ?_
  refine ja_get C jfl_slopeRange jd_Y_grow_180 g13.1 rfl ?_
  refine ja_iload_n C jd_Y_grow_183 0 rfl ?_
  refine ja_less (kc' := 2 + 1) (ks' := 4 * n + (2 * n)) (by omega) (by omega) ?_
  refine jG_grow C X 16 22 _ (2 * n) (by decide) (by decide) jfp_slopeRange jfn_slopeRange (by decide) jd_Y_grow_184 jd_Y_grow_187 (fun _ => rfl) (show n < (2 * n) by omega) (by omega) ⟨by decide, by decide⟩ (Nat.le_of_ble_eq_true rfl) g13 z13 (by omega) b13 e13 (Nat.le_refl _) (fun w14 V14 e14 g14 z14 b14 => ?_)
  have f14 := f13
  refine ja_aload_n C jd_Y_grow_190 1 rfl ?_
  refine ja_aload_n C jd_Y_grow_191 1 rfl ?_
  refine ja_get C jfl_slopeDepth jd_Y_grow_192 g14.1 rfl ?_
  refine ja_iload_n C jd_Y_grow_195 0 rfl ?_
  refine ja_less (kc' := 1 + 1) (ks' := 2 * n + (2 * n)) (by omega) (by omega) ?_
  refine jG_grow C X 17 23 _ (2 * n) (by decide) (by decide) jfp_slopeDepth jfn_slopeDepth (by decide) jd_Y_grow_196 jd_Y_grow_199 (fun _ => rfl) (show n < (2 * n) by omega) (by omega) ⟨by decide, by decide⟩ (Nat.le_of_ble_eq_true rfl) g14 z14 (by omega) b14 e14 (Nat.le_refl _) (fun w15 V15 e15 g15 z15 b15 => ?_)
  have f15 := f14
  refine ja_aload_n C jd_Y_grow_202 1 rfl ?_
  refine ja_aload_n C jd_Y_grow_203 1 rfl ?_
  refine ja_get C jfl_slopeOdd jd_Y_grow_204 g15.1 rfl ?_
  refine ja_iload_n C jd_Y_grow_207 0 rfl ?_
  refine ja_less (kc' := 0 + 1) (ks' := 0 * n + (2 * n)) (by omega) (by omega) ?_
  refine jG_growL C X 18 24 _ (2 * n) (by decide) (by decide) jfp_slopeOdd jfn_slopeOdd (by decide) jd_Y_grow_208 jd_Y_grow_211 (fun _ => rfl) (show n < (2 * n) by omega) (by omega) ⟨by decide, by decide⟩ (Nat.le_of_ble_eq_true rfl) g15 z15 (by omega) b15 f15 (Nat.le_refl _) (fun w16 V16 f16 g16 z16 b16 => ?_)
  have e16 := e15
  have fin : jY cI cJ w16 y _ (2 * n) n2 s _ _ wk := ⟨g16.1, fun k hk => (g16.2.1 k hk).trans (by
    have hln : ∀ k, k < 20 → (va_up (va_up (va_up (va_up (va_up (va_up (va_up (va_up (va_up (va_up (va_up (va_up (va_up (va_up (va_up (va_up (jY_len n n2) 0 (2 * n)) 1 (2 * n)) 2 (2 * n)) 3 (2 * n)) 4 (4 * (2 * n))) 5 (2 * n)) 6 (2 * n)) 7 (2 * n)) 8 (2 * n)) 9 (2 * n)) 10 (2 * n)) 11 (2 * n)) 15 (2 * n)) 16 (2 * n)) 17 (2 * n)) 18 (2 * n)) k = jY_len (2 * n) n2 k := fun k hk => by
      match k, hk with
      | 0, _ => rfl
      | 1, _ => rfl
      | 2, _ => rfl
      | 3, _ => rfl
      | 4, _ => rfl
      | 5, _ => rfl
      | 6, _ => rfl
      | 7, _ => rfl
      | 8, _ => rfl
      | 9, _ => rfl
      | 10, _ => rfl
      | 11, _ => rfl
      | 12, _ => rfl
      | 13, _ => rfl
      | 14, _ => rfl
      | 15, _ => rfl
      | 16, _ => rfl
      | 17, _ => rfl
      | 18, _ => rfl
      | 19, _ => rfl
      | k + 20, hk => omega
    unfold jG_c jY_c
    rw [show _ = jY_len (2 * n) n2 k from hln k hk]), g16.2.2⟩
  exact E jd_Y_grow_214 ⟨rfl, ⟨_, 2 * n, _, _, fin, Or.inr rfl, e16, f16, z16, b16, by omega⟩, fun q => absurd q (by omega), fun _ => ⟨_, _, _, fin, e16, f16, z16, b16⟩⟩
end YGB
