/-! THE CLASS: a draft is kept -/
def jq (q : Nat) : Nat := if q = 0 then 4611686018427387904 else q
/-- the class holds σ -/
def jXs (cI cT cX : ClassId) (x : Nat) (P : Nat → Prop) (σ : jSt) (w : jb_W) : Prop := ∃ (dr : Nat) (F G : Nat → Option Nat) (own : Nat → Nat) (fT : Nat → Nat → Int32) (ls : Int32) (k : Nat) (f : Nat → Int32) (m : Int32 × Int32 × Int64) (tm : Int32), jXd cI cT cX x P σ dr F G own fT ls w k f m tm
/-- the class behind a call -/
def jXP (cI cT cX : ClassId) (x : Nat) (P : Nat → Prop) (w : jb_W) (sz : Nat) (σ : jSt) (w' : jb_W) (sz' : Nat) : Prop := ∃ P', (∀ a, P' a → P a ∨ sz ≤ a) ∧ jXs cI cT cX x P' σ w' ∧ (∀ c, c < sz → ¬ P c → w' c = w c) ∧ sz ≤ sz'
theorem jZx.has {cI : ClassId} {w : jb_W} {b k : Nat} {f : Nat → Int32} {m : Int32 × Int32 × Int64} {tm : Int32} (h : jZx cI w b k f m tm) {c : Nat} (h1 : b ≤ c) (h2 : c < b + 5) : ∃ v, w c = some v := by
  obtain ⟨sl, p, ⟨z0, z1, z2, z3, z4⟩, hp⟩ := h
  rcases Nat.lt_or_ge c (b + 1) with q | q
  · rw [show c = b by omega]; exact ⟨_, z0⟩
  rcases Nat.lt_or_ge c (b + 2) with q | q
  · rw [show c = b + 1 by omega]; exact ⟨_, z1⟩
  rcases Nat.lt_or_ge c (b + 3) with q | q
  · rw [show c = b + 2 by omega]; exact ⟨_, z2⟩
  rcases Nat.lt_or_ge c (b + 4) with q | q
  · rw [show c = b + 3 by omega]; exact ⟨_, z3⟩
  · rw [show c = b + 4 by omega]; exact ⟨_, z4⟩
theorem jSh.S {k : Nat} {f : Nat → Int32} {S : Nat → Nat} (h : jSh k f S) : jl_S S k = S := funext fun j => by
  unfold jl_S
  split
  · rfl
  · exact (h.2.2 j (by omega)).symm
theorem jXd.keep {cI cT cX : ClassId} {x : Nat} {P P2 : Nat → Prop} {σ : jSt} {dr dr2 : Nat} {F G : Nat → Option Nat} {own own2 : Nat → Nat} {fT : Nat → Nat → Int32} {ls : Int32} {w w2 : jb_W} {k : Nat} {f : Nat → Int32} {S : Nat → Nat} {r e q ad : Nat} {what a b : Int32} {ul : Nat × Nat} (h : jXd cI cT cX x P σ dr F G own fT ls w k f (nI r, nI e, lN q) (nI ad)) (hS : jSh k f S) (hct : jSt_c σ < 512) (ok : jT_ok ((what, a, b), (k, jl_S S k), (ad, r, e, q), ul)) (hwk : jSt_w σ + jl_cells S k * ad ≤ 1000000)
    (wx : w2 x = some (.inr (4, [.ref (x + 1), .ref (x + 2), .ref (x + 3), .ref (x + 4), .ref dr2, .int (nI (jSt_c σ + 1)), .int (nI (jSt_i σ)), .int (nI (jSt_w σ + jl_cells S k * ad)), .int ls, .int (nI (jSt_p σ))])))
    (wt : w2 (x + 1) = some (.inl (cT, 4000, .inr (.inr (.inr (.inr (va_up F (jSt_c σ) (some dr))))))))
    (fr : ∀ c v, w c = some v → c ≠ x → c ≠ x + 1 → w2 c = w c) {k2 : Nat} {f2 : Nat → Int32} {m2 : Int32 × Int32 × Int64} {t2 : Int32} (hk2 : k2 ≤ 4) (hd2 : jZx cI w2 dr2 k2 f2 m2 t2) (xd2 : x + 5 ≤ dr2) (od2 : ∀ j, j < 5 → own2 (dr2 + j) = dr2) (nd : dr ≠ dr2) (nF : ∀ t b, t ≠ jSt_c σ → F t = some b → b ≠ dr2)
    (ow : ∀ c v, w c = some v → own2 c = own c) (hP : ∀ c, P c → P2 c) (hPd : ∀ j, j < 5 → P2 (dr2 + j)) : jXd cI cT cX x P2 (jSt_add σ ((what, a, b), (k, jl_S S k), (ad, r, e, q), ul)) dr2 (va_up F (jSt_c σ) (some dr)) G own2 (va_up fT (jSt_c σ) f) ls w2 k2 f2 m2 t2 := by
  have hz := h.d
  obtain ⟨h1, h2, h3, ⟨r4, e4, q4, h4⟩, ⟨r5, e5, q5, h5⟩, ⟨-, -, hd, h6⟩, ⟨h7a, h7b, h7c, h7d⟩, h8, h9, h10, h11, h12, h13, h14⟩ := h
  have kept : ∀ {b9 k9 : Nat} {f9 : Nat → Int32} {m9 : Int32 × Int32 × Int64} {t9 : Int32}, x + 5 ≤ b9 → jZx cI w b9 k9 f9 m9 t9 → jZx cI w2 b9 k9 f9 m9 t9 := fun hx hz9 => hz9.kept (fun c c1 c2 => by obtain ⟨v, hv⟩ := hz9.has c1 c2; exact fr c v hv (by omega) (by omega))
  have ec : jl_cells (jl_S S k) k = jl_cells S k := jl_S_cells
  refine ⟨?_, wt, (fr _ _ h3 (by omega) (by omega)).trans h3, ⟨r4, e4, q4, (fr _ _ h4 (by omega) (by omega)).trans h4⟩, ⟨r5, e5, q5, (fr _ _ h5 (by omega) (by omega)).trans h5⟩, ⟨hk2, hd2, xd2, od2⟩, ⟨by show jSt_c σ + 1 ≤ 512; omega, h7b, by show jSt_w σ + jl_cells (jl_S S k) k * ad ≤ 1000000; rw [ec]; exact hwk, h7d⟩, fun t ht => ?_, fun t b9 hb => ?_, fun t t' b9 e1 e2 => ?_, fun i hi => ?_, fun j hj => hP _ (h12 j hj), hPd, fun t b9 hb j hj => ?_⟩
  · rw [wx]
    show _ = some (Sum.inr (4, [Value.ref (x + 1), .ref (x + 2), .ref (x + 3), .ref (x + 4), .ref dr2, .int (nI (jSt_c σ + 1)), .int (nI (jSt_i σ)), .int (nI (jSt_w σ + jl_cells (jl_S S k) k * ad)), .int ls, .int (nI (jSt_p σ))]))
    rw [ec]
  · have ht : t < jSt_c σ + 1 := ht
    by_cases et : t = jSt_c σ
    · subst et
      show jT_ok (va_up (jSt_T σ) (jSt_c σ) _ (jSt_c σ)) ∧ ∃ b, va_up F (jSt_c σ) (some dr) (jSt_c σ) = some b ∧ jZx cI w2 b (jT_k (va_up (jSt_T σ) (jSt_c σ) _ (jSt_c σ))) (va_up fT (jSt_c σ) f (jSt_c σ)) (nI (jT_r (va_up (jSt_T σ) (jSt_c σ) _ (jSt_c σ))), nI (jT_e (va_up (jSt_T σ) (jSt_c σ) _ (jSt_c σ))), lN (jT_q (va_up (jSt_T σ) (jSt_c σ) _ (jSt_c σ)))) (nI (jT_t (va_up (jSt_T σ) (jSt_c σ) _ (jSt_c σ)))) ∧ jSh (jT_k (va_up (jSt_T σ) (jSt_c σ) _ (jSt_c σ))) (va_up fT (jSt_c σ) f (jSt_c σ)) (jT_S (va_up (jSt_T σ) (jSt_c σ) _ (jSt_c σ)))
      rw [va_up_self, va_up_self, va_up_self]
      exact ⟨ok, dr, rfl, kept hd hz, by show jSh k f (jl_S S k); rw [hS.S]; exact hS⟩
    · obtain ⟨g1, b9, g2, g3, g4⟩ := h8 t (by omega)
      show jT_ok (va_up (jSt_T σ) (jSt_c σ) _ t) ∧ ∃ b, va_up F (jSt_c σ) (some dr) t = some b ∧ jZx cI w2 b (jT_k (va_up (jSt_T σ) (jSt_c σ) _ t)) (va_up fT (jSt_c σ) f t) (nI (jT_r (va_up (jSt_T σ) (jSt_c σ) _ t)), nI (jT_e (va_up (jSt_T σ) (jSt_c σ) _ t)), lN (jT_q (va_up (jSt_T σ) (jSt_c σ) _ t))) (nI (jT_t (va_up (jSt_T σ) (jSt_c σ) _ t))) ∧ jSh (jT_k (va_up (jSt_T σ) (jSt_c σ) _ t)) (va_up fT (jSt_c σ) f t) (jT_S (va_up (jSt_T σ) (jSt_c σ) _ t))
      rw [va_up_ne _ _ et, va_up_ne _ _ et, va_up_ne _ _ et]
      exact ⟨g1, b9, g2, kept (h9 t b9 g2).1 g3, g4⟩
  · by_cases et : t = jSt_c σ
    · rw [et, va_up_self] at hb
      cases hb
      exact ⟨hd, nd, fun j hj => by obtain ⟨v, hv⟩ := hz.has (Nat.le_add_right dr j) (by omega); rw [ow _ v hv]; exact h6 j hj, _, _, _, _, by have := hS.1; omega, kept hd hz⟩
    · rw [va_up_ne _ _ et] at hb
      obtain ⟨q1, q2, q3, k9, f9, m9, t9, q4', q5'⟩ := h9 t b9 hb
      exact ⟨q1, nF t b9 et hb, fun j hj => by obtain ⟨v, hv⟩ := q5'.has (Nat.le_add_right b9 j) (by omega); rw [ow _ v hv]; exact q3 j hj, k9, f9, m9, t9, q4', kept q1 q5'⟩
  · by_cases et : t = jSt_c σ
    · by_cases et' : t' = jSt_c σ
      · rw [et, et']
      · rw [et, va_up_self] at e1
        rw [va_up_ne _ _ et'] at e2
        cases e1
        exact absurd rfl (h9 t' dr e2).2.1
    · by_cases et' : t' = jSt_c σ
      · rw [et', va_up_self] at e2
        rw [va_up_ne _ _ et] at e1
        cases e2
        exact absurd rfl (h9 t dr e1).2.1
      · rw [va_up_ne _ _ et] at e1
        rw [va_up_ne _ _ et'] at e2
        exact h10 t t' b9 e1 e2
  · obtain ⟨ib, fi, g1, g2, g3, g4, g5, g6, g7, g8, g9, g10, g11⟩ := h11 i hi
    refine ⟨ib, fi, g1, g2, fun j hj => ?_, (fr _ _ g4 (by omega) (by omega)).trans g4, (fr _ _ g5 (by omega) (by omega)).trans g5, (fr _ _ g6 (by omega) (by omega)).trans g6, g7, g8, g9, g10, fun j hj => hP _ (g11 j hj)⟩
    match j, hj with
    | 0, _ => rw [show ib + 0 = ib from rfl, ow _ _ g4]; exact g3 0 (by decide)
    | 1, _ => rw [ow _ _ g5]; exact g3 1 (by decide)
    | 2, _ => rw [ow _ _ g6]; exact g3 2 (by decide)
    | j + 3, z => omega
  · by_cases et : t = jSt_c σ
    · rw [et, va_up_self] at hb
      cases hb
      exact hP _ (h13 j hj)
    · rw [va_up_ne _ _ et] at hb
      exact hP _ (h14 t b9 hb j hj)
theorem jnw_X_T : ja_NW jcl "MeasuredTensors" 9 2 13 [.null, .null, .null, .int 0, .int 0, .int 0, .int 0, .int 0, .int 0, .int 0, .int 0, .int 0, .int 0] := ⟨_, jt_T, rfl, rfl, jw_T, jw_in (by decide +kernel) (by decide +kernel), jw_in (by decide +kernel) (by decide +kernel), jw_in (by decide +kernel) (by decide +kernel), jf_T_ty, by intro j hj; match j, hj with | 0, _ => rfl | 1, _ => rfl | 2, _ => rfl | 3, _ => rfl | 4, _ => rfl | 5, _ => rfl | 6, _ => rfl | 7, _ => rfl | 8, _ => rfl | 9, _ => rfl | 10, _ => rfl | 11, _ => rfl | 12, _ => rfl | j + 13, z => exact absurd z (by show ¬ j + 13 < 13; omega)⟩
theorem jki_X_T : jb_KIN "MeasuredTensors" 31 jy_T_init "MeasuredTensors" jc_T_init 1 0 := ⟨by decide, jw_in (by decide +kernel) (by decide +kernel), rfl, jw_in (by decide +kernel) (by decide +kernel), jw_in (by decide +kernel) (by decide +kernel), by decide +kernel⟩
theorem jk_X_238 : jb_KV "MeasuredTensors" 238 jy_S_isTooLarge jc_S_isTooLarge 2 (some .boolean) 0 := ⟨jw_in (by decide +kernel) (by decide +kernel), jw_in (by decide +kernel) (by decide +kernel), jw_in (by decide +kernel) (by decide +kernel), jw_in (by decide +kernel) (by decide +kernel), jw_in (by decide +kernel) (by decide +kernel), by decide +kernel⟩
theorem jk_X_241 : jb_KV "MeasuredTensors" 241 jy_M_isBeyond jc_M_isBeyond 1 (some .boolean) 0 := ⟨jw_in (by decide +kernel) (by decide +kernel), jw_in (by decide +kernel) (by decide +kernel), jw_in (by decide +kernel) (by decide +kernel), jw_in (by decide +kernel) (by decide +kernel), jw_in (by decide +kernel) (by decide +kernel), by decide +kernel⟩
theorem jg_X_43 : ja_FL jcl "MeasuredTensors" 43 4 7 := ⟨_, rfl, by decide, jw_X, jw_in (by decide +kernel) (by decide +kernel)⟩
theorem jq_X_244 : Cond.constantLong "MeasuredTensors" 244 (lN 1000000) ∈ jw_all := jw_in (by decide +kernel) (by decide +kernel)
theorem jp_X_32 : ja_FP jcl "MeasuredTensors" 32 4 4 (.object "MeasuredTensors$Tensor") := ⟨_, jt_X, rfl, by decide, jw_X, jw_in (by decide +kernel) (by decide +kernel), jf_X_ty, jf_X_nm, rfl⟩
theorem jnf_X_4 : ∀ r, jcl[4]? = some r → (r.2.1 4).2.2.2 = false := fun r h => by cases h; rfl
theorem jp_X_43 : ja_FP jcl "MeasuredTensors" 43 4 7 .int := ⟨_, jt_X, rfl, by decide, jw_X, jw_in (by decide +kernel) (by decide +kernel), jf_X_ty, jf_X_nm, rfl⟩
theorem jnf_X_7 : ∀ r, jcl[4]? = some r → (r.2.1 7).2.2.2 = false := fun r h => by cases h; rfl
theorem jp_X_36 : ja_FP jcl "MeasuredTensors" 36 4 5 .int := ⟨_, jt_X, rfl, by decide, jw_X, jw_in (by decide +kernel) (by decide +kernel), jf_X_ty, jf_X_nm, rfl⟩
theorem jnf_X_5 : ∀ r, jcl[4]? = some r → (r.2.1 5).2.2.2 = false := fun r h => by cases h; rfl
section X78
variable {l : Launch} {D : va_G} {H0 : Heap} {cI cJ cT cX : ClassId} {w : jb_W} {sz : Nat}
variable {x : Nat} {P : Nat → Prop} {σ : jSt} {dr : Nat} {F G : Nat → Option Nat} {own : Nat → Nat} {fT : Nat → Nat → Int32} {ls : Int32} {k : Nat} {f : Nat → Int32} {m : Int32 × Int32 × Int64} {tm : Int32}
theorem jx_keep {S : Nat → Nat} {r e q ad : Nat} {what a b : Int32} {ul : Nat × Nat} (h : jXd cI cT cX x P σ dr F G own fT ls w k f (nI r, nI e, lN (jq q)) (nI ad)) (hS : jSh k f S) (hct : jSt_c σ < 512) (hr : r < 2 ^ 31) (he : e < 2 ^ 31) (hq : q < 2 ^ 62) (had : 1 ≤ ad ∧ ad ≤ 2 ^ 24) : jb_M l jy_X_keepDraft jc_X_keepDraft 4 (some .int) 3 65 5 25 D H0 (jt_all cI cJ cT cX) [.ref x] w sz
    (fun v w' sz' => ∃ (y : Int32) (σ' : jSt), v = some (.int y) ∧ jB σ S k what a b ad r e q ul y σ' ∧ jXP cI cT cX x P w sz σ' w' sz') := by
  refine jb_meth_i (by decide) (Nat.le_of_ble_eq_true rfl) (fun u C X E => ?_)
  have hcn := h.cn
  have hk4 := h.k4
  have hxd := h.xd
  have hjq : lN 4611686018427387904 ≤ lN (jq q) ↔ q = 0 := by
    unfold jq
    rw [pk_lLE (by decide) (by split <;> omega)]
    split <;> omega
  have c52 := jl_cells_52 (N := S) hS.1 (fun j _ => (hS.bd j).2)
  have full : ∀ (hf : jl_full S k r e q ad (jSt_w σ)), ja (jb_mk l (jb_rm 3 65 5 25) 4 "MeasuredTensors" D H0 (jt_all cI cJ cT cX) u) w sz 5 25 45 [(0, .ref x)] [] := by
    intro hf
    refine ja_bipush C (-8) jd_X_keepDraft_45 (by decide) ?_
    exact E jd_X_keepDraft_47 ⟨-8, σ, rfl, ⟨fun _ => ⟨rfl, rfl⟩, fun z => absurd hf z⟩, P, fun _ q => Or.inl q, ⟨_, _, _, _, _, _, _, _, _, _, h⟩, fun _ _ _ => rfl, Nat.le_refl _⟩
  refine ja_aload_n C jd_X_keepDraft_0 0 rfl ?_
  refine ja_get C jg_X_36 jd_X_keepDraft_1 h.obj rfl ?_
  refine ja_if_ltN C 45 jd_X_keepDraft_4 (by decide) (by omega) ?_
  refine ja_aload_n C jd_X_keepDraft_7 0 rfl ?_
  refine ja_get C jg_X_36 jd_X_keepDraft_8 h.obj rfl ?_
  refine ja_aload_n C jd_X_keepDraft_11 0 rfl ?_
  refine ja_get C jg_X_11 jd_X_keepDraft_12 h.obj rfl ?_
  refine ja_alen C 2 rfl jd_X_keepDraft_15 h.ten (nI 4000) rfl ?_
  refine ja_icmp_geN C 45 jd_X_keepDraft_16 (by decide) (by omega) (by decide) (fun c0 => absurd c0 (by omega)) (fun c0 => ?_)
  refine ja_aload_n C jd_X_keepDraft_19 0 rfl ?_
  refine ja_get C jg_X_32 jd_X_keepDraft_20 h.obj rfl ?_
  refine jZx_g C jg_X_93 jd_X_keepDraft_23 h.d (fun _ _ => rfl) ?_
  refine jb_pV 8 C X jk_X_238 h.d.z1 rfl (js_tooLarge h.d.z1 h.d.z2 hS) jd_X_keepDraft_26 rfl rfl ⟨by decide, by decide⟩ (Nat.le_of_ble_eq_true rfl) ?_
  refine ja_if_neB C 45 jd_X_keepDraft_29 (by decide) (fun c1 => full (Or.inl c1)) (fun c1 => ?_)
  refine ja_aload_n C jd_X_keepDraft_32 0 rfl ?_
  refine ja_get C jg_X_32 jd_X_keepDraft_33 h.obj rfl ?_
  refine jZx_g C jg_X_73 jd_X_keepDraft_36 h.d (fun _ _ => rfl) ?_
  refine jb_pV 8 C X jk_X_241 h.d.z3 rfl (jm_isBeyond h.d.z3) jd_X_keepDraft_39 rfl rfl ⟨by decide, by decide⟩ (Nat.le_of_ble_eq_true rfl) ?_
  refine ja_if_eqB C 48 jd_X_keepDraft_42 (by decide) (fun c2 => ?_) (fun c2 => full (by rcases c2 with z | z | z; exact Or.inr (Or.inl ((nI_ltI (by decide) hr).mp z)); exact Or.inr (Or.inr (Or.inl ((nI_ltI (by decide) he).mp z))); exact Or.inr (Or.inr (Or.inr (Or.inl (hjq.mp z))))))
  have f1 : jl_cells S k ≤ 65536 := Nat.not_lt.mp fun z => c1 (Or.inl z)
  have f2 : jl_long S k = false := by
    cases z : jl_long S k with
    | false => rfl
    | true => exact absurd (Or.inr z) c1
  have f3 : r ≤ 4000 := Nat.not_lt.mp fun z => c2 (Or.inl ((nI_ltI (by decide) hr).mpr z))
  have f4 : e ≤ 4000 := Nat.not_lt.mp fun z => c2 (Or.inr (Or.inl ((nI_ltI (by decide) he).mpr z)))
  have f5 : q ≠ 0 := fun z => c2 (Or.inr (Or.inr (hjq.mpr z)))
  have ejq : jq q = q := by unfold jq; rw [if_neg f5]
  have ecl : jl_cl S k = jl_cells S k := by unfold jl_cl; rw [if_pos f1]
  have hmul : jl_cells S k * ad ≤ 65536 * 16777216 := Nat.mul_le_mul f1 had.2
  refine ja_aload_n C jd_X_keepDraft_48 0 rfl ?_
  refine ja_get C jg_X_43 jd_X_keepDraft_49 h.obj rfl ?_
  refine ja_i2lN C jd_X_keepDraft_52 (by omega) ?_
  refine ja_aload_n C jd_X_keepDraft_53 0 rfl ?_
  refine ja_get C jg_X_32 jd_X_keepDraft_54 h.obj rfl ?_
  refine jZx_g C jg_X_93 jd_X_keepDraft_57 h.d (fun _ _ => rfl) ?_
  refine jb_pV 8 C X jk_X_114 h.d.z1 rfl (js_cells h.d.z1 h.d.z2 hS) jd_X_keepDraft_60 rfl rfl ⟨by decide, by decide⟩ (Nat.le_of_ble_eq_true rfl) ?_
  rw [ecl]
  refine ja_i2lN C jd_X_keepDraft_63 (by omega) ?_
  refine ja_aload_n C jd_X_keepDraft_64 0 rfl ?_
  refine ja_get C jg_X_32 jd_X_keepDraft_65 h.obj rfl ?_
  refine jZx_g (v := .int (nI ad)) C jg_X_215 jd_X_keepDraft_68 h.d (fun _ q => congrArg (fun z => some (Value.int z)) q) ?_
  refine ja_i2lN C jd_X_keepDraft_71 (by omega) ?_
  refine ja_lmulN C jd_X_keepDraft_72 ?_
  refine ja_laddN C jd_X_keepDraft_73 ?_
  refine ja_lstore_n C [(1, .long (lN ((jSt_w σ) + ((jl_cells S k) * ad)))), (0, .ref x)] jd_X_keepDraft_74 rfl (Nat.le_of_ble_eq_true rfl) rfl ?_
  refine ja_lload_n C jd_X_keepDraft_75 0 rfl ?_
  refine ja_ldc2 C (lN 1000000) jq_X_244 jd_X_keepDraft_76 ?_
  refine ja_lc_le C 86 jd_X_keepDraft_79 jd_X_keepDraft_80 (by decide) (by omega) (by omega) (fun c3 => ?_) (fun c3 => ?_)
  · have nf : ¬ jl_full S k r e q ad (jSt_w σ) := fun z => by rcases z with (z | z) | z | z | z | z; omega; rw [f2] at z; cases z; omega; omega; exact f5 z; omega
    have okT : jT_ok ((what, a, b), (k, jl_S S k), (ad, r, e, q), ul) := ⟨hS.1, fun j _ => by show 1 ≤ jl_S S k j ∧ jl_S S k j ≤ 4096; rw [hS.S]; refine ⟨(hS.bd j).1, ?_⟩; rcases Nat.lt_or_ge j k with z | z; exact jl_long_f f2 z; rw [hS.2.2 j z]; decide, fun j hj => by show jl_S S k j = 1; rw [hS.S]; exact hS.2.2 j hj, by show jl_cells (jl_S S k) k ≤ 65536; rw [jl_S_cells]; exact f1, had.1, had.2, f3, f4, by show 1 ≤ q; omega, hq⟩
    rw [ejq] at h
    obtain ⟨fsd, hbd⟩ := h.d.z0
    refine ja_bd (fun bd => ?_)
    have bdr := bd _ _ hbd
    refine ja_aload_n C jd_X_keepDraft_86 1 rfl ?_
    refine ja_get C jg_X_11 jd_X_keepDraft_87 h.obj rfl ?_
    refine ja_aload_n C jd_X_keepDraft_90 1 rfl ?_
    refine ja_get C jg_X_36 jd_X_keepDraft_91 h.obj rfl ?_
    rcases hF : F (jSt_c σ) with _ | bf
    · refine jo_aald C 2 rfl none jd_X_keepDraft_94 h.ten (by omega) (by decide) hF ?_
      refine ja_astore_nN C [(3, .null), (1, .long (lN ((jSt_w σ) + ((jl_cells S k) * ad)))), (0, .ref x)] jd_X_keepDraft_95 rfl (Nat.le_of_ble_eq_true rfl) rfl ?_
      refine ja_aload_n C jd_X_keepDraft_96 2 rfl ?_
      refine ja_get C jg_X_11 jd_X_keepDraft_97 h.obj rfl ?_
      refine ja_aload_n C jd_X_keepDraft_100 2 rfl ?_
      refine ja_get C jg_X_36 jd_X_keepDraft_101 h.obj rfl ?_
      refine ja_aload_n C jd_X_keepDraft_104 2 rfl ?_
      refine ja_get C jg_X_32 jd_X_keepDraft_105 h.obj rfl ?_
      refine jo_aast C 2 (r := (jn_T, jf_T, 13)) rfl rfl jd_X_keepDraft_108 h.ten hbd (by omega) (by decide) (fun wa ga fa => ?_)
      refine ja_aload_n C jd_X_keepDraft_109 2 rfl ?_
      refine ja_aload_nN C jd_X_keepDraft_110 0 rfl ?_
      refine ja_ifnonnullN C jd_X_keepDraft_111 ?_
      refine jo_new (kc := 4) (ks := 12) C jnw_X_T jd_X_keepDraft_114 (fun wb gb fb => ?_)
      refine ja_dup C jd_X_keepDraft_117 rfl ?_
      refine jb_callIN (kc := 0) (ks := 0) (mc := 4) (ms := 12) (As := []) C X jki_X_T (jt_init gb rfl) jd_X_keepDraft_118 rfl rfl ⟨by decide, by decide⟩ (Nat.le_of_ble_eq_true rfl) (fun v wc zc hpc => ?_)
      obtain ⟨v1, ⟨gc, fc⟩, v3⟩ := hpc
      rw [v1, v3]
      have hxs : x < sz := bd _ _ h.obj
      refine ja_goto C 125 jd_X_keepDraft_121 (by decide) ?_
      refine jo_put C jp_X_32 jnf_X_4 jd_X_keepDraft_125 ((fc _ (by omega)).trans ((fb _ (by omega)).trans ((fa _ (by omega)).trans h.obj))) rfl rfl (Nat.le_of_ble_eq_true rfl) [.ref (x + 1), .ref (x + 2), .ref (x + 3), .ref (x + 4), .ref sz, .int (nI (jSt_c σ)), .int (nI (jSt_i σ)), .int (nI (jSt_w σ)), .int ls, .int (nI (jSt_p σ))] rfl (fun w1 g1 f1 => ?_)
      refine ja_aload_n C jd_X_keepDraft_128 2 rfl ?_
      refine ja_lload_n C jd_X_keepDraft_129 1 rfl ?_
      refine ja_l2iN C jd_X_keepDraft_130 ?_
      refine jo_put C jp_X_43 jnf_X_7 jd_X_keepDraft_131 g1 rfl rfl (Nat.le_of_ble_eq_true rfl) [.ref (x + 1), .ref (x + 2), .ref (x + 3), .ref (x + 4), .ref sz, .int (nI (jSt_c σ)), .int (nI (jSt_i σ)), .int (nI ((jSt_w σ) + ((jl_cells S k) * ad))), .int ls, .int (nI (jSt_p σ))] rfl (fun w2 g2 f2 => ?_)
      refine ja_aload_n C jd_X_keepDraft_134 2 rfl ?_
      refine ja_dup C jd_X_keepDraft_135 rfl ?_
      refine ja_get C jg_X_36 jd_X_keepDraft_136 g2 rfl ?_
      refine ja_iconst C (nI 1) jd_X_keepDraft_139 (by decide) ?_
      refine ja_iaddN C jd_X_keepDraft_140 ?_
      refine jo_put C jp_X_36 jnf_X_5 jd_X_keepDraft_141 g2 rfl rfl (Nat.le_of_ble_eq_true rfl) [.ref (x + 1), .ref (x + 2), .ref (x + 3), .ref (x + 4), .ref sz, .int (nI ((jSt_c σ) + 1)), .int (nI (jSt_i σ)), .int (nI ((jSt_w σ) + ((jl_cells S k) * ad))), .int ls, .int (nI (jSt_p σ))] rfl (fun w3 g3 f3 => ?_)
      refine ja_aload_n C jd_X_keepDraft_144 2 rfl ?_
      refine ja_get C jg_X_36 jd_X_keepDraft_145 g3 rfl ?_
      refine ja_iconst C (nI 1) jd_X_keepDraft_148 (by decide) ?_
      refine ja_isubN C jd_X_keepDraft_149 (by omega) ?_
      have fQ : ∀ c, c ≠ x → w3 c = wc c := fun c hc => (f3 c hc).trans ((f2 c hc).trans (f1 c hc))
      have hy := h.keep (P2 := fun c => P c ∨ sz ≤ c) (own2 := fun c => if sz ≤ c then sz else own c) (what := what) (a := a) (b := b) (ul := ul) hS hct okT c3 (w2 := w3) (dr2 := sz) g3 ((fQ _ (by omega)).trans ((fc _ (by omega)).trans ((fb _ (by omega)).trans ga))) (fun c v hv c1 c2 => (fQ c c1).trans ((fc c (by have := bd _ _ hv; omega)).trans ((fb c (by have := bd _ _ hv; omega)).trans (fa c c2)))) (by decide) (gc.kept (fun c c1 c2 => fQ c (by omega))) (by omega) (fun j _ => by rw [if_pos (Nat.le_add_right _ _)]) (by omega) (fun t b9 _ hb => by obtain ⟨-, -, -, k9, f9, m9, t9, -, q5'⟩ := h.2.2.2.2.2.2.2.2.1 t b9 hb; obtain ⟨v, hv⟩ := q5'.has (Nat.le_refl b9) (by omega); have := bd _ _ hv; omega) (fun c v hv => by have := bd _ _ hv; rw [if_neg (by omega)]) (fun _ q => Or.inl q) (fun j _ => Or.inr (Nat.le_add_right _ _))
      exact E jd_X_keepDraft_150 ⟨nI (jSt_c σ), _, by rw [Nat.add_sub_cancel], ⟨fun z => absurd z nf, fun _ => ⟨rfl, rfl⟩⟩, _, fun c q => q, ⟨_, _, _, _, _, _, _, _, _, _, hy⟩, fun c hc hP => (fQ c (fun e9 => hP (by rw [e9]; exact h.2.2.2.2.2.2.2.2.2.2.2.1 0 (by decide)))).trans ((fc c (by omega)).trans ((fb c (by omega)).trans (fa c (fun e9 => hP (by rw [e9]; exact h.2.2.2.2.2.2.2.2.2.2.2.1 1 (by decide)))))), by omega⟩
    · have hff := h.2.2.2.2.2.2.2.2.1 (jSt_c σ) bf hF
      refine jo_aald C 2 rfl (some bf) jd_X_keepDraft_94 h.ten (by omega) (by decide) hF ?_
      refine ja_astore_n C [(3, .ref bf), (1, .long (lN ((jSt_w σ) + ((jl_cells S k) * ad)))), (0, .ref x)] jd_X_keepDraft_95 rfl (Nat.le_of_ble_eq_true rfl) rfl ?_
      refine ja_aload_n C jd_X_keepDraft_96 2 rfl ?_
      refine ja_get C jg_X_11 jd_X_keepDraft_97 h.obj rfl ?_
      refine ja_aload_n C jd_X_keepDraft_100 2 rfl ?_
      refine ja_get C jg_X_36 jd_X_keepDraft_101 h.obj rfl ?_
      refine ja_aload_n C jd_X_keepDraft_104 2 rfl ?_
      refine ja_get C jg_X_32 jd_X_keepDraft_105 h.obj rfl ?_
      refine jo_aast C 2 (r := (jn_T, jf_T, 13)) rfl rfl jd_X_keepDraft_108 h.ten hbd (by omega) (by decide) (fun wa ga fa => ?_)
      refine ja_aload_n C jd_X_keepDraft_109 2 rfl ?_
      refine ja_aload_n C jd_X_keepDraft_110 0 rfl ?_
      refine ja_ifnonnull C 124 jd_X_keepDraft_111 (by decide) ?_
      refine ja_aload_n C jd_X_keepDraft_124 0 rfl ?_
      refine jo_put C jp_X_32 jnf_X_4 jd_X_keepDraft_125 ((fa _ (by omega)).trans h.obj) rfl rfl (Nat.le_of_ble_eq_true rfl) [.ref (x + 1), .ref (x + 2), .ref (x + 3), .ref (x + 4), .ref bf, .int (nI (jSt_c σ)), .int (nI (jSt_i σ)), .int (nI (jSt_w σ)), .int ls, .int (nI (jSt_p σ))] rfl (fun w4 g4 f4 => ?_)
      refine ja_aload_n C jd_X_keepDraft_128 2 rfl ?_
      refine ja_lload_n C jd_X_keepDraft_129 1 rfl ?_
      refine ja_l2iN C jd_X_keepDraft_130 ?_
      refine jo_put C jp_X_43 jnf_X_7 jd_X_keepDraft_131 g4 rfl rfl (Nat.le_of_ble_eq_true rfl) [.ref (x + 1), .ref (x + 2), .ref (x + 3), .ref (x + 4), .ref bf, .int (nI (jSt_c σ)), .int (nI (jSt_i σ)), .int (nI ((jSt_w σ) + ((jl_cells S k) * ad))), .int ls, .int (nI (jSt_p σ))] rfl (fun w5 g5 f5 => ?_)
      refine ja_aload_n C jd_X_keepDraft_134 2 rfl ?_
      refine ja_dup C jd_X_keepDraft_135 rfl ?_
      refine ja_get C jg_X_36 jd_X_keepDraft_136 g5 rfl ?_
      refine ja_iconst C (nI 1) jd_X_keepDraft_139 (by decide) ?_
      refine ja_iaddN C jd_X_keepDraft_140 ?_
      refine jo_put C jp_X_36 jnf_X_5 jd_X_keepDraft_141 g5 rfl rfl (Nat.le_of_ble_eq_true rfl) [.ref (x + 1), .ref (x + 2), .ref (x + 3), .ref (x + 4), .ref bf, .int (nI ((jSt_c σ) + 1)), .int (nI (jSt_i σ)), .int (nI ((jSt_w σ) + ((jl_cells S k) * ad))), .int ls, .int (nI (jSt_p σ))] rfl (fun w6 g6 f6 => ?_)
      refine ja_aload_n C jd_X_keepDraft_144 2 rfl ?_
      refine ja_get C jg_X_36 jd_X_keepDraft_145 g6 rfl ?_
      refine ja_iconst C (nI 1) jd_X_keepDraft_148 (by decide) ?_
      refine ja_isubN C jd_X_keepDraft_149 (by omega) ?_
      have fQ : ∀ c, c ≠ x → w6 c = wa c := fun c hc => (f6 c hc).trans ((f5 c hc).trans (f4 c hc))
      obtain ⟨q1, q2, q3, k9, f9, m9, t9, q4', q5'⟩ := hff
      have hy := h.keep (P2 := P) (own2 := own) (what := what) (a := a) (b := b) (ul := ul) hS hct okT c3 (w2 := w6) (dr2 := bf) g6 ((fQ _ (by omega)).trans ga) (fun c v hv c1 c2 => (fQ c c1).trans (fa c c2)) q4' (q5'.kept (fun c c1 c2 => (fQ c (by omega)).trans (fa c (by omega)))) q1 q3 (fun e9 => q2 e9.symm) (fun t b9 ht hb e9 => ht (h.2.2.2.2.2.2.2.2.2.1 t (jSt_c σ) bf (e9 ▸ hb) hF)) (fun _ _ _ => rfl) (fun _ q => q) (h.2.2.2.2.2.2.2.2.2.2.2.2.2 (jSt_c σ) bf hF)
      exact E jd_X_keepDraft_150 ⟨nI (jSt_c σ), _, by rw [Nat.add_sub_cancel], ⟨fun z => absurd z nf, fun _ => ⟨rfl, rfl⟩⟩, P, fun _ q => Or.inl q, ⟨_, _, _, _, _, _, _, _, _, _, hy⟩, fun c _ hP => (fQ c (fun e9 => hP (by rw [e9]; exact h.2.2.2.2.2.2.2.2.2.2.2.1 0 (by decide)))).trans (fa c (fun e9 => hP (by rw [e9]; exact h.2.2.2.2.2.2.2.2.2.2.2.1 1 (by decide)))), Nat.le_refl _⟩
  · have hf : jl_full S k r e q ad (jSt_w σ) := Or.inr (Or.inr (Or.inr (Or.inr c3)))
    refine ja_bipush C (-8) jd_X_keepDraft_83 (by decide) ?_
    exact E jd_X_keepDraft_85 ⟨-8, σ, rfl, ⟨fun _ => ⟨rfl, rfl⟩, fun z => absurd hf z⟩, P, fun _ q => Or.inl q, ⟨_, _, _, _, _, _, _, _, _, _, h⟩, fun _ _ _ => rfl, Nat.le_refl _⟩
end X78
