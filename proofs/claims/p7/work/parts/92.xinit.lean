/-! THE CLASS: its making -/
section OW2
variable {g : ja_G} {cc : ByteArray} {w : jb_W} {sz kc ks pc : Nat} {lv : List (Nat × Value)} {rest : List Value}
theorem jo_newq (C : ja_C g cc) {index : Nat} {Cn : String} (hlk : Cond.classLink (ja_o g) index Cn ∈ jw_all) (hover : va_AO Cn (ja_s g)) (t0 : Nat) {cA : ClassId} (ht : (ja_t g)[t0]? = some (cA, .object Cn)) (N : Nat) (hb : N ≤ 100000) (hd : decode cc pc = .ok (.anewarray index, 3)) (kk : ∀ w', w' sz = some (.inl (cA, N, .inr (.inr (.inr (.inr (fun _ => none)))))) → jF sz w w' → ja g w' (sz + 1) kc ks (pc + 3) lv (.ref sz :: rest)) : ja g w sz (kc + 1) (ks + N) pc lv (.int (nI N) :: rest) :=
  ja_newq C hlk hover t0 ht N (nI_pos (by omega)) (nI_clamp (by omega)) (by omega) hd (kk _ (va_up_self _ _ _) jF_up)
end OW2
theorem jnw_X_M : ja_NW jcl "MeasuredTensors" 21 0 3 [.int 0, .int 0, .long 0] := ⟨_, jt_M, rfl, rfl, jw_M, jw_in (by decide +kernel) (by decide +kernel), jw_in (by decide +kernel) (by decide +kernel), jw_in (by decide +kernel) (by decide +kernel), jf_M_ty, by intro j hj; match j, hj with | 0, _ => rfl | 1, _ => rfl | 2, _ => rfl | j + 3, z => exact absurd z (by show ¬ j + 3 < 3; omega)⟩
theorem jki_X_M : jb_KIN "MeasuredTensors" 23 jy_M_init "MeasuredTensors" jc_M_init 1 0 := ⟨by decide, jw_in (by decide +kernel) (by decide +kernel), rfl, jw_in (by decide +kernel) (by decide +kernel), jw_in (by decide +kernel) (by decide +kernel), by decide +kernel⟩
theorem jx_cl9 : Cond.classLink "MeasuredTensors" 9 "MeasuredTensors$Tensor" ∈ jw_all := jw_in (by decide +kernel) (by decide +kernel)
theorem jx_cl15 : Cond.classLink "MeasuredTensors" 15 "MeasuredTensors$Index" ∈ jw_all := jw_in (by decide +kernel) (by decide +kernel)
theorem jp_X_11 : ja_FP jcl "MeasuredTensors" 11 4 0 (.array (.object "MeasuredTensors$Tensor")) := ⟨_, jt_X, rfl, by decide, jw_X, jw_in (by decide +kernel) (by decide +kernel), jf_X_ty, jf_X_nm, rfl⟩
theorem jnf_X_0 : ∀ r, jcl[4]? = some r → (r.2.1 0).2.2.2 = true ∧ (r.2.1 0).1 = "MeasuredTensors" := fun r h => by cases h; exact ⟨rfl, rfl⟩
theorem jp_X_17 : ja_FP jcl "MeasuredTensors" 17 4 1 (.array (.object "MeasuredTensors$Index")) := ⟨_, jt_X, rfl, by decide, jw_X, jw_in (by decide +kernel) (by decide +kernel), jf_X_ty, jf_X_nm, rfl⟩
theorem jnf_X_1 : ∀ r, jcl[4]? = some r → (r.2.1 1).2.2.2 = true ∧ (r.2.1 1).1 = "MeasuredTensors" := fun r h => by cases h; exact ⟨rfl, rfl⟩
theorem jp_X_24 : ja_FP jcl "MeasuredTensors" 24 4 2 (.object "MeasuredTensors$Measure") := ⟨_, jt_X, rfl, by decide, jw_X, jw_in (by decide +kernel) (by decide +kernel), jf_X_ty, jf_X_nm, rfl⟩
theorem jnf_X_2 : ∀ r, jcl[4]? = some r → (r.2.1 2).2.2.2 = true ∧ (r.2.1 2).1 = "MeasuredTensors" := fun r h => by cases h; exact ⟨rfl, rfl⟩
theorem jp_X_28 : ja_FP jcl "MeasuredTensors" 28 4 3 (.object "MeasuredTensors$Measure") := ⟨_, jt_X, rfl, by decide, jw_X, jw_in (by decide +kernel) (by decide +kernel), jf_X_ty, jf_X_nm, rfl⟩
theorem jnf_X_3 : ∀ r, jcl[4]? = some r → (r.2.1 3).2.2.2 = true ∧ (r.2.1 3).1 = "MeasuredTensors" := fun r h => by cases h; exact ⟨rfl, rfl⟩
section X92
variable {l : Launch} {D : va_G} {H0 : Heap} {cI cJ cT cX : ClassId} {w : jb_W} {sz : Nat}
theorem jx_init {x : Nat} (hb : w x = some (.inr (4, [.null, .null, .null, .null, .null, .int 0, .int 0, .int 0, .int 0, .int 0]))) (hz : x + 1 = sz) : jb_M l jy_X_init jc_X_init 1 none 3 65 9 5031 D H0 (jt_all cI cJ cT cX) [.ref x] w sz
    (fun v w' sz' => v = none ∧ (jXs cI cT cX x (fun c => x ≤ c ∧ c < x + 10) jSt_0 w' ∧ ∀ c, c < x → w' c = w c) ∧ sz' = sz + 9) := by
  refine jb_meth_v (by decide) (Nat.le_of_ble_eq_true rfl) (fun u C X hnm E => ?_)
  subst hz
  refine ja_aload_n C jd_X_init_0 0 rfl ?_
  refine jb_objInit C jk_objXX jk_objM jk_objC jd_X_init_1 ⟨by decide, by decide⟩ (Nat.le_of_ble_eq_true rfl) ?_
  refine ja_aload_n C jd_X_init_4 0 rfl ?_
  refine ja_sipush C (nI 4000) jd_X_init_5 (by decide) ?_
  refine jo_newq (kc := 8) (ks := 1031) C jx_cl9 (X.2.2.2.2.1 _ (by decide)) 2 rfl 4000 (by decide) jd_X_init_8 (fun wa ga fa => ?_)
  refine jo_putF C jp_X_11 jnf_X_0 hnm jd_X_init_11 ((fa _ (by omega)).trans hb) rfl rfl (Nat.le_of_ble_eq_true rfl) [.ref (x + 1), .null, .null, .null, .null, .int 0, .int 0, .int 0, .int 0, .int 0] rfl (fun w1 g1 f1 => ?_)
  refine ja_aload_n C jd_X_init_14 0 rfl ?_
  refine ja_sipush C (nI 1000) jd_X_init_15 (by decide) ?_
  refine jo_newq (kc := 7) (ks := 31) C jx_cl15 (X.2.2.2.2.1 _ (by decide)) 3 rfl 1000 (by decide) jd_X_init_18 (fun wb gb fb => ?_)
  refine jo_putF C jp_X_17 jnf_X_1 hnm jd_X_init_21 ((fb _ (by omega)).trans g1) rfl rfl (Nat.le_of_ble_eq_true rfl) [.ref (x + 1), .ref (x + 2), .null, .null, .null, .int 0, .int 0, .int 0, .int 0, .int 0] rfl (fun w2 g2 f2 => ?_)
  refine ja_aload_n C jd_X_init_24 0 rfl ?_
  refine jo_new (kc := 6) (ks := 28) C jnw_X_M jd_X_init_25 (fun wc gc fc => ?_)
  refine ja_dup C jd_X_init_28 rfl ?_
  refine jb_callIN (kc := 6) (ks := 28) (mc := 0) (ms := 0) (As := []) C X jki_X_M (jm_init gc) jd_X_init_29 rfl rfl ⟨by decide, by decide⟩ (Nat.le_of_ble_eq_true rfl) (fun v wd zd hpd => ?_)
  obtain ⟨v4, ⟨gd, fd⟩, v6⟩ := hpd
  rw [v4, v6]
  refine jo_putF C jp_X_24 jnf_X_2 hnm jd_X_init_32 ((fd _ (by omega)).trans ((fc _ (by omega)).trans g2)) rfl rfl (Nat.le_of_ble_eq_true rfl) [.ref (x + 1), .ref (x + 2), .ref (x + 3), .null, .null, .int 0, .int 0, .int 0, .int 0, .int 0] rfl (fun w3 g3 f3 => ?_)
  refine ja_aload_n C jd_X_init_35 0 rfl ?_
  refine jo_new (kc := 5) (ks := 25) C jnw_X_M jd_X_init_36 (fun we ge fe => ?_)
  refine ja_dup C jd_X_init_39 rfl ?_
  refine jb_callIN (kc := 5) (ks := 25) (mc := 0) (ms := 0) (As := []) C X jki_X_M (jm_init ge) jd_X_init_40 rfl rfl ⟨by decide, by decide⟩ (Nat.le_of_ble_eq_true rfl) (fun v wf zf hpf => ?_)
  obtain ⟨v7, ⟨gf, ff⟩, v9⟩ := hpf
  rw [v7, v9]
  refine jo_putF C jp_X_28 jnf_X_3 hnm jd_X_init_43 ((ff _ (by omega)).trans ((fe _ (by omega)).trans g3)) rfl rfl (Nat.le_of_ble_eq_true rfl) [.ref (x + 1), .ref (x + 2), .ref (x + 3), .ref (x + 4), .null, .int 0, .int 0, .int 0, .int 0, .int 0] rfl (fun w4 g4 f4 => ?_)
  refine ja_aload_n C jd_X_init_46 0 rfl ?_
  refine jo_new (kc := 4) (ks := 12) C jnw_X_T jd_X_init_47 (fun wg gg fg => ?_)
  refine ja_dup C jd_X_init_50 rfl ?_
  refine jb_callIN (kc := 0) (ks := 0) (mc := 4) (ms := 12) (As := []) C X jki_X_T (jt_init gg rfl) jd_X_init_51 rfl rfl ⟨by decide, by decide⟩ (Nat.le_of_ble_eq_true rfl) (fun v wh zh hph => ?_)
  obtain ⟨u7, ⟨gh, fh⟩, u9⟩ := hph
  rw [u7, u9]
  refine jo_put C jp_X_32 jnf_X_4 jd_X_init_54 ((fh _ (by omega)).trans ((fg _ (by omega)).trans g4)) rfl rfl (Nat.le_of_ble_eq_true rfl) [.ref (x + 1), .ref (x + 2), .ref (x + 3), .ref (x + 4), .ref (x + 5), .int 0, .int 0, .int 0, .int 0, .int 0] rfl (fun w5 g5 f5 => ?_)
  refine ja_aload_n C jd_X_init_57 0 rfl ?_
  refine ja_iconst C (nI 0) jd_X_init_58 (by decide) ?_
  refine jo_put C jp_X_36 jnf_X_5 jd_X_init_59 g5 rfl rfl (Nat.le_of_ble_eq_true rfl) [.ref (x + 1), .ref (x + 2), .ref (x + 3), .ref (x + 4), .ref (x + 5), .int (nI 0), .int 0, .int 0, .int 0, .int 0] rfl (fun w6 g6 f6 => ?_)
  refine ja_aload_n C jd_X_init_62 0 rfl ?_
  refine ja_iconst C (nI 0) jd_X_init_63 (by decide) ?_
  refine jo_put C jp_X_40 jnf_X_6 jd_X_init_64 g6 rfl rfl (Nat.le_of_ble_eq_true rfl) [.ref (x + 1), .ref (x + 2), .ref (x + 3), .ref (x + 4), .ref (x + 5), .int (nI 0), .int (nI 0), .int 0, .int 0, .int 0] rfl (fun w7 g7 f7 => ?_)
  refine ja_aload_n C jd_X_init_67 0 rfl ?_
  refine ja_iconst C (nI 0) jd_X_init_68 (by decide) ?_
  refine jo_put C jp_X_43 jnf_X_7 jd_X_init_69 g7 rfl rfl (Nat.le_of_ble_eq_true rfl) [.ref (x + 1), .ref (x + 2), .ref (x + 3), .ref (x + 4), .ref (x + 5), .int (nI 0), .int (nI 0), .int (nI 0), .int 0, .int 0] rfl (fun w8 g8 f8 => ?_)
  refine ja_aload_n C jd_X_init_72 0 rfl ?_
  refine ja_iconst C (-1) jd_X_init_73 (by decide) ?_
  refine jo_put C jp_X_46 jnf_X_8 jd_X_init_74 g8 rfl rfl (Nat.le_of_ble_eq_true rfl) [.ref (x + 1), .ref (x + 2), .ref (x + 3), .ref (x + 4), .ref (x + 5), .int (nI 0), .int (nI 0), .int (nI 0), .int (-1), .int 0] rfl (fun w9 g9 f9 => ?_)
  refine ja_aload_n C jd_X_init_77 0 rfl ?_
  refine ja_iconst C (nI 0) jd_X_init_78 (by decide) ?_
  refine jo_put C jp_X_49 jnf_X_9 jd_X_init_79 g9 rfl rfl (Nat.le_of_ble_eq_true rfl) [.ref (x + 1), .ref (x + 2), .ref (x + 3), .ref (x + 4), .ref (x + 5), .int (nI 0), .int (nI 0), .int (nI 0), .int (-1), .int (nI 0)] rfl (fun w10 g10 f10 => ?_)
  have fQ : ∀ c, c ≠ x → w10 c = wh c := fun c hc => (f10 c hc).trans ((f9 c hc).trans ((f8 c hc).trans ((f7 c hc).trans ((f6 c hc).trans (f5 c hc)))))
  have L5 : ∀ c, c ≠ x → c < x + 5 → w10 c = w4 c := fun c h1 h2 => (fQ c h1).trans ((fh c (by omega)).trans (fg c (by omega)))
  have L4 : ∀ c, c ≠ x → c < x + 4 → w10 c = w3 c := fun c h1 h2 => (L5 c h1 (by omega)).trans ((f4 c h1).trans ((ff c (by omega)).trans (fe c (by omega))))
  have L3 : ∀ c, c ≠ x → c < x + 3 → w10 c = w2 c := fun c h1 h2 => (L4 c h1 (by omega)).trans ((f3 c h1).trans ((fd c (by omega)).trans (fc c (by omega))))
  have L2 : ∀ c, c ≠ x → c < x + 2 → w10 c = w1 c := fun c h1 h2 => (L3 c h1 (by omega)).trans ((f2 c h1).trans (fb c (by omega)))
  have hX : jXd cI cT cX x (fun c => x ≤ c ∧ c < x + 10) jSt_0 (x + 5) (fun _ => none) (fun _ => none) (fun _ => x + 5) (fun _ _ => 0) (-1) w10 0 (fun _ => 0) (nI 0, nI 0, lN 1) 0 := ⟨g10, (L2 _ (by omega) (by omega)).trans ((f1 _ (by omega)).trans ga), (L3 _ (by omega) (by omega)).trans ((f2 _ (by omega)).trans gb), ⟨_, _, _, (L4 _ (by omega) (by omega)).trans ((f3 _ (by omega)).trans gd)⟩, ⟨_, _, _, (L5 _ (by omega) (by omega)).trans ((f4 _ (by omega)).trans gf)⟩, ⟨by decide, gh.kept (fun c c1 c2 => fQ c (by omega)), Nat.le_refl _, fun _ _ => rfl⟩, ⟨by decide, by decide, by decide, by decide⟩, fun t ht => absurd ht (Nat.not_lt_zero t), fun t b q => (by cases q), fun t t' b q _ => (by cases q), fun i hi => absurd hi (Nat.not_lt_zero i), fun j hj => ⟨by omega, by omega⟩, fun j hj => ⟨by omega, by omega⟩, fun t b q => (by cases q)⟩
  exact E jd_X_init_82 ⟨rfl, ⟨⟨_, _, _, _, _, _, _, _, _, _, hX⟩, fun c hc => (L2 c (by omega) (by omega)).trans ((f1 c (by omega)).trans (fa c (by omega)))⟩, rfl⟩
end X92
