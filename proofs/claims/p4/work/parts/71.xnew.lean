/-! NEW objects of the class -/
section OW
variable {g : ja_G} {cc : ByteArray} {w : jb_W} {sz kc ks pc : Nat} {lv : List (Nat × Value)} {rest : List Value}
theorem jo_new (C : ja_C g cc) {index ci n : Nat} {fs : List Value} (hF : ja_NW (ja_l g) (ja_o g) index ci n fs) (hd : decode cc pc = .ok (.new index, 3)) (kk : ∀ w', w' sz = some (.inr (ci, fs)) → jF sz w w' → ja g w' (sz + 1) kc ks (pc + 3) lv (.ref sz :: rest)) : ja g w sz (kc + 1) (ks + n) pc lv rest := ja_new C hF hd (kk _ (va_up_self _ _ _) jF_up)
theorem jo_newi (C : ja_C g cc) {cA : ClassId} (ht : (ja_t g)[0]? = some (cA, .int)) (Nn : Nat) (hb : Nn ≤ 1000) (hd : decode cc pc = .ok (.newarray .int, 2)) (kk : ∀ w', w' sz = some (.inl (cA, Nn, .inl (fun _ => 0))) → jF sz w w' → ja g w' (sz + 1) kc ks (pc + 2) lv (.ref sz :: rest)) : ja g w sz (kc + 1) (ks + Nn) pc lv (.int (nI Nn) :: rest) :=
  ja_newa (atype := .int) (ty := .int) C rfl jw_aI 0 ht Nn (Nn, .inl (fun _ => 0)) (fun _ => rfl) (nI_pos (by omega)) (nI_clamp (by omega)) (by show Nn * 4 ≤ 536870912; omega) hd (kk _ (va_up_self _ _ _) jF_up)
end OW
theorem jk_objMM : Cond.methodLink "MeasuredTensors$Measure" 3 objectInit ∈ jw_all := jw_in (by decide +kernel) (by decide +kernel)
theorem jk_objSS : Cond.methodLink "MeasuredTensors$Shape" 3 objectInit ∈ jw_all := jw_in (by decide +kernel) (by decide +kernel)
theorem jk_objTT : Cond.methodLink "MeasuredTensors$Tensor" 3 objectInit ∈ jw_all := jw_in (by decide +kernel) (by decide +kernel)
theorem jk_objII : Cond.methodLink "MeasuredTensors$Index" 1 objectInit ∈ jw_all := jw_in (by decide +kernel) (by decide +kernel)
theorem jk_objXX : Cond.methodLink "MeasuredTensors" 1 objectInit ∈ jw_all := jw_in (by decide +kernel) (by decide +kernel)
theorem jnw_T_S : ja_NW jcl "MeasuredTensors$Tensor" 9 1 2 [.null, .int 0] := ⟨_, jt_S, rfl, rfl, jw_S, jw_in (by decide +kernel) (by decide +kernel), jw_in (by decide +kernel) (by decide +kernel), jw_in (by decide +kernel) (by decide +kernel), jf_S_ty, by intro j hj; match j, hj with | 0, _ => rfl | 1, _ => rfl | j + 2, z => exact absurd z (by show ¬ j + 2 < 2; omega)⟩
theorem jnw_T_M : ja_NW jcl "MeasuredTensors$Tensor" 18 0 3 [.int 0, .int 0, .long 0] := ⟨_, jt_M, rfl, rfl, jw_M, jw_in (by decide +kernel) (by decide +kernel), jw_in (by decide +kernel) (by decide +kernel), jw_in (by decide +kernel) (by decide +kernel), jf_M_ty, by intro j hj; match j, hj with | 0, _ => rfl | 1, _ => rfl | 2, _ => rfl | j + 3, z => exact absurd z (by show ¬ j + 3 < 3; omega)⟩
theorem jnw_I_S : ja_NW jcl "MeasuredTensors$Index" 7 1 2 [.null, .int 0] := ⟨_, jt_S, rfl, rfl, jw_S, jw_in (by decide +kernel) (by decide +kernel), jw_in (by decide +kernel) (by decide +kernel), jw_in (by decide +kernel) (by decide +kernel), jf_S_ty, by intro j hj; match j, hj with | 0, _ => rfl | 1, _ => rfl | j + 2, z => exact absurd z (by show ¬ j + 2 < 2; omega)⟩
theorem jki_T_S : jb_KIN "MeasuredTensors$Tensor" 11 jy_S_init "MeasuredTensors" jc_S_init 1 0 := ⟨by decide, jw_in (by decide +kernel) (by decide +kernel), rfl, jw_in (by decide +kernel) (by decide +kernel), jw_in (by decide +kernel) (by decide +kernel), by decide +kernel⟩
theorem jki_T_M : jb_KIN "MeasuredTensors$Tensor" 20 jy_M_init "MeasuredTensors" jc_M_init 1 0 := ⟨by decide, jw_in (by decide +kernel) (by decide +kernel), rfl, jw_in (by decide +kernel) (by decide +kernel), jw_in (by decide +kernel) (by decide +kernel), by decide +kernel⟩
theorem jki_I_S : jb_KIN "MeasuredTensors$Index" 9 jy_S_init "MeasuredTensors" jc_S_init 1 0 := ⟨by decide, jw_in (by decide +kernel) (by decide +kernel), rfl, jw_in (by decide +kernel) (by decide +kernel), jw_in (by decide +kernel) (by decide +kernel), by decide +kernel⟩
theorem jp_S_9 : ja_FP jcl "MeasuredTensors$Shape" 9 1 0 (.array .int) := ⟨_, jt_S, rfl, by decide, jw_S, jw_in (by decide +kernel) (by decide +kernel), jf_S_ty, jf_S_nm, rfl⟩
theorem jnf_S_0 : ∀ r, jcl[1]? = some r → (r.2.1 0).2.2.2 = true ∧ (r.2.1 0).1 = "MeasuredTensors$Shape" := fun r h => by cases h; exact ⟨rfl, rfl⟩
theorem jp_T_12 : ja_FP jcl "MeasuredTensors$Tensor" 12 2 0 (.object "MeasuredTensors$Shape") := ⟨_, jt_T, rfl, by decide, jw_T, jw_in (by decide +kernel) (by decide +kernel), jf_T_ty, jf_T_nm, rfl⟩
theorem jnf_T_0 : ∀ r, jcl[2]? = some r → (r.2.1 0).2.2.2 = true ∧ (r.2.1 0).1 = "MeasuredTensors$Tensor" := fun r h => by cases h; exact ⟨rfl, rfl⟩
theorem jp_T_21 : ja_FP jcl "MeasuredTensors$Tensor" 21 2 1 (.object "MeasuredTensors$Measure") := ⟨_, jt_T, rfl, by decide, jw_T, jw_in (by decide +kernel) (by decide +kernel), jf_T_ty, jf_T_nm, rfl⟩
theorem jnf_T_1 : ∀ r, jcl[2]? = some r → (r.2.1 1).2.2.2 = true ∧ (r.2.1 1).1 = "MeasuredTensors$Tensor" := fun r h => by cases h; exact ⟨rfl, rfl⟩
theorem jp_T_25 : ja_FP jcl "MeasuredTensors$Tensor" 25 2 2 (.object "MeasuredTensors$Measure") := ⟨_, jt_T, rfl, by decide, jw_T, jw_in (by decide +kernel) (by decide +kernel), jf_T_ty, jf_T_nm, rfl⟩
theorem jnf_T_2 : ∀ r, jcl[2]? = some r → (r.2.1 2).2.2.2 = true ∧ (r.2.1 2).1 = "MeasuredTensors$Tensor" := fun r h => by cases h; exact ⟨rfl, rfl⟩
theorem jp_I_10 : ja_FP jcl "MeasuredTensors$Index" 10 3 0 (.object "MeasuredTensors$Shape") := ⟨_, jt_I, rfl, by decide, jw_I, jw_in (by decide +kernel) (by decide +kernel), jf_I_ty, jf_I_nm, rfl⟩
theorem jnf_I_0 : ∀ r, jcl[3]? = some r → (r.2.1 0).2.2.2 = true ∧ (r.2.1 0).1 = "MeasuredTensors$Index" := fun r h => by cases h; exact ⟨rfl, rfl⟩
section X71
variable {l : Launch} {D : va_G} {H0 : Heap} {cI cJ cT cX : ClassId} {w : jb_W} {sz : Nat}
theorem jm_init {m : Nat} (hm : w m = some (.inr (0, [.int 0, .int 0, .long 0]))) : jb_M l jy_M_init jc_M_init 1 none 1 20 0 0 D H0 (jt_all cI cJ cT cX) [.ref m] w sz
    (fun v w' sz' => v = none ∧ (w' m = some (.inr (0, [.int (nI 0), .int (nI 0), .long (lN 1)])) ∧ jF m w w') ∧ sz' = sz) := by
  refine jb_meth_v (by decide) (Nat.le_of_ble_eq_true rfl) (fun u C X hnm E => ?_)
  refine ja_aload_n C jd_M_init_0 0 rfl ?_
  refine jb_objInit C jk_objMM jk_objM jk_objC jd_M_init_1 ⟨by decide, by decide⟩ (Nat.le_of_ble_eq_true rfl) ?_
  refine ja_aload_n C jd_M_init_4 0 rfl ?_
  refine ja_iconst C (nI 0) jd_M_init_5 (by decide) ?_
  refine jo_put C jp_M_9 jnf_M_0 jd_M_init_6 hm rfl rfl (Nat.le_of_ble_eq_true rfl) [.int (nI 0), .int 0, .long 0] rfl (fun w1 g1 f1 => ?_)
  refine ja_aload_n C jd_M_init_9 0 rfl ?_
  refine ja_iconst C (nI 0) jd_M_init_10 (by decide) ?_
  refine jo_put C jp_M_15 jnf_M_1 jd_M_init_11 g1 rfl rfl (Nat.le_of_ble_eq_true rfl) [.int (nI 0), .int (nI 0), .long 0] rfl (fun w2 g2 f2 => ?_)
  refine ja_aload_n C jd_M_init_14 0 rfl ?_
  refine ja_lconst C (lN 1) jd_M_init_15 (by decide) ?_
  refine jo_put C jp_M_18 jnf_M_2 jd_M_init_16 g2 rfl rfl (Nat.le_of_ble_eq_true rfl) [.int (nI 0), .int (nI 0), .long (lN 1)] rfl (fun w3 g3 f3 => ?_)
  exact E jd_M_init_19 ⟨rfl, ⟨g3, (fun c n0 => ((f3 c n0).trans ((f2 c n0).trans (f1 c n0))))⟩, rfl⟩
theorem js_init {s : Nat} (hs : w s = some (.inr (1, [.null, .int 0]))) (hz : s < sz) : jb_M l jy_S_init jc_S_init 1 none 1 20 1 4 D H0 (jt_all cI cJ cT cX) [.ref s] w sz
    (fun v w' sz' => v = none ∧ (w' s = some (.inr (1, [.ref sz, .int (nI 0)])) ∧ w' sz = some (.inl (cI, 4, .inl (fun _ => 0))) ∧ ∀ c, c ≠ s → c ≠ sz → w' c = w c) ∧ sz' = sz + 1) := by
  refine jb_meth_v (by decide) (Nat.le_of_ble_eq_true rfl) (fun u C X hnm E => ?_)
  refine ja_aload_n C jd_S_init_0 0 rfl ?_
  refine jb_objInit C jk_objSS jk_objM jk_objC jd_S_init_1 ⟨by decide, by decide⟩ (Nat.le_of_ble_eq_true rfl) ?_
  refine ja_aload_n C jd_S_init_4 0 rfl ?_
  refine ja_iconst C (nI 4) jd_S_init_5 (by decide) ?_
  refine jo_newi (kc := 0) (ks := 0) C rfl 4 (by decide) jd_S_init_6 (fun wa ga fa => ?_)
  refine jo_putF C jp_S_9 jnf_S_0 hnm jd_S_init_8 ((fa _ (by omega)).trans hs) rfl rfl (Nat.le_of_ble_eq_true rfl) [.ref sz, .int 0] rfl (fun w1 g1 f1 => ?_)
  refine ja_aload_n C jd_S_init_11 0 rfl ?_
  refine ja_iconst C (nI 0) jd_S_init_12 (by decide) ?_
  refine jo_put C jp_S_15 jnf_S_1 jd_S_init_13 g1 rfl rfl (Nat.le_of_ble_eq_true rfl) [.ref sz, .int (nI 0)] rfl (fun w2 g2 f2 => ?_)
  refine E jd_S_init_16 ⟨rfl, ⟨g2, (f2 _ (by omega)).trans ((f1 _ (by omega)).trans ga), fun c n0 n1 => ?_⟩, rfl⟩
  exact (f2 c n0).trans ((f1 c n0).trans (fa c n1))
theorem jt_init {b : Nat} (hb : w b = some (.inr (2, [.null, .null, .null, .int 0, .int 0, .int 0, .int 0, .int 0, .int 0, .int 0, .int 0, .int 0, .int 0]))) (hz : b + 1 = sz) : jb_M l jy_T_init jc_T_init 1 none 2 40 4 12 D H0 (jt_all cI cJ cT cX) [.ref b] w sz
    (fun v w' sz' => v = none ∧ (jZx cI w' b 0 (fun _ => 0) (nI 0, nI 0, lN 1) 0 ∧ jZF b w w') ∧ sz' = sz + 4) := by
  refine jb_meth_v (by decide) (Nat.le_of_ble_eq_true rfl) (fun u C X hnm E => ?_)
  subst hz
  refine ja_aload_n C jd_T_init_0 0 rfl ?_
  refine jb_objInit C jk_objTT jk_objM jk_objC jd_T_init_1 ⟨by decide, by decide⟩ (Nat.le_of_ble_eq_true rfl) ?_
  refine ja_aload_n C jd_T_init_4 0 rfl ?_
  refine jo_new (kc := 3) (ks := 10) C jnw_T_S jd_T_init_5 (fun wa ga fa => ?_)
  refine ja_dup C jd_T_init_8 rfl ?_
  refine jb_callIN (kc := 2) (ks := 6) (mc := 1) (ms := 4) (As := []) C X jki_T_S (js_init ga (by omega)) jd_T_init_9 rfl rfl ⟨by decide, by decide⟩ (Nat.le_of_ble_eq_true rfl) (fun v wb zb hpb => ?_)
  obtain ⟨v1, ⟨gb1, gb2, fb⟩, v3⟩ := hpb
  rw [v1, v3]
  refine jo_putF C jp_T_12 jnf_T_0 hnm jd_T_init_12 ((fb _ (by omega) (by omega)).trans ((fa _ (by omega)).trans hb)) rfl rfl (Nat.le_of_ble_eq_true rfl) [.ref (b + 1), .null, .null, .int 0, .int 0, .int 0, .int 0, .int 0, .int 0, .int 0, .int 0, .int 0, .int 0] rfl (fun w1 g1 f1 => ?_)
  refine ja_aload_n C jd_T_init_15 0 rfl ?_
  refine jo_new (kc := 1) (ks := 3) C jnw_T_M jd_T_init_16 (fun wc gc fc => ?_)
  refine ja_dup C jd_T_init_19 rfl ?_
  refine jb_callIN (kc := 1) (ks := 3) (mc := 0) (ms := 0) (As := []) C X jki_T_M (jm_init gc) jd_T_init_20 rfl rfl ⟨by decide, by decide⟩ (Nat.le_of_ble_eq_true rfl) (fun v wd zd hpd => ?_)
  obtain ⟨v4, ⟨gd, fd⟩, v6⟩ := hpd
  rw [v4, v6]
  refine jo_putF C jp_T_21 jnf_T_1 hnm jd_T_init_23 ((fd _ (by omega)).trans ((fc _ (by omega)).trans g1)) rfl rfl (Nat.le_of_ble_eq_true rfl) [.ref (b + 1), .ref (b + 3), .null, .int 0, .int 0, .int 0, .int 0, .int 0, .int 0, .int 0, .int 0, .int 0, .int 0] rfl (fun w2 g2 f2 => ?_)
  refine ja_aload_n C jd_T_init_26 0 rfl ?_
  refine jo_new (kc := 0) (ks := 0) C jnw_T_M jd_T_init_27 (fun we ge fe => ?_)
  refine ja_dup C jd_T_init_30 rfl ?_
  refine jb_callIN (kc := 0) (ks := 0) (mc := 0) (ms := 0) (As := []) C X jki_T_M (jm_init ge) jd_T_init_31 rfl rfl ⟨by decide, by decide⟩ (Nat.le_of_ble_eq_true rfl) (fun v wf zf hpf => ?_)
  obtain ⟨v7, ⟨gf, ff⟩, v9⟩ := hpf
  rw [v7, v9]
  refine jo_putF C jp_T_25 jnf_T_2 hnm jd_T_init_34 ((ff _ (by omega)).trans ((fe _ (by omega)).trans g2)) rfl rfl (Nat.le_of_ble_eq_true rfl) [.ref (b + 1), .ref (b + 3), .ref (b + 4), .int 0, .int 0, .int 0, .int 0, .int 0, .int 0, .int 0, .int 0, .int 0, .int 0] rfl (fun w3 g3 f3 => ?_)
  have low : ∀ c, c ≠ b → c < b + 3 → w3 c = wb c := fun c h1 h2 => (f3 c h1).trans ((ff c (by omega)).trans ((fe c (by omega)).trans ((f2 c h1).trans ((fd c (by omega)).trans ((fc c (by omega)).trans (f1 c h1))))))
  have m3 : w3 (b + 3) = some (.inr (0, [.int (nI 0), .int (nI 0), .long (lN 1)])) := (f3 _ (by omega)).trans ((ff _ (by omega)).trans ((fe _ (by omega)).trans ((f2 _ (by omega)).trans gd)))
  have m4 : w3 (b + 4) = some (.inr (0, [.int (nI 0), .int (nI 0), .long (lN 1)])) := (f3 _ (by omega)).trans gf
  refine E jd_T_init_37 ⟨rfl, ⟨⟨(nI 0, nI 0, lN 1), jp10 0 0 0 0 0 0 0 0 0 0, ⟨g3, (low _ (by omega) (by omega)).trans gb1, (low _ (by omega) (by omega)).trans gb2, m3, m4⟩, rfl⟩, fun c hc => ?_⟩, rfl⟩
  exact (f3 c (by omega)).trans ((ff c (by omega)).trans ((fe c (by omega)).trans ((f2 c (by omega)).trans ((fd c (by omega)).trans ((fc c (by omega)).trans ((f1 c (by omega)).trans ((fb c (by omega) (by omega)).trans (fa c (by omega)))))))))
theorem ji_init {b : Nat} (hb : w b = some (.inr (3, [.null, .int 0]))) (hz : b + 1 = sz) : jb_M l jy_I_init jc_I_init 1 none 2 40 2 6 D H0 (jt_all cI cJ cT cX) [.ref b] w sz
    (fun v w' sz' => v = none ∧ (w' b = some (.inr (3, [.ref (b + 1), .int 0])) ∧ w' (b + 1) = some (.inr (1, [.ref (b + 2), .int (nI 0)])) ∧ w' (b + 2) = some (.inl (cI, 4, .inl (fun _ => 0))) ∧ ∀ c, c < b → w' c = w c) ∧ sz' = sz + 2) := by
  refine jb_meth_v (by decide) (Nat.le_of_ble_eq_true rfl) (fun u C X hnm E => ?_)
  subst hz
  refine ja_aload_n C jd_I_init_0 0 rfl ?_
  refine jb_objInit C jk_objII jk_objM jk_objC jd_I_init_1 ⟨by decide, by decide⟩ (Nat.le_of_ble_eq_true rfl) ?_
  refine ja_aload_n C jd_I_init_4 0 rfl ?_
  refine jo_new (kc := 1) (ks := 4) C jnw_I_S jd_I_init_5 (fun wa ga fa => ?_)
  refine ja_dup C jd_I_init_8 rfl ?_
  refine jb_callIN (kc := 0) (ks := 0) (mc := 1) (ms := 4) (As := []) C X jki_I_S (js_init ga (by omega)) jd_I_init_9 rfl rfl ⟨by decide, by decide⟩ (Nat.le_of_ble_eq_true rfl) (fun v wb zb hpb => ?_)
  obtain ⟨v1, ⟨gb1, gb2, fb⟩, v3⟩ := hpb
  rw [v1, v3]
  refine jo_putF C jp_I_10 jnf_I_0 hnm jd_I_init_12 ((fb _ (by omega) (by omega)).trans ((fa _ (by omega)).trans hb)) rfl rfl (Nat.le_of_ble_eq_true rfl) [.ref (b + 1), .int 0] rfl (fun w1 g1 f1 => ?_)
  exact E jd_I_init_15 ⟨rfl, ⟨g1, (f1 _ (by omega)).trans gb1, (f1 _ (by omega)).trans gb2, fun c hc => (f1 c (by omega)).trans ((fb c (by omega) (by omega)).trans (fa c (by omega)))⟩, rfl⟩
end X71
