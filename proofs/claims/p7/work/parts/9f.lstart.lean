/-! THE LAW's START -/
theorem jnw_L_X : ja_NW jcl "MeasuredTensorsLaw" 8 4 10 [.null, .null, .null, .null, .null, .int 0, .int 0, .int 0, .int 0, .int 0] := ⟨_, jt_X, rfl, rfl, jw_X, jw_in (by decide +kernel) (by decide +kernel), jw_in (by decide +kernel) (by decide +kernel), jw_in (by decide +kernel) (by decide +kernel), jf_X_ty, by intro j hj; match j, hj with | 0, _ => rfl | 1, _ => rfl | 2, _ => rfl | 3, _ => rfl | 4, _ => rfl | 5, _ => rfl | 6, _ => rfl | 7, _ => rfl | 8, _ => rfl | 9, _ => rfl | j + 10, z => exact absurd z (by show ¬ j + 10 < 10; omega)⟩
theorem jnw_L_Y : ja_NW jcl "MeasuredTensorsLaw" 60 5 27 jY_0 := ⟨_, jt_Y, rfl, rfl, jw_Y, jw_in (by decide +kernel) (by decide +kernel), jw_in (by decide +kernel) (by decide +kernel), jw_in (by decide +kernel) (by decide +kernel), jf_Y_ty, by intro j hj; match j, hj with | 0, _ => rfl | 1, _ => rfl | 2, _ => rfl | 3, _ => rfl | 4, _ => rfl | 5, _ => rfl | 6, _ => rfl | 7, _ => rfl | 8, _ => rfl | 9, _ => rfl | 10, _ => rfl | 11, _ => rfl | 12, _ => rfl | 13, _ => rfl | 14, _ => rfl | 15, _ => rfl | 16, _ => rfl | 17, _ => rfl | 18, _ => rfl | 19, _ => rfl | 20, _ => rfl | 21, _ => rfl | 22, _ => rfl | 23, _ => rfl | 24, _ => rfl | 25, _ => rfl | 26, _ => rfl | j + 27, z => exact absurd z (by show ¬ j + 27 < 27; omega)⟩
theorem jki_L_X : jb_KI "MeasuredTensorsLaw" 59 jy_X_init jc_X_init 1 0 := ⟨jw_in (by decide +kernel) (by decide +kernel), jw_in (by decide +kernel) (by decide +kernel), rfl, jw_in (by decide +kernel) (by decide +kernel), jw_in (by decide +kernel) (by decide +kernel), by decide +kernel⟩
theorem jki_L_Y : jb_KI "MeasuredTensorsLaw" 62 jy_Y_init jc_Y_init 1 0 := ⟨jw_in (by decide +kernel) (by decide +kernel), jw_in (by decide +kernel) (by decide +kernel), rfl, jw_in (by decide +kernel) (by decide +kernel), jw_in (by decide +kernel) (by decide +kernel), by decide +kernel⟩
section LS
variable {l : Launch} {D : va_G} {H0 : Heap} {cI cJ cT cX : ClassId} {u : jb_U} {b L : Nat} {xs : Nat → Int32} {x : Nat}
theorem jw_start (C : ja_C (jb_mk l room_1 8 "MeasuredTensorsLaw" D H0 (jt_all cI cJ cT cX) u) jc_L_law) (X : jb_X H0 u.1.2.2) (hst : l.stackTraces = false) (hX : va_X b L xs u.1.2.2 H0) (hbl : b < H0.size) (hL : L ≤ 4096) (EX : jw_E (jb_mk l room_1 8 "MeasuredTensorsLaw" D H0 (jt_all cI cJ cT cX) u) jc_L_law) : ja (jb_mk l room_1 8 "MeasuredTensorsLaw" D H0 (jt_all cI cJ cT cX) u) (fun _ => none) x 624356 7223036 0 [(0, .ref b)] [] := by
  obtain ⟨K, hK⟩ : ∃ K, K = 21 * 512 := ⟨_, rfl⟩
  obtain ⟨S, hS⟩ : ∃ S, S = 9753 * 512 := ⟨_, rfl⟩
  refine ja_less (kc' := K + 1 + 20 + 1 + 9 + 1) (ks' := S + 1 + 660 + 27 + 5031 + 10) (by omega) (by omega) ?_
  refine jo_new C jnw_L_X jd_L_law_0 (fun w1 g1 f1 => ?_)
  refine ja_dup C jd_L_law_3 rfl ?_
  refine jb_callI (kc := K + 1 + 20 + 1) (ks := S + 1 + 660 + 27) (mc := 9) (ms := 5031) (As := []) (b := x) (rest := [.ref x]) C X jki_L_X (jx_init g1 rfl) jd_L_law_4 rfl rfl ⟨by decide, by decide⟩ (Nat.le_of_ble_eq_true rfl) (fun v w2 z2 hp => ?_)
  obtain ⟨e1, ⟨hx2, fr2⟩, e2⟩ := hp
  rw [e1, e2]
  refine ja_astore_n C [(1, .ref x), (0, .ref b)] jd_L_law_7 rfl (Nat.le_of_ble_eq_true rfl) rfl ?_
  refine jo_new C jnw_L_Y jd_L_law_8 (fun w3 g3 f3 => ?_)
  refine ja_dup C jd_L_law_11 rfl ?_
  refine jb_callI (kc := K + 1) (ks := S + 1) (mc := 20) (ms := 660) (As := []) (b := x + 1 + 9) (rest := [.ref (x + 1 + 9)]) C X jki_L_Y (jy_init g3 (by omega)) jd_L_law_12 rfl rfl ⟨by decide, by decide⟩ (Nat.le_of_ble_eq_true rfl) (fun v w4 z4 hp => ?_)
  obtain ⟨e3, ⟨A, s9, V, VL, hM, hA⟩, fr4, e4⟩ := hp
  rw [e3, e4]
  refine ja_astore_n C [(2, .ref (x + 1 + 9)), (1, .ref x), (0, .ref b)] jd_L_law_15 rfl (Nat.le_of_ble_eq_true rfl) rfl ?_
  refine ja_bd (fun bd => ?_)
  refine ja_iconst C (nI 1) jd_L_law_16 (by decide) ?_
  refine ja_newa (atype := .long) (ty := .long) C rfl jw_aJ 1 rfl 1 (1, .inr (.inl (fun _ => 0))) (fun _ => rfl) (nI_pos (by decide)) (nI_clamp (by decide)) (by decide) jd_L_law_17 ?_
  refine ja_astore_n C [(3, .ref (x + 1 + 9 + 1 + 20)), (2, .ref (x + 1 + 9)), (1, .ref x), (0, .ref b)] jd_L_law_19 rfl (Nat.le_of_ble_eq_true rfl) rfl ?_
  refine ja_iconst C (nI 0) jd_L_law_20 (by decide) ?_
  refine ja_istore C [(4, .int (nI 0)), (3, .ref (x + 1 + 9 + 1 + 20)), (2, .ref (x + 1 + 9)), (1, .ref x), (0, .ref b)] jd_L_law_21 (Nat.le_of_ble_eq_true rfl) rfl ?_
  rw [hK, hS]
  refine jw_loop C X hst hX hbl hL EX 512 0 0 _ _ rfl rfl ?_
  have hN := jN.of hM
  have hAz : ∀ j, j < 20 → A j < x + 1 + 9 + 1 + 20 := fun j hj => by obtain ⟨v, hv⟩ := hN.arr hj; exact bd _ _ hv
  generalize hw5 : va_up w4 (x + 1 + 9 + 1 + 20) (some (.inl (cJ, 1, .inr (.inl (fun _ => 0))))) = w5
  have k5 : ∀ c, c ≠ x + 1 + 9 + 1 + 20 → w5 c = w4 c := fun c hc => by rw [← hw5]; exact va_up_ne _ _ hc
  have hx5 : jXs cI cT cX x (fun c => x ≤ c ∧ c < x + 10) jSt_0 w5 := hx2.keptP (fun c hc => by
    have hc' : x ≤ c ∧ c < x + 10 := hc
    exact (k5 c (by omega)).trans ((fr4 c (by omega) (by omega)).trans (f3 c (by omega))))
  refine ⟨jSt_0, fun c => (x ≤ c ∧ c < x + 10) ∧ ∃ v, w5 c = some v, A, 32, 16, s9 0, s9 5, V 19, ⟨fun t ht => absurd ht (Nat.not_lt_zero t), Nat.le_refl 0, Nat.le_refl 0⟩, hx5.trim (fun c v hc hv => ⟨hc, v, hv⟩), hN.keptW (fun a ha => ?_), ⟨fun _ => 0, by rw [← hw5]; exact va_up_self _ _ _, trivial⟩, fun a ha => by
    have h1 : x ≤ a ∧ a < x + 10 := ha.1
    exact ⟨ha.2, by omega, by omega, fun j hj => by have := hA j hj; omega⟩, by omega, fun j hj => by have := hAz j hj; omega⟩
  rcases ha with e | ⟨j, hj, e⟩
  · exact k5 a (by omega)
  · exact k5 a (by have := hAz j hj; omega)
end LS
