/-! THE LAW: its helpers, each a call of the class with its catches -/
theorem jk_L_7 : jb_KV "MeasuredTensorsLaw" 7 jy_X_begin jc_X_begin 2 none 1 := ⟨jw_in (by decide +kernel) (by decide +kernel), jw_in (by decide +kernel) (by decide +kernel), jw_in (by decide +kernel) (by decide +kernel), jw_in (by decide +kernel) (by decide +kernel), jw_in (by decide +kernel) (by decide +kernel), by decide +kernel⟩
theorem jlk_L_13 : Cond.classLink "MeasuredTensorsLaw" 13 "java/lang/IllegalArgumentException" ∈ jw_all := jw_in (by decide +kernel) (by decide +kernel)
theorem jk_L_15 : jb_KV "MeasuredTensorsLaw" 15 jy_X_number jc_X_number 4 (some .int) 2 := ⟨jw_in (by decide +kernel) (by decide +kernel), jw_in (by decide +kernel) (by decide +kernel), jw_in (by decide +kernel) (by decide +kernel), jw_in (by decide +kernel) (by decide +kernel), jw_in (by decide +kernel) (by decide +kernel), by decide +kernel⟩
theorem jk_L_19 : jb_KV "MeasuredTensorsLaw" 19 jy_X_made jc_X_made 7 (some .int) 6 := ⟨jw_in (by decide +kernel) (by decide +kernel), jw_in (by decide +kernel) (by decide +kernel), jw_in (by decide +kernel) (by decide +kernel), jw_in (by decide +kernel) (by decide +kernel), jw_in (by decide +kernel) (by decide +kernel), by decide +kernel⟩
theorem jk_L_23 : jb_KV "MeasuredTensorsLaw" 23 jy_X_index jc_X_index 8 (some .int) 6 := ⟨jw_in (by decide +kernel) (by decide +kernel), jw_in (by decide +kernel) (by decide +kernel), jw_in (by decide +kernel) (by decide +kernel), jw_in (by decide +kernel) (by decide +kernel), jw_in (by decide +kernel) (by decide +kernel), by decide +kernel⟩
theorem jlk_L_27 : Cond.classLink "MeasuredTensorsLaw" 27 "java/lang/UnsupportedOperationException" ∈ jw_all := jw_in (by decide +kernel) (by decide +kernel)
theorem jk_L_29 : jb_KV "MeasuredTensorsLaw" 29 jy_X_pair jc_X_pair 7 (some .int) 3 := ⟨jw_in (by decide +kernel) (by decide +kernel), jw_in (by decide +kernel) (by decide +kernel), jw_in (by decide +kernel) (by decide +kernel), jw_in (by decide +kernel) (by decide +kernel), jw_in (by decide +kernel) (by decide +kernel), by decide +kernel⟩
theorem jlk_L_33 : Cond.classLink "MeasuredTensorsLaw" 33 "java/lang/IndexOutOfBoundsException" ∈ jw_all := jw_in (by decide +kernel) (by decide +kernel)
theorem jk_L_35 : jb_KV "MeasuredTensorsLaw" 35 jy_X_turned jc_X_turned 3 (some .int) 1 := ⟨jw_in (by decide +kernel) (by decide +kernel), jw_in (by decide +kernel) (by decide +kernel), jw_in (by decide +kernel) (by decide +kernel), jw_in (by decide +kernel) (by decide +kernel), jw_in (by decide +kernel) (by decide +kernel), by decide +kernel⟩
theorem jk_L_39 : jb_KV "MeasuredTensorsLaw" 39 jy_X_over jc_X_over 5 (some .int) 3 := ⟨jw_in (by decide +kernel) (by decide +kernel), jw_in (by decide +kernel) (by decide +kernel), jw_in (by decide +kernel) (by decide +kernel), jw_in (by decide +kernel) (by decide +kernel), jw_in (by decide +kernel) (by decide +kernel), by decide +kernel⟩
theorem jk_L_42 : jb_KV "MeasuredTensorsLaw" 42 jy_X_call jc_X_call 10 (some .int) 7 := ⟨jw_in (by decide +kernel) (by decide +kernel), jw_in (by decide +kernel) (by decide +kernel), jw_in (by decide +kernel) (by decide +kernel), jw_in (by decide +kernel) (by decide +kernel), jw_in (by decide +kernel) (by decide +kernel), by decide +kernel⟩
theorem jk_L_46 : jb_KV "MeasuredTensorsLaw" 46 jy_X_reshape jc_X_reshape 8 (some .int) 6 := ⟨jw_in (by decide +kernel) (by decide +kernel), jw_in (by decide +kernel) (by decide +kernel), jw_in (by decide +kernel) (by decide +kernel), jw_in (by decide +kernel) (by decide +kernel), jw_in (by decide +kernel) (by decide +kernel), by decide +kernel⟩
theorem jk_L_49 : jb_KV "MeasuredTensorsLaw" 49 jy_X_loss jc_X_loss 6 (some .int) 1 := ⟨jw_in (by decide +kernel) (by decide +kernel), jw_in (by decide +kernel) (by decide +kernel), jw_in (by decide +kernel) (by decide +kernel), jw_in (by decide +kernel) (by decide +kernel), jw_in (by decide +kernel) (by decide +kernel), by decide +kernel⟩
theorem jk_L_52 : jb_KV "MeasuredTensorsLaw" 52 jy_X_told jc_X_told 4 (some .int) 2 := ⟨jw_in (by decide +kernel) (by decide +kernel), jw_in (by decide +kernel) (by decide +kernel), jw_in (by decide +kernel) (by decide +kernel), jw_in (by decide +kernel) (by decide +kernel), jw_in (by decide +kernel) (by decide +kernel), by decide +kernel⟩
theorem jk_L_55 : jb_KV "MeasuredTensorsLaw" 55 jy_X_divisor jc_X_divisor 4 (some .long) 2 := ⟨jw_in (by decide +kernel) (by decide +kernel), jw_in (by decide +kernel) (by decide +kernel), jw_in (by decide +kernel) (by decide +kernel), jw_in (by decide +kernel) (by decide +kernel), jw_in (by decide +kernel) (by decide +kernel), by decide +kernel⟩
section LH
variable {l : Launch} {D : va_G} {H0 : Heap} {cI cJ cT cX : ClassId} {w : jb_W} {sz : Nat}
variable {x o : Nat} {P : Nat → Prop} {σ : jSt} {g0 : Nat → Int64}
theorem jh_begin {p0 : Int32} (hst : l.stackTraces = false) (hx : jXs cI cT cX x P σ w) : jb_MW l jy_L_begin jc_L_begin 3 (some .int) [(0, 5, 8, 13)] 7 180 5 25 D H0 (jt_all cI cJ cT cX) [.ref x, .int p0] w sz
    (fun v w' sz' => ∃ (th : Int32) (σ' : jSt), v = some (.int th) ∧ jA_begin σ p0 th σ' ∧ jXP cI cT cX x P w sz σ' w' sz') := by
  obtain ⟨dr, F, G, own, fT, ls, k, f, m, tm, h⟩ := hx
  refine jb_methW_i (by decide) (Nat.le_of_ble_eq_true rfl) (fun u C X hT E => ?_)
  refine ja_aload_n C jd_L_begin_0 0 rfl ?_
  refine ja_iload_n C jd_L_begin_1 1 rfl ?_
  refine jb_callVT (kc := 0) (ks := 0) (mc := 5) (ms := 25) (As := [.int p0]) (rest := []) C X jk_L_7 h.obj rfl (jx_begin hst h) jd_L_begin_2 rfl rfl ⟨by decide, by decide⟩ (Nat.le_of_ble_eq_true rfl) (fun v w1 z1 hp => ?_) (fun E9 w1 z1 q9 hp => ?_)
  · obtain ⟨e9, σ9, ha, hq⟩ := hp
    rw [e9]
    refine ja_goto C 11 jd_L_begin_5 (by decide) ?_
    refine ja_iconst C 0 jd_L_begin_11 (by decide) ?_
    exact E jd_L_begin_12 ⟨0, σ9, rfl, ha, hq⟩
  · obtain ⟨⟨eE, ha⟩, hq⟩ := hp
    rw [eE]
    refine jb_catch (hh := [(0, 5, 8, 13)]) (name := "java/lang/IllegalArgumentException") C X hT [] ⟨0, 5, 8, 13⟩ [] rfl (fun _ z => absurd z List.not_mem_nil) (by decide) (by decide) jlk_L_13 List.mem_cons_self ?_
    refine ja_astore_n C _ jd_L_begin_8 rfl (Nat.le_of_ble_eq_true rfl) rfl ?_
    refine ja_iconst C 1 jd_L_begin_9 (by decide) ?_
    exact E jd_L_begin_10 ⟨1, σ, rfl, ha, hq⟩
theorem jh_number {p0 p1 : Int32} (hst : l.stackTraces = false) (hx : jXs cI cT cX x P σ w) (hct : jSt_c σ < 512) (ho : w o = some (.inl (cJ, 1, .inr (.inl g0)))) (hoz : o < sz) (hoP : ¬ P o) : jb_MW l jy_L_number jc_L_number 5 (some .int) [(0, 10, 13, 13)] 7 180 5 25 D H0 (jt_all cI cJ cT cX) [.ref x, .int p0, .int p1, .ref o] w sz
    (fun v w' sz' => ∃ (y th : Int32) (σ' : jSt), v = some (.int th) ∧ jA_number σ p0 p1 y th σ' ∧ jLP cI cJ cT cX x o P w sz σ' (fun z => th = 0 → z = y.toInt64) w' sz') := by
  obtain ⟨dr, F, G, own, fT, ls, k, f, m, tm, h⟩ := hx
  refine jb_methW_i (by decide) (Nat.le_of_ble_eq_true rfl) (fun u C X hT E => ?_)
  refine ja_aload_n C jd_L_number_0 3 rfl ?_
  refine ja_iconst C (nI 0) jd_L_number_1 (by decide) ?_
  refine ja_aload_n C jd_L_number_2 0 rfl ?_
  refine ja_iload_n C jd_L_number_3 1 rfl ?_
  refine ja_iload_n C jd_L_number_4 2 rfl ?_
  refine jb_callVT (kc := 0) (ks := 0) (mc := 5) (ms := 25) (As := [.int p0, .int p1]) (rest := [.int (nI 0), .ref o]) C X jk_L_15 h.obj rfl (jx_number hst h hct) jd_L_number_5 rfl rfl ⟨by decide, by decide⟩ (Nat.le_of_ble_eq_true rfl) (fun v w1 z1 hp => ?_) (fun E9 w1 z1 q9 hp => ?_)
  · obtain ⟨y9, σ9, e9, ha, hq⟩ := hp
    rw [e9]
    refine ja_i2l C jd_L_number_8 ?_
    refine ja_last C 1 rfl jd_L_number_9 (hq.out hoz hoP ho) (vp_in_nI (n := 0) (N := 1) (by decide) (by decide)) ?_
    refine ja_goto C 17 jd_L_number_10 (by decide) ?_
    refine ja_iconst C 0 jd_L_number_17 (by decide) ?_
    have hz : vp_updL g0 (nI 0).toNatClampNeg y9.toInt64 0 = y9.toInt64 := by rw [nI_clamp (by decide)]; exact pk_uLs
    exact E jd_L_number_18 ⟨y9, 0, σ9, rfl, ha, hq.store hoz hoP (fun _ => hz)⟩
  · obtain ⟨⟨eE, ha⟩, hq⟩ := hp
    rw [eE]
    refine jb_catch (hh := [(0, 10, 13, 13)]) (name := "java/lang/IllegalArgumentException") C X hT [] ⟨0, 10, 13, 13⟩ [] rfl (fun _ z => absurd z List.not_mem_nil) (by decide) (by decide) jlk_L_13 List.mem_cons_self ?_
    refine ja_astore C _ jd_L_number_13 (Nat.le_of_ble_eq_true rfl) rfl ?_
    refine ja_iconst C 1 jd_L_number_15 (by decide) ?_
    exact E jd_L_number_16 ⟨0, 1, σ, rfl, ha 0, hq.same hoz hoP ho (fun z => absurd z (by decide))⟩
theorem jh_made {p0 p1 p2 p3 p4 p5 : Int32} (hst : l.stackTraces = false) (hx : jXs cI cT cX x P σ w) (hct : jSt_c σ < 512) (hpz : p0 = nI 0 ∨ p0 = nI 1) (ho : w o = some (.inl (cJ, 1, .inr (.inl g0)))) (hoz : o < sz) (hoP : ¬ P o) : jb_MW l jy_L_made jc_L_made 9 (some .int) [(0, 18, 21, 13)] 7 180 5 25 D H0 (jt_all cI cJ cT cX) [.ref x, .int p0, .int p1, .int p2, .int p3, .int p4, .int p5, .ref o] w sz
    (fun v w' sz' => ∃ (y th : Int32) (σ' : jSt), v = some (.int th) ∧ jA_made σ p0 p1 p2 p3 p4 p5 y th σ' ∧ jLP cI cJ cT cX x o P w sz σ' (fun z => th = 0 → z = y.toInt64) w' sz') := by
  obtain ⟨dr, F, G, own, fT, ls, k, f, m, tm, h⟩ := hx
  refine jb_methW_i (by decide) (Nat.le_of_ble_eq_true rfl) (fun u C X hT E => ?_)
  refine ja_aload C jd_L_made_0 7 rfl ?_
  refine ja_iconst C (nI 0) jd_L_made_2 (by decide) ?_
  refine ja_aload_n C jd_L_made_3 0 rfl ?_
  refine ja_iload_n C jd_L_made_4 1 rfl ?_
  refine ja_iload_n C jd_L_made_5 2 rfl ?_
  refine ja_iload_n C jd_L_made_6 3 rfl ?_
  refine ja_iload C jd_L_made_7 4 rfl ?_
  refine ja_iload C jd_L_made_9 5 rfl ?_
  refine ja_iload C jd_L_made_11 6 rfl ?_
  refine jb_callVT (kc := 0) (ks := 0) (mc := 5) (ms := 25) (As := [.int p0, .int p1, .int p2, .int p3, .int p4, .int p5]) (rest := [.int (nI 0), .ref o]) C X jk_L_19 h.obj rfl (jx_made hst h hct hpz) jd_L_made_13 rfl rfl ⟨by decide, by decide⟩ (Nat.le_of_ble_eq_true rfl) (fun v w1 z1 hp => ?_) (fun E9 w1 z1 q9 hp => ?_)
  · obtain ⟨y9, σ9, e9, ha, hq⟩ := hp
    rw [e9]
    refine ja_i2l C jd_L_made_16 ?_
    refine ja_last C 1 rfl jd_L_made_17 (hq.out hoz hoP ho) (vp_in_nI (n := 0) (N := 1) (by decide) (by decide)) ?_
    refine ja_goto C 25 jd_L_made_18 (by decide) ?_
    refine ja_iconst C 0 jd_L_made_25 (by decide) ?_
    have hz : vp_updL g0 (nI 0).toNatClampNeg y9.toInt64 0 = y9.toInt64 := by rw [nI_clamp (by decide)]; exact pk_uLs
    exact E jd_L_made_26 ⟨y9, 0, σ9, rfl, ha, hq.store hoz hoP (fun _ => hz)⟩
  · obtain ⟨⟨eE, ha⟩, hq⟩ := hp
    rw [eE]
    refine jb_catch (hh := [(0, 18, 21, 13)]) (name := "java/lang/IllegalArgumentException") C X hT [] ⟨0, 18, 21, 13⟩ [] rfl (fun _ z => absurd z List.not_mem_nil) (by decide) (by decide) jlk_L_13 List.mem_cons_self ?_
    refine ja_astore C _ jd_L_made_21 (Nat.le_of_ble_eq_true rfl) rfl ?_
    refine ja_iconst C 1 jd_L_made_23 (by decide) ?_
    exact E jd_L_made_24 ⟨0, 1, σ, rfl, ha 0, hq.same hoz hoP ho (fun z => absurd z (by decide))⟩
theorem jh_index {p0 p1 p2 p3 p4 p5 : Int32} (hst : l.stackTraces = false) (hx : jXs cI cT cX x P σ w) (hct : jSt_i σ < 512) (ho : w o = some (.inl (cJ, 1, .inr (.inl g0)))) (hoz : o < sz) (hoP : ¬ P o) : jb_MW l jy_L_index jc_L_index 9 (some .int) [(0, 18, 21, 13), (0, 18, 25, 27)] 7 180 5 25 D H0 (jt_all cI cJ cT cX) [.ref x, .int p0, .int p1, .int p2, .int p3, .int p4, .int p5, .ref o] w sz
    (fun v w' sz' => ∃ (y th : Int32) (σ' : jSt), v = some (.int th) ∧ jA_index σ p0 p1 p2 p3 p4 p5 y th σ' ∧ jLP cI cJ cT cX x o P w sz σ' (fun z => th = 0 → z = y.toInt64) w' sz') := by
  obtain ⟨dr, F, G, own, fT, ls, k, f, m, tm, h⟩ := hx
  refine jb_methW_i (by decide) (Nat.le_of_ble_eq_true rfl) (fun u C X hT E => ?_)
  refine ja_aload C jd_L_index_0 7 rfl ?_
  refine ja_iconst C (nI 0) jd_L_index_2 (by decide) ?_
  refine ja_aload_n C jd_L_index_3 0 rfl ?_
  refine ja_iload_n C jd_L_index_4 1 rfl ?_
  refine ja_iload_n C jd_L_index_5 2 rfl ?_
  refine ja_iload_n C jd_L_index_6 3 rfl ?_
  refine ja_iload C jd_L_index_7 4 rfl ?_
  refine ja_iload C jd_L_index_9 5 rfl ?_
  refine ja_iload C jd_L_index_11 6 rfl ?_
  refine jb_callVT (kc := 0) (ks := 0) (mc := 5) (ms := 25) (As := [.int p0, .int p1, .int p2, .int p3, .int p4, .int p5]) (rest := [.int (nI 0), .ref o]) C X jk_L_23 h.obj rfl (jx_index hst h hct) jd_L_index_13 rfl rfl ⟨by decide, by decide⟩ (Nat.le_of_ble_eq_true rfl) (fun v w1 z1 hp => ?_) (fun E9 w1 z1 q9 hp => ?_)
  · obtain ⟨y9, σ9, e9, ha, hq⟩ := hp
    rw [e9]
    refine ja_i2l C jd_L_index_16 ?_
    refine ja_last C 1 rfl jd_L_index_17 (hq.out hoz hoP ho) (vp_in_nI (n := 0) (N := 1) (by decide) (by decide)) ?_
    refine ja_goto C 29 jd_L_index_18 (by decide) ?_
    refine ja_iconst C 0 jd_L_index_29 (by decide) ?_
    have hz : vp_updL g0 (nI 0).toNatClampNeg y9.toInt64 0 = y9.toInt64 := by rw [nI_clamp (by decide)]; exact pk_uLs
    exact E jd_L_index_30 ⟨y9, 0, σ9, rfl, ha, hq.store hoz hoP (fun _ => hz)⟩
  · obtain ⟨⟨eE, ha⟩ | ⟨eE, ha⟩, hq⟩ := hp
    · rw [eE]
      refine jb_catch (hh := [(0, 18, 21, 13), (0, 18, 25, 27)]) (name := "java/lang/IllegalArgumentException") C X hT [] ⟨0, 18, 21, 13⟩ [⟨0, 18, 25, 27⟩] rfl (fun _ z => absurd z List.not_mem_nil) (by decide) (by decide) jlk_L_13 List.mem_cons_self ?_
      refine ja_astore C _ jd_L_index_21 (Nat.le_of_ble_eq_true rfl) rfl ?_
      refine ja_iconst C 1 jd_L_index_23 (by decide) ?_
      exact E jd_L_index_24 ⟨0, 1, σ, rfl, ha 0, hq.same hoz hoP ho (fun z => absurd z (by decide))⟩
    · rw [eE]
      refine jb_catch (hh := [(0, 18, 21, 13), (0, 18, 25, 27)]) (name := "java/lang/UnsupportedOperationException") C X hT [⟨0, 18, 21, 13⟩] ⟨0, 18, 25, 27⟩ [] rfl (fun z hz => by cases List.mem_singleton.mp hz; exact ⟨by decide, _, jlk_L_13, by decide +kernel⟩) (by decide) (by decide) jlk_L_27 (List.mem_cons_of_mem _ (List.mem_cons_of_mem _ List.mem_cons_self)) ?_
      refine ja_astore C _ jd_L_index_25 (Nat.le_of_ble_eq_true rfl) rfl ?_
      refine ja_iconst C 2 jd_L_index_27 (by decide) ?_
      exact E jd_L_index_28 ⟨0, 2, σ, rfl, ha 0, hq.same hoz hoP ho (fun z => absurd z (by decide))⟩
theorem jh_pair {p0 p1 p2 : Int32} (hst : l.stackTraces = false) (hx : jXs cI cT cX x P σ w) (hct : jSt_c σ < 512) (ho : w o = some (.inl (cJ, 1, .inr (.inl g0)))) (hoz : o < sz) (hoP : ¬ P o) : jb_MW l jy_L_pair jc_L_pair 6 (some .int) [(0, 12, 15, 33), (0, 12, 19, 13)] 7 180 5 25 D H0 (jt_all cI cJ cT cX) [.ref x, .int p0, .int p1, .int p2, .ref o] w sz
    (fun v w' sz' => ∃ (y th : Int32) (σ' : jSt), v = some (.int th) ∧ jA_pair σ p0 p1 p2 y th σ' ∧ jLP cI cJ cT cX x o P w sz σ' (fun z => th = 0 → z = y.toInt64) w' sz') := by
  obtain ⟨dr, F, G, own, fT, ls, k, f, m, tm, h⟩ := hx
  refine jb_methW_i (by decide) (Nat.le_of_ble_eq_true rfl) (fun u C X hT E => ?_)
  refine ja_aload C jd_L_pair_0 4 rfl ?_
  refine ja_iconst C (nI 0) jd_L_pair_2 (by decide) ?_
  refine ja_aload_n C jd_L_pair_3 0 rfl ?_
  refine ja_iload_n C jd_L_pair_4 1 rfl ?_
  refine ja_iload_n C jd_L_pair_5 2 rfl ?_
  refine ja_iload_n C jd_L_pair_6 3 rfl ?_
  refine jb_callVT (kc := 0) (ks := 0) (mc := 5) (ms := 25) (As := [.int p0, .int p1, .int p2]) (rest := [.int (nI 0), .ref o]) C X jk_L_29 h.obj rfl (jx_pair hst h hct) jd_L_pair_7 rfl rfl ⟨by decide, by decide⟩ (Nat.le_of_ble_eq_true rfl) (fun v w1 z1 hp => ?_) (fun E9 w1 z1 q9 hp => ?_)
  · obtain ⟨y9, σ9, e9, ha, hq⟩ := hp
    rw [e9]
    refine ja_i2l C jd_L_pair_10 ?_
    refine ja_last C 1 rfl jd_L_pair_11 (hq.out hoz hoP ho) (vp_in_nI (n := 0) (N := 1) (by decide) (by decide)) ?_
    refine ja_goto C 23 jd_L_pair_12 (by decide) ?_
    refine ja_iconst C 0 jd_L_pair_23 (by decide) ?_
    have hz : vp_updL g0 (nI 0).toNatClampNeg y9.toInt64 0 = y9.toInt64 := by rw [nI_clamp (by decide)]; exact pk_uLs
    exact E jd_L_pair_24 ⟨y9, 0, σ9, rfl, ha, hq.store hoz hoP (fun _ => hz)⟩
  · obtain ⟨⟨eE, ha⟩ | ⟨eE, ha⟩, hq⟩ := hp
    · rw [eE]
      refine jb_catch (hh := [(0, 12, 15, 33), (0, 12, 19, 13)]) (name := "java/lang/IndexOutOfBoundsException") C X hT [] ⟨0, 12, 15, 33⟩ [⟨0, 12, 19, 13⟩] rfl (fun _ z => absurd z List.not_mem_nil) (by decide) (by decide) jlk_L_33 (List.mem_cons_of_mem _ List.mem_cons_self) ?_
      refine ja_astore C _ jd_L_pair_15 (Nat.le_of_ble_eq_true rfl) rfl ?_
      refine ja_iconst C 1 jd_L_pair_17 (by decide) ?_
      exact E jd_L_pair_18 ⟨0, 1, σ, rfl, ha 0, hq.same hoz hoP ho (fun z => absurd z (by decide))⟩
    · rw [eE]
      refine jb_catch (hh := [(0, 12, 15, 33), (0, 12, 19, 13)]) (name := "java/lang/IllegalArgumentException") C X hT [⟨0, 12, 15, 33⟩] ⟨0, 12, 19, 13⟩ [] rfl (fun z hz => by cases List.mem_singleton.mp hz; exact ⟨by decide, _, jlk_L_33, by decide +kernel⟩) (by decide) (by decide) jlk_L_13 List.mem_cons_self ?_
      refine ja_astore C _ jd_L_pair_19 (Nat.le_of_ble_eq_true rfl) rfl ?_
      refine ja_iconst C 2 jd_L_pair_21 (by decide) ?_
      exact E jd_L_pair_22 ⟨0, 2, σ, rfl, ha 0, hq.same hoz hoP ho (fun z => absurd z (by decide))⟩
theorem jh_turned {p0 : Int32} (hst : l.stackTraces = false) (hx : jXs cI cT cX x P σ w) (hct : jSt_c σ < 512) (ho : w o = some (.inl (cJ, 1, .inr (.inl g0)))) (hoz : o < sz) (hoP : ¬ P o) : jb_MW l jy_L_turned jc_L_turned 4 (some .int) [(0, 9, 12, 33)] 7 180 5 25 D H0 (jt_all cI cJ cT cX) [.ref x, .int p0, .ref o] w sz
    (fun v w' sz' => ∃ (y th : Int32) (σ' : jSt), v = some (.int th) ∧ jA_turned σ p0 y th σ' ∧ jLP cI cJ cT cX x o P w sz σ' (fun z => th = 0 → z = y.toInt64) w' sz') := by
  obtain ⟨dr, F, G, own, fT, ls, k, f, m, tm, h⟩ := hx
  refine jb_methW_i (by decide) (Nat.le_of_ble_eq_true rfl) (fun u C X hT E => ?_)
  refine ja_aload_n C jd_L_turned_0 2 rfl ?_
  refine ja_iconst C (nI 0) jd_L_turned_1 (by decide) ?_
  refine ja_aload_n C jd_L_turned_2 0 rfl ?_
  refine ja_iload_n C jd_L_turned_3 1 rfl ?_
  refine jb_callVT (kc := 0) (ks := 0) (mc := 5) (ms := 25) (As := [.int p0]) (rest := [.int (nI 0), .ref o]) C X jk_L_35 h.obj rfl (jx_turned hst h hct) jd_L_turned_4 rfl rfl ⟨by decide, by decide⟩ (Nat.le_of_ble_eq_true rfl) (fun v w1 z1 hp => ?_) (fun E9 w1 z1 q9 hp => ?_)
  · obtain ⟨y9, σ9, e9, ha, hq⟩ := hp
    rw [e9]
    refine ja_i2l C jd_L_turned_7 ?_
    refine ja_last C 1 rfl jd_L_turned_8 (hq.out hoz hoP ho) (vp_in_nI (n := 0) (N := 1) (by decide) (by decide)) ?_
    refine ja_goto C 15 jd_L_turned_9 (by decide) ?_
    refine ja_iconst C 0 jd_L_turned_15 (by decide) ?_
    have hz : vp_updL g0 (nI 0).toNatClampNeg y9.toInt64 0 = y9.toInt64 := by rw [nI_clamp (by decide)]; exact pk_uLs
    exact E jd_L_turned_16 ⟨y9, 0, σ9, rfl, ha, hq.store hoz hoP (fun _ => hz)⟩
  · obtain ⟨⟨eE, ha⟩, hq⟩ := hp
    rw [eE]
    refine jb_catch (hh := [(0, 9, 12, 33)]) (name := "java/lang/IndexOutOfBoundsException") C X hT [] ⟨0, 9, 12, 33⟩ [] rfl (fun _ z => absurd z List.not_mem_nil) (by decide) (by decide) jlk_L_33 (List.mem_cons_of_mem _ List.mem_cons_self) ?_
    refine ja_astore_n C _ jd_L_turned_12 rfl (Nat.le_of_ble_eq_true rfl) rfl ?_
    refine ja_iconst C 1 jd_L_turned_13 (by decide) ?_
    exact E jd_L_turned_14 ⟨0, 1, σ, rfl, ha 0, hq.same hoz hoP ho (fun z => absurd z (by decide))⟩
theorem jh_over {p0 p1 p2 : Int32} (hst : l.stackTraces = false) (hx : jXs cI cT cX x P σ w) (hct : jSt_c σ < 512) (ho : w o = some (.inl (cJ, 1, .inr (.inl g0)))) (hoz : o < sz) (hoP : ¬ P o) : jb_MW l jy_L_over jc_L_over 6 (some .int) [(0, 12, 15, 33), (0, 12, 19, 13)] 7 180 5 25 D H0 (jt_all cI cJ cT cX) [.ref x, .int p0, .int p1, .int p2, .ref o] w sz
    (fun v w' sz' => ∃ (y th : Int32) (σ' : jSt), v = some (.int th) ∧ jA_over σ p0 p1 p2 y th σ' ∧ jLP cI cJ cT cX x o P w sz σ' (fun z => th = 0 → z = y.toInt64) w' sz') := by
  obtain ⟨dr, F, G, own, fT, ls, k, f, m, tm, h⟩ := hx
  refine jb_methW_i (by decide) (Nat.le_of_ble_eq_true rfl) (fun u C X hT E => ?_)
  refine ja_aload C jd_L_over_0 4 rfl ?_
  refine ja_iconst C (nI 0) jd_L_over_2 (by decide) ?_
  refine ja_aload_n C jd_L_over_3 0 rfl ?_
  refine ja_iload_n C jd_L_over_4 1 rfl ?_
  refine ja_iload_n C jd_L_over_5 2 rfl ?_
  refine ja_iload_n C jd_L_over_6 3 rfl ?_
  refine jb_callVT (kc := 0) (ks := 0) (mc := 5) (ms := 25) (As := [.int p0, .int p1, .int p2]) (rest := [.int (nI 0), .ref o]) C X jk_L_39 h.obj rfl (jx_over hst h hct) jd_L_over_7 rfl rfl ⟨by decide, by decide⟩ (Nat.le_of_ble_eq_true rfl) (fun v w1 z1 hp => ?_) (fun E9 w1 z1 q9 hp => ?_)
  · obtain ⟨y9, σ9, e9, ha, hq⟩ := hp
    rw [e9]
    refine ja_i2l C jd_L_over_10 ?_
    refine ja_last C 1 rfl jd_L_over_11 (hq.out hoz hoP ho) (vp_in_nI (n := 0) (N := 1) (by decide) (by decide)) ?_
    refine ja_goto C 23 jd_L_over_12 (by decide) ?_
    refine ja_iconst C 0 jd_L_over_23 (by decide) ?_
    have hz : vp_updL g0 (nI 0).toNatClampNeg y9.toInt64 0 = y9.toInt64 := by rw [nI_clamp (by decide)]; exact pk_uLs
    exact E jd_L_over_24 ⟨y9, 0, σ9, rfl, ha, hq.store hoz hoP (fun _ => hz)⟩
  · obtain ⟨⟨eE, ha⟩ | ⟨eE, ha⟩, hq⟩ := hp
    · rw [eE]
      refine jb_catch (hh := [(0, 12, 15, 33), (0, 12, 19, 13)]) (name := "java/lang/IndexOutOfBoundsException") C X hT [] ⟨0, 12, 15, 33⟩ [⟨0, 12, 19, 13⟩] rfl (fun _ z => absurd z List.not_mem_nil) (by decide) (by decide) jlk_L_33 (List.mem_cons_of_mem _ List.mem_cons_self) ?_
      refine ja_astore C _ jd_L_over_15 (Nat.le_of_ble_eq_true rfl) rfl ?_
      refine ja_iconst C 1 jd_L_over_17 (by decide) ?_
      exact E jd_L_over_18 ⟨0, 1, σ, rfl, ha 0, hq.same hoz hoP ho (fun z => absurd z (by decide))⟩
    · rw [eE]
      refine jb_catch (hh := [(0, 12, 15, 33), (0, 12, 19, 13)]) (name := "java/lang/IllegalArgumentException") C X hT [⟨0, 12, 15, 33⟩] ⟨0, 12, 19, 13⟩ [] rfl (fun z hz => by cases List.mem_singleton.mp hz; exact ⟨by decide, _, jlk_L_33, by decide +kernel⟩) (by decide) (by decide) jlk_L_13 List.mem_cons_self ?_
      refine ja_astore C _ jd_L_over_19 (Nat.le_of_ble_eq_true rfl) rfl ?_
      refine ja_iconst C 2 jd_L_over_21 (by decide) ?_
      exact E jd_L_over_22 ⟨0, 2, σ, rfl, ha 0, hq.same hoz hoP ho (fun z => absurd z (by decide))⟩
theorem jh_call {p0 p1 p2 p3 p4 p5 p6 : Int32} (hst : l.stackTraces = false) (hx : jXs cI cT cX x P σ w) (hct : jSt_c σ < 512) (ho : w o = some (.inl (cJ, 1, .inr (.inl g0)))) (hoz : o < sz) (hoP : ¬ P o) : jb_MW l jy_L_call jc_L_call 10 (some .int) [(0, 20, 23, 13), (0, 20, 27, 33)] 7 180 5 25 D H0 (jt_all cI cJ cT cX) [.ref x, .int p0, .int p1, .int p2, .int p3, .int p4, .int p5, .int p6, .ref o] w sz
    (fun v w' sz' => ∃ (y th : Int32) (σ' : jSt), v = some (.int th) ∧ jA_call σ p0 p1 p2 p3 p4 p5 p6 y th σ' ∧ jLP cI cJ cT cX x o P w sz σ' (fun z => th = 0 → z = y.toInt64) w' sz') := by
  obtain ⟨dr, F, G, own, fT, ls, k, f, m, tm, h⟩ := hx
  refine jb_methW_i (by decide) (Nat.le_of_ble_eq_true rfl) (fun u C X hT E => ?_)
  refine ja_aload C jd_L_call_0 8 rfl ?_
  refine ja_iconst C (nI 0) jd_L_call_2 (by decide) ?_
  refine ja_aload_n C jd_L_call_3 0 rfl ?_
  refine ja_iload_n C jd_L_call_4 1 rfl ?_
  refine ja_iload_n C jd_L_call_5 2 rfl ?_
  refine ja_iload_n C jd_L_call_6 3 rfl ?_
  refine ja_iload C jd_L_call_7 4 rfl ?_
  refine ja_iload C jd_L_call_9 5 rfl ?_
  refine ja_iload C jd_L_call_11 6 rfl ?_
  refine ja_iload C jd_L_call_13 7 rfl ?_
  refine jb_callVT (kc := 0) (ks := 0) (mc := 5) (ms := 25) (As := [.int p0, .int p1, .int p2, .int p3, .int p4, .int p5, .int p6]) (rest := [.int (nI 0), .ref o]) C X jk_L_42 h.obj rfl (jx_call hst h hct) jd_L_call_15 rfl rfl ⟨by decide, by decide⟩ (Nat.le_of_ble_eq_true rfl) (fun v w1 z1 hp => ?_) (fun E9 w1 z1 q9 hp => ?_)
  · obtain ⟨y9, σ9, e9, ha, hq⟩ := hp
    rw [e9]
    refine ja_i2l C jd_L_call_18 ?_
    refine ja_last C 1 rfl jd_L_call_19 (hq.out hoz hoP ho) (vp_in_nI (n := 0) (N := 1) (by decide) (by decide)) ?_
    refine ja_goto C 31 jd_L_call_20 (by decide) ?_
    refine ja_iconst C 0 jd_L_call_31 (by decide) ?_
    have hz : vp_updL g0 (nI 0).toNatClampNeg y9.toInt64 0 = y9.toInt64 := by rw [nI_clamp (by decide)]; exact pk_uLs
    exact E jd_L_call_32 ⟨y9, 0, σ9, rfl, ha, hq.store hoz hoP (fun _ => hz)⟩
  · obtain ⟨⟨eE, ha⟩ | ⟨eE, ha⟩, hq⟩ := hp
    · rw [eE]
      refine jb_catch (hh := [(0, 20, 23, 13), (0, 20, 27, 33)]) (name := "java/lang/IllegalArgumentException") C X hT [] ⟨0, 20, 23, 13⟩ [⟨0, 20, 27, 33⟩] rfl (fun _ z => absurd z List.not_mem_nil) (by decide) (by decide) jlk_L_13 List.mem_cons_self ?_
      refine ja_astore C _ jd_L_call_23 (Nat.le_of_ble_eq_true rfl) rfl ?_
      refine ja_iconst C 1 jd_L_call_25 (by decide) ?_
      exact E jd_L_call_26 ⟨0, 1, σ, rfl, ha 0, hq.same hoz hoP ho (fun z => absurd z (by decide))⟩
    · rw [eE]
      refine jb_catch (hh := [(0, 20, 23, 13), (0, 20, 27, 33)]) (name := "java/lang/IndexOutOfBoundsException") C X hT [⟨0, 20, 23, 13⟩] ⟨0, 20, 27, 33⟩ [] rfl (fun z hz => by cases List.mem_singleton.mp hz; exact ⟨by decide, _, jlk_L_13, by decide +kernel⟩) (by decide) (by decide) jlk_L_33 (List.mem_cons_of_mem _ List.mem_cons_self) ?_
      refine ja_astore C _ jd_L_call_27 (Nat.le_of_ble_eq_true rfl) rfl ?_
      refine ja_iconst C 2 jd_L_call_29 (by decide) ?_
      exact E jd_L_call_30 ⟨0, 2, σ, rfl, ha 0, hq.same hoz hoP ho (fun z => absurd z (by decide))⟩
theorem jh_reshape {p0 p1 p2 p3 p4 p5 : Int32} (hst : l.stackTraces = false) (hx : jXs cI cT cX x P σ w) (hct : jSt_c σ < 512) (ho : w o = some (.inl (cJ, 1, .inr (.inl g0)))) (hoz : o < sz) (hoP : ¬ P o) : jb_MW l jy_L_reshape jc_L_reshape 9 (some .int) [(0, 18, 21, 33), (0, 18, 25, 13)] 7 180 5 25 D H0 (jt_all cI cJ cT cX) [.ref x, .int p0, .int p1, .int p2, .int p3, .int p4, .int p5, .ref o] w sz
    (fun v w' sz' => ∃ (y th : Int32) (σ' : jSt), v = some (.int th) ∧ jA_reshape σ p0 p1 p2 p3 p4 p5 y th σ' ∧ jLP cI cJ cT cX x o P w sz σ' (fun z => th = 0 → z = y.toInt64) w' sz') := by
  obtain ⟨dr, F, G, own, fT, ls, k, f, m, tm, h⟩ := hx
  refine jb_methW_i (by decide) (Nat.le_of_ble_eq_true rfl) (fun u C X hT E => ?_)
  refine ja_aload C jd_L_reshape_0 7 rfl ?_
  refine ja_iconst C (nI 0) jd_L_reshape_2 (by decide) ?_
  refine ja_aload_n C jd_L_reshape_3 0 rfl ?_
  refine ja_iload_n C jd_L_reshape_4 1 rfl ?_
  refine ja_iload_n C jd_L_reshape_5 2 rfl ?_
  refine ja_iload_n C jd_L_reshape_6 3 rfl ?_
  refine ja_iload C jd_L_reshape_7 4 rfl ?_
  refine ja_iload C jd_L_reshape_9 5 rfl ?_
  refine ja_iload C jd_L_reshape_11 6 rfl ?_
  refine jb_callVT (kc := 0) (ks := 0) (mc := 5) (ms := 25) (As := [.int p0, .int p1, .int p2, .int p3, .int p4, .int p5]) (rest := [.int (nI 0), .ref o]) C X jk_L_46 h.obj rfl (jx_reshape hst h hct) jd_L_reshape_13 rfl rfl ⟨by decide, by decide⟩ (Nat.le_of_ble_eq_true rfl) (fun v w1 z1 hp => ?_) (fun E9 w1 z1 q9 hp => ?_)
  · obtain ⟨y9, σ9, e9, ha, hq⟩ := hp
    rw [e9]
    refine ja_i2l C jd_L_reshape_16 ?_
    refine ja_last C 1 rfl jd_L_reshape_17 (hq.out hoz hoP ho) (vp_in_nI (n := 0) (N := 1) (by decide) (by decide)) ?_
    refine ja_goto C 29 jd_L_reshape_18 (by decide) ?_
    refine ja_iconst C 0 jd_L_reshape_29 (by decide) ?_
    have hz : vp_updL g0 (nI 0).toNatClampNeg y9.toInt64 0 = y9.toInt64 := by rw [nI_clamp (by decide)]; exact pk_uLs
    exact E jd_L_reshape_30 ⟨y9, 0, σ9, rfl, ha, hq.store hoz hoP (fun _ => hz)⟩
  · obtain ⟨⟨eE, ha⟩ | ⟨eE, ha⟩, hq⟩ := hp
    · rw [eE]
      refine jb_catch (hh := [(0, 18, 21, 33), (0, 18, 25, 13)]) (name := "java/lang/IndexOutOfBoundsException") C X hT [] ⟨0, 18, 21, 33⟩ [⟨0, 18, 25, 13⟩] rfl (fun _ z => absurd z List.not_mem_nil) (by decide) (by decide) jlk_L_33 (List.mem_cons_of_mem _ List.mem_cons_self) ?_
      refine ja_astore C _ jd_L_reshape_21 (Nat.le_of_ble_eq_true rfl) rfl ?_
      refine ja_iconst C 1 jd_L_reshape_23 (by decide) ?_
      exact E jd_L_reshape_24 ⟨0, 1, σ, rfl, ha 0, hq.same hoz hoP ho (fun z => absurd z (by decide))⟩
    · rw [eE]
      refine jb_catch (hh := [(0, 18, 21, 33), (0, 18, 25, 13)]) (name := "java/lang/IllegalArgumentException") C X hT [⟨0, 18, 21, 33⟩] ⟨0, 18, 25, 13⟩ [] rfl (fun z hz => by cases List.mem_singleton.mp hz; exact ⟨by decide, _, jlk_L_33, by decide +kernel⟩) (by decide) (by decide) jlk_L_13 List.mem_cons_self ?_
      refine ja_astore C _ jd_L_reshape_25 (Nat.le_of_ble_eq_true rfl) rfl ?_
      refine ja_iconst C 2 jd_L_reshape_27 (by decide) ?_
      exact E jd_L_reshape_28 ⟨0, 2, σ, rfl, ha 0, hq.same hoz hoP ho (fun z => absurd z (by decide))⟩
theorem jh_loss {p0 : Int32} (hst : l.stackTraces = false) (hx : jXs cI cT cX x P σ w) (ho : w o = some (.inl (cJ, 1, .inr (.inl g0)))) (hoz : o < sz) (hoP : ¬ P o) : jb_MW l jy_L_loss jc_L_loss 4 (some .int) [(0, 9, 12, 33), (0, 9, 15, 13)] 7 180 5 25 D H0 (jt_all cI cJ cT cX) [.ref x, .int p0, .ref o] w sz
    (fun v w' sz' => ∃ (th : Int32), v = some (.int th) ∧ jLP cI cJ cT cX x o P w sz σ (fun _ => True) w' sz') := by
  obtain ⟨dr, F, G, own, fT, ls, k, f, m, tm, h⟩ := hx
  refine jb_methW_i (by decide) (Nat.le_of_ble_eq_true rfl) (fun u C X hT E => ?_)
  refine ja_aload_n C jd_L_loss_0 2 rfl ?_
  refine ja_iconst C (nI 0) jd_L_loss_1 (by decide) ?_
  refine ja_aload_n C jd_L_loss_2 0 rfl ?_
  refine ja_iload_n C jd_L_loss_3 1 rfl ?_
  refine jb_callVT (kc := 0) (ks := 0) (mc := 5) (ms := 25) (As := [.int p0]) (rest := [.int (nI 0), .ref o]) C X jk_L_49 h.obj rfl (jx_loss hst h) jd_L_loss_4 rfl rfl ⟨by decide, by decide⟩ (Nat.le_of_ble_eq_true rfl) (fun v w1 z1 hp => ?_) (fun E9 w1 z1 q9 hp => ?_)
  · obtain ⟨⟨y9, e9⟩, hq⟩ := hp
    rw [e9]
    refine ja_i2l C jd_L_loss_7 ?_
    refine ja_last C 1 rfl jd_L_loss_8 (hq.out hoz hoP ho) (vp_in_nI (n := 0) (N := 1) (by decide) (by decide)) ?_
    refine ja_goto C 18 jd_L_loss_9 (by decide) ?_
    refine ja_iconst C 0 jd_L_loss_18 (by decide) ?_
    exact E jd_L_loss_19 ⟨0, rfl, hq.store hoz hoP trivial⟩
  · obtain ⟨eE | eE, hq⟩ := hp
    · rw [eE]
      refine jb_catch (hh := [(0, 9, 12, 33), (0, 9, 15, 13)]) (name := "java/lang/IndexOutOfBoundsException") C X hT [] ⟨0, 9, 12, 33⟩ [⟨0, 9, 15, 13⟩] rfl (fun _ z => absurd z List.not_mem_nil) (by decide) (by decide) jlk_L_33 (List.mem_cons_of_mem _ List.mem_cons_self) ?_
      refine ja_astore_n C _ jd_L_loss_12 rfl (Nat.le_of_ble_eq_true rfl) rfl ?_
      refine ja_iconst C 1 jd_L_loss_13 (by decide) ?_
      exact E jd_L_loss_14 ⟨1, rfl, hq.same hoz hoP ho trivial⟩
    · rw [eE]
      refine jb_catch (hh := [(0, 9, 12, 33), (0, 9, 15, 13)]) (name := "java/lang/IllegalArgumentException") C X hT [⟨0, 9, 12, 33⟩] ⟨0, 9, 15, 13⟩ [] rfl (fun z hz => by cases List.mem_singleton.mp hz; exact ⟨by decide, _, jlk_L_33, by decide +kernel⟩) (by decide) (by decide) jlk_L_13 List.mem_cons_self ?_
      refine ja_astore_n C _ jd_L_loss_15 rfl (Nat.le_of_ble_eq_true rfl) rfl ?_
      refine ja_iconst C 2 jd_L_loss_16 (by decide) ?_
      exact E jd_L_loss_17 ⟨2, rfl, hq.same hoz hoP ho trivial⟩
theorem jh_told {p0 p1 : Int32} (hst : l.stackTraces = false) (hx : jXs cI cT cX x P σ w) (ho : w o = some (.inl (cJ, 1, .inr (.inl g0)))) (hoz : o < sz) (hoP : ¬ P o) : jb_MW l jy_L_told jc_L_told 5 (some .int) [(0, 10, 13, 33), (0, 10, 17, 13)] 7 180 5 25 D H0 (jt_all cI cJ cT cX) [.ref x, .int p0, .int p1, .ref o] w sz
    (fun v w' sz' => ∃ (th : Int32), v = some (.int th) ∧ jLP cI cJ cT cX x o P w sz σ (fun _ => True) w' sz') := by
  obtain ⟨dr, F, G, own, fT, ls, k, f, m, tm, h⟩ := hx
  refine jb_methW_i (by decide) (Nat.le_of_ble_eq_true rfl) (fun u C X hT E => ?_)
  refine ja_aload_n C jd_L_told_0 3 rfl ?_
  refine ja_iconst C (nI 0) jd_L_told_1 (by decide) ?_
  refine ja_aload_n C jd_L_told_2 0 rfl ?_
  refine ja_iload_n C jd_L_told_3 1 rfl ?_
  refine ja_iload_n C jd_L_told_4 2 rfl ?_
  refine jb_callVT (kc := 0) (ks := 0) (mc := 5) (ms := 25) (As := [.int p0, .int p1]) (rest := [.int (nI 0), .ref o]) C X jk_L_52 h.obj rfl (jx_told hst h) jd_L_told_5 rfl rfl ⟨by decide, by decide⟩ (Nat.le_of_ble_eq_true rfl) (fun v w1 z1 hp => ?_) (fun E9 w1 z1 q9 hp => ?_)
  · obtain ⟨⟨y9, e9⟩, hq⟩ := hp
    rw [e9]
    refine ja_i2l C jd_L_told_8 ?_
    refine ja_last C 1 rfl jd_L_told_9 (hq.out hoz hoP ho) (vp_in_nI (n := 0) (N := 1) (by decide) (by decide)) ?_
    refine ja_goto C 21 jd_L_told_10 (by decide) ?_
    refine ja_iconst C 0 jd_L_told_21 (by decide) ?_
    exact E jd_L_told_22 ⟨0, rfl, hq.store hoz hoP trivial⟩
  · obtain ⟨eE | eE, hq⟩ := hp
    · rw [eE]
      refine jb_catch (hh := [(0, 10, 13, 33), (0, 10, 17, 13)]) (name := "java/lang/IndexOutOfBoundsException") C X hT [] ⟨0, 10, 13, 33⟩ [⟨0, 10, 17, 13⟩] rfl (fun _ z => absurd z List.not_mem_nil) (by decide) (by decide) jlk_L_33 (List.mem_cons_of_mem _ List.mem_cons_self) ?_
      refine ja_astore C _ jd_L_told_13 (Nat.le_of_ble_eq_true rfl) rfl ?_
      refine ja_iconst C 1 jd_L_told_15 (by decide) ?_
      exact E jd_L_told_16 ⟨1, rfl, hq.same hoz hoP ho trivial⟩
    · rw [eE]
      refine jb_catch (hh := [(0, 10, 13, 33), (0, 10, 17, 13)]) (name := "java/lang/IllegalArgumentException") C X hT [⟨0, 10, 13, 33⟩] ⟨0, 10, 17, 13⟩ [] rfl (fun z hz => by cases List.mem_singleton.mp hz; exact ⟨by decide, _, jlk_L_33, by decide +kernel⟩) (by decide) (by decide) jlk_L_13 List.mem_cons_self ?_
      refine ja_astore C _ jd_L_told_17 (Nat.le_of_ble_eq_true rfl) rfl ?_
      refine ja_iconst C 2 jd_L_told_19 (by decide) ?_
      exact E jd_L_told_20 ⟨2, rfl, hq.same hoz hoP ho trivial⟩
theorem jh_divisor {p0 p1 : Int32} (hst : l.stackTraces = false) (hx : jXs cI cT cX x P σ w) (ho : w o = some (.inl (cJ, 1, .inr (.inl g0)))) (hoz : o < sz) (hoP : ¬ P o) : jb_MW l jy_L_divisor jc_L_divisor 5 (some .int) [(0, 9, 12, 33)] 7 180 5 25 D H0 (jt_all cI cJ cT cX) [.ref x, .int p0, .int p1, .ref o] w sz
    (fun v w' sz' => ∃ (th : Int32), v = some (.int th) ∧ jLP cI cJ cT cX x o P w sz σ (fun _ => True) w' sz') := by
  obtain ⟨dr, F, G, own, fT, ls, k, f, m, tm, h⟩ := hx
  refine jb_methW_i (by decide) (Nat.le_of_ble_eq_true rfl) (fun u C X hT E => ?_)
  refine ja_aload_n C jd_L_divisor_0 3 rfl ?_
  refine ja_iconst C (nI 0) jd_L_divisor_1 (by decide) ?_
  refine ja_aload_n C jd_L_divisor_2 0 rfl ?_
  refine ja_iload_n C jd_L_divisor_3 1 rfl ?_
  refine ja_iload_n C jd_L_divisor_4 2 rfl ?_
  refine jb_callVT (kc := 0) (ks := 0) (mc := 5) (ms := 25) (As := [.int p0, .int p1]) (rest := [.int (nI 0), .ref o]) C X jk_L_55 h.obj rfl (jx_divisor hst h) jd_L_divisor_5 rfl rfl ⟨by decide, by decide⟩ (Nat.le_of_ble_eq_true rfl) (fun v w1 z1 hp => ?_) (fun E9 w1 z1 q9 hp => ?_)
  · obtain ⟨⟨y9, e9⟩, hq⟩ := hp
    rw [e9]
    refine ja_last C 1 rfl jd_L_divisor_8 (hq.out hoz hoP ho) (vp_in_nI (n := 0) (N := 1) (by decide) (by decide)) ?_
    refine ja_goto C 16 jd_L_divisor_9 (by decide) ?_
    refine ja_iconst C 0 jd_L_divisor_16 (by decide) ?_
    exact E jd_L_divisor_17 ⟨0, rfl, hq.store hoz hoP trivial⟩
  · obtain ⟨eE, hq⟩ := hp
    rw [eE]
    refine jb_catch (hh := [(0, 9, 12, 33)]) (name := "java/lang/IndexOutOfBoundsException") C X hT [] ⟨0, 9, 12, 33⟩ [] rfl (fun _ z => absurd z List.not_mem_nil) (by decide) (by decide) jlk_L_33 (List.mem_cons_of_mem _ List.mem_cons_self) ?_
    refine ja_astore C _ jd_L_divisor_12 (Nat.le_of_ble_eq_true rfl) rfl ?_
    refine ja_iconst C 1 jd_L_divisor_14 (by decide) ?_
    exact E jd_L_divisor_15 ⟨1, rfl, hq.same hoz hoP ho trivial⟩
end LH
