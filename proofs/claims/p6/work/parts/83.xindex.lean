/-! THE CLASS: index -/
/-- fresh cells beside it change nothing of the class -/
theorem jXd.kept {cI cT cX : ClassId} {x : Nat} {P : Nat → Prop} {σ : jSt} {dr : Nat} {F G : Nat → Option Nat} {own : Nat → Nat} {fT : Nat → Nat → Int32} {ls : Int32} {w w2 : jb_W} {k : Nat} {f : Nat → Int32} {m : Int32 × Int32 × Int64} {tm : Int32} (h : jXd cI cT cX x P σ dr F G own fT ls w k f m tm) (fr : ∀ c v, w c = some v → w2 c = w c) : jXd cI cT cX x P σ dr F G own fT ls w2 k f m tm := by
  obtain ⟨h1, h2, h3, ⟨r4, e4, q4, h4⟩, ⟨r5, e5, q5, h5⟩, ⟨h6a, hz, hd, h6⟩, h7, h8, h9, h10, h11, h12, h13, h14⟩ := h
  have kept : ∀ {b9 k9 : Nat} {f9 : Nat → Int32} {m9 : Int32 × Int32 × Int64} {t9 : Int32}, jZx cI w b9 k9 f9 m9 t9 → jZx cI w2 b9 k9 f9 m9 t9 := fun hz9 => hz9.kept (fun c c1 c2 => by obtain ⟨v, hv⟩ := hz9.has c1 c2; exact fr c v hv)
  refine ⟨(fr _ _ h1).trans h1, (fr _ _ h2).trans h2, (fr _ _ h3).trans h3, ⟨r4, e4, q4, (fr _ _ h4).trans h4⟩, ⟨r5, e5, q5, (fr _ _ h5).trans h5⟩, ⟨h6a, kept hz, hd, h6⟩, h7, fun t ht => ?_, fun t b9 hb => ?_, h10, fun i hi => ?_, h12, h13, h14⟩
  · obtain ⟨g1, b9, g2, g3, g4⟩ := h8 t ht
    exact ⟨g1, b9, g2, kept g3, g4⟩
  · obtain ⟨q1, q2, q3, k9, f9, m9, t9, q4', q5'⟩ := h9 t b9 hb
    exact ⟨q1, q2, q3, k9, f9, m9, t9, q4', kept q5'⟩
  · obtain ⟨ib, fi, g1, g2, g3, g4, g5, g6, g7⟩ := h11 i hi
    exact ⟨ib, fi, g1, g2, g3, (fr _ _ g4).trans g4, (fr _ _ g5).trans g5, (fr _ _ g6).trans g6, g7⟩
theorem jXd.keepI {cI cT cX : ClassId} {x : Nat} {P P2 : Nat → Prop} {σ : jSt} {dr : Nat} {F G : Nat → Option Nat} {own own2 : Nat → Nat} {fT : Nat → Nat → Int32} {ls : Int32} {w w2 : jb_W} {k : Nat} {f : Nat → Int32} {m : Int32 × Int32 × Int64} {tm : Int32} {r le z0 ib : Nat} {fi : Nat → Int32} {Si : Nat → Nat} (h : jXd cI cT cX x P σ dr F G own fT ls w k f m tm) (hci : jSt_i σ < 512)
    (wx : w2 x = some (.inr (4, [.ref (x + 1), .ref (x + 2), .ref (x + 3), .ref (x + 4), .ref dr, .int (nI (jSt_c σ)), .int (nI (jSt_i σ + 1)), .int (nI (jSt_w σ)), .int ls, .int (nI (jSt_p σ))])))
    (wt : w2 (x + 2) = some (.inl (cX, 1000, .inr (.inr (.inr (.inr (va_up G (jSt_i σ) (some ib))))))))
    (fr : ∀ c v, w c = some v → c ≠ x → c ≠ x + 2 → w2 c = w c) (hib : x + 5 ≤ ib) (oi : ∀ j, j < 3 → own2 (ib + j) = ib) (i0 : w2 ib = some (.inr (3, [.ref (ib + 1), .int (nI le)]))) (i1 : w2 (ib + 1) = some (.inr (1, [.ref (ib + 2), .int (nI r)]))) (i2 : w2 (ib + 2) = some (.inl (cI, 4, .inl fi))) (hr : r ≤ 4) (hS : jSh r fi Si) (hz0 : r = 1 → Si 0 = z0) (hle : 1 ≤ le ∧ le ≤ 65536)
    (ow : ∀ c v, w c = some v → own2 c = own c) (hP : ∀ c, P c → P2 c) (hPi : ∀ j, j < 3 → P2 (ib + j)) : jXd cI cT cX x P2 (jSt_addI σ (r, z0, le)) dr F (va_up G (jSt_i σ) (some ib)) own2 fT ls w2 k f m tm := by
  obtain ⟨h1, h2, h3, ⟨r4, e4, q4, h4⟩, ⟨r5, e5, q5, h5⟩, ⟨h6a, hz, hd, h6⟩, ⟨h7a, h7b, h7c, h7d⟩, h8, h9, h10, h11, h12, h13, h14⟩ := h
  have kept : ∀ {b9 k9 : Nat} {f9 : Nat → Int32} {m9 : Int32 × Int32 × Int64} {t9 : Int32}, x + 5 ≤ b9 → jZx cI w b9 k9 f9 m9 t9 → jZx cI w2 b9 k9 f9 m9 t9 := fun hx hz9 => hz9.kept (fun c c1 c2 => by obtain ⟨v, hv⟩ := hz9.has c1 c2; exact fr c v hv (by omega) (by omega))
  have own5 : ∀ {b9 k9 : Nat} {f9 : Nat → Int32} {m9 : Int32 × Int32 × Int64} {t9 : Int32}, jZx cI w b9 k9 f9 m9 t9 → (∀ j, j < 5 → own (b9 + j) = b9) → ∀ j, j < 5 → own2 (b9 + j) = b9 := fun hz9 ho j hj => by obtain ⟨v, hv⟩ := hz9.has (Nat.le_add_right _ j) (by omega); rw [ow _ v hv]; exact ho j hj
  refine ⟨wx, (fr _ _ h2 (by omega) (by omega)).trans h2, wt, ⟨r4, e4, q4, (fr _ _ h4 (by omega) (by omega)).trans h4⟩, ⟨r5, e5, q5, (fr _ _ h5 (by omega) (by omega)).trans h5⟩, ⟨h6a, kept hd hz, hd, own5 hz h6⟩, ⟨h7a, by show jSt_i σ + 1 ≤ 512; omega, h7c, h7d⟩, fun t ht => ?_, fun t b9 hb => ?_, h10, fun i hi => ?_, fun j hj => hP _ (h12 j hj), fun j hj => hP _ (h13 j hj), fun t b9 hb j hj => hP _ (h14 t b9 hb j hj)⟩
  · obtain ⟨g1, b9, g2, g3, g4⟩ := h8 t ht
    exact ⟨g1, b9, g2, kept (h9 t b9 g2).1 g3, g4⟩
  · obtain ⟨q1, q2, q3, k9, f9, m9, t9, q4', q5'⟩ := h9 t b9 hb
    exact ⟨q1, q2, own5 q5' q3, k9, f9, m9, t9, q4', kept q1 q5'⟩
  · have hi : i < jSt_i σ + 1 := hi
    show ∃ (ib9 : Nat) (fi : Nat → Int32), va_up G (jSt_i σ) (some ib) i = some ib9 ∧ x + 5 ≤ ib9 ∧ (∀ j, j < 3 → own2 (ib9 + j) = ib9) ∧ w2 ib9 = some (.inr (3, [.ref (ib9 + 1), .int (nI (va_up (jSt_I σ) (jSt_i σ) (r, z0, le) i).2.2)])) ∧ w2 (ib9 + 1) = some (.inr (1, [.ref (ib9 + 2), .int (nI (va_up (jSt_I σ) (jSt_i σ) (r, z0, le) i).1)])) ∧ w2 (ib9 + 2) = some (.inl (cI, 4, .inl fi)) ∧ (va_up (jSt_I σ) (jSt_i σ) (r, z0, le) i).1 ≤ 4 ∧ (∃ Si, jSh (va_up (jSt_I σ) (jSt_i σ) (r, z0, le) i).1 fi Si ∧ ((va_up (jSt_I σ) (jSt_i σ) (r, z0, le) i).1 = 1 → Si 0 = (va_up (jSt_I σ) (jSt_i σ) (r, z0, le) i).2.1)) ∧ 1 ≤ (va_up (jSt_I σ) (jSt_i σ) (r, z0, le) i).2.2 ∧ (va_up (jSt_I σ) (jSt_i σ) (r, z0, le) i).2.2 ≤ 65536 ∧ ∀ j, j < 3 → P2 (ib9 + j)
    by_cases et : i = jSt_i σ
    · rw [et, va_up_self, va_up_self]
      exact ⟨ib, fi, rfl, hib, oi, i0, i1, i2, hr, ⟨Si, hS, hz0⟩, hle.1, hle.2, hPi⟩
    · rw [va_up_ne _ _ et, va_up_ne _ _ et]
      obtain ⟨ib9, fi9, g1, g2, g3, g4, g5, g6, g7, g8, g9, g10, g11⟩ := h11 i (by omega)
      refine ⟨ib9, fi9, g1, g2, fun j hj => ?_, (fr _ _ g4 (by omega) (by omega)).trans g4, (fr _ _ g5 (by omega) (by omega)).trans g5, (fr _ _ g6 (by omega) (by omega)).trans g6, g7, g8, g9, g10, fun j hj => hP _ (g11 j hj)⟩
      match j, hj with
      | 0, _ => rw [show ib9 + 0 = ib9 from rfl, ow _ _ g4]; exact g3 0 (by decide)
      | 1, _ => rw [ow _ _ g5]; exact g3 1 (by decide)
      | 2, _ => rw [ow _ _ g6]; exact g3 2 (by decide)
      | j + 3, z => omega
theorem jnw_X_I : ja_NW jcl "MeasuredTensors" 15 3 2 [.null, .int 0] := ⟨_, jt_I, rfl, rfl, jw_I, jw_in (by decide +kernel) (by decide +kernel), jw_in (by decide +kernel) (by decide +kernel), jw_in (by decide +kernel) (by decide +kernel), jf_I_ty, by intro j hj; match j, hj with | 0, _ => rfl | 1, _ => rfl | j + 2, z => exact absurd z (by show ¬ j + 2 < 2; omega)⟩
theorem jki_X_I : jb_KIN "MeasuredTensors" 109 jy_I_init "MeasuredTensors" jc_I_init 1 0 := ⟨by decide, jw_in (by decide +kernel) (by decide +kernel), rfl, jw_in (by decide +kernel) (by decide +kernel), jw_in (by decide +kernel) (by decide +kernel), by decide +kernel⟩
theorem jt9_107_52 : jx_ok "MeasuredTensors" 52 107 56 "java/lang/IllegalArgumentException" "no such sides, or below is not 1 .. 65536" ["java/lang/RuntimeException", "java/lang/Exception"] := ⟨by decide +kernel, by decide +kernel, jw_in (by decide +kernel) (by decide +kernel), jw_in (by decide +kernel) (by decide +kernel), by decide +kernel, by decide +kernel, by decide +kernel⟩
theorem jq_X_106 : Cond.constant "MeasuredTensors" 106 (nI 65536) ∈ jw_all := jw_in (by decide +kernel) (by decide +kernel)
theorem jp_X_111 : ja_FP jcl "MeasuredTensors" 111 3 1 .int := ⟨_, jt_I, rfl, by decide, jw_I, jw_in (by decide +kernel) (by decide +kernel), jf_I_ty, jf_I_nm, rfl⟩
theorem jnf_I_1 : ∀ r, jcl[3]? = some r → (r.2.1 1).2.2.2 = false := fun r h => by cases h; rfl
theorem jt9_119_117 : jx_ok "MeasuredTensors" 117 119 121 "java/lang/UnsupportedOperationException" "too many cells, or indices" ["java/lang/RuntimeException", "java/lang/Exception"] := ⟨by decide +kernel, by decide +kernel, jw_in (by decide +kernel) (by decide +kernel), jw_in (by decide +kernel) (by decide +kernel), by decide +kernel, by decide +kernel, by decide +kernel⟩
section X83
variable {l : Launch} {D : va_G} {H0 : Heap} {cI cJ cT cX : ClassId} {w : jb_W} {sz : Nat}
variable {x : Nat} {P : Nat → Prop} {σ : jSt} {dr : Nat} {F G : Nat → Option Nat} {own : Nat → Nat} {fT : Nat → Nat → Int32} {ls : Int32} {k : Nat} {f : Nat → Int32} {m : Int32 × Int32 × Int64} {tm : Int32}
theorem jx_index {n a b c d e : Int32} (hst : l.stackTraces = false) (h : jXd cI cT cX x P σ dr F G own fT ls w k f m tm) (hct : jSt_i σ < 512) : jb_T l jy_X_index jc_X_index 8 (some .int) 6 88 5 25 D H0 (jt_all cI cJ cT cX) [.ref x, .int n, .int a, .int b, .int c, .int d, .int e] w sz
    (fun v w' sz' => ∃ (y : Int32) (σ' : jSt), v = some (.int y) ∧ jA_index σ n a b c d e y 0 σ' ∧ jXP cI cT cX x P w sz σ' w' sz') (fun E w' sz' => ((E = "java/lang/IllegalArgumentException" ∧ ∀ y, jA_index σ n a b c d e y 1 σ) ∨ (E = "java/lang/UnsupportedOperationException" ∧ ∀ y, jA_index σ n a b c d e y 2 σ)) ∧ jXP cI cT cX x P w sz σ w' sz') := by
  refine jb_methT_i hst (by decide) (Nat.le_of_ble_eq_true rfl) (fun u C X E TH => ?_)
  have hxd := h.xd
  have hcn := h.cn
  have bad : ∀ (hf : ¬ (jl_take n (jl_F a b c d) = 1 ∧ 1 ≤ e ∧ e ≤ 65536)), ja (jb_mk l (jb_rm 6 88 5 25) 8 "MeasuredTensors" D H0 (jt_all cI cJ cT cX) u) w sz 5 25 26 [(0, .ref x), (1, .int n), (2, .int a), (3, .int b), (4, .int c), (5, .int d), (6, .int e)] [] := by
    intro hf
    exact TH jt9_107_52 jd_X_index_26 jd_X_index_29 jd_X_index_30 jd_X_index_32 jd_X_index_35 ⟨Nat.le_of_ble_eq_true rfl, Nat.le_of_ble_eq_true rfl⟩ (fun z9 hz9 => ⟨Or.inl ⟨rfl, fun y => ⟨fun _ => ⟨rfl, rfl⟩, fun z => absurd z hf, fun z => absurd z hf⟩⟩, h.jXP jXF.rf hz9⟩)
  refine ja_iload_n C jd_X_index_0 1 rfl ?_
  refine ja_iload_n C jd_X_index_1 2 rfl ?_
  refine ja_iload_n C jd_X_index_2 3 rfl ?_
  refine ja_iload C jd_X_index_3 4 rfl ?_
  refine ja_iload C jd_X_index_5 5 rfl ?_
  refine jb_pS 8 C X jk_X_87 (jx_areSides) jd_X_index_7 rfl rfl ⟨by decide, by decide⟩ (Nat.le_of_ble_eq_true rfl) ?_
  refine ja_if_eqB C 26 jd_X_index_10 (by decide) (fun c1 => bad (fun z => c1 z.1)) (fun c1 => ?_)
  refine ja_iload C jd_X_index_13 6 rfl ?_
  refine ja_iconst C (nI 1) jd_X_index_15 (by decide) ?_
  refine ja_icmp_lt C 26 jd_X_index_16 (by decide) (fun c2 => bad (fun z => absurd z.2.1 (fun z => k2_nle c2 z))) (fun c2 => ?_)
  refine ja_iload C jd_X_index_19 6 rfl ?_
  refine ja_ldc C (nI 65536) jq_X_106 jd_X_index_21 ?_
  refine ja_icmp_le C 36 jd_X_index_23 (by decide) (fun c3 => ?_) (fun c3 => bad (fun z => absurd z.2.2 c3))
  have hok : (jl_take n (jl_F a b c d) = 1 ∧ 1 ≤ e ∧ e ≤ 65536) := ⟨c1, k2_le c2, c3⟩
  obtain ⟨r, hr, em⟩ := jl_take_rk c1
  obtain ⟨le, hle, ee⟩ := nI_of2 (M := 65536) (n := 65536) (by decide) (fun z => c2 (Int32.lt_iff_toInt_lt.mpr (Int.lt_trans (Int32.lt_iff_toInt_lt.mp z) (by decide)))) c3
  have ele : e.toNatClampNeg = le := by rw [ee]; exact nI_clamp (by omega)
  have le1 : 1 ≤ le := by
    rcases Nat.eq_zero_or_pos le with z | z
    · exact absurd (by rw [ee, z]; decide) c2
    · exact z
  clear bad
  refine ja_bd (fun bd => ?_)
  have hxs : x < sz := bd _ _ h.obj
  have hx2 : x + 2 < sz := bd _ _ h.ind
  have hx4 : x + 4 < sz := by obtain ⟨_, _, _, z⟩ := h.2.2.2.2.1; exact bd _ _ z
  refine jo_new (kc := 4) (ks := 23) C jnw_X_I jd_X_index_36 (fun wb gb fb => ?_)
  refine ja_dup C jd_X_index_39 rfl ?_
  refine jb_callIN (kc := 2) (ks := 17) (mc := 2) (ms := 6) (As := []) C X jki_X_I (ji_init gb rfl) jd_X_index_40 rfl rfl ⟨by decide, by decide⟩ (Nat.le_of_ble_eq_true rfl) (fun v wc zc hpc => ?_)
  obtain ⟨v1, ⟨i0, i1, i2, fc⟩, v3⟩ := hpc
  rw [v1, v3]
  have fa : ∀ q v, w q = some v → wc q = w q := fun q v hv => (fc q (bd _ _ hv)).trans (fb q (by have := bd _ _ hv; omega))
  subst em
  subst ee
  have hS := jSh_set (f := fun _ => 0) hr c1
  have hce : jl_cells (fun j => if j < r then (jl_F a b c d j).toNatClampNeg else 1) r = jl_cells (fun k => (jl_F a b c d k).toNatClampNeg) (nI r).toNatClampNeg := by rw [nI_clamp (by omega)]; exact jl_cells_ext (fun j hj => if_pos hj)
  have q8 := jl_cl_le (fun j => if j < r then (jl_F a b c d j).toNatClampNeg else 1) r
  refine ja_astore C [(7, .ref sz), (0, .ref x), (1, .int (nI r)), (2, .int a), (3, .int b), (4, .int c), (5, .int d), (6, .int (nI le))] jd_X_index_43 (Nat.le_of_ble_eq_true rfl) rfl ?_
  refine ja_aload C jd_X_index_45 0 rfl ?_
  refine ja_get C jg_X_110 jd_X_index_47 i0 rfl ?_
  refine ja_iload_n C jd_X_index_50 2 rfl ?_
  refine ja_iload_n C jd_X_index_51 3 rfl ?_
  refine ja_iload_n C jd_X_index_52 4 rfl ?_
  refine ja_iload C jd_X_index_53 5 rfl ?_
  refine ja_iload C jd_X_index_55 6 rfl ?_
  refine jo_vV 8 C X jk_X_97 i1 rfl (js_set i1 i2) jd_X_index_57 rfl rfl ⟨by decide, by decide⟩ (Nat.le_of_ble_eq_true rfl) (fun w1 hp1 => ?_)
  obtain ⟨g1a, g1b, f1⟩ := hp1
  refine ja_aload C jd_X_index_60 0 rfl ?_
  refine ja_iload C jd_X_index_62 7 rfl ?_
  refine jo_put C jp_X_111 jnf_I_1 jd_X_index_64 ((f1 _ (by omega) (by omega)).trans i0) rfl rfl (Nat.le_of_ble_eq_true rfl) [.ref (sz + 1), .int (nI le)] rfl (fun w2 g2 f2 => ?_)
  have fk : ∀ q v, w q = some v → w2 q = w q := fun q v hv => (f2 q (by have := bd _ _ hv; omega)).trans ((f1 q (by have := bd _ _ hv; omega) (by have := bd _ _ hv; omega)).trans (fa q v hv))
  have hN := h.kept fk
  refine ja_aload C jd_X_index_67 0 rfl ?_
  refine ja_get C jg_X_110 jd_X_index_69 g2 rfl ?_
  refine jb_pV 8 C X jk_X_114 ((f2 _ (by omega)).trans g1a) rfl (js_cells ((f2 _ (by omega)).trans g1a) ((f2 _ (by omega)).trans g1b) hS) jd_X_index_72 rfl rfl ⟨by decide, by decide⟩ (Nat.le_of_ble_eq_true rfl) ?_
  have big : ∀ (hf : 4096 < jl_cells (fun j => if j < r then (jl_F a b c d j).toNatClampNeg else 1) r), ja (jb_mk l (jb_rm 6 88 5 25) 8 "MeasuredTensors" D H0 (jt_all cI cJ cT cX) u) w2 (sz + 1 + 2) 2 17 100 [(7, .ref sz), (0, .ref x), (1, .int (nI r)), (2, .int a), (3, .int b), (4, .int c), (5, .int d), (6, .int (nI le))] [] := by
    intro hf
    exact TH jt9_119_117 jd_X_index_100 jd_X_index_103 jd_X_index_104 jd_X_index_106 jd_X_index_109 ⟨Nat.le_of_ble_eq_true rfl, Nat.le_of_ble_eq_true rfl⟩ (fun z9 hz9 => ⟨Or.inr ⟨rfl, fun y => ⟨fun z => absurd hok z, fun _ _ => ⟨rfl, rfl⟩, fun _ z => absurd (hce ▸ hf) (Nat.not_lt.mpr z)⟩⟩, P, fun _ q => Or.inl q, ⟨_, _, _, _, _, _, _, _, _, _, hN⟩, fun q hq _ => (f2 q (by omega)).trans ((f1 q (by omega) (by omega)).trans ((fc q hq).trans (fb q (by omega)))), by omega⟩)
  refine ja_sipush C (nI 4096) jd_X_index_75 (by decide) ?_
  refine ja_icmp_gtN C 100 jd_X_index_78 (by decide) (by omega) (by decide) (fun c4 => big (by unfold jl_cl at c4; split at c4 <;> omega)) (fun c4 => ?_)
  have hc4 : jl_cells (fun j => if j < r then (jl_F a b c d j).toNatClampNeg else 1) r ≤ 4096 := by unfold jl_cl at c4; split at c4 <;> omega
  refine ja_aload_n C jd_X_index_81 1 rfl ?_
  refine ja_get C jg_X_40 jd_X_index_82 hN.obj rfl ?_
  refine ja_if_ltN C 100 jd_X_index_85 (by decide) (by omega) ?_
  refine ja_aload_n C jd_X_index_88 1 rfl ?_
  refine ja_get C jg_X_40 jd_X_index_89 hN.obj rfl ?_
  refine ja_aload_n C jd_X_index_92 1 rfl ?_
  refine ja_get C jg_X_17 jd_X_index_93 hN.obj rfl ?_
  refine ja_alen C 3 rfl jd_X_index_96 hN.ind (nI 1000) rfl ?_
  refine ja_icmp_ltN C 110 jd_X_index_97 (by decide) (by omega) (by decide) (fun c5 => ?_) (fun c5 => absurd c5 (by omega))
  refine ja_aload_n C jd_X_index_110 1 rfl ?_
  refine ja_get C jg_X_17 jd_X_index_111 hN.obj rfl ?_
  refine ja_aload_n C jd_X_index_114 1 rfl ?_
  refine ja_get C jg_X_40 jd_X_index_115 hN.obj rfl ?_
  refine ja_aload C jd_X_index_118 0 rfl ?_
  refine jo_aast C 3 (r := (jn_I, jf_I, 2)) rfl rfl jd_X_index_120 hN.ind g2 (by omega) (by decide) (fun wd gd fd => ?_)
  refine ja_aload_n C jd_X_index_121 1 rfl ?_
  refine ja_dup C jd_X_index_122 rfl ?_
  refine ja_get C jg_X_40 jd_X_index_123 ((fd _ (by omega)).trans hN.obj) rfl ?_
  refine ja_iconst C (nI 1) jd_X_index_126 (by decide) ?_
  refine ja_iaddN C jd_X_index_127 ?_
  refine jo_put C jp_X_40 jnf_X_6 jd_X_index_128 ((fd _ (by omega)).trans hN.obj) rfl rfl (Nat.le_of_ble_eq_true rfl) [.ref (x + 1), .ref (x + 2), .ref (x + 3), .ref (x + 4), .ref dr, .int (nI (jSt_c σ)), .int (nI ((jSt_i σ) + 1)), .int (nI (jSt_w σ)), .int ls, .int (nI (jSt_p σ))] rfl (fun w3 g3 f3 => ?_)
  refine ja_aload_n C jd_X_index_131 1 rfl ?_
  refine ja_get C jg_X_40 jd_X_index_132 g3 rfl ?_
  refine ja_iconst C (nI 1) jd_X_index_135 (by decide) ?_
  refine ja_isubN C jd_X_index_136 (by omega) ?_
  have e1 : r = 1 → (fun j => if j < r then (jl_F a b c d j).toNatClampNeg else 1) 0 = a.toBitVec.toNat := fun z => by subst z; have q := jl_side ((jl_take_iff (by decide)).mp c1 0 (by decide)); exact ((congrArg (fun q : Int32 => q.toBitVec.toNat) q.1).trans (pk_tn (by have := q.2.2; omega))).symm
  have hy := h.keepI (P2 := fun c => P c ∨ sz ≤ c) (own2 := fun c => if sz ≤ c then sz else own c) (w2 := w3) (r := r) (le := le) (z0 := a.toBitVec.toNat) (ib := sz) hct g3 ((f3 _ (by omega)).trans gd) (fun q v hv q1 q2 => (f3 q q1).trans ((fd q q2).trans (fk q v hv))) (by omega) (fun j _ => by rw [if_pos (Nat.le_add_right _ _)]) ((f3 _ (by omega)).trans ((fd _ (by omega)).trans g2)) ((f3 _ (by omega)).trans ((fd _ (by omega)).trans ((f2 _ (by omega)).trans g1a))) ((f3 _ (by omega)).trans ((fd _ (by omega)).trans ((f2 _ (by omega)).trans g1b))) hr hS e1 ⟨le1, hle⟩ (fun q v hv => by rw [if_neg (by have := bd _ _ hv; omega)]) (fun _ q => Or.inl q) (fun j _ => Or.inr (Nat.le_add_right _ _))
  exact E jd_X_index_137 ⟨nI (jSt_i σ), _, by rw [Nat.add_sub_cancel], ⟨fun z => absurd hok z, fun _ z => absurd (hce ▸ hc4) (Nat.not_le.mpr z), fun _ _ => ⟨rfl, rfl, by rw [nI_clamp (show r < 2 ^ 31 by omega), ele]⟩⟩, _, fun c q => q, ⟨_, _, _, _, _, _, _, _, _, _, hy⟩, fun q hq hP => (f3 q (fun e9 => hP (by rw [e9]; exact h.2.2.2.2.2.2.2.2.2.2.2.1 0 (by decide)))).trans ((fd q (fun e9 => hP (by rw [e9]; exact h.2.2.2.2.2.2.2.2.2.2.2.1 2 (by decide)))).trans ((f2 q (by omega)).trans ((f1 q (by omega) (by omega)).trans ((fc q hq).trans (fb q (by omega)))))), by omega⟩
end X83
