/-! TENSORS of the class -/
/-- a tensor of the class lies in five cells: itself, its shape, its lengths, its measure, its slope -/
def jZ (cI : ClassId) (w : jb_W) (b k : Nat) (f : Nat → Int32) (m sl : Int32 × Int32 × Int64) (p : Nat → Int32) : Prop :=
  w b = some (.inr (2, [.ref (b + 1), .ref (b + 3), .ref (b + 4), .int (p 0), .int (p 1), .int (p 2), .int (p 3), .int (p 4), .int (p 5), .int (p 6), .int (p 7), .int (p 8), .int (p 9)])) ∧ w (b + 1) = some (.inr (1, [.ref (b + 2), .int (nI k)])) ∧ w (b + 2) = some (.inl (cI, 4, .inl f)) ∧ w (b + 3) = some (.inr (0, [.int m.1, .int m.2.1, .long m.2.2])) ∧ w (b + 4) = some (.inr (0, [.int sl.1, .int sl.2.1, .long sl.2.2]))
/-- .. what its slope and its other numbers are, is any; tm: its terms -/
def jZx (cI : ClassId) (w : jb_W) (b k : Nat) (f : Nat → Int32) (m : Int32 × Int32 × Int64) (tm : Int32) : Prop := ∃ (sl : Int32 × Int32 × Int64) (p : Nat → Int32), jZ cI w b k f m sl p ∧ p 1 = tm
/-- all but the five cells of b stays -/
def jZF (b : Nat) (w w' : jb_W) : Prop := ∀ c, (c < b ∨ b + 5 ≤ c) → w' c = w c
def jp10 (x0 x1 x2 x3 x4 x5 x6 x7 x8 x9 : Int32) : Nat → Int32 := fun k => match k with | 0 => x0 | 1 => x1 | 2 => x2 | 3 => x3 | 4 => x4 | 5 => x5 | 6 => x6 | 7 => x7 | 8 => x8 | _ => x9
theorem jZF.rf {b : Nat} {w : jb_W} : jZF b w w := fun _ _ => rfl
theorem jZF.tr {b : Nat} {w w1 w2 : jb_W} (h : jZF b w w1) (h2 : jZF b w1 w2) : jZF b w w2 := fun c hc => (h2 c hc).trans (h c hc)
theorem jZx.kept {cI : ClassId} {w w' : jb_W} {b k : Nat} {f : Nat → Int32} {m : Int32 × Int32 × Int64} {tm : Int32} (h : jZx cI w b k f m tm) (hw : ∀ c, b ≤ c → c < b + 5 → w' c = w c) : jZx cI w' b k f m tm := by
  obtain ⟨sl, p, ⟨z0, z1, z2, z3, z4⟩, hp⟩ := h
  exact ⟨sl, p, ⟨(hw _ (by omega) (by omega)).trans z0, (hw _ (by omega) (by omega)).trans z1, (hw _ (by omega) (by omega)).trans z2, (hw _ (by omega) (by omega)).trans z3, (hw _ (by omega) (by omega)).trans z4⟩, hp⟩
theorem jg_T_12 : ja_FL jcl "MeasuredTensors$Tensor" 12 2 0 := ⟨_, rfl, by decide, jw_T, jw_in (by decide +kernel) (by decide +kernel)⟩
theorem jk_T_28 : jb_KV "MeasuredTensors$Tensor" 28 jy_S_clear jc_S_clear 1 none 0 := ⟨jw_in (by decide +kernel) (by decide +kernel), jw_in (by decide +kernel) (by decide +kernel), jw_in (by decide +kernel) (by decide +kernel), jw_in (by decide +kernel) (by decide +kernel), jw_in (by decide +kernel) (by decide +kernel), by decide +kernel⟩
theorem jp_T_31 : ja_FP jcl "MeasuredTensors$Tensor" 31 2 3 .boolean := ⟨_, jt_T, rfl, by decide, jw_T, jw_in (by decide +kernel) (by decide +kernel), jf_T_ty, jf_T_nm, rfl⟩
theorem jnf_T_3 : ∀ r, jcl[2]? = some r → (r.2.1 3).2.2.2 = false := fun r h => by cases h; rfl
theorem jp_T_35 : ja_FP jcl "MeasuredTensors$Tensor" 35 2 4 .int := ⟨_, jt_T, rfl, by decide, jw_T, jw_in (by decide +kernel) (by decide +kernel), jf_T_ty, jf_T_nm, rfl⟩
theorem jnf_T_4 : ∀ r, jcl[2]? = some r → (r.2.1 4).2.2.2 = false := fun r h => by cases h; rfl
theorem jp_T_39 : ja_FP jcl "MeasuredTensors$Tensor" 39 2 5 .int := ⟨_, jt_T, rfl, by decide, jw_T, jw_in (by decide +kernel) (by decide +kernel), jf_T_ty, jf_T_nm, rfl⟩
theorem jnf_T_5 : ∀ r, jcl[2]? = some r → (r.2.1 5).2.2.2 = false := fun r h => by cases h; rfl
theorem jp_T_42 : ja_FP jcl "MeasuredTensors$Tensor" 42 2 6 .int := ⟨_, jt_T, rfl, by decide, jw_T, jw_in (by decide +kernel) (by decide +kernel), jf_T_ty, jf_T_nm, rfl⟩
theorem jnf_T_6 : ∀ r, jcl[2]? = some r → (r.2.1 6).2.2.2 = false := fun r h => by cases h; rfl
theorem jp_T_45 : ja_FP jcl "MeasuredTensors$Tensor" 45 2 7 .int := ⟨_, jt_T, rfl, by decide, jw_T, jw_in (by decide +kernel) (by decide +kernel), jf_T_ty, jf_T_nm, rfl⟩
theorem jnf_T_7 : ∀ r, jcl[2]? = some r → (r.2.1 7).2.2.2 = false := fun r h => by cases h; rfl
theorem jp_T_48 : ja_FP jcl "MeasuredTensors$Tensor" 48 2 8 .int := ⟨_, jt_T, rfl, by decide, jw_T, jw_in (by decide +kernel) (by decide +kernel), jf_T_ty, jf_T_nm, rfl⟩
theorem jnf_T_8 : ∀ r, jcl[2]? = some r → (r.2.1 8).2.2.2 = false := fun r h => by cases h; rfl
theorem jp_T_51 : ja_FP jcl "MeasuredTensors$Tensor" 51 2 9 .int := ⟨_, jt_T, rfl, by decide, jw_T, jw_in (by decide +kernel) (by decide +kernel), jf_T_ty, jf_T_nm, rfl⟩
theorem jnf_T_9 : ∀ r, jcl[2]? = some r → (r.2.1 9).2.2.2 = false := fun r h => by cases h; rfl
theorem jp_T_54 : ja_FP jcl "MeasuredTensors$Tensor" 54 2 10 .int := ⟨_, jt_T, rfl, by decide, jw_T, jw_in (by decide +kernel) (by decide +kernel), jf_T_ty, jf_T_nm, rfl⟩
theorem jnf_T_10 : ∀ r, jcl[2]? = some r → (r.2.1 10).2.2.2 = false := fun r h => by cases h; rfl
theorem jp_T_57 : ja_FP jcl "MeasuredTensors$Tensor" 57 2 11 .int := ⟨_, jt_T, rfl, by decide, jw_T, jw_in (by decide +kernel) (by decide +kernel), jf_T_ty, jf_T_nm, rfl⟩
theorem jnf_T_11 : ∀ r, jcl[2]? = some r → (r.2.1 11).2.2.2 = false := fun r h => by cases h; rfl
theorem jp_T_60 : ja_FP jcl "MeasuredTensors$Tensor" 60 2 12 .int := ⟨_, jt_T, rfl, by decide, jw_T, jw_in (by decide +kernel) (by decide +kernel), jf_T_ty, jf_T_nm, rfl⟩
theorem jnf_T_12 : ∀ r, jcl[2]? = some r → (r.2.1 12).2.2.2 = false := fun r h => by cases h; rfl
theorem jk_T_63 : jb_KV "MeasuredTensors$Tensor" 63 jy_S_copy jc_S_copy 2 none 1 := ⟨jw_in (by decide +kernel) (by decide +kernel), jw_in (by decide +kernel) (by decide +kernel), jw_in (by decide +kernel) (by decide +kernel), jw_in (by decide +kernel) (by decide +kernel), jw_in (by decide +kernel) (by decide +kernel), by decide +kernel⟩
theorem jg_T_21 : ja_FL jcl "MeasuredTensors$Tensor" 21 2 1 := ⟨_, rfl, by decide, jw_T, jw_in (by decide +kernel) (by decide +kernel)⟩
theorem jk_T_67 : jb_KV "MeasuredTensors$Tensor" 67 jy_M_copy jc_M_copy 2 none 1 := ⟨jw_in (by decide +kernel) (by decide +kernel), jw_in (by decide +kernel) (by decide +kernel), jw_in (by decide +kernel) (by decide +kernel), jw_in (by decide +kernel) (by decide +kernel), jw_in (by decide +kernel) (by decide +kernel), by decide +kernel⟩
theorem jk_T_70 : jb_KV "MeasuredTensors$Tensor" 70 jy_M_divide jc_M_divide 4 none 2 := ⟨jw_in (by decide +kernel) (by decide +kernel), jw_in (by decide +kernel) (by decide +kernel), jw_in (by decide +kernel) (by decide +kernel), jw_in (by decide +kernel) (by decide +kernel), jw_in (by decide +kernel) (by decide +kernel), by decide +kernel⟩
theorem jg_T_60 : ja_FL jcl "MeasuredTensors$Tensor" 60 2 12 := ⟨_, rfl, by decide, jw_T, jw_in (by decide +kernel) (by decide +kernel)⟩
theorem jg_T_25 : ja_FL jcl "MeasuredTensors$Tensor" 25 2 2 := ⟨_, rfl, by decide, jw_T, jw_in (by decide +kernel) (by decide +kernel)⟩
theorem jk_T_74 : jb_KV "MeasuredTensors$Tensor" 74 jy_M_unite jc_M_unite 2 none 1 := ⟨jw_in (by decide +kernel) (by decide +kernel), jw_in (by decide +kernel) (by decide +kernel), jw_in (by decide +kernel) (by decide +kernel), jw_in (by decide +kernel) (by decide +kernel), jw_in (by decide +kernel) (by decide +kernel), by decide +kernel⟩
section X70
variable {l : Launch} {D : va_G} {H0 : Heap} {cI cJ cT cX : ClassId} {w : jb_W} {sz : Nat}
theorem jt_start {b k : Nat} {f : Nat → Int32} {m : Int32 × Int32 × Int64} {tm : Int32} {a1 a2 : Int32} (h : jZx cI w b k f m tm) : jb_M l jy_T_start jc_T_start 3 none 1 20 0 0 D H0 (jt_all cI cJ cT cX) [.ref b, .int a1, .int a2] w sz
    (fun v w' sz' => v = none ∧ (jZx cI w' b 0 f m (nI 1) ∧ jZF b w w') ∧ sz' = sz) := by
  refine jb_meth_v (by decide) (Nat.le_of_ble_eq_true rfl) (fun u C X hnm E => ?_)
  obtain ⟨sl, p, ⟨y0, y1, y2, y3, y4⟩, hp⟩ := h
  refine ja_aload_n C jd_T_start_0 0 rfl ?_
  refine ja_get C jg_T_12 jd_T_start_1 y0 rfl ?_
  refine jo_vV 8 C X jk_T_28 y1 rfl (js_clear y1 y2) jd_T_start_4 rfl rfl ⟨by decide, by decide⟩ (Nat.le_of_ble_eq_true rfl) (fun w1 hp1 => ?_)
  obtain ⟨g1a, f1⟩ := hp1
  refine ja_aload_n C jd_T_start_7 0 rfl ?_
  refine ja_iconst C (nI 0) jd_T_start_8 (by decide) ?_
  refine jo_put C jp_T_31 jnf_T_3 jd_T_start_9 ((f1 _ (by omega)).trans y0) rfl rfl (Nat.le_of_ble_eq_true rfl) [.ref (b + 1), .ref (b + 3), .ref (b + 4), .int (nI 0), .int (p 1), .int (p 2), .int (p 3), .int (p 4), .int (p 5), .int (p 6), .int (p 7), .int (p 8), .int (p 9)] rfl (fun w2 g2 f2 => ?_)
  refine ja_aload_n C jd_T_start_12 0 rfl ?_
  refine ja_iconst C (nI 1) jd_T_start_13 (by decide) ?_
  refine jo_put C jp_T_35 jnf_T_4 jd_T_start_14 g2 rfl rfl (Nat.le_of_ble_eq_true rfl) [.ref (b + 1), .ref (b + 3), .ref (b + 4), .int (nI 0), .int (nI 1), .int (p 2), .int (p 3), .int (p 4), .int (p 5), .int (p 6), .int (p 7), .int (p 8), .int (p 9)] rfl (fun w3 g3 f3 => ?_)
  refine ja_aload_n C jd_T_start_17 0 rfl ?_
  refine ja_iload_n C jd_T_start_18 1 rfl ?_
  refine jo_put C jp_T_39 jnf_T_5 jd_T_start_19 g3 rfl rfl (Nat.le_of_ble_eq_true rfl) [.ref (b + 1), .ref (b + 3), .ref (b + 4), .int (nI 0), .int (nI 1), .int a1, .int (p 3), .int (p 4), .int (p 5), .int (p 6), .int (p 7), .int (p 8), .int (p 9)] rfl (fun w4 g4 f4 => ?_)
  refine ja_aload_n C jd_T_start_22 0 rfl ?_
  refine ja_iload_n C jd_T_start_23 2 rfl ?_
  refine jo_put C jp_T_42 jnf_T_6 jd_T_start_24 g4 rfl rfl (Nat.le_of_ble_eq_true rfl) [.ref (b + 1), .ref (b + 3), .ref (b + 4), .int (nI 0), .int (nI 1), .int a1, .int a2, .int (p 4), .int (p 5), .int (p 6), .int (p 7), .int (p 8), .int (p 9)] rfl (fun w5 g5 f5 => ?_)
  refine ja_aload_n C jd_T_start_27 0 rfl ?_
  refine ja_iconst C (nI 1) jd_T_start_28 (by decide) ?_
  refine jo_put C jp_T_45 jnf_T_7 jd_T_start_29 g5 rfl rfl (Nat.le_of_ble_eq_true rfl) [.ref (b + 1), .ref (b + 3), .ref (b + 4), .int (nI 0), .int (nI 1), .int a1, .int a2, .int (nI 1), .int (p 5), .int (p 6), .int (p 7), .int (p 8), .int (p 9)] rfl (fun w6 g6 f6 => ?_)
  refine ja_aload_n C jd_T_start_32 0 rfl ?_
  refine ja_iconst C (nI 1) jd_T_start_33 (by decide) ?_
  refine jo_put C jp_T_48 jnf_T_8 jd_T_start_34 g6 rfl rfl (Nat.le_of_ble_eq_true rfl) [.ref (b + 1), .ref (b + 3), .ref (b + 4), .int (nI 0), .int (nI 1), .int a1, .int a2, .int (nI 1), .int (nI 1), .int (p 6), .int (p 7), .int (p 8), .int (p 9)] rfl (fun w7 g7 f7 => ?_)
  refine ja_aload_n C jd_T_start_37 0 rfl ?_
  refine ja_iconst C (nI 0) jd_T_start_38 (by decide) ?_
  refine jo_put C jp_T_51 jnf_T_9 jd_T_start_39 g7 rfl rfl (Nat.le_of_ble_eq_true rfl) [.ref (b + 1), .ref (b + 3), .ref (b + 4), .int (nI 0), .int (nI 1), .int a1, .int a2, .int (nI 1), .int (nI 1), .int (nI 0), .int (p 7), .int (p 8), .int (p 9)] rfl (fun w8 g8 f8 => ?_)
  refine ja_aload_n C jd_T_start_42 0 rfl ?_
  refine ja_iconst C (nI 1) jd_T_start_43 (by decide) ?_
  refine jo_put C jp_T_54 jnf_T_10 jd_T_start_44 g8 rfl rfl (Nat.le_of_ble_eq_true rfl) [.ref (b + 1), .ref (b + 3), .ref (b + 4), .int (nI 0), .int (nI 1), .int a1, .int a2, .int (nI 1), .int (nI 1), .int (nI 0), .int (nI 1), .int (p 8), .int (p 9)] rfl (fun w9 g9 f9 => ?_)
  refine ja_aload_n C jd_T_start_47 0 rfl ?_
  refine ja_iconst C (nI 1) jd_T_start_48 (by decide) ?_
  refine jo_put C jp_T_57 jnf_T_11 jd_T_start_49 g9 rfl rfl (Nat.le_of_ble_eq_true rfl) [.ref (b + 1), .ref (b + 3), .ref (b + 4), .int (nI 0), .int (nI 1), .int a1, .int a2, .int (nI 1), .int (nI 1), .int (nI 0), .int (nI 1), .int (nI 1), .int (p 9)] rfl (fun w10 g10 f10 => ?_)
  refine ja_aload_n C jd_T_start_52 0 rfl ?_
  refine ja_iconst C (nI 0) jd_T_start_53 (by decide) ?_
  refine jo_put C jp_T_60 jnf_T_12 jd_T_start_54 g10 rfl rfl (Nat.le_of_ble_eq_true rfl) [.ref (b + 1), .ref (b + 3), .ref (b + 4), .int (nI 0), .int (nI 1), .int a1, .int a2, .int (nI 1), .int (nI 1), .int (nI 0), .int (nI 1), .int (nI 1), .int (nI 0)] rfl (fun w11 g11 f11 => ?_)
  exact E jd_T_start_57 ⟨rfl, ⟨⟨sl, jp10 (nI 0) (nI 1) a1 a2 (nI 1) (nI 1) (nI 0) (nI 1) (nI 1) (nI 0), ⟨g11, ((f11 _ (by omega)).trans ((f10 _ (by omega)).trans ((f9 _ (by omega)).trans ((f8 _ (by omega)).trans ((f7 _ (by omega)).trans ((f6 _ (by omega)).trans ((f5 _ (by omega)).trans ((f4 _ (by omega)).trans ((f3 _ (by omega)).trans ((f2 _ (by omega)).trans g1a)))))))))), ((f11 _ (by omega)).trans ((f10 _ (by omega)).trans ((f9 _ (by omega)).trans ((f8 _ (by omega)).trans ((f7 _ (by omega)).trans ((f6 _ (by omega)).trans ((f5 _ (by omega)).trans ((f4 _ (by omega)).trans ((f3 _ (by omega)).trans ((f2 _ (by omega)).trans ((f1 _ (by omega)).trans y2))))))))))), ((f11 _ (by omega)).trans ((f10 _ (by omega)).trans ((f9 _ (by omega)).trans ((f8 _ (by omega)).trans ((f7 _ (by omega)).trans ((f6 _ (by omega)).trans ((f5 _ (by omega)).trans ((f4 _ (by omega)).trans ((f3 _ (by omega)).trans ((f2 _ (by omega)).trans ((f1 _ (by omega)).trans y3))))))))))), ((f11 _ (by omega)).trans ((f10 _ (by omega)).trans ((f9 _ (by omega)).trans ((f8 _ (by omega)).trans ((f7 _ (by omega)).trans ((f6 _ (by omega)).trans ((f5 _ (by omega)).trans ((f4 _ (by omega)).trans ((f3 _ (by omega)).trans ((f2 _ (by omega)).trans ((f1 _ (by omega)).trans y4)))))))))))⟩, rfl⟩, (fun c hc => ((f11 c (by omega)).trans ((f10 c (by omega)).trans ((f9 c (by omega)).trans ((f8 c (by omega)).trans ((f7 c (by omega)).trans ((f6 c (by omega)).trans ((f5 c (by omega)).trans ((f4 c (by omega)).trans ((f3 c (by omega)).trans ((f2 c (by omega)).trans (f1 c (by omega)))))))))))))⟩, rfl⟩
theorem jt_resemble {b k : Nat} {f : Nat → Int32} {m : Int32 × Int32 × Int64} {tm : Int32} {o k2 : Nat} {f2 : Nat → Int32} {m2 : Int32 × Int32 × Int64} {tm2 : Int32} {S : Nat → Nat} (h : jZx cI w b k f m tm) (ho : jZx cI w o k2 f2 m2 tm2) (hS : jSh k2 f2 S) (hd : o + 5 ≤ b ∨ b + 5 ≤ o) : jb_M l jy_T_resemble jc_T_resemble 2 none 2 46 0 0 D H0 (jt_all cI cJ cT cX) [.ref b, .ref o] w sz
    (fun v w' sz' => v = none ∧ ((∃ f', jZx cI w' b k2 f' m2 tm ∧ jSh k2 f' S) ∧ jZF b w w') ∧ sz' = sz) := by
  refine jb_meth_v (by decide) (Nat.le_of_ble_eq_true rfl) (fun u C X hnm E => ?_)
  obtain ⟨sl, p, ⟨y0, y1, y2, y3, y4⟩, hp⟩ := h
  obtain ⟨slo, po, ⟨yo0, yo1, yo2, yo3, yo4⟩, hpo⟩ := ho
  refine ja_aload_n C jd_T_resemble_0 0 rfl ?_
  refine ja_get C jg_T_12 jd_T_resemble_1 y0 rfl ?_
  refine ja_aload_n C jd_T_resemble_4 1 rfl ?_
  refine ja_get C jg_T_12 jd_T_resemble_5 yo0 rfl ?_
  refine jo_vV 8 C X jk_T_63 y1 rfl (js_copy y1 y2 yo1 yo2 hS) jd_T_resemble_8 rfl rfl ⟨by decide, by decide⟩ (Nat.le_of_ble_eq_true rfl) (fun w1 hp1 => ?_)
  obtain ⟨g1a, g1b, f1⟩ := hp1
  refine ja_aload_n C jd_T_resemble_11 0 rfl ?_
  refine ja_get C jg_T_21 jd_T_resemble_12 ((f1 _ (by omega) (by omega)).trans y0) rfl ?_
  refine ja_aload_n C jd_T_resemble_15 1 rfl ?_
  refine ja_get C jg_T_21 jd_T_resemble_16 ((f1 _ (by omega) (by omega)).trans yo0) rfl ?_
  refine jo_vV 8 C X jk_T_67 ((f1 _ (by omega) (by omega)).trans y3) rfl (jm_copy ((f1 _ (by omega) (by omega)).trans y3) ((f1 _ (by omega) (by omega)).trans yo3)) jd_T_resemble_19 rfl rfl ⟨by decide, by decide⟩ (Nat.le_of_ble_eq_true rfl) (fun w2 hp2 => ?_)
  obtain ⟨g2a, f2⟩ := hp2
  have hS2 : jSh k2 (upd (upd (upd (upd f 0 (nI (S 0))) 1 (nI (S 1))) 2 (nI (S 2))) 3 (nI (S 3))) S := by
    obtain ⟨s1, s2, s3⟩ := hS
    refine ⟨s1, fun j hj => ⟨?_, (s2 j hj).2⟩, s3⟩
    match j, hj with
    | 0, _ => rfl
    | 1, _ => rfl
    | 2, _ => rfl
    | 3, _ => rfl
    | j + 4, z => omega
  exact E jd_T_resemble_22 ⟨rfl, ⟨⟨_, ⟨sl, p, ⟨((f2 _ (by omega)).trans ((f1 _ (by omega) (by omega)).trans y0)), ((f2 _ (by omega)).trans g1a), ((f2 _ (by omega)).trans g1b), g2a, ((f2 _ (by omega)).trans ((f1 _ (by omega) (by omega)).trans y4))⟩, hp⟩, hS2⟩, (fun c hc => ((f2 c (by omega)).trans (f1 c (by omega) (by omega))))⟩, rfl⟩
theorem jt_divide {b k : Nat} {f : Nat → Int32} {m : Int32 × Int32 × Int64} {tm : Int32} {x y : Int32} (h : jZx cI w b k f m tm) : jb_M l jy_T_divide jc_T_divide 3 none 2 47 0 0 D H0 (jt_all cI cJ cT cX) [.ref b, .int x, .int y] w sz
    (fun v w' sz' => v = none ∧ (jZx cI w' b k f (m.1 + jx_bits y, m.2.1 + jx_twos x, jx_pr m.2.2 (x >>> (jx_twos x &&& 31)).toInt64) tm ∧ jZF b w w') ∧ sz' = sz) := by
  refine jb_meth_v (by decide) (Nat.le_of_ble_eq_true rfl) (fun u C X hnm E => ?_)
  obtain ⟨sl, p, ⟨y0, y1, y2, y3, y4⟩, hp⟩ := h
  refine ja_aload_n C jd_T_divide_0 0 rfl ?_
  refine ja_get C jg_T_21 jd_T_divide_1 y0 rfl ?_
  refine ja_iload_n C jd_T_divide_4 1 rfl ?_
  refine ja_iload_n C jd_T_divide_5 2 rfl ?_
  refine jo_vV 8 C X jk_T_70 y3 rfl (jm_divide y3) jd_T_divide_6 rfl rfl ⟨by decide, by decide⟩ (Nat.le_of_ble_eq_true rfl) (fun w1 hp1 => ?_)
  obtain ⟨g1a, f1⟩ := hp1
  refine ja_aload_n C jd_T_divide_9 0 rfl ?_
  refine ja_iconst C (nI 5) jd_T_divide_10 (by decide) ?_
  refine jo_put C jp_T_51 jnf_T_9 jd_T_divide_11 ((f1 _ (by omega)).trans y0) rfl rfl (Nat.le_of_ble_eq_true rfl) [.ref (b + 1), .ref (b + 3), .ref (b + 4), .int (p 0), .int (p 1), .int (p 2), .int (p 3), .int (p 4), .int (p 5), .int (nI 5), .int (p 7), .int (p 8), .int (p 9)] rfl (fun w2 g2 f2 => ?_)
  refine ja_aload_n C jd_T_divide_14 0 rfl ?_
  refine ja_iload_n C jd_T_divide_15 1 rfl ?_
  refine jo_put C jp_T_54 jnf_T_10 jd_T_divide_16 g2 rfl rfl (Nat.le_of_ble_eq_true rfl) [.ref (b + 1), .ref (b + 3), .ref (b + 4), .int (p 0), .int (p 1), .int (p 2), .int (p 3), .int (p 4), .int (p 5), .int (nI 5), .int x, .int (p 8), .int (p 9)] rfl (fun w3 g3 f3 => ?_)
  refine ja_aload_n C jd_T_divide_19 0 rfl ?_
  refine ja_iload_n C jd_T_divide_20 2 rfl ?_
  refine jo_put C jp_T_57 jnf_T_11 jd_T_divide_21 g3 rfl rfl (Nat.le_of_ble_eq_true rfl) [.ref (b + 1), .ref (b + 3), .ref (b + 4), .int (p 0), .int (p 1), .int (p 2), .int (p 3), .int (p 4), .int (p 5), .int (nI 5), .int x, .int y, .int (p 9)] rfl (fun w4 g4 f4 => ?_)
  exact E jd_T_divide_24 ⟨rfl, ⟨⟨sl, jp10 (p 0) (p 1) (p 2) (p 3) (p 4) (p 5) (nI 5) x y (p 9), ⟨g4, ((f4 _ (by omega)).trans ((f3 _ (by omega)).trans ((f2 _ (by omega)).trans ((f1 _ (by omega)).trans y1)))), ((f4 _ (by omega)).trans ((f3 _ (by omega)).trans ((f2 _ (by omega)).trans ((f1 _ (by omega)).trans y2)))), ((f4 _ (by omega)).trans ((f3 _ (by omega)).trans ((f2 _ (by omega)).trans g1a))), ((f4 _ (by omega)).trans ((f3 _ (by omega)).trans ((f2 _ (by omega)).trans ((f1 _ (by omega)).trans y4))))⟩, hp⟩, (fun c hc => ((f4 c (by omega)).trans ((f3 c (by omega)).trans ((f2 c (by omega)).trans (f1 c (by omega))))))⟩, rfl⟩
theorem jt_takeShare {b k : Nat} {f : Nat → Int32} {m : Int32 × Int32 × Int64} {tm : Int32} {o : Nat} {r2 e2 : Int32} {q2 : Int64} (h : jZx cI w b k f m tm) (ho : w o = some (.inr (0, [.int r2, .int e2, .long q2]))) (hd : o < b ∨ b + 5 ≤ o) : jb_M l jy_T_takeShare jc_T_takeShare 2 none 3 76 0 0 D H0 (jt_all cI cJ cT cX) [.ref b, .ref o] w sz
    (fun v w' sz' => v = none ∧ (jZx cI w' b k f m tm ∧ jZF b w w') ∧ sz' = sz) := by
  refine jb_meth_v (by decide) (Nat.le_of_ble_eq_true rfl) (fun u C X hnm E => ?_)
  obtain ⟨sl, p, ⟨y0, y1, y2, y3, y4⟩, hp⟩ := h
  refine ja_aload_n C jd_T_takeShare_0 0 rfl ?_
  refine ja_get C jg_T_60 jd_T_takeShare_1 y0 rfl ?_
  refine ja_if_ne C 18 jd_T_takeShare_4 (by decide) (fun c => ?_) (fun c => ?_)
  · refine ja_aload_n C jd_T_takeShare_18 0 rfl ?_
    refine ja_get C jg_T_25 jd_T_takeShare_19 y0 rfl ?_
    refine ja_aload_n C jd_T_takeShare_22 1 rfl ?_
    refine jo_vV 8 C X jk_T_74 y4 rfl (jm_unite y4 ho) jd_T_takeShare_23 rfl rfl ⟨by decide, by decide⟩ (Nat.le_of_ble_eq_true rfl) (fun w1 hp1 => ?_)
    obtain ⟨g1a, f1⟩ := hp1
    refine ja_aload_n C jd_T_takeShare_26 0 rfl ?_
    refine ja_dup C jd_T_takeShare_27 rfl ?_
    refine ja_get C jg_T_60 jd_T_takeShare_28 ((f1 _ (by omega)).trans y0) rfl ?_
    refine ja_iconst C (nI 1) jd_T_takeShare_31 (by decide) ?_
    refine ja_iadd C jd_T_takeShare_32 ?_
    refine jo_put C jp_T_60 jnf_T_12 jd_T_takeShare_33 ((f1 _ (by omega)).trans y0) rfl rfl (Nat.le_of_ble_eq_true rfl) [.ref (b + 1), .ref (b + 3), .ref (b + 4), .int (p 0), .int (p 1), .int (p 2), .int (p 3), .int (p 4), .int (p 5), .int (p 6), .int (p 7), .int (p 8), .int ((p 9) + (nI 1))] rfl (fun w2 g2 f2 => ?_)
    exact E jd_T_takeShare_36 ⟨rfl, ⟨⟨(if sl.1 < r2 then r2 else sl.1, if sl.2.1 < e2 then e2 else sl.2.1, jx_lcm sl.2.2 q2), jp10 (p 0) (p 1) (p 2) (p 3) (p 4) (p 5) (p 6) (p 7) (p 8) (p 9 + nI 1), ⟨g2, ((f2 _ (by omega)).trans ((f1 _ (by omega)).trans y1)), ((f2 _ (by omega)).trans ((f1 _ (by omega)).trans y2)), ((f2 _ (by omega)).trans ((f1 _ (by omega)).trans y3)), ((f2 _ (by omega)).trans g1a)⟩, hp⟩, (fun c hc => ((f2 c (by omega)).trans (f1 c (by omega))))⟩, rfl⟩
  · refine ja_aload_n C jd_T_takeShare_7 0 rfl ?_
    refine ja_get C jg_T_25 jd_T_takeShare_8 y0 rfl ?_
    refine ja_aload_n C jd_T_takeShare_11 1 rfl ?_
    refine jo_vV 8 C X jk_T_67 y4 rfl (jm_copy y4 ho) jd_T_takeShare_12 rfl rfl ⟨by decide, by decide⟩ (Nat.le_of_ble_eq_true rfl) (fun w3 hp3 => ?_)
    obtain ⟨g3a, f3⟩ := hp3
    refine ja_goto C 26 jd_T_takeShare_15 (by decide) ?_
    refine ja_aload_n C jd_T_takeShare_26 0 rfl ?_
    refine ja_dup C jd_T_takeShare_27 rfl ?_
    refine ja_get C jg_T_60 jd_T_takeShare_28 ((f3 _ (by omega)).trans y0) rfl ?_
    refine ja_iconst C (nI 1) jd_T_takeShare_31 (by decide) ?_
    refine ja_iadd C jd_T_takeShare_32 ?_
    refine jo_put C jp_T_60 jnf_T_12 jd_T_takeShare_33 ((f3 _ (by omega)).trans y0) rfl rfl (Nat.le_of_ble_eq_true rfl) [.ref (b + 1), .ref (b + 3), .ref (b + 4), .int (p 0), .int (p 1), .int (p 2), .int (p 3), .int (p 4), .int (p 5), .int (p 6), .int (p 7), .int (p 8), .int ((p 9) + (nI 1))] rfl (fun w4 g4 f4 => ?_)
    exact E jd_T_takeShare_36 ⟨rfl, ⟨⟨(r2, e2, q2), jp10 (p 0) (p 1) (p 2) (p 3) (p 4) (p 5) (p 6) (p 7) (p 8) (p 9 + nI 1), ⟨g4, ((f4 _ (by omega)).trans ((f3 _ (by omega)).trans y1)), ((f4 _ (by omega)).trans ((f3 _ (by omega)).trans y2)), ((f4 _ (by omega)).trans ((f3 _ (by omega)).trans y3)), ((f4 _ (by omega)).trans g3a)⟩, hp⟩, (fun c hc => ((f4 c (by omega)).trans (f3 c (by omega))))⟩, rfl⟩
end X70
