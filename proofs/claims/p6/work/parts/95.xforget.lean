/-! THE CLASS: slopes are forgotten -/

theorem jp_X_224 : ja_FP jcl "MeasuredTensors" 224 2 12 .int := ⟨_, jt_T, rfl, by decide, jw_T, jw_in (by decide +kernel) (by decide +kernel), jf_T_ty, jf_T_nm, rfl⟩
section X95
variable {l : Launch} {D : va_G} {H0 : Heap} {cI cJ cT cX : ClassId} {w : jb_W} {sz : Nat}
variable {x : Nat} {P : Nat → Prop} {σ : jSt} {dr : Nat} {F G : Nat → Option Nat} {own : Nat → Nat} {fT : Nat → Nat → Int32} {ls : Int32} {k : Nat} {f : Nat → Int32} {m : Int32 × Int32 × Int64} {tm : Int32}
theorem jx_forget  (h : jXd cI cT cX x P σ dr F G own fT ls w k f m tm) : jb_M l jy_X_forgetSlopes jc_X_forgetSlopes 3 none 1 21 0 0 D H0 (jt_all cI cJ cT cX) [.ref x] w sz
    (fun v w' sz' => v = none ∧ (jXd cI cT cX x P σ dr F G own fT ls w' k f m tm ∧ jXF P w w') ∧ sz' = sz) := by
  refine jb_meth_v (by decide) (Nat.le_of_ble_eq_true rfl) (fun u C X hnm E => ?_)
  have hcn := h.cn
  refine ja_iconst C (nI 0) jd_X_forgetSlopes_0 (by decide) ?_
  refine ja_istore_n C [(1, .int (nI 0)), (0, .ref x)] jd_X_forgetSlopes_1 rfl (Nat.le_of_ble_eq_true rfl) rfl ?_
  have lp : ∀ (n9 i : Nat) (hi : i + n9 = jSt_c σ) (w2 : jb_W) (h2 : jXd cI cT cX x P σ dr F G own fT ls w2 k f m tm) (r0 : jXF P w w2), ja (jb_mk l (jb_rm 1 21 0 0) 3 "MeasuredTensors" D H0 (jt_all cI cJ cT cX) u) w2 sz 0 0 2 [(1, .int (nI i)), (0, .ref x)] [] := by
    intro n9
    induction n9 with
    | zero =>
      intro i hi w2 h2 r0
      refine ja_iload_n C jd_X_forgetSlopes_2 0 rfl ?_
      refine ja_aload_n C jd_X_forgetSlopes_3 1 rfl ?_
      refine ja_get C jg_X_36 jd_X_forgetSlopes_4 h2.obj rfl ?_
      refine ja_icmp_geN C 31 jd_X_forgetSlopes_7 (by decide) (by omega) (by omega) (fun c1 => ?_) (fun c1 => absurd c1 (by omega))
      exact E jd_X_forgetSlopes_31 ⟨rfl, ⟨h2, r0⟩, rfl⟩
    | succ n9 ih =>
      intro i hi w2 h2 r0
      have hti : i < jSt_c σ := by omega
      obtain ⟨tk, oa, ea, -⟩ := h2.2.2.2.2.2.2.2.1 i hti
      refine ja_iload_n C jd_X_forgetSlopes_2 0 rfl ?_
      refine ja_aload_n C jd_X_forgetSlopes_3 1 rfl ?_
      refine ja_get C jg_X_36 jd_X_forgetSlopes_4 h2.obj rfl ?_
      refine ja_icmp_geN C 31 jd_X_forgetSlopes_7 (by decide) (by omega) (by omega) (fun c1 => absurd c1 (by omega)) (fun c1 => ?_)
      refine ja_aload_n C jd_X_forgetSlopes_10 1 rfl ?_
      refine ja_iload_n C jd_X_forgetSlopes_11 0 rfl ?_
      refine jb_pV 8 C X jk_X_122 h2.obj rfl (jx_tensorAt h2 hti ea) jd_X_forgetSlopes_12 rfl rfl ⟨by decide, by decide⟩ (Nat.le_of_ble_eq_true rfl) ?_
      refine ja_astore_n C [(2, .ref oa), (1, .int (nI i)), (0, .ref x)] jd_X_forgetSlopes_15 rfl (Nat.le_of_ble_eq_true rfl) rfl ?_
      refine ja_aload_n C jd_X_forgetSlopes_16 0 rfl ?_
      refine ja_ifnull C jd_X_forgetSlopes_17 ?_
      refine ja_aload_n C jd_X_forgetSlopes_20 0 rfl ?_
      refine ja_iconst C (nI 0) jd_X_forgetSlopes_21 (by decide) ?_
      refine jZx_p C jp_X_224 jnf_T_12 rfl rfl jd_X_forgetSlopes_22 (h2.tz hti ea) (nI (jT_t (jSt_T σ i))) (by decide) (fun p q => ⟨jp10 (p 0) (p 1) (p 2) (p 3) (p 4) (p 5) (p 6) (p 7) (p 8) (nI 0), q, rfl⟩) (fun w3 z3 f3 => ?_)
      obtain ⟨h3, r3⟩ := h2.updT hti ea z3 f3
      refine ja_iincN (c := 1) C [(1, .int (nI (i + 1))), (2, .ref oa), (0, .ref x)] jd_X_forgetSlopes_25 1 rfl (by decide) (Nat.le_of_ble_eq_true rfl) rfl ?_
      refine ja_goto C 2 jd_X_forgetSlopes_28 (by decide) ?_
      refine ja_lv (lv' := [(1, .int (nI (i + 1))), (0, .ref x)]) (fun q hq => by simp only [List.mem_cons, List.not_mem_nil, or_false] at hq ⊢; rcases hq with e | e <;> simp [e]) ?_
      exact ih (i + 1) (by omega) w3 h3 (r0.tr r3)
  exact lp (jSt_c σ) 0 (Nat.zero_add _) w h jXF.rf
end X95
