/-! THE CLASS: slopes are measured -/

theorem jg_X_250 : ja_FL jcl "MeasuredTensors" 250 2 7 := ⟨_, rfl, by decide, jw_T, jw_in (by decide +kernel) (by decide +kernel)⟩
theorem jg_X_253 : ja_FL jcl "MeasuredTensors" 253 2 8 := ⟨_, rfl, by decide, jw_T, jw_in (by decide +kernel) (by decide +kernel)⟩
theorem jg_X_333 : ja_FL jcl "MeasuredTensors" 333 2 5 := ⟨_, rfl, by decide, jw_T, jw_in (by decide +kernel) (by decide +kernel)⟩
theorem jg_X_336 : ja_FL jcl "MeasuredTensors" 336 2 6 := ⟨_, rfl, by decide, jw_T, jw_in (by decide +kernel) (by decide +kernel)⟩
theorem jk_X_339 : jb_KV "MeasuredTensors" 339 jy_X_handShare jc_X_handShare 5 none 4 := ⟨jw_in (by decide +kernel) (by decide +kernel), jw_in (by decide +kernel) (by decide +kernel), jw_in (by decide +kernel) (by decide +kernel), jw_in (by decide +kernel) (by decide +kernel), jw_in (by decide +kernel) (by decide +kernel), by decide +kernel⟩
section X97
variable {l : Launch} {D : va_G} {H0 : Heap} {cI cJ cT cX : ClassId} {w : jb_W} {sz : Nat}
variable {x : Nat} {P : Nat → Prop} {σ : jSt} {dr : Nat} {F G : Nat → Option Nat} {own : Nat → Nat} {fT : Nat → Nat → Int32} {ls : Int32} {k : Nat} {f : Nat → Int32} {m : Int32 × Int32 × Int64} {tm : Int32}
theorem jx_hand0 {o1 : Nat} {z9 : Int32} (h : jXd cI cT cX x P σ dr F G own fT ls w k f m tm) : jb_M l jy_X_handShare jc_X_handShare 5 none 4 100 0 0 D H0 (jt_all cI cJ cT cX) [.ref x, .ref o1, .null, .null, .int z9] w sz
    (fun v w' sz' => v = none ∧ (jXd cI cT cX x P σ dr F G own fT ls w' k f m tm ∧ jXF P w w') ∧ sz' = sz) := by
  refine jb_meth_v (by decide) (Nat.le_of_ble_eq_true rfl) (fun u C X hnm E => ?_)
  refine ja_aload_nN C jd_X_handShare_0 2 rfl ?_
  refine ja_ifnullN C 20 jd_X_handShare_1 (by decide) ?_
  exact E jd_X_handShare_20 ⟨rfl, ⟨h, jXF.rf⟩, rfl⟩
theorem jx_hand0r {o1 o3 : Nat} {z9 : Int32} (h : jXd cI cT cX x P σ dr F G own fT ls w k f m tm) : jb_M l jy_X_handShare jc_X_handShare 5 none 4 100 0 0 D H0 (jt_all cI cJ cT cX) [.ref x, .ref o1, .null, .ref o3, .int z9] w sz
    (fun v w' sz' => v = none ∧ (jXd cI cT cX x P σ dr F G own fT ls w' k f m tm ∧ jXF P w w') ∧ sz' = sz) := by
  refine jb_meth_v (by decide) (Nat.le_of_ble_eq_true rfl) (fun u C X hnm E => ?_)
  refine ja_aload_nN C jd_X_handShare_0 2 rfl ?_
  refine ja_ifnullN C 20 jd_X_handShare_1 (by decide) ?_
  exact E jd_X_handShare_20 ⟨rfl, ⟨h, jXF.rf⟩, rfl⟩
theorem jx_slopes {t : Nat} (h : jXd cI cT cX x P σ dr F G own fT ls w k f m tm) (ht : t < jSt_c σ) : jb_M l jy_X_measureSlopes jc_X_measureSlopes 6 (some .boolean) 5 125 0 0 D H0 (jt_all cI cJ cT cX) [.ref x, .int (nI t)] w sz
    (fun v w' sz' => (∃ z : Int32, v = some (.int z) ∧ (z = 0 ∨ z = 1)) ∧ (jXd cI cT cX x P σ dr F G own fT ls w' k f m tm ∧ jXF P w w') ∧ sz' = sz) := by
  refine jb_meth_z (by decide) (Nat.le_of_ble_eq_true rfl) (fun u C X E => ?_)
  have hcn := h.cn
  have hxd := h.xd
  have lp : ∀ (j9 : Nat), j9 ≤ jSt_c σ → ∀ (w2 : jb_W), jXd cI cT cX x P σ dr F G own fT ls w2 k f m tm → jXF P w w2 → ja (jb_mk l (jb_rm 5 125 0 0) 6 "MeasuredTensors" D H0 (jt_all cI cJ cT cX) u) w2 sz 0 0 2 [(2, .int (nI j9 - 1)), (0, .ref x), (1, .int (nI t))] [] := by
    intro j9
    induction j9 with
    | zero =>
      intro _ w2 h2 r0
      refine ja_iload_n C jd_X_measureSlopes_2 0 rfl ?_
      refine ja_if_lt C 101 jd_X_measureSlopes_3 (by decide) (fun c1 => ?_) (fun c1 => absurd (by decide) c1)
      refine ja_iconst C (nI 1) jd_X_measureSlopes_101 (by decide) ?_
      exact E jd_X_measureSlopes_102 (Or.inr rfl) ⟨⟨_, rfl, Or.inr rfl⟩, ⟨h2, r0⟩, rfl⟩
    | succ k9 ih =>
      intro hk w2 h2 r0
      rw [nI_pred]
      have hti : k9 < jSt_c σ := by omega
      obtain ⟨tk, oa, ea, -⟩ := h2.2.2.2.2.2.2.2.1 k9 hti
      have hxo := h2.xb ea
      have nx : ∀ (w3 : jb_W) (h3 : jXd cI cT cX x P σ dr F G own fT ls w3 k f m tm) (r3 : jXF P w w3), ja (jb_mk l (jb_rm 5 125 0 0) 6 "MeasuredTensors" D H0 (jt_all cI cJ cT cX) u) w3 sz 0 0 95 [(3, .ref oa), (2, .int (nI k9)), (0, .ref x), (1, .int (nI t))] [] := by
        intro w3 h3 r3
        refine ja_iinc C (nI k9 - 1) [(2, .int (nI k9 - 1)), (3, .ref oa), (0, .ref x), (1, .int (nI t))] jd_X_measureSlopes_95 1 rfl (jl_dec _) (Nat.le_of_ble_eq_true rfl) rfl ?_
        refine ja_goto C 2 jd_X_measureSlopes_98 (by decide) ?_
        refine ja_lv (lv' := [(2, .int (nI k9 - 1)), (0, .ref x), (1, .int (nI t))]) (fun q hq => by simp only [List.mem_cons, List.not_mem_nil, or_false] at hq ⊢; rcases hq with e | e | e <;> simp [e]) ?_
        exact ih (by omega) w3 h3 r3
      refine ja_iload_n C jd_X_measureSlopes_2 0 rfl ?_
      refine ja_if_ltN C 101 jd_X_measureSlopes_3 (by decide) (by omega) ?_
      refine ja_aload_n C jd_X_measureSlopes_6 1 rfl ?_
      refine ja_iload_n C jd_X_measureSlopes_7 0 rfl ?_
      refine jb_pV 8 C X jk_X_122 h2.obj rfl (jx_tensorAt h2 hti ea) jd_X_measureSlopes_8 rfl rfl ⟨by decide, by decide⟩ (Nat.le_of_ble_eq_true rfl) ?_
      refine ja_astore_n C [(3, .ref oa), (2, .int (nI k9)), (0, .ref x), (1, .int (nI t))] jd_X_measureSlopes_11 rfl (Nat.le_of_ble_eq_true rfl) rfl ?_
      refine ja_aload_n C jd_X_measureSlopes_12 0 rfl ?_
      refine ja_ifnull C jd_X_measureSlopes_13 ?_
      refine ja_aload_n C jd_X_measureSlopes_16 0 rfl ?_
      refine jZx_ga C jg_X_224 jd_X_measureSlopes_17 (h2.tz hti ea) (fun _ => ⟨_, rfl⟩) (fun v1 => ?_)
      refine ja_if_le C 95 jd_X_measureSlopes_20 (by decide) (fun c1 => ?_) (fun c1 => ?_)
      · exact nx w2 h2 r0
      · obtain ⟨rs, es, qs, hs4⟩ := (h2.tz hti ea).z4
        refine ja_aload_n C jd_X_measureSlopes_23 0 rfl ?_
        refine jZx_g C jg_X_227 jd_X_measureSlopes_24 (h2.tz hti ea) (fun _ _ => rfl) ?_
        refine ja_aload_n C jd_X_measureSlopes_27 0 rfl ?_
        refine jZx_ga C jg_X_224 jd_X_measureSlopes_28 (h2.tz hti ea) (fun _ => ⟨_, rfl⟩) (fun v2 => ?_)
        refine jb_pS 8 C X jk_X_283 (jx_doublingsTo) jd_X_measureSlopes_31 rfl rfl ⟨by decide, by decide⟩ (Nat.le_of_ble_eq_true rfl) ?_
        refine jo_vV 8 C X jk_X_265 hs4 rfl (jm_widen hs4) jd_X_measureSlopes_34 rfl rfl ⟨by decide, by decide⟩ (Nat.le_of_ble_eq_true rfl) (fun wB hpB => ?_)
        obtain ⟨gB, fB⟩ := hpB
        obtain ⟨zB, yB⟩ := (h2.tz hti ea).w4 gB fB
        obtain ⟨hB, rB⟩ := h2.updT hti ea zB yB
        refine ja_aload_n C jd_X_measureSlopes_37 0 rfl ?_
        refine jZx_g C jg_X_227 jd_X_measureSlopes_38 (hB.tz hti ea) (fun _ _ => rfl) ?_
        refine jb_pV 8 C X jk_X_241 gB rfl (jm_isBeyond gB) jd_X_measureSlopes_41 rfl rfl ⟨by decide, by decide⟩ (Nat.le_of_ble_eq_true rfl) ?_
        refine ja_if_eqB C 49 jd_X_measureSlopes_44 (by decide) (fun c2 => ?_) (fun c2 => ?_)
        · refine ja_aload_n C jd_X_measureSlopes_49 2 rfl ?_
          refine ja_aload_n C jd_X_measureSlopes_50 0 rfl ?_
          refine jZx_ga C jg_X_333 jd_X_measureSlopes_51 (hB.tz hti ea) (fun _ => ⟨_, rfl⟩) (fun vF => ?_)
          rcases Classical.em (vF < 0 ∨ nI (jSt_c σ) ≤ vF) with nt4 | nt4
          · refine jb_pV 8 C X jk_X_122 hB.obj rfl (jx_tensorAtN hB nt4) jd_X_measureSlopes_54 rfl rfl ⟨by decide, by decide⟩ (Nat.le_of_ble_eq_true rfl) ?_
            refine ja_astoreN C [(4, .null), (3, .ref oa), (2, .int (nI k9)), (0, .ref x), (1, .int (nI t))] jd_X_measureSlopes_57 (Nat.le_of_ble_eq_true rfl) rfl ?_
            refine ja_aload_n C jd_X_measureSlopes_59 3 rfl ?_
            refine ja_aload_n C jd_X_measureSlopes_60 1 rfl ?_
            refine jZx_ga C jg_X_336 jd_X_measureSlopes_61 (hB.tz hti ea) (fun _ => ⟨_, rfl⟩) (fun vS => ?_)
            rcases Classical.em (vS < 0 ∨ nI (jSt_c σ) ≤ vS) with nt5 | nt5
            · refine jb_pV 8 C X jk_X_122 hB.obj rfl (jx_tensorAtN hB nt5) jd_X_measureSlopes_64 rfl rfl ⟨by decide, by decide⟩ (Nat.le_of_ble_eq_true rfl) ?_
              refine ja_astoreN C [(5, .null), (4, .null), (3, .ref oa), (2, .int (nI k9)), (0, .ref x), (1, .int (nI t))] jd_X_measureSlopes_67 (Nat.le_of_ble_eq_true rfl) rfl ?_
              refine ja_aload_n C jd_X_measureSlopes_69 4 rfl ?_
              refine ja_aload_n C jd_X_measureSlopes_70 2 rfl ?_
              refine ja_aloadN C jd_X_measureSlopes_71 1 rfl ?_
              refine ja_aloadN C jd_X_measureSlopes_73 0 rfl ?_
              refine ja_aload_n C jd_X_measureSlopes_75 2 rfl ?_
              refine jZx_ga C jg_X_250 jd_X_measureSlopes_76 (hB.tz hti ea) (fun _ => ⟨_, rfl⟩) (fun v3 => ?_)
              refine jo_vV 8 C X jk_X_339 hB.obj rfl (jx_hand0 hB) jd_X_measureSlopes_79 rfl rfl ⟨by decide, by decide⟩ (Nat.le_of_ble_eq_true rfl) (fun wH hpH => ?_)
              obtain ⟨hH, rH⟩ := hpH
              refine ja_aload_n C jd_X_measureSlopes_82 4 rfl ?_
              refine ja_aload_n C jd_X_measureSlopes_83 2 rfl ?_
              refine ja_aloadN C jd_X_measureSlopes_84 0 rfl ?_
              refine ja_aloadN C jd_X_measureSlopes_86 1 rfl ?_
              refine ja_aload_n C jd_X_measureSlopes_88 2 rfl ?_
              refine jZx_ga C jg_X_253 jd_X_measureSlopes_89 (hH.tz hti ea) (fun _ => ⟨_, rfl⟩) (fun v4 => ?_)
              refine jo_vV 8 C X jk_X_339 hH.obj rfl (jx_hand0 hH) jd_X_measureSlopes_92 rfl rfl ⟨by decide, by decide⟩ (Nat.le_of_ble_eq_true rfl) (fun wI hpI => ?_)
              obtain ⟨hI, rI⟩ := hpI
              refine ja_lv (lv' := [(3, .ref oa), (2, .int (nI k9)), (0, .ref x), (1, .int (nI t))]) (fun q hq => by simp only [List.mem_cons, List.not_mem_nil, or_false] at hq ⊢; rcases hq with e | e | e | e <;> simp [e]) ?_
              exact nx wI hI (((r0.tr rB).tr rH).tr rI)
            · obtain ⟨t5, ht5, zt5, -⟩ := jl_ten hcn.1 nt5
              obtain ⟨-, o5, eo5, -⟩ := hB.2.2.2.2.2.2.2.1 t5 ht5
              rw [zt5]
              refine jb_pV 8 C X jk_X_122 hB.obj rfl (jx_tensorAt hB ht5 eo5) jd_X_measureSlopes_64 rfl rfl ⟨by decide, by decide⟩ (Nat.le_of_ble_eq_true rfl) ?_
              refine ja_astore C [(5, .ref o5), (4, .null), (3, .ref oa), (2, .int (nI k9)), (0, .ref x), (1, .int (nI t))] jd_X_measureSlopes_67 (Nat.le_of_ble_eq_true rfl) rfl ?_
              refine ja_aload_n C jd_X_measureSlopes_69 4 rfl ?_
              refine ja_aload_n C jd_X_measureSlopes_70 2 rfl ?_
              refine ja_aloadN C jd_X_measureSlopes_71 1 rfl ?_
              refine ja_aload C jd_X_measureSlopes_73 0 rfl ?_
              refine ja_aload_n C jd_X_measureSlopes_75 2 rfl ?_
              refine jZx_ga C jg_X_250 jd_X_measureSlopes_76 (hB.tz hti ea) (fun _ => ⟨_, rfl⟩) (fun v5 => ?_)
              refine jo_vV 8 C X jk_X_339 hB.obj rfl (jx_hand0r hB) jd_X_measureSlopes_79 rfl rfl ⟨by decide, by decide⟩ (Nat.le_of_ble_eq_true rfl) (fun wH hpH => ?_)
              obtain ⟨hH, rH⟩ := hpH
              refine ja_aload_n C jd_X_measureSlopes_82 4 rfl ?_
              refine ja_aload_n C jd_X_measureSlopes_83 2 rfl ?_
              refine ja_aload C jd_X_measureSlopes_84 0 rfl ?_
              refine ja_aloadN C jd_X_measureSlopes_86 1 rfl ?_
              refine ja_aload_n C jd_X_measureSlopes_88 2 rfl ?_
              refine jZx_ga C jg_X_253 jd_X_measureSlopes_89 (hH.tz hti ea) (fun _ => ⟨_, rfl⟩) (fun v6 => ?_)
              refine jo_vV 8 C X jk_X_339 hH.obj rfl (jx_handN hH hti ea ht5 eo5) jd_X_measureSlopes_92 rfl rfl ⟨by decide, by decide⟩ (Nat.le_of_ble_eq_true rfl) (fun wI hpI => ?_)
              obtain ⟨hI, rI⟩ := hpI
              refine ja_lv (lv' := [(3, .ref oa), (2, .int (nI k9)), (0, .ref x), (1, .int (nI t))]) (fun q hq => by simp only [List.mem_cons, List.not_mem_nil, or_false] at hq ⊢; rcases hq with e | e | e | e <;> simp [e]) ?_
              exact nx wI hI (((r0.tr rB).tr rH).tr rI)
          · obtain ⟨t4, ht4, zt4, -⟩ := jl_ten hcn.1 nt4
            obtain ⟨-, o4, eo4, -⟩ := hB.2.2.2.2.2.2.2.1 t4 ht4
            rw [zt4]
            refine jb_pV 8 C X jk_X_122 hB.obj rfl (jx_tensorAt hB ht4 eo4) jd_X_measureSlopes_54 rfl rfl ⟨by decide, by decide⟩ (Nat.le_of_ble_eq_true rfl) ?_
            refine ja_astore C [(4, .ref o4), (3, .ref oa), (2, .int (nI k9)), (0, .ref x), (1, .int (nI t))] jd_X_measureSlopes_57 (Nat.le_of_ble_eq_true rfl) rfl ?_
            refine ja_aload_n C jd_X_measureSlopes_59 3 rfl ?_
            refine ja_aload_n C jd_X_measureSlopes_60 1 rfl ?_
            refine jZx_ga C jg_X_336 jd_X_measureSlopes_61 (hB.tz hti ea) (fun _ => ⟨_, rfl⟩) (fun vS => ?_)
            rcases Classical.em (vS < 0 ∨ nI (jSt_c σ) ≤ vS) with nt5 | nt5
            · refine jb_pV 8 C X jk_X_122 hB.obj rfl (jx_tensorAtN hB nt5) jd_X_measureSlopes_64 rfl rfl ⟨by decide, by decide⟩ (Nat.le_of_ble_eq_true rfl) ?_
              refine ja_astoreN C [(5, .null), (4, .ref o4), (3, .ref oa), (2, .int (nI k9)), (0, .ref x), (1, .int (nI t))] jd_X_measureSlopes_67 (Nat.le_of_ble_eq_true rfl) rfl ?_
              refine ja_aload_n C jd_X_measureSlopes_69 4 rfl ?_
              refine ja_aload_n C jd_X_measureSlopes_70 2 rfl ?_
              refine ja_aload C jd_X_measureSlopes_71 1 rfl ?_
              refine ja_aloadN C jd_X_measureSlopes_73 0 rfl ?_
              refine ja_aload_n C jd_X_measureSlopes_75 2 rfl ?_
              refine jZx_ga C jg_X_250 jd_X_measureSlopes_76 (hB.tz hti ea) (fun _ => ⟨_, rfl⟩) (fun v7 => ?_)
              refine jo_vV 8 C X jk_X_339 hB.obj rfl (jx_handN hB hti ea ht4 eo4) jd_X_measureSlopes_79 rfl rfl ⟨by decide, by decide⟩ (Nat.le_of_ble_eq_true rfl) (fun wH hpH => ?_)
              obtain ⟨hH, rH⟩ := hpH
              refine ja_aload_n C jd_X_measureSlopes_82 4 rfl ?_
              refine ja_aload_n C jd_X_measureSlopes_83 2 rfl ?_
              refine ja_aloadN C jd_X_measureSlopes_84 0 rfl ?_
              refine ja_aload C jd_X_measureSlopes_86 1 rfl ?_
              refine ja_aload_n C jd_X_measureSlopes_88 2 rfl ?_
              refine jZx_ga C jg_X_253 jd_X_measureSlopes_89 (hH.tz hti ea) (fun _ => ⟨_, rfl⟩) (fun v8 => ?_)
              refine jo_vV 8 C X jk_X_339 hH.obj rfl (jx_hand0r hH) jd_X_measureSlopes_92 rfl rfl ⟨by decide, by decide⟩ (Nat.le_of_ble_eq_true rfl) (fun wI hpI => ?_)
              obtain ⟨hI, rI⟩ := hpI
              refine ja_lv (lv' := [(3, .ref oa), (2, .int (nI k9)), (0, .ref x), (1, .int (nI t))]) (fun q hq => by simp only [List.mem_cons, List.not_mem_nil, or_false] at hq ⊢; rcases hq with e | e | e | e <;> simp [e]) ?_
              exact nx wI hI (((r0.tr rB).tr rH).tr rI)
            · obtain ⟨t5, ht5, zt5, -⟩ := jl_ten hcn.1 nt5
              obtain ⟨-, o5, eo5, -⟩ := hB.2.2.2.2.2.2.2.1 t5 ht5
              rw [zt5]
              refine jb_pV 8 C X jk_X_122 hB.obj rfl (jx_tensorAt hB ht5 eo5) jd_X_measureSlopes_64 rfl rfl ⟨by decide, by decide⟩ (Nat.le_of_ble_eq_true rfl) ?_
              refine ja_astore C [(5, .ref o5), (4, .ref o4), (3, .ref oa), (2, .int (nI k9)), (0, .ref x), (1, .int (nI t))] jd_X_measureSlopes_67 (Nat.le_of_ble_eq_true rfl) rfl ?_
              refine ja_aload_n C jd_X_measureSlopes_69 4 rfl ?_
              refine ja_aload_n C jd_X_measureSlopes_70 2 rfl ?_
              refine ja_aload C jd_X_measureSlopes_71 1 rfl ?_
              refine ja_aload C jd_X_measureSlopes_73 0 rfl ?_
              refine ja_aload_n C jd_X_measureSlopes_75 2 rfl ?_
              refine jZx_ga C jg_X_250 jd_X_measureSlopes_76 (hB.tz hti ea) (fun _ => ⟨_, rfl⟩) (fun v9 => ?_)
              refine jo_vV 8 C X jk_X_339 hB.obj rfl (jx_hand hB hti ea ht4 eo4 ht5 eo5) jd_X_measureSlopes_79 rfl rfl ⟨by decide, by decide⟩ (Nat.le_of_ble_eq_true rfl) (fun wH hpH => ?_)
              obtain ⟨hH, rH⟩ := hpH
              refine ja_aload_n C jd_X_measureSlopes_82 4 rfl ?_
              refine ja_aload_n C jd_X_measureSlopes_83 2 rfl ?_
              refine ja_aload C jd_X_measureSlopes_84 0 rfl ?_
              refine ja_aload C jd_X_measureSlopes_86 1 rfl ?_
              refine ja_aload_n C jd_X_measureSlopes_88 2 rfl ?_
              refine jZx_ga C jg_X_253 jd_X_measureSlopes_89 (hH.tz hti ea) (fun _ => ⟨_, rfl⟩) (fun v10 => ?_)
              refine jo_vV 8 C X jk_X_339 hH.obj rfl (jx_hand hH hti ea ht5 eo5 ht4 eo4) jd_X_measureSlopes_92 rfl rfl ⟨by decide, by decide⟩ (Nat.le_of_ble_eq_true rfl) (fun wI hpI => ?_)
              obtain ⟨hI, rI⟩ := hpI
              refine ja_lv (lv' := [(3, .ref oa), (2, .int (nI k9)), (0, .ref x), (1, .int (nI t))]) (fun q hq => by simp only [List.mem_cons, List.not_mem_nil, or_false] at hq ⊢; rcases hq with e | e | e | e <;> simp [e]) ?_
              exact nx wI hI (((r0.tr rB).tr rH).tr rI)
        · refine ja_iconst C (nI 0) jd_X_measureSlopes_47 (by decide) ?_
          exact E jd_X_measureSlopes_48 (Or.inl rfl) ⟨⟨_, rfl, Or.inl rfl⟩, ⟨hB, r0.tr rB⟩, rfl⟩
  refine ja_iload_n C jd_X_measureSlopes_0 1 rfl ?_
  refine ja_istore_n C [(2, .int (nI t)), (0, .ref x), (1, .int (nI t))] jd_X_measureSlopes_1 rfl (Nat.le_of_ble_eq_true rfl) rfl ?_
  have lq := lp (t + 1) (by omega) w h jXF.rf
  rw [nI_pred] at lq
  exact lq
end X97
