/-! THE REFERENCE: call -/

theorem jk_isNone : jb_KV "MeasuredTensorsModel" 186 jy_Y_isNone jc_Y_isNone 2 (some .boolean) 1 := ⟨jw_in (by decide +kernel) (by decide +kernel), jw_in (by decide +kernel) (by decide +kernel), jw_in (by decide +kernel) (by decide +kernel), jw_in (by decide +kernel) (by decide +kernel), jw_in (by decide +kernel) (by decide +kernel), by decide +kernel⟩
section Y46
variable {l : Launch} {D : va_G} {H0 : Heap} {cI cJ cT cX : ClassId} {w : jb_W} {sz : Nat}
variable {y : Nat} {A : Nat → Nat} {n n2 : Nat} {σ : jSt} {th rk : Int32} {N : Nat → Int32}
theorem jn_call {what n0 a b m0 xx yy : Int32} (h : jN cI cJ y A n n2 σ w th rk N) (hct : jSt_c σ < 512) : jb_M l jy_Y_call jc_Y_call 13 (some .int) 7 221 16 9728 D H0 (jt_all cI cJ cT cX) [.ref y, .int what, .int n0, .int a, .int b, .int m0, .int xx, .int yy] w sz
    (fun v w' sz' => ∃ (x th' : Int32) (σ' : jSt), v = some (.int x) ∧ jA_call σ what n0 a b m0 xx yy x th' σ' ∧ jP cI cJ y A w sz σ' th' w' sz') := by
  refine jb_meth_i (by decide) (Nat.le_of_ble_eq_true rfl) (fun u C X E => ?_)
  have hn := h.cn
  have hni := h.ci
  have k97 : ∀ (g e : Nat) (hg : (g = 1 ∧ jl_wrong what n0 m0 xx yy) ∨ (g = 0 ∧ ¬ jl_wrong what n0 m0 xx yy)) (he : (e = 1 ∧ jl_gone σ n0 a b) ∨ (e = 0 ∧ ¬ jl_gone σ n0 a b)), ja (jb_mk l (jb_rm 7 221 16 9728) 13 "MeasuredTensorsModel" D H0 (jt_all cI cJ cT cX) u) w sz 16 9728 97 [(9, .int (nI e)), (8, .int (nI g)), (0, .ref y), (1, .int what), (2, .int n0), (3, .int a), (4, .int b), (5, .int m0), (6, .int xx), (7, .int yy)] [] := by
    intro g e hg he
    rcases hg with ⟨hg, hP⟩ | ⟨hg, hP⟩
    · subst hg
      refine ja_aload_n C jd_Y_call_97 2 rfl ?_
      refine ja_iload C jd_Y_call_98 1 rfl ?_
      refine ja_if_eqN C 107 jd_Y_call_100 (by decide) (by decide) (fun q => absurd q (by decide)) (fun _ => ?_)
      refine ja_iconst C (nI 1) jd_Y_call_103 (by decide) ?_
      refine ja_goto C 117 jd_Y_call_104 (by decide) ?_
      refine jN_p0 C jd_Y_call_117 h (fun w1 h1 r1 => ?_)
      refine ja_aload_n C jd_Y_call_120 2 rfl ?_
      refine jN_gt C jd_Y_call_121 h1 ?_
      refine ja_if_leN C 129 jd_Y_call_124 (by decide) (by decide) (fun q => absurd q (by decide)) (fun _ => ?_)
      refine ja_iconst C (nI 0) jd_Y_call_127 (by decide) ?_
      exact E jd_Y_call_128 ⟨0, 1, σ, rfl, ⟨fun _ => ⟨rfl, rfl⟩, fun z => absurd hP z, fun z => absurd hP z⟩, h1.jP r1⟩
    · subst hg
      rcases he with ⟨he, hN⟩ | ⟨he, hN⟩
      · subst he
        refine ja_aload_n C jd_Y_call_97 2 rfl ?_
        refine ja_iload C jd_Y_call_98 1 rfl ?_
        refine ja_if_eqN C 107 jd_Y_call_100 (by decide) (by decide) (fun _ => ?_) (fun q => absurd q (by decide))
        refine ja_iload C jd_Y_call_107 0 rfl ?_
        refine ja_if_eqN C 116 jd_Y_call_109 (by decide) (by decide) (fun q => absurd q (by decide)) (fun _ => ?_)
        refine ja_iconst C (nI 2) jd_Y_call_112 (by decide) ?_
        refine ja_goto C 117 jd_Y_call_113 (by decide) ?_
        refine jN_p0 C jd_Y_call_117 h (fun w2 h2 r2 => ?_)
        refine ja_aload_n C jd_Y_call_120 2 rfl ?_
        refine jN_gt C jd_Y_call_121 h2 ?_
        refine ja_if_leN C 129 jd_Y_call_124 (by decide) (by decide) (fun q => absurd q (by decide)) (fun _ => ?_)
        refine ja_iconst C (nI 0) jd_Y_call_127 (by decide) ?_
        exact E jd_Y_call_128 ⟨0, 2, σ, rfl, ⟨fun z => absurd z hP, fun _ _ => ⟨rfl, rfl⟩, fun _ z => absurd hN z⟩, h2.jP r2⟩
      · subst he
        have p1 : ¬ what < 0 := fun z => hP (Or.inl z)
        have p2 : ¬ 18 < what := fun z => hP (Or.inr (Or.inl z))
        have p3 : ¬ what = 11 := fun z => hP (Or.inr (Or.inr (Or.inl z)))
        have p4 : ¬ n0 < 0 := fun z => hP (Or.inr (Or.inr (Or.inr (Or.inl z))))
        have p5 : ¬ 2 < n0 := fun z => hP (Or.inr (Or.inr (Or.inr (Or.inr (Or.inl z)))))
        have p6 : ¬ m0 < 0 := fun z => hP (Or.inr (Or.inr (Or.inr (Or.inr (Or.inr (Or.inl z))))))
        have p7 : ¬ 2 < m0 := fun z => hP (Or.inr (Or.inr (Or.inr (Or.inr (Or.inr (Or.inr (Or.inl z)))))))
        have p8 : ¬ (0 < m0 ∧ xx < 0) := fun z => hP (Or.inr (Or.inr (Or.inr (Or.inr (Or.inr (Or.inr (Or.inr (Or.inl z))))))))
        have p9 : ¬ (1 < m0 ∧ yy < 0) := fun z => hP (Or.inr (Or.inr (Or.inr (Or.inr (Or.inr (Or.inr (Or.inr (Or.inr z))))))))
        obtain ⟨wt, hwt, ew⟩ := nI_of2 (M := 18) (n := 18) (by decide) p1 (k2_le p2)
        obtain ⟨nn, hnn, en⟩ := nI_of2 (M := 2) (n := 2) (by decide) p4 (k2_le p5)
        obtain ⟨mm, hmm, em⟩ := nI_of2 (M := 2) (n := 2) (by decide) p6 (k2_le p7)
        have w11 : wt ≠ 11 := fun z => p3 (by rw [ew, z]; rfl)
        have hx : 0 < mm → ¬ xx < 0 := fun z q => p8 ⟨by rw [em]; exact (nI_ltI (a := 0) (by decide) (by omega)).mpr z, q⟩
        have hy : 1 < mm → ¬ yy < 0 := fun z q => p9 ⟨by rw [em]; exact (nI_ltI (a := 1) (by decide) (by omega)).mpr z, q⟩
        have ga : 0 < nn → ¬ jl_none σ a := fun z q => hN (Or.inl ⟨by rw [en]; exact (nI_ltI (a := 0) (by decide) (by omega)).mpr z, q⟩)
        have gb : 1 < nn → ¬ jl_none σ b := fun z q => hN (Or.inr ⟨by rw [en]; exact (nI_ltI (a := 1) (by decide) (by omega)).mpr z, q⟩)
        have nw := hP
        have ng := hN
        refine ja_aload_n C jd_Y_call_97 2 rfl ?_
        refine ja_iload C jd_Y_call_98 1 rfl ?_
        refine ja_if_eqN C 107 jd_Y_call_100 (by decide) (by decide) (fun _ => ?_) (fun q => absurd q (by decide))
        refine ja_iload C jd_Y_call_107 0 rfl ?_
        refine ja_if_eqN C 116 jd_Y_call_109 (by decide) (by decide) (fun _ => ?_) (fun q => absurd q (by decide))
        refine ja_iconst C (nI 0) jd_Y_call_116 (by decide) ?_
        refine jN_p0 C jd_Y_call_117 h (fun w3 h3 r3 => ?_)
        refine ja_aload_n C jd_Y_call_120 2 rfl ?_
        refine jN_gt C jd_Y_call_121 h3 ?_
        refine ja_if_leN C 129 jd_Y_call_124 (by decide) (by decide) (fun _ => ?_) (fun q => absurd q (by decide))
        rw [show [(9, Value.int (nI 0)), (8, Value.int (nI 0)), (0, Value.ref y), (1, Value.int what), (2, Value.int n0), (3, Value.int a), (4, Value.int b), (5, Value.int m0), (6, Value.int xx), (7, Value.int yy)] = [(9, Value.int (nI 0)), (8, Value.int (nI 0)), (0, Value.ref y), (1, Value.int (nI wt)), (2, Value.int (nI nn)), (3, Value.int a), (4, Value.int b), (5, Value.int (nI mm)), (6, Value.int xx), (7, Value.int yy)] by rw [← ew, ← en, ← em]]
        match wt, hwt, ew, w11 with
        | 0, _, ew, _ => exact jn_call_0 C X E h3 r3 hct hnn hmm ew en em hx hy ga gb nw ng
        | 1, _, ew, _ => exact jn_call_1 C X E h3 r3 hct hnn hmm ew en em hx hy ga gb nw ng
        | 2, _, ew, _ => exact jn_call_2 C X E h3 r3 hct hnn hmm ew en em hx hy ga gb nw ng
        | 3, _, ew, _ => exact jn_call_3 C X E h3 r3 hct hnn hmm ew en em hx hy ga gb nw ng
        | 4, _, ew, _ => exact jn_call_4 C X E h3 r3 hct hnn hmm ew en em hx hy ga gb nw ng
        | 5, _, ew, _ => exact jn_call_5 C X E h3 r3 hct hnn hmm ew en em hx hy ga gb nw ng
        | 6, _, ew, _ => exact jn_call_6 C X E h3 r3 hct hnn hmm ew en em hx hy ga gb nw ng
        | 7, _, ew, _ => exact jn_call_7 C X E h3 r3 hct hnn hmm ew en em hx hy ga gb nw ng
        | 8, _, ew, _ => exact jn_call_8 C X E h3 r3 hct hnn hmm ew en em hx hy ga gb nw ng
        | 9, _, ew, _ => exact jn_call_9 C X E h3 r3 hct hnn hmm ew en em hx hy ga gb nw ng
        | 10, _, ew, _ => exact jn_call_10 C X E h3 r3 hct hnn hmm ew en em hx hy ga gb nw ng
        | 12, _, ew, _ => exact jn_call_12 C X E h3 r3 hct hnn hmm ew en em hx hy ga gb nw ng
        | 13, _, ew, _ => exact jn_call_13 C X E h3 r3 hct hnn hmm ew en em hx hy ga gb nw ng
        | 14, _, ew, _ => exact jn_call_14 C X E h3 r3 hct hnn hmm ew en em hx hy ga gb nw ng
        | 15, _, ew, _ => exact jn_call_15 C X E h3 r3 hct hnn hmm ew en em hx hy ga gb nw ng
        | 16, _, ew, _ => exact jn_call_16 C X E h3 r3 hct hnn hmm ew en em hx hy ga gb nw ng
        | 17, _, ew, _ => exact jn_call_17 C X E h3 r3 hct hnn hmm ew en em hx hy ga gb nw ng
        | 18, _, ew, _ => exact jn_call_18 C X E h3 r3 hct hnn hmm ew en em hx hy ga gb nw ng
        | 11, _, _, z => exact absurd rfl z
        | k + 19, z, _, _ => omega
  have k64 : ∀ (g : Nat) (hg : (g = 1 ∧ jl_wrong what n0 m0 xx yy) ∨ (g = 0 ∧ ¬ jl_wrong what n0 m0 xx yy)), ja (jb_mk l (jb_rm 7 221 16 9728) 13 "MeasuredTensorsModel" D H0 (jt_all cI cJ cT cX) u) w sz 16 9728 64 [(8, .int (nI g)), (0, .ref y), (1, .int what), (2, .int n0), (3, .int a), (4, .int b), (5, .int m0), (6, .int xx), (7, .int yy)] [] := by
    intro g hg
    have n1 : ∀ (hf : jl_gone σ n0 a b), ja (jb_mk l (jb_rm 7 221 16 9728) 13 "MeasuredTensorsModel" D H0 (jt_all cI cJ cT cX) u) w sz 16 9728 90 [(8, .int (nI g)), (0, .ref y), (1, .int what), (2, .int n0), (3, .int a), (4, .int b), (5, .int m0), (6, .int xx), (7, .int yy)] [] := by
      intro hf
      refine ja_iconst C (nI 1) jd_Y_call_90 (by decide) ?_
      refine ja_goto C 95 jd_Y_call_91 (by decide) ?_
      refine ja_istore C [(9, .int (nI 1)), (8, .int (nI g)), (0, .ref y), (1, .int what), (2, .int n0), (3, .int a), (4, .int b), (5, .int m0), (6, .int xx), (7, .int yy)] jd_Y_call_95 (Nat.le_of_ble_eq_true rfl) rfl ?_
      exact k97 g 1 hg (Or.inl ⟨rfl, hf⟩)
    have n0' : ∀ (hf : ¬ jl_gone σ n0 a b), ja (jb_mk l (jb_rm 7 221 16 9728) 13 "MeasuredTensorsModel" D H0 (jt_all cI cJ cT cX) u) w sz 16 9728 94 [(8, .int (nI g)), (0, .ref y), (1, .int what), (2, .int n0), (3, .int a), (4, .int b), (5, .int m0), (6, .int xx), (7, .int yy)] [] := by
      intro hf
      refine ja_iconst C (nI 0) jd_Y_call_94 (by decide) ?_
      refine ja_istore C [(9, .int (nI 0)), (8, .int (nI g)), (0, .ref y), (1, .int what), (2, .int n0), (3, .int a), (4, .int b), (5, .int m0), (6, .int xx), (7, .int yy)] jd_Y_call_95 (Nat.le_of_ble_eq_true rfl) rfl ?_
      exact k97 g 0 hg (Or.inr ⟨rfl, hf⟩)
    have m76 : ∀ (hf : ¬ (0 < n0 ∧ jl_none σ a)), ja (jb_mk l (jb_rm 7 221 16 9728) 13 "MeasuredTensorsModel" D H0 (jt_all cI cJ cT cX) u) w sz 16 9728 76 [(8, .int (nI g)), (0, .ref y), (1, .int what), (2, .int n0), (3, .int a), (4, .int b), (5, .int m0), (6, .int xx), (7, .int yy)] [] := by
      intro hf
      refine ja_iload_n C jd_Y_call_76 3 rfl ?_
      refine ja_iconst C (nI 1) jd_Y_call_77 (by decide) ?_
      refine ja_icmp_le C 94 jd_Y_call_78 (by decide) (fun c78 => n0' (fun z => z.elim hf (fun q => k2_nlt c78 q.1))) (fun c78 => ?_)
      refine ja_aload_n C jd_Y_call_81 1 rfl ?_
      refine ja_iload C jd_Y_call_82 5 rfl ?_
      refine jN_pV 8 C X jk_isNone h rfl (jn_isNone h) jd_Y_call_84 rfl rfl ⟨by decide, by decide⟩ (Nat.le_of_ble_eq_true rfl) ?_
      refine ja_if_eqB C 94 jd_Y_call_87 (by decide) (fun c87 => n0' (fun z => z.elim hf (fun q => c87 q.2))) (fun c87 => ?_)
      exact n1 (Or.inr ⟨k2_lt c78, c87⟩)
    refine ja_iload_n C jd_Y_call_64 3 rfl ?_
    refine ja_if_le C 76 jd_Y_call_65 (by decide) (fun c65 => m76 (fun z => k2_nlt c65 z.1)) (fun c65 => ?_)
    refine ja_aload_n C jd_Y_call_68 1 rfl ?_
    refine ja_iload_n C jd_Y_call_69 4 rfl ?_
    refine jN_pV 8 C X jk_isNone h rfl (jn_isNone h) jd_Y_call_70 rfl rfl ⟨by decide, by decide⟩ (Nat.le_of_ble_eq_true rfl) ?_
    refine ja_if_neB C 90 jd_Y_call_73 (by decide) (fun c73 => n1 (Or.inl ⟨k2_lt c65, c73⟩)) (fun c73 => ?_)
    exact m76 (fun z => c73 z.2)
  have w1 : ∀ (hf : jl_wrong what n0 m0 xx yy), ja (jb_mk l (jb_rm 7 221 16 9728) 13 "MeasuredTensorsModel" D H0 (jt_all cI cJ cT cX) u) w sz 16 9728 57 [(0, .ref y), (1, .int what), (2, .int n0), (3, .int a), (4, .int b), (5, .int m0), (6, .int xx), (7, .int yy)] [] := by
    intro hf
    refine ja_iconst C (nI 1) jd_Y_call_57 (by decide) ?_
    refine ja_goto C 62 jd_Y_call_58 (by decide) ?_
    refine ja_istore C [(8, .int (nI 1)), (0, .ref y), (1, .int what), (2, .int n0), (3, .int a), (4, .int b), (5, .int m0), (6, .int xx), (7, .int yy)] jd_Y_call_62 (Nat.le_of_ble_eq_true rfl) rfl ?_
    exact k64 1 (Or.inl ⟨rfl, hf⟩)
  have w0 : ∀ (hf : ¬ jl_wrong what n0 m0 xx yy), ja (jb_mk l (jb_rm 7 221 16 9728) 13 "MeasuredTensorsModel" D H0 (jt_all cI cJ cT cX) u) w sz 16 9728 61 [(0, .ref y), (1, .int what), (2, .int n0), (3, .int a), (4, .int b), (5, .int m0), (6, .int xx), (7, .int yy)] [] := by
    intro hf
    refine ja_iconst C (nI 0) jd_Y_call_61 (by decide) ?_
    refine ja_istore C [(8, .int (nI 0)), (0, .ref y), (1, .int what), (2, .int n0), (3, .int a), (4, .int b), (5, .int m0), (6, .int xx), (7, .int yy)] jd_Y_call_62 (Nat.le_of_ble_eq_true rfl) rfl ?_
    exact k64 0 (Or.inr ⟨rfl, hf⟩)
  refine ja_iload_n C jd_Y_call_0 1 rfl ?_
  refine ja_if_lt C 57 jd_Y_call_1 (by decide) (fun c1 => w1 (Or.inl c1)) (fun c1 => ?_)
  refine ja_iload_n C jd_Y_call_4 1 rfl ?_
  refine ja_bipush C (nI 18) jd_Y_call_5 (by decide) ?_
  refine ja_icmp_gt C 57 jd_Y_call_7 (by decide) (fun c2 => w1 (Or.inr (Or.inl c2))) (fun c2 => ?_)
  refine ja_iload_n C jd_Y_call_10 1 rfl ?_
  refine ja_bipush C (nI 11) jd_Y_call_11 (by decide) ?_
  refine ja_icmp_eq C 57 jd_Y_call_13 (by decide) (fun c3 => w1 (Or.inr (Or.inr (Or.inl c3)))) (fun c3 => ?_)
  refine ja_iload_n C jd_Y_call_16 2 rfl ?_
  refine ja_if_lt C 57 jd_Y_call_17 (by decide) (fun c4 => w1 (Or.inr (Or.inr (Or.inr (Or.inl c4))))) (fun c4 => ?_)
  refine ja_iload_n C jd_Y_call_20 2 rfl ?_
  refine ja_iconst C (nI 2) jd_Y_call_21 (by decide) ?_
  refine ja_icmp_gt C 57 jd_Y_call_22 (by decide) (fun c5 => w1 (Or.inr (Or.inr (Or.inr (Or.inr (Or.inl c5)))))) (fun c5 => ?_)
  refine ja_iload C jd_Y_call_25 5 rfl ?_
  refine ja_if_lt C 57 jd_Y_call_27 (by decide) (fun c6 => w1 (Or.inr (Or.inr (Or.inr (Or.inr (Or.inr (Or.inl c6))))))) (fun c6 => ?_)
  refine ja_iload C jd_Y_call_30 5 rfl ?_
  refine ja_iconst C (nI 2) jd_Y_call_32 (by decide) ?_
  refine ja_icmp_gt C 57 jd_Y_call_33 (by decide) (fun c7 => w1 (Or.inr (Or.inr (Or.inr (Or.inr (Or.inr (Or.inr (Or.inl c7)))))))) (fun c7 => ?_)
  have m46 : ∀ (hf : ¬ (0 < m0 ∧ xx < 0)), ja (jb_mk l (jb_rm 7 221 16 9728) 13 "MeasuredTensorsModel" D H0 (jt_all cI cJ cT cX) u) w sz 16 9728 46 [(0, .ref y), (1, .int what), (2, .int n0), (3, .int a), (4, .int b), (5, .int m0), (6, .int xx), (7, .int yy)] [] := by
    intro hf
    refine ja_iload C jd_Y_call_46 5 rfl ?_
    refine ja_iconst C (nI 1) jd_Y_call_48 (by decide) ?_
    have hl : ¬ (1 < m0 ∧ yy < 0) → ¬ jl_wrong what n0 m0 xx yy := fun q z => z.elim c1 (fun z => z.elim c2 (fun z => z.elim c3 (fun z => z.elim c4 (fun z => z.elim c5 (fun z => z.elim c6 (fun z => z.elim c7 (fun z => z.elim hf q)))))))
    refine ja_icmp_le C 61 jd_Y_call_49 (by decide) (fun c8 => w0 (hl (fun q => k2_nlt c8 q.1))) (fun c8 => ?_)
    refine ja_iload C jd_Y_call_52 7 rfl ?_
    refine ja_if_ge C 61 jd_Y_call_54 (by decide) (fun c9 => w0 (hl (fun q => k2_nlt c9 q.2))) (fun c9 => ?_)
    exact w1 (Or.inr (Or.inr (Or.inr (Or.inr (Or.inr (Or.inr (Or.inr (Or.inr ⟨k2_lt c8, k2_lt c9⟩))))))))
  refine ja_iload C jd_Y_call_36 5 rfl ?_
  refine ja_if_le C 46 jd_Y_call_38 (by decide) (fun c8 => m46 (fun z => k2_nlt c8 z.1)) (fun c8 => ?_)
  refine ja_iload C jd_Y_call_41 6 rfl ?_
  refine ja_if_lt C 57 jd_Y_call_43 (by decide) (fun c9 => w1 (Or.inr (Or.inr (Or.inr (Or.inr (Or.inr (Or.inr (Or.inr (Or.inl ⟨k2_lt c8, c9⟩))))))))) (fun c9 => ?_)
  exact m46 (fun z => c9 z.2)
end Y46
