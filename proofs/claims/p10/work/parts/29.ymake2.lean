/-! THE REFERENCE: make, by contract -/
/-- the tensor that is made: its row at ct -/
def jl_row (V : Nat → Nat → Int32) (VL : Nat → Nat → Int64) (N : Nat → Nat) (ct rk r e q ad : Nat) (what a b : Int32) : Prop :=
  V 0 ct = what ∧ V 1 ct = a ∧ V 2 ct = b ∧ V 3 ct = nI rk ∧ (∀ j, j < 4 → V 4 (4 * ct + j) = if j < rk then nI (N j) else 1) ∧ V 5 ct = nI (jl_cells N rk) ∧ V 6 ct = nI ad ∧ V 7 ct = nI r ∧ V 8 ct = nI e ∧ VL 9 ct = lN q ∧ V 15 ct = 0
/-- the object behind a make that isn't too much -/
def jl_made (cI cJ : ClassId) (w : jb_W) (sz y : Nat) (A : Nat → Nat) (n n2 : Nat) (s : Nat → Int32) (V : Nat → Nat → Int32) (VL : Nat → Nat → Int64) (N : Nat → Nat) (ct rk r e q ad wkN : Nat) (what a b : Int32) (w' : jb_W) (sz' : Nat) : Prop :=
  ∃ (A' : Nat → Nat) (n' : Nat) (V' : Nat → Nat → Int32) (VL' : Nat → Nat → Int64), jY cI cJ w' y A' n' n2 (upd s 2 (nI (ct + 1))) V' VL' (lN (wkN + jl_cells N rk * ad)) ∧ ct < n' ∧ (n' = n ∨ (n' = 2 * n ∧ ct = n)) ∧ jO ct n2 V V' ∧ jOL ct VL VL' ∧ jl_row V' VL' N ct rk r e q ad what a b ∧ jS sz y A w w' ∧ (∀ j, j < 20 → A' j = A j ∨ sz ≤ A' j) ∧ sz ≤ sz'
theorem jS.tr {sz y : Nat} {A A' : Nat → Nat} {w w1 w2 : jb_W} (h : jS sz y A w w1) (hA : ∀ j, j < 20 → A' j = A j ∨ sz ≤ A' j) (h2 : jR y A' w1 w2) : jS sz y A w w2 := fun p x hp hx h0 hk => h2 p x (h p x hp hx h0 hk) h0 (fun j hj => by
  rcases hA j hj with q | q
  · rw [q]; exact hk j hj
  · omega)
section YM2
variable {l : Launch} {D : va_G} {H0 : Heap} {cI cJ cT cX : ClassId} {w : jb_W} {sz : Nat}
variable {y : Nat} {A : Nat → Nat} {n n2 : Nat} {s : Nat → Int32} {V : Nat → Nat → Int32} {VL : Nat → Nat → Int64} {wk : Int64}
set_option maxHeartbeats 1000000 in
theorem jy_make {what a b : Int32} {r e q ad rk ct wkN : Nat} {N : Nat → Nat} (hr : r < 2 ^ 40) (he : e < 2 ^ 40) (hq : q < 2 ^ 62) (had : ad ≤ 2 ^ 24) (hrk : rk ≤ 4) (hs5 : s 5 = nI rk) (hN : ∀ k, k < rk → V 19 k = nI (N k) ∧ N k ≤ 8192) (hc : s 2 = nI ct) (hct : ct ≤ n) (hn1 : 1 ≤ n) (hn : n ≤ 512) (hg : ct = n → n ≤ 256) (hn2 : n2 ≤ 8192) (hwk : wk = lN wkN) (hwkN : wkN ≤ 1000000) (h : jY cI cJ w y A n n2 s V VL wk) :
    jb_M l jy_Y_make jc_Y_make 14 (some .int) 3 111 16 9728 D H0 (jt_all cI cJ cT cX) [.ref y, .int what, .int a, .int b, .long (lN r), .long (lN e), .long (lN q), .int (nI ad)] w sz
      (fun v w' sz' => (jl_full N rk r e q ad wkN → v = some (.int (-8)) ∧ w' = w ∧ sz' = sz) ∧ (¬ jl_full N rk r e q ad wkN → v = some (.int (nI ct)) ∧ jl_made cI cJ w sz y A n n2 s V VL N ct rk r e q ad wkN what a b w' sz')) := by
  refine jb_meth_i (by decide) (Nat.le_of_ble_eq_true rfl) (fun u C X E => ?_)
  subst hwk
  have hcl := jl_cells_52 hrk (fun k hk => (hN k hk).2)
  have full : jl_full N rk r e q ad wkN → ∀ lv : List (Nat × Value), ja (jb_mk l (jb_rm 3 111 16 9728) 14 "MeasuredTensorsModel" D H0 (jt_all cI cJ cT cX) u) w sz 16 9728 121 lv [] := fun hf lv => by
    refine ja_bipush C (-8) jd_Y_make_121 (by decide) ?_
    exact E jd_Y_make_123 ⟨fun _ => ⟨rfl, rfl, rfl⟩, fun z => absurd hf z⟩
  have write : ¬ jl_full N rk r e q ad wkN → jl_cells N rk ≤ 65536 → ∀ (w1 : jb_W) (sz1 n1 : Nat) (A1 : Nat → Nat) (V1 : Nat → Nat → Int32) (VL1 : Nat → Nat → Int64) (z12 z11 : Int32), jY cI cJ w1 y A1 n1 n2 s V1 VL1 (lN wkN) → ct < n1 → n1 ≤ 512 → (n1 = n ∨ (n1 = 2 * n ∧ ct = n)) → jE (jY_len n n2) V V1 → jE (jY_len n n2) VL VL1 → jS sz y A w w1 → (∀ j, j < 20 → A1 j = A j ∨ sz ≤ A1 j) → sz ≤ sz1 → ja (jb_mk l (jb_rm 3 111 16 9728) 14 "MeasuredTensorsModel" D H0 (jt_all cI cJ cT cX) u) w1 sz1 0 0 128 [(12, .int z12), (11, .int z11), (0, .ref y), (1, .int what), (2, .int a), (3, .int b), (4, .long (lN r)), (6, .long (lN e)), (8, .long (lN q)), (10, .int (nI ad))] [] := by
    intro hnf hc6 w1 sz1 n1 A1 V1 VL1 z12 z11 h1 hlt hn5 hnn eV eL zS bA hsz
    have hca : jl_cells N rk * ad ≤ 65536 * 2 ^ 24 := Nat.mul_le_mul hc6 had
    have hN1 : ∀ k, k < rk → V1 19 k = nI (N k) ∧ N k ≤ 8192 := fun k hk => ⟨(eV 19 k (by show k < 4; omega)).trans (hN k hk).1, (hN k hk).2⟩
    refine ja_aload_n C jd_Y_make_128 2 rfl ?_
    refine ja_get C jfl_count jd_Y_make_129 h1.1 rfl ?_
    rw [hc]
    refine ja_istore C [(12, .int (nI ct)), (11, .int z11), (0, .ref y), (1, .int what), (2, .int a), (3, .int b), (4, .long (lN r)), (6, .long (lN e)), (8, .long (lN q)), (10, .int (nI ad))] jd_Y_make_132 (Nat.le_of_ble_eq_true rfl) rfl ?_
    refine ja_aload_n C jd_Y_make_134 2 rfl ?_
    refine ja_dup C jd_Y_make_135 rfl ?_
    refine ja_get C jfl_count jd_Y_make_136 h1.1 rfl ?_
    rw [hc]
    refine ja_iconst C 1 jd_Y_make_139 (by decide) ?_
    refine ja_iadd C jd_Y_make_140 ?_
    rw [nI_1]
    refine jY_put (s' := upd s 2 (nI (ct + 1))) (wk' := lN wkN) C jfp_count jfn_count jd_Y_make_141 h1 rfl rfl (by decide) rfl (fun w2 h2 r2 => ?_)
    refine ja_aload_n C jd_Y_make_144 2 rfl ?_
    refine ja_dup C jd_Y_make_145 rfl ?_
    refine ja_get C jfl_work jd_Y_make_146 h2.1 rfl ?_
    refine ja_aload_n C jd_Y_make_149 2 rfl ?_
    refine jb_callV (kc := 0) (ks := 0) (mc := 0) (ms := 0) (As := []) (rest := [.long (lN wkN), .ref y]) C X jk_newCells h2.1 rfl (jy_newCells (l := l) (D := D) (H0 := H0) (cI := cI) (cJ := cJ) (cT := cT) (cX := cX) (w := w2) (sz := sz1) hrk (show upd s 2 (nI (ct + 1)) 5 = nI rk from hs5) hN1 h2) jd_Y_make_150 rfl rfl ⟨by decide, by decide⟩ (Nat.le_of_ble_eq_true rfl) (fun v9 w9 s9 p9 => ?_)
    obtain ⟨e91, e92, e93⟩ := p9
    rw [e91, e92, e93]
    show ja (jb_mk l (jb_rm 3 111 16 9728) 14 "MeasuredTensorsModel" D H0 (jt_all cI cJ cT cX) u) _ _ 0 0 153 _ [.long (lN (jl_cells N rk)), .long (lN wkN), .ref y]
    refine ja_iload C jd_Y_make_153 9 rfl ?_
    refine ja_i2l C jd_Y_make_155 ?_
    refine ja_lmul C jd_Y_make_156 ?_
    refine ja_ladd C jd_Y_make_157 ?_
    rw [nI_l (by omega), lN_mul, lN_add]
    refine jY_put (s' := upd s 2 (nI (ct + 1))) (wk' := lN (wkN + jl_cells N rk * ad)) C jfp_work jfn_work jd_Y_make_158 h2 rfl rfl (by decide) rfl (fun w3 h3 r3 => ?_)
    refine ja_aload_n C jd_Y_make_161 2 rfl ?_
    refine ja_get C jfl_op jd_Y_make_162 h3.1 rfl ?_
    refine ja_iload C jd_Y_make_165 0 rfl ?_
    refine ja_iload_n C jd_Y_make_167 3 rfl ?_
    refine jY_iastF C 0 (by decide) (by decide) jd_Y_make_168 h3 (show ct < n1 from hlt) (show n1 < 2 ^ 31 by omega) (fun w4 V2 h4 o2 x2 y2 r4 => ?_)
    refine ja_aload_n C jd_Y_make_169 2 rfl ?_
    refine ja_get C jfl_one jd_Y_make_170 h4.1 rfl ?_
    refine ja_iload C jd_Y_make_173 0 rfl ?_
    refine ja_iload_n C jd_Y_make_175 4 rfl ?_
    refine jY_iastF C 1 (by decide) (by decide) jd_Y_make_176 h4 (show ct < n1 from hlt) (show n1 < 2 ^ 31 by omega) (fun w5 V3 h5 o3 x3 y3 r5 => ?_)
    refine ja_aload_n C jd_Y_make_177 2 rfl ?_
    refine ja_get C jfl_two jd_Y_make_178 h5.1 rfl ?_
    refine ja_iload C jd_Y_make_181 0 rfl ?_
    refine ja_iload_n C jd_Y_make_183 5 rfl ?_
    refine jY_iastF C 2 (by decide) (by decide) jd_Y_make_184 h5 (show ct < n1 from hlt) (show n1 < 2 ^ 31 by omega) (fun w6 V4 h6 o4 x4 y4 r6 => ?_)
    refine ja_aload_n C jd_Y_make_185 2 rfl ?_
    refine ja_get C jfl_rank jd_Y_make_186 h6.1 rfl ?_
    refine ja_iload C jd_Y_make_189 0 rfl ?_
    refine ja_aload_n C jd_Y_make_191 2 rfl ?_
    refine ja_get C jfl_newRank jd_Y_make_192 h6.1 rfl ?_
    rw [show upd s 2 (nI (ct + 1)) 5 = nI rk from hs5]
    refine jY_iastF C 3 (by decide) (by decide) jd_Y_make_195 h6 (show ct < n1 from hlt) (show n1 < 2 ^ 31 by omega) (fun w7 V5 h7 o5 x5 y5 r7 => ?_)
    refine ja_iconst C 0 jd_Y_make_196 (by decide) ?_
    refine ja_istore C [(13, .int 0), (12, .int (nI ct)), (11, .int z11), (0, .ref y), (1, .int what), (2, .int a), (3, .int b), (4, .long (lN r)), (6, .long (lN e)), (8, .long (lN q)), (10, .int (nI ad))] jd_Y_make_197 (Nat.le_of_ble_eq_true rfl) rfl ?_
    have n19 : ∀ k, k < rk → V5 19 k = nI (N k) := fun k hk => by rw [o5 19 (by decide), o4 19 (by decide), o3 19 (by decide), o2 19 (by decide)]; exact (hN1 k hk).1
    have loop : ∀ (f9 k : Nat), k + f9 = 4 → ∀ (wa : jb_W) (Va : Nat → Nat → Int32), jY cI cJ wa y A1 n1 n2 (upd s 2 (nI (ct + 1))) Va VL1 (lN (wkN + jl_cells N rk * ad)) → (∀ j, j ≠ 4 → Va j = V5 j) → (∀ j, j < k → Va 4 (4 * ct + j) = if j < rk then nI (N j) else 1) → (∀ m, m < 4 * ct → Va 4 m = V5 4 m) → jR y A1 w1 wa →
        (∀ (wb : jb_W) (Vb : Nat → Nat → Int32), jY cI cJ wb y A1 n1 n2 (upd s 2 (nI (ct + 1))) Vb VL1 (lN (wkN + jl_cells N rk * ad)) → (∀ j, j ≠ 4 → Vb j = V5 j) → (∀ j, j < 4 → Vb 4 (4 * ct + j) = if j < rk then nI (N j) else 1) → (∀ m, m < 4 * ct → Vb 4 m = V5 4 m) → jR y A1 w1 wb → ja (jb_mk l (jb_rm 3 111 16 9728) 14 "MeasuredTensorsModel" D H0 (jt_all cI cJ cT cX) u) wb sz1 0 0 243 [(13, .int (nI 4)), (12, .int (nI ct)), (11, .int z11), (0, .ref y), (1, .int what), (2, .int a), (3, .int b), (4, .long (lN r)), (6, .long (lN e)), (8, .long (lN q)), (10, .int (nI ad))] []) →
        ja (jb_mk l (jb_rm 3 111 16 9728) 14 "MeasuredTensorsModel" D H0 (jt_all cI cJ cT cX) u) wa sz1 0 0 199 [(13, .int (nI k)), (12, .int (nI ct)), (11, .int z11), (0, .ref y), (1, .int what), (2, .int a), (3, .int b), (4, .long (lN r)), (6, .long (lN e)), (8, .long (lN q)), (10, .int (nI ad))] [] := by
      intro f9
      induction f9 with
      | zero =>
        intro k hk wa Va ha oa xa ma ra fin
        have hk : k = 4 := by omega
        subst hk
        refine ja_iload C jd_Y_make_199 0 rfl ?_
        refine ja_iconst C 4 jd_Y_make_201 (by decide) ?_
        exact ja_icmp_ge C 243 jd_Y_make_202 (by decide) (fun _ => fin wa Va ha oa xa ma ra) (fun z => absurd (by decide) z)
      | succ f9 ih =>
        intro k hk wa Va ha oa xa ma ra fin
        refine ja_iload C jd_Y_make_199 0 rfl ?_
        refine ja_iconst C 4 jd_Y_make_201 (by decide) ?_
        refine ja_icmp_ge C 243 jd_Y_make_202 (by decide) (fun z => absurd z (by rw [show (4 : Int32) = nI 4 by decide]; exact nI_ge (by omega) (by omega))) (fun _ => ?_)
        refine ja_aload_n C jd_Y_make_205 3 rfl ?_
        refine ja_get C jfl_sides jd_Y_make_206 ha.1 rfl ?_
        refine ja_iconst C 4 jd_Y_make_209 (by decide) ?_
        refine ja_iload C jd_Y_make_210 1 rfl ?_
        refine ja_imul C jd_Y_make_212 ?_
        refine ja_iload C jd_Y_make_213 0 rfl ?_
        refine ja_iadd C jd_Y_make_215 ?_
        rw [show (4 : Int32) * nI ct + nI k = nI (4 * ct + k) by rw [show (4 : Int32) = nI 4 by decide, pk_mul, nI_add]]
        have put : ∀ x : Int32, x = (if k < rk then nI (N k) else 1) → ja (jb_mk l (jb_rm 3 111 16 9728) 14 "MeasuredTensorsModel" D H0 (jt_all cI cJ cT cX) u) wa sz1 0 0 236 [(13, .int (nI k)), (12, .int (nI ct)), (11, .int z11), (0, .ref y), (1, .int what), (2, .int a), (3, .int b), (4, .long (lN r)), (6, .long (lN e)), (8, .long (lN q)), (10, .int (nI ad))] [.int x, .int (nI (4 * ct + k)), .ref (A1 4)] := fun x hx => by
          refine jY_iastF C 4 (by decide) (by decide) jd_Y_make_236 ha (show 4 * ct + k < 4 * n1 by omega) (show 4 * n1 < 2 ^ 31 by omega) (fun wb Vb hb ob xb yb rb => ?_)
          refine ja_iinc C (nI k + 1) [(13, .int (nI k + 1)), (12, .int (nI ct)), (11, .int z11), (0, .ref y), (1, .int what), (2, .int a), (3, .int b), (4, .long (lN r)), (6, .long (lN e)), (8, .long (lN q)), (10, .int (nI ad))] jd_Y_make_237 0 rfl rfl (Nat.le_of_ble_eq_true rfl) rfl ?_
          refine ja_goto C 199 jd_Y_make_240 (by decide) ?_
          rw [nI_1]
          refine ih (k + 1) (by omega) wb Vb hb (fun j hj => (ob j hj).trans (oa j hj)) (fun j hj => ?_) (fun m hm => (yb m (by omega)).trans (ma m hm)) (ra.tr rb) fin
          by_cases ej : j = k
          · rw [ej, xb, hx]
          · rw [yb _ (by omega)]; exact xa j (by omega)
        refine ja_iload C jd_Y_make_216 0 rfl ?_
        refine ja_aload_n C jd_Y_make_218 3 rfl ?_
        refine ja_get C jfl_newRank jd_Y_make_219 ha.1 rfl ?_
        rw [show upd s 2 (nI (ct + 1)) 5 = nI rk from hs5]
        refine ja_icmp_ge C 235 jd_Y_make_222 (by decide) (fun cc9 => ?_) (fun cc9 => ?_)
        · have hx : ¬ k < rk := by have := (nI_leI (by omega) (by omega)).mp cc9; omega
          refine ja_iconst C 1 jd_Y_make_235 (by decide) ?_
          exact put 1 (by rw [if_neg hx])
        · have hx : k < rk := by
            rcases Nat.lt_or_ge k rk with q9 | q9
            · exact q9
            · exact absurd (nI_le q9 (by omega)) cc9
          refine ja_aload_n C jd_Y_make_225 3 rfl ?_
          refine ja_get C jfl_newSides jd_Y_make_226 ha.1 rfl ?_
          refine ja_iload C jd_Y_make_229 0 rfl ?_
          refine ja_iald C 0 rfl jd_Y_make_231 ha.a_newSides (vp_in_nI (by omega) (by decide)) ?_
          rw [nI_clamp (by omega), oa 19 (by decide), n19 k hx]
          refine ja_goto C 236 jd_Y_make_232 (by decide) ?_
          exact put _ (by rw [if_pos hx])
    refine loop 4 0 (by omega) w7 V5 h7 (fun _ _ => rfl) (fun j hj => absurd hj (Nat.not_lt_zero j)) (fun _ _ => rfl) (((((r2.tr r3).tr r4).tr r5).tr r6).tr r7) (fun wb Vb hb ob xb mb rb => ?_)
    have h20 := hb
    have r20 := rb
    refine ja_aload_n C jd_Y_make_243 3 rfl ?_
    refine ja_get C jfl_cells jd_Y_make_244 h20.1 rfl ?_
    refine ja_iload C jd_Y_make_247 1 rfl ?_
    refine ja_aload_n C jd_Y_make_249 3 rfl ?_
    refine jb_callV (kc := 0) (ks := 0) (mc := 0) (ms := 0) (As := []) (rest := [.int (nI ct), .ref (A1 5)]) C X jk_newCells h20.1 rfl (jy_newCells (l := l) (D := D) (H0 := H0) (cI := cI) (cJ := cJ) (cT := cT) (cX := cX) (w := wb) (sz := sz1) hrk (show upd s 2 (nI (ct + 1)) 5 = nI rk from hs5) (fun k hk => ⟨by rw [ob 19 (by decide)]; exact n19 k hk, (hN k hk).2⟩) h20) jd_Y_make_250 rfl rfl ⟨by decide, by decide⟩ (Nat.le_of_ble_eq_true rfl) (fun v9 w9 s9 p9 => ?_)
    obtain ⟨e91, e92, e93⟩ := p9
    rw [e91, e92, e93]
    show ja (jb_mk l (jb_rm 3 111 16 9728) 14 "MeasuredTensorsModel" D H0 (jt_all cI cJ cT cX) u) _ _ 0 0 253 _ [.long (lN (jl_cells N rk)), .int (nI ct), .ref (A1 5)]
    refine ja_l2i C jd_Y_make_253 ?_
    rw [lN_i]
    refine jY_iastF C 5 (by decide) (by decide) jd_Y_make_254 h20 (show ct < n1 from hlt) (show n1 < 2 ^ 31 by omega) (fun w21 V21 h21 o21 x21 y21 r21 => ?_)
    refine ja_aload_n C jd_Y_make_255 3 rfl ?_
    refine ja_get C jfl_terms jd_Y_make_256 h21.1 rfl ?_
    refine ja_iload C jd_Y_make_259 1 rfl ?_
    refine ja_iload C jd_Y_make_261 10 rfl ?_
    refine jY_iastF C 6 (by decide) (by decide) jd_Y_make_263 h21 (show ct < n1 from hlt) (show n1 < 2 ^ 31 by omega) (fun w22 V22 h22 o22 x22 y22 r22 => ?_)
    refine ja_aload_n C jd_Y_make_264 3 rfl ?_
    refine ja_get C jfl_range jd_Y_make_265 h22.1 rfl ?_
    refine ja_iload C jd_Y_make_268 1 rfl ?_
    refine ja_lload C jd_Y_make_270 7 rfl ?_
    refine ja_l2i C jd_Y_make_272 ?_
    rw [lN_i]
    refine jY_iastF C 7 (by decide) (by decide) jd_Y_make_273 h22 (show ct < n1 from hlt) (show n1 < 2 ^ 31 by omega) (fun w23 V23 h23 o23 x23 y23 r23 => ?_)
    refine ja_aload_n C jd_Y_make_274 3 rfl ?_
    refine ja_get C jfl_depth jd_Y_make_275 h23.1 rfl ?_
    refine ja_iload C jd_Y_make_278 1 rfl ?_
    refine ja_lload C jd_Y_make_280 8 rfl ?_
    refine ja_l2i C jd_Y_make_282 ?_
    rw [lN_i]
    refine jY_iastF C 8 (by decide) (by decide) jd_Y_make_283 h23 (show ct < n1 from hlt) (show n1 < 2 ^ 31 by omega) (fun w24 V24 h24 o24 x24 y24 r24 => ?_)
    refine ja_aload_n C jd_Y_make_284 3 rfl ?_
    refine ja_get C jfl_odd jd_Y_make_285 h24.1 rfl ?_
    refine ja_iload C jd_Y_make_288 1 rfl ?_
    refine ja_lload C jd_Y_make_290 9 rfl ?_
    refine jY_last C 9 (by decide) (by decide) jd_Y_make_292 h24 (vp_in_nI (show ct < n1 from hlt) (show n1 < 2 ^ 31 by omega)) (fun w25 h25 r25 => ?_)
    rw [nI_clamp (show ct < 2 ^ 31 by omega)] at h25
    refine ja_aload_n C jd_Y_make_293 3 rfl ?_
    refine ja_get C jfl_uses jd_Y_make_294 h25.1 rfl ?_
    refine ja_iload C jd_Y_make_297 1 rfl ?_
    refine ja_iconst C 0 jd_Y_make_299 (by decide) ?_
    refine jY_iastF C 15 (by decide) (by decide) jd_Y_make_300 h25 (show ct < n1 from hlt) (show n1 < 2 ^ 31 by omega) (fun w26 V25 h26 o25 x25 y25 r26 => ?_)
    refine ja_iload C jd_Y_make_301 1 rfl ?_
    have hO : jO ct n2 V V25 := by
      refine ⟨fun k hk q4 q12 q13 q14 q19 i hi => ?_, fun i hi => ?_, fun i hi => ⟨?_, ?_, ?_⟩, fun i hi => ?_⟩
      · match k, hk, q4, q12, q13, q14, q19 with
        | 0, _, _, _, _, _, _ => rw [o25 0 (by decide), o24 0 (by decide), o23 0 (by decide), o22 0 (by decide), o21 0 (by decide), ob 0 (by decide), o5 0 (by decide), o4 0 (by decide), o3 0 (by decide), y2 i (by omega)]; exact eV 0 i (by show i < n; omega)
        | 1, _, _, _, _, _, _ => rw [o25 1 (by decide), o24 1 (by decide), o23 1 (by decide), o22 1 (by decide), o21 1 (by decide), ob 1 (by decide), o5 1 (by decide), o4 1 (by decide), y3 i (by omega), o2 1 (by decide)]; exact eV 1 i (by show i < n; omega)
        | 2, _, _, _, _, _, _ => rw [o25 2 (by decide), o24 2 (by decide), o23 2 (by decide), o22 2 (by decide), o21 2 (by decide), ob 2 (by decide), o5 2 (by decide), y4 i (by omega), o3 2 (by decide), o2 2 (by decide)]; exact eV 2 i (by show i < n; omega)
        | 3, _, _, _, _, _, _ => rw [o25 3 (by decide), o24 3 (by decide), o23 3 (by decide), o22 3 (by decide), o21 3 (by decide), ob 3 (by decide), y5 i (by omega), o4 3 (by decide), o3 3 (by decide), o2 3 (by decide)]; exact eV 3 i (by show i < n; omega)
        | 5, _, _, _, _, _, _ => rw [o25 5 (by decide), o24 5 (by decide), o23 5 (by decide), o22 5 (by decide), y21 i (by omega), ob 5 (by decide), o5 5 (by decide), o4 5 (by decide), o3 5 (by decide), o2 5 (by decide)]; exact eV 5 i (by show i < n; omega)
        | 6, _, _, _, _, _, _ => rw [o25 6 (by decide), o24 6 (by decide), o23 6 (by decide), y22 i (by omega), o21 6 (by decide), ob 6 (by decide), o5 6 (by decide), o4 6 (by decide), o3 6 (by decide), o2 6 (by decide)]; exact eV 6 i (by show i < n; omega)
        | 7, _, _, _, _, _, _ => rw [o25 7 (by decide), o24 7 (by decide), y23 i (by omega), o22 7 (by decide), o21 7 (by decide), ob 7 (by decide), o5 7 (by decide), o4 7 (by decide), o3 7 (by decide), o2 7 (by decide)]; exact eV 7 i (by show i < n; omega)
        | 8, _, _, _, _, _, _ => rw [o25 8 (by decide), y24 i (by omega), o23 8 (by decide), o22 8 (by decide), o21 8 (by decide), ob 8 (by decide), o5 8 (by decide), o4 8 (by decide), o3 8 (by decide), o2 8 (by decide)]; exact eV 8 i (by show i < n; omega)
        | 10, _, _, _, _, _, _ => rw [o25 10 (by decide), o24 10 (by decide), o23 10 (by decide), o22 10 (by decide), o21 10 (by decide), ob 10 (by decide), o5 10 (by decide), o4 10 (by decide), o3 10 (by decide), o2 10 (by decide)]; exact eV 10 i (by show i < n; omega)
        | 11, _, _, _, _, _, _ => rw [o25 11 (by decide), o24 11 (by decide), o23 11 (by decide), o22 11 (by decide), o21 11 (by decide), ob 11 (by decide), o5 11 (by decide), o4 11 (by decide), o3 11 (by decide), o2 11 (by decide)]; exact eV 11 i (by show i < n; omega)
        | 15, _, _, _, _, _, _ => rw [y25 i (by omega), o24 15 (by decide), o23 15 (by decide), o22 15 (by decide), o21 15 (by decide), ob 15 (by decide), o5 15 (by decide), o4 15 (by decide), o3 15 (by decide), o2 15 (by decide)]; exact eV 15 i (by show i < n; omega)
        | 16, _, _, _, _, _, _ => rw [o25 16 (by decide), o24 16 (by decide), o23 16 (by decide), o22 16 (by decide), o21 16 (by decide), ob 16 (by decide), o5 16 (by decide), o4 16 (by decide), o3 16 (by decide), o2 16 (by decide)]; exact eV 16 i (by show i < n; omega)
        | 17, _, _, _, _, _, _ => rw [o25 17 (by decide), o24 17 (by decide), o23 17 (by decide), o22 17 (by decide), o21 17 (by decide), ob 17 (by decide), o5 17 (by decide), o4 17 (by decide), o3 17 (by decide), o2 17 (by decide)]; exact eV 17 i (by show i < n; omega)
        | 9, _, _, _, _, _, _ => rw [o25 9 (by decide), o24 9 (by decide), o23 9 (by decide), o22 9 (by decide), o21 9 (by decide), ob 9 (by decide), o5 9 (by decide), o4 9 (by decide), o3 9 (by decide), o2 9 (by decide)]; exact eV 9 i (by show i < n; omega)
        | 18, _, _, _, _, _, _ => rw [o25 18 (by decide), o24 18 (by decide), o23 18 (by decide), o22 18 (by decide), o21 18 (by decide), ob 18 (by decide), o5 18 (by decide), o4 18 (by decide), o3 18 (by decide), o2 18 (by decide)]; exact eV 18 i (by show i < n; omega)
        | 4, _, q4, q12, q13, q14, q19 => exact absurd rfl q4
        | 12, _, q4, q12, q13, q14, q19 => exact absurd rfl q12
        | 13, _, q4, q12, q13, q14, q19 => exact absurd rfl q13
        | 14, _, q4, q12, q13, q14, q19 => exact absurd rfl q14
        | 19, _, q4, q12, q13, q14, q19 => exact absurd rfl q19
        | k + 20, hk, _, _, _, _, _ => omega
      · rw [o25 4 (by decide), o24 4 (by decide), o23 4 (by decide), o22 4 (by decide), o21 4 (by decide), mb i hi, o5 4 (by decide), o4 4 (by decide), o3 4 (by decide), o2 4 (by decide)]; exact eV 4 i (by show i < 4 * n; omega)
      · rw [o25 12 (by decide), o24 12 (by decide), o23 12 (by decide), o22 12 (by decide), o21 12 (by decide), ob 12 (by decide), o5 12 (by decide), o4 12 (by decide), o3 12 (by decide), o2 12 (by decide)]; exact eV 12 i hi
      · rw [o25 13 (by decide), o24 13 (by decide), o23 13 (by decide), o22 13 (by decide), o21 13 (by decide), ob 13 (by decide), o5 13 (by decide), o4 13 (by decide), o3 13 (by decide), o2 13 (by decide)]; exact eV 13 i hi
      · rw [o25 14 (by decide), o24 14 (by decide), o23 14 (by decide), o22 14 (by decide), o21 14 (by decide), ob 14 (by decide), o5 14 (by decide), o4 14 (by decide), o3 14 (by decide), o2 14 (by decide)]; exact eV 14 i hi
      · rw [o25 19 (by decide), o24 19 (by decide), o23 19 (by decide), o22 19 (by decide), o21 19 (by decide), ob 19 (by decide), o5 19 (by decide), o4 19 (by decide), o3 19 (by decide), o2 19 (by decide)]; exact eV 19 i hi
    have hL : jOL ct VL (va_up VL1 9 (vp_updL (VL1 9) ct (lN q))) := fun i hi => ⟨by rw [va_up_self, pk_uLn (by omega)]; exact eL 9 i (by show i < n; omega), by rw [va_up_ne _ _ (by decide)]; exact eL 18 i (by show i < n; omega)⟩
    have hrow : jl_row V25 (va_up VL1 9 (vp_updL (VL1 9) ct (lN q))) N ct rk r e q ad what a b := ⟨by rw [o25 0 (by decide), o24 0 (by decide), o23 0 (by decide), o22 0 (by decide), o21 0 (by decide), ob 0 (by decide), o5 0 (by decide), o4 0 (by decide), o3 0 (by decide), x2], by rw [o25 1 (by decide), o24 1 (by decide), o23 1 (by decide), o22 1 (by decide), o21 1 (by decide), ob 1 (by decide), o5 1 (by decide), o4 1 (by decide), x3], by rw [o25 2 (by decide), o24 2 (by decide), o23 2 (by decide), o22 2 (by decide), o21 2 (by decide), ob 2 (by decide), o5 2 (by decide), x4], by rw [o25 3 (by decide), o24 3 (by decide), o23 3 (by decide), o22 3 (by decide), o21 3 (by decide), ob 3 (by decide), x5], fun j hj => by rw [o25 4 (by decide), o24 4 (by decide), o23 4 (by decide), o22 4 (by decide), o21 4 (by decide)]; exact xb j hj, by rw [o25 5 (by decide), o24 5 (by decide), o23 5 (by decide), o22 5 (by decide), x21], by rw [o25 6 (by decide), o24 6 (by decide), o23 6 (by decide), x22], by rw [o25 7 (by decide), o24 7 (by decide), x23], by rw [o25 8 (by decide), x24], by rw [va_up_self, pk_uLs], by rw [x25]⟩
    exact E jd_Y_make_303 ⟨fun z => absurd z hnf, fun _ => ⟨rfl, A1, n1, V25, _, h26, hlt, hnn, hO, hL, hrow, zS.tr bA (((((((r20).tr r21).tr r22).tr r23).tr r24).tr r25).tr r26), bA, hsz⟩⟩
  have tests : jl_cells N rk ≤ 65536 → jl_long N rk = false → ∀ z12 z11 : Int32, ja (jb_mk l (jb_rm 3 111 16 9728) 14 "MeasuredTensorsModel" D H0 (jt_all cI cJ cT cX) u) w sz 16 9728 66 [(12, .int z12), (11, .int z11), (0, .ref y), (1, .int what), (2, .int a), (3, .int b), (4, .long (lN r)), (6, .long (lN e)), (8, .long (lN q)), (10, .int (nI ad))] [] := by
    intro hc6 hl0 z12 z11
    have hca : jl_cells N rk * ad ≤ 65536 * 2 ^ 24 := Nat.mul_le_mul hc6 had
    refine ja_aload_n C jd_Y_make_66 2 rfl ?_
    refine ja_get C jfl_count jd_Y_make_67 h.1 rfl ?_
    rw [hc]
    refine ja_sipush C 4000 jd_Y_make_70 (by decide) ?_
    refine ja_icmp_eq C 121 jd_Y_make_73 (by decide) (fun z => absurd ((nI_eq (by omega) (by decide)).mp (z.trans (show (4000 : Int32) = nI 4000 by decide))) (by omega)) (fun _ => ?_)
    refine ja_lload C jd_Y_make_76 6 rfl ?_
    refine ja_ldc2 C 4000 jk_4000 jd_Y_make_78 ?_
    refine ja_lcmp C jd_Y_make_81 ?_
    rw [show (4000 : Int64) = lN 4000 by decide]
    refine ja_if_gt C 121 jd_Y_make_82 (by decide) (fun z => full (Or.inr (Or.inl ((pk_lLT (by omega) (by omega)).mp ((lg_cmp_gt _ _).mp z)))) _) (fun c82 => ?_)
    have hr4 : ¬ 4000 < r := fun z => c82 ((lg_cmp_gt _ _).mpr ((pk_lLT (by omega) (by omega)).mpr z))
    refine ja_lload C jd_Y_make_85 7 rfl ?_
    refine ja_ldc2 C 4000 jk_4000 jd_Y_make_87 ?_
    refine ja_lcmp C jd_Y_make_90 ?_
    rw [show (4000 : Int64) = lN 4000 by decide]
    refine ja_if_gt C 121 jd_Y_make_91 (by decide) (fun z => full (Or.inr (Or.inr (Or.inl ((pk_lLT (by omega) (by omega)).mp ((lg_cmp_gt _ _).mp z))))) _) (fun c91 => ?_)
    have he4 : ¬ 4000 < e := fun z => c91 ((lg_cmp_gt _ _).mpr ((pk_lLT (by omega) (by omega)).mpr z))
    refine ja_lload C jd_Y_make_94 8 rfl ?_
    refine ja_lconst C 0 jd_Y_make_96 (by decide) ?_
    refine ja_lcmp C jd_Y_make_97 ?_
    refine ja_if_eq C 121 jd_Y_make_98 (by decide) (fun z => full (Or.inr (Or.inr (Or.inr (Or.inl ((jl_c0 (by omega)).mp z))))) _) (fun c98 => ?_)
    have hq0 : ¬ q = 0 := fun z => c98 ((jl_c0 (by omega)).mpr z)
    refine ja_aload_n C jd_Y_make_101 2 rfl ?_
    refine ja_get C jfl_work jd_Y_make_102 h.1 rfl ?_
    refine ja_aload_n C jd_Y_make_105 2 rfl ?_
    refine jb_callV (kc := 16) (ks := 9728) (mc := 0) (ms := 0) (As := []) (rest := [.long (lN wkN)]) C X jk_newCells h.1 rfl (jy_newCells (l := l) (D := D) (H0 := H0) (cI := cI) (cJ := cJ) (cT := cT) (cX := cX) (w := w) (sz := sz) hrk hs5 hN h) jd_Y_make_106 rfl rfl ⟨by decide, by decide⟩ (Nat.le_of_ble_eq_true rfl) (fun v9 w9 s9 p9 => ?_)
    obtain ⟨e91, e92, e93⟩ := p9
    rw [e91, e92, e93]
    show ja (jb_mk l (jb_rm 3 111 16 9728) 14 "MeasuredTensorsModel" D H0 (jt_all cI cJ cT cX) u) _ _ 16 9728 109 _ [.long (lN (jl_cells N rk)), .long (lN wkN)]
    refine ja_iload C jd_Y_make_109 9 rfl ?_
    refine ja_i2l C jd_Y_make_111 ?_
    refine ja_lmul C jd_Y_make_112 ?_
    refine ja_ladd C jd_Y_make_113 ?_
    rw [nI_l (by omega), lN_mul, lN_add]
    refine ja_ldc2 C 1000000 jk_1000000 jd_Y_make_114 ?_
    refine ja_lcmp C jd_Y_make_117 ?_
    rw [show (1000000 : Int64) = lN 1000000 by decide]
    refine ja_if_le C 124 jd_Y_make_118 (by decide) (fun c118 => ?_) (fun c118 => full (Or.inr (Or.inr (Or.inr (Or.inr (Nat.not_le.mp fun z => c118 ((lg_cmp_le _ _).mpr ((pk_lLE (by omega) (by omega)).mpr z))))))) _)
    have hw4 := (pk_lLE (by omega) (by omega)).mp ((lg_cmp_le _ _).mp c118)
    have hnf : ¬ jl_full N rk r e q ad wkN := fun z => by
      rcases z with (z | z) | z | z | z | z
      · omega
      · rw [hl0] at z; cases z
      · exact hr4 z
      · exact he4 z
      · exact hq0 z
      · omega
    refine ja_aload_n C jd_Y_make_124 2 rfl ?_
    refine jb_callV (kc := 0) (ks := 0) (mc := 16) (ms := 9728) (As := []) (rest := []) C X jk_grow h.1 rfl (jy_grow (l := l) (D := D) (H0 := H0) (cI := cI) (cJ := cJ) (cT := cT) (cX := cX) (w := w) (sz := sz) hn1 hc hct hn hg h) jd_Y_make_125 rfl rfl ⟨by decide, by decide⟩ (Nat.le_of_ble_eq_true rfl) (fun v9 w8 s8 p9 => ?_)
    obtain ⟨rfl, ⟨Ag, ng, Vg, Lg, hg1, hg2, hg3, hg4, hg5, hg6, hg7⟩, p1, p2⟩ := p9
    show ja (jb_mk l (jb_rm 3 111 16 9728) 14 "MeasuredTensorsModel" D H0 (jt_all cI cJ cT cX) u) _ _ 0 0 128 _ []
    rcases Nat.lt_or_ge ct n with hlt | hge
    · obtain ⟨rfl, rfl⟩ := p1 hlt
      exact write hnf hc6 _ _ n A V VL _ _ h hlt hn (Or.inl rfl) jE.rf jE.rf (fun _ _ _ hx _ _ => hx) (fun _ _ => Or.inl rfl) (Nat.le_refl _)
    · have hcn : ct = n := by omega
      obtain ⟨A2, V2, L2, q1, q2, q3, q4, q5⟩ := p2 hcn
      exact write hnf hc6 _ _ (2 * n) A2 V2 L2 _ _ q1 (by omega) (by have := hg hcn; omega) (Or.inr ⟨rfl, hcn⟩) q2 q3 q4 q5 hg7
  have at61 : ∀ z12 : Int32, ja (jb_mk l (jb_rm 3 111 16 9728) 14 "MeasuredTensorsModel" D H0 (jt_all cI cJ cT cX) u) w sz 16 9728 61 [(12, .int z12), (11, .int (jl_b (decide (65536 < jl_cells N rk) || jl_long N rk))), (0, .ref y), (1, .int what), (2, .int a), (3, .int b), (4, .long (lN r)), (6, .long (lN e)), (8, .long (lN q)), (10, .int (nI ad))] [] := by
    intro z12
    refine ja_iload C jd_Y_make_61 1 rfl ?_
    refine ja_if_ne C 121 jd_Y_make_63 (by decide) (fun z => ?_) (fun z => ?_)
    · refine full (Or.inl ?_) _
      cases hb : (decide (65536 < jl_cells N rk) || jl_long N rk) with
      | false => rw [hb] at z; exact absurd rfl z
      | true =>
        rw [Bool.or_eq_true] at hb
        exact hb.elim (fun q9 => Or.inl (of_decide_eq_true q9)) Or.inr
    · cases hb : (decide (65536 < jl_cells N rk) || jl_long N rk) with
      | true => rw [hb] at z; exact absurd z (by decide)
      | false =>
        rw [Bool.or_eq_false_iff] at hb
        exact tests (Nat.not_lt.mp (of_decide_eq_false hb.1)) hb.2 _ _
  have head : ∀ (f9 k : Nat), k + f9 = rk → ja (jb_mk l (jb_rm 3 111 16 9728) 14 "MeasuredTensorsModel" D H0 (jt_all cI cJ cT cX) u) w sz 16 9728 21 [(12, .int (nI k)), (11, .int (jl_b (decide (65536 < jl_cells N rk) || jl_long N k))), (0, .ref y), (1, .int what), (2, .int a), (3, .int b), (4, .long (lN r)), (6, .long (lN e)), (8, .long (lN q)), (10, .int (nI ad))] [] := by
    intro f9
    induction f9 with
    | zero =>
      intro k hk
      have hk : k = rk := by omega
      subst hk
      refine ja_iload C jd_Y_make_21 0 rfl ?_
      refine ja_aload_n C jd_Y_make_23 2 rfl ?_
      refine ja_get C jfl_newRank jd_Y_make_24 h.1 rfl ?_
      exact ja_icmp_ge C 61 jd_Y_make_27 (by decide) (fun _ => at61 _) (fun z => absurd (by rw [hs5]; exact nI_le (Nat.le_refl k) (by omega)) z)
    | succ f9 ih =>
      intro k hk
      refine ja_iload C jd_Y_make_21 0 rfl ?_
      refine ja_aload_n C jd_Y_make_23 2 rfl ?_
      refine ja_get C jfl_newRank jd_Y_make_24 h.1 rfl ?_
      refine ja_icmp_ge C 61 jd_Y_make_27 (by decide) (fun z => absurd (by rw [hs5] at z; exact z) (nI_ge (show k < rk by omega) (by omega))) (fun _ => ?_)
      have next : ∀ v : Int32, v = jl_b (decide (65536 < jl_cells N rk) || jl_long N (k + 1)) → ja (jb_mk l (jb_rm 3 111 16 9728) 14 "MeasuredTensorsModel" D H0 (jt_all cI cJ cT cX) u) w sz 16 9728 53 [(12, .int (nI k)), (11, .int (jl_b (decide (65536 < jl_cells N rk) || jl_long N k))), (0, .ref y), (1, .int what), (2, .int a), (3, .int b), (4, .long (lN r)), (6, .long (lN e)), (8, .long (lN q)), (10, .int (nI ad))] [.int v] := fun v hv => by
        refine ja_istore C [(11, .int v), (12, .int (nI k)), (0, .ref y), (1, .int what), (2, .int a), (3, .int b), (4, .long (lN r)), (6, .long (lN e)), (8, .long (lN q)), (10, .int (nI ad))] jd_Y_make_53 (Nat.le_of_ble_eq_true rfl) rfl ?_
        refine ja_iinc C (nI k + 1) [(12, .int (nI k + 1)), (11, .int v), (0, .ref y), (1, .int what), (2, .int a), (3, .int b), (4, .long (lN r)), (6, .long (lN e)), (8, .long (lN q)), (10, .int (nI ad))] jd_Y_make_55 1 rfl rfl (Nat.le_of_ble_eq_true rfl) rfl ?_
        refine ja_goto C 21 jd_Y_make_58 (by decide) ?_
        rw [nI_1, hv]
        exact ih (k + 1) (by omega)
      have yes : (decide (65536 < jl_cells N rk) || jl_long N (k + 1)) = true → ja (jb_mk l (jb_rm 3 111 16 9728) 14 "MeasuredTensorsModel" D H0 (jt_all cI cJ cT cX) u) w sz 16 9728 48 [(12, .int (nI k)), (11, .int (jl_b (decide (65536 < jl_cells N rk) || jl_long N k))), (0, .ref y), (1, .int what), (2, .int a), (3, .int b), (4, .long (lN r)), (6, .long (lN e)), (8, .long (lN q)), (10, .int (nI ad))] [] := fun hy => by
        refine ja_iconst C 1 jd_Y_make_48 (by decide) ?_
        refine ja_goto C 53 jd_Y_make_49 (by decide) ?_
        exact next 1 (by rw [hy]; rfl)
      refine ja_iload C jd_Y_make_30 1 rfl ?_
      refine ja_if_ne C 48 jd_Y_make_32 (by decide) (fun z => yes ?_) (fun z => ?_)
      · cases hb : (decide (65536 < jl_cells N rk) || jl_long N k) with
        | false => rw [hb] at z; exact absurd rfl z
        | true => rw [jl_long, ← Bool.or_assoc, hb, Bool.true_or]
      · have hb : (decide (65536 < jl_cells N rk) || jl_long N k) = false := by
          cases hb : (decide (65536 < jl_cells N rk) || jl_long N k) with
          | false => rfl
          | true => rw [hb] at z; exact absurd z (by decide)
        have hk9 := hN k (by omega)
        refine ja_aload_n C jd_Y_make_35 2 rfl ?_
        refine ja_get C jfl_newSides jd_Y_make_36 h.1 rfl ?_
        refine ja_iload C jd_Y_make_39 0 rfl ?_
        refine ja_iald C 0 rfl jd_Y_make_41 h.a_newSides (vp_in_nI (by omega) (by decide)) ?_
        rw [nI_clamp (by omega), hk9.1]
        refine ja_sipush C 4096 jd_Y_make_42 (by decide) ?_
        rw [show (4096 : Int32) = nI 4096 by decide]
        refine ja_icmp_le C 52 jd_Y_make_45 (by decide) (fun c45 => ?_) (fun c45 => yes ?_)
        · have h45 := (nI_leI (by omega) (by decide)).mp c45
          refine ja_iconst C 0 jd_Y_make_52 (by decide) ?_
          exact next 0 (by rw [jl_long, ← Bool.or_assoc, hb, Bool.false_or, decide_eq_false (by omega)]; rfl)
        · have h45 : 4096 < N k := Nat.not_le.mp fun z9 => c45 (nI_le z9 (by decide))
          rw [jl_long, decide_eq_true h45, Bool.or_true, Bool.or_true]
  have at16 : ∀ v : Int32, v = jl_b (decide (65536 < jl_cells N rk)) → ja (jb_mk l (jb_rm 3 111 16 9728) 14 "MeasuredTensorsModel" D H0 (jt_all cI cJ cT cX) u) w sz 16 9728 16 [(0, .ref y), (1, .int what), (2, .int a), (3, .int b), (4, .long (lN r)), (6, .long (lN e)), (8, .long (lN q)), (10, .int (nI ad))] [.int v] := fun v hv => by
    refine ja_istore C [(11, .int v), (0, .ref y), (1, .int what), (2, .int a), (3, .int b), (4, .long (lN r)), (6, .long (lN e)), (8, .long (lN q)), (10, .int (nI ad))] jd_Y_make_16 (Nat.le_of_ble_eq_true rfl) rfl ?_
    refine ja_iconst C 0 jd_Y_make_18 (by decide) ?_
    refine ja_istore C [(12, .int 0), (11, .int v), (0, .ref y), (1, .int what), (2, .int a), (3, .int b), (4, .long (lN r)), (6, .long (lN e)), (8, .long (lN q)), (10, .int (nI ad))] jd_Y_make_19 (Nat.le_of_ble_eq_true rfl) rfl ?_
    rw [hv]
    have := head rk 0 (by omega)
    rw [jl_long, Bool.or_false, nI_0] at this
    exact this
  refine ja_aload_n C jd_Y_make_0 0 rfl ?_
  refine jb_callV (kc := 16) (ks := 9728) (mc := 0) (ms := 0) (As := []) (rest := []) C X jk_newCells h.1 rfl (jy_newCells (l := l) (D := D) (H0 := H0) (cI := cI) (cJ := cJ) (cT := cT) (cX := cX) (w := w) (sz := sz) hrk hs5 hN h) jd_Y_make_1 rfl rfl ⟨by decide, by decide⟩ (Nat.le_of_ble_eq_true rfl) (fun v9 w9 s9 p9 => ?_)
  obtain ⟨e91, e92, e93⟩ := p9
  rw [e91, e92, e93]
  show ja (jb_mk l (jb_rm 3 111 16 9728) 14 "MeasuredTensorsModel" D H0 (jt_all cI cJ cT cX) u) _ _ 16 9728 4 _ [.long (lN (jl_cells N rk))]
  refine ja_ldc2 C 65536 jk_65536 jd_Y_make_4 ?_
  refine ja_lcmp C jd_Y_make_7 ?_
  rw [show (65536 : Int64) = lN 65536 by decide]
  refine ja_if_le C 15 jd_Y_make_8 (by decide) (fun c8 => ?_) (fun c8 => ?_)
  · have h8 := (pk_lLE (by omega) (by omega)).mp ((lg_cmp_le _ _).mp c8)
    refine ja_iconst C 0 jd_Y_make_15 (by decide) ?_
    exact at16 0 (by rw [decide_eq_false (by omega)]; rfl)
  · have h8 : 65536 < jl_cells N rk := Nat.not_le.mp fun z => c8 ((lg_cmp_le _ _).mpr ((pk_lLE (by omega) (by omega)).mpr z))
    refine ja_iconst C 1 jd_Y_make_11 (by decide) ?_
    refine ja_goto C 16 jd_Y_make_12 (by decide) ?_
    exact at16 1 (by rw [decide_eq_true h8]; rfl)
end YM2
