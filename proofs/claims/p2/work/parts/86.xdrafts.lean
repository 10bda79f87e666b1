/-! THE CLASS: drafts, as the reference says them -/
/-- a draft that may be kept: what keeping it answers is App; or none, and the call answers WRONG -/
def jXk (cI cT cX : ClassId) (x : Nat) (P : Nat → Prop) (σ : jSt) (dr : Nat) (F G : Nat → Option Nat) (own : Nat → Nat) (fT : Nat → Nat → Int32) (ls : Int32) (App : Int32 → jSt → Prop) (v : Option Value) (w' : jb_W) : Prop :=
  (v = some (.int (nI 1)) ∧ ∃ (k : Nat) (f : Nat → Int32) (S : Nat → Nat) (r e q ad : Nat) (what a b : Int32), jXd cI cT cX x P σ dr F G own fT ls w' k f (nI r, nI e, lN (jq q)) (nI ad) ∧ jSh k f S ∧ r < 2 ^ 31 ∧ e < 2 ^ 31 ∧ q < 2 ^ 62 ∧ (1 ≤ ad ∧ ad ≤ 2 ^ 24) ∧ ∀ y σ', jB σ S k what a b ad r e q (0, 0) y σ' → App y σ') ∨
  (v = some (.int (nI 0)) ∧ (∃ (k : Nat) (f : Nat → Int32) (m : Int32 × Int32 × Int64) (tm : Int32), jXd cI cT cX x P σ dr F G own fT ls w' k f m tm) ∧ App (-5) σ)
theorem jXk.yes {cI cT cX : ClassId} {x : Nat} {P : Nat → Prop} {σ : jSt} {dr : Nat} {F G : Nat → Option Nat} {own : Nat → Nat} {fT : Nat → Nat → Int32} {ls : Int32} {App : Int32 → jSt → Prop} {v : Option Value} {w' : jb_W} {k : Nat} {f : Nat → Int32} {m : Int32 × Int32 × Int64} {ad : Nat} {S : Nat → Nat} {r e q : Nat} {what a b : Int32} (hv : v = some (.int (nI 1))) (h : jXd cI cT cX x P σ dr F G own fT ls w' k f m (nI ad)) (hm : m = (nI r, nI e, lN (jq q))) (hS : jSh k f S) (hr : r < 2 ^ 31) (he : e < 2 ^ 31) (hq : q < 2 ^ 62) (had : 1 ≤ ad ∧ ad ≤ 2 ^ 24) (ha : ∀ y σ', jB σ S k what a b ad r e q (0, 0) y σ' → App y σ') : jXk cI cT cX x P σ dr F G own fT ls App v w' :=
  Or.inl ⟨hv, k, f, S, r, e, q, ad, what, a, b, by rw [← hm]; exact h, hS, hr, he, hq, had, ha⟩
theorem jSh.u0 {k : Nat} {f : Nat → Int32} {S : Nat → Nat} {v : Nat} (h : jSh k f S) (hk : 0 < k) (hv : 1 ≤ v ∧ v ≤ 8192) : jSh k (upd f 0 (nI v)) (va_up S 0 v) := by
  refine ⟨h.1, fun j hj => ?_, fun j hj => ?_⟩
  · rcases Nat.eq_zero_or_pos j with z | z
    · subst z
      rw [va_up_self]
      exact ⟨rfl, hv⟩
    · rw [va_up_ne _ _ (by omega)]
      exact ⟨(if_neg (by omega)).trans (h.2.1 j hj).1, (h.2.1 j hj).2⟩
  · rw [va_up_ne _ _ (by omega)]
    exact h.2.2 j hj
def jl4 (a b c d : Nat) : Nat → Nat := fun j => match j with | 0 => a | 1 => b | 2 => c | _ => d
theorem jSh.u4 {k : Nat} {f : Nat → Int32} {a b c d : Nat} (hk : k ≤ 4) (ha : 1 ≤ a ∧ a ≤ 8192) (hb : 1 ≤ b ∧ b ≤ 8192) (hc : 1 ≤ c ∧ c ≤ 8192) (hd : 1 ≤ d ∧ d ≤ 8192) : jSh k (upd (upd (upd (upd f 0 (nI a)) 1 (nI b)) 2 (nI c)) 3 (nI d)) (fun j => if j < k then jl4 a b c d j else 1) := by
  refine ⟨hk, fun j hj => ?_, fun j hj => if_neg (by omega)⟩
  show _ = nI (if j < k then _ else 1) ∧ 1 ≤ (if j < k then _ else 1) ∧ (if j < k then _ else 1) ≤ 8192
  rw [if_pos hj]
  match j, (show j < 4 by omega) with
  | 0, _ => exact ⟨rfl, ha⟩
  | 1, _ => exact ⟨rfl, hb⟩
  | 2, _ => exact ⟨rfl, hc⟩
  | 3, _ => exact ⟨rfl, hd⟩
  | j + 4, z => omega
theorem jSh.dr {k i : Nat} {f f' : Nat → Int32} {S : Nat → Nat} (h : jSh k f S) (hf : ∀ j, j < k - 1 → f' j = if j < i then f j else f (j + 1)) : jSh (k - 1) f' (fun j => if j < k - 1 then jl_drop S i j else 1) := by
  refine ⟨by have := h.1; omega, fun j hj => ?_, fun j hj => if_neg (by omega)⟩
  show _ = nI (if j < k - 1 then _ else 1) ∧ 1 ≤ (if j < k - 1 then _ else 1) ∧ (if j < k - 1 then _ else 1) ≤ 8192
  rw [if_pos hj, hf j hj]
  unfold jl_drop
  split
  · exact h.2.1 j (by omega)
  · exact h.2.1 (j + 1) (by omega)
theorem jx_bits1 : jx_bits (nI 1) = nI 1 := by decide
theorem jx_add5 {n r e q : Nat} (h1 : 1 ≤ n) (hn : n < 2 ^ 31) (hq : 1 ≤ q) : jx_add 5 n (nI r, nI e, lN q) = (nI (r + jl_log n), nI e, lN (jq q)) := by
  unfold jx_add
  rw [if_pos rfl, jq_of hq, jx_dbl h1 hn, nI_add]
theorem jx_addO {wt n r e q : Nat} (hw : ¬ wt = 5) (h1 : 1 ≤ n) (hn : n < 2 ^ 31) (hq1 : 1 ≤ q) (hq : q < 2 ^ 62) : jx_add wt n (nI r, nI e, lN q) = (nI (r + jl_log n + 1), nI (e + jl_twos 40 n), lN (jq (jl_prod q (jl_odd 40 n)))) := by
  have ho := jl_odd_le 40 n
  have hp := jl_odd_pos 40 n h1
  have e1 := jx_pr_N hq (show jl_odd 40 n < 2 ^ 62 by omega)
  rw [jq_of hq1, jq_of hp] at e1
  unfold jx_add
  rw [if_neg hw]
  show (nI r + jx_bits (nI n - 1) + jx_bits (nI 1), nI e + jx_twos (nI n), jx_pr (lN q) (nI n >>> (jx_twos (nI n) &&& 31)).toInt64) = _
  rw [(jx_twos_N h1 hn).2, (jx_twos_N h1 hn).1, jx_dbl h1 hn, jx_bits1, nI_l (by omega), nI_add, nI_add, nI_add, e1]

section X86
variable {l : Launch} {D : va_G} {H0 : Heap} {cI cJ cT cX : ClassId} {w : jb_W} {sz : Nat}
variable {x : Nat} {P : Nat → Prop} {σ : jSt} {dr : Nat} {F G : Nat → Option Nat} {own : Nat → Nat} {fT : Nat → Nat → Int32} {ls : Int32} {k : Nat} {f : Nat → Int32} {m : Int32 × Int32 × Int64} {tm : Int32}
theorem jx_k0 {ta oa : Nat} {z1 z2 z3 : Int32} (h : jXd cI cT cX x P σ dr F G own fT ls w (jT_k (jSt_T σ ta)) f (nI (jT_r (jSt_T σ ta)), nI (jT_e (jSt_T σ ta)), lN (jT_q (jSt_T σ ta))) (nI 1)) (hS : jSh (jT_k (jSt_T σ ta)) f (jT_S (jSt_T σ ta))) (hta : ta < jSt_c σ) (ea : F ta = some oa) : jb_M l jy_X_draftOfOne jc_X_draftOfOne 6 (some .boolean) 5 120 0 0 D H0 (jt_all cI cJ cT cX) [.ref x, .int (nI 0), .ref oa, .int z1, .int z2, .int z3] w sz
    (fun v w' sz' => jXk cI cT cX x P σ dr F G own fT ls (jA_un σ 0 ta) v w' ∧ jXF P w w' ∧ sz' = sz) := by
  obtain ⟨b1, b2, b3, b4, b5, b6, b7, b8, b9, b10⟩ := h.ok hta
  refine (jx_one0 h hS hta ea).imp (fun v w' sz' hp => ?_)
  refine ⟨jXk.yes (what := _) (a := _) (b := _) (q := jT_q (jSt_T σ ta)) hp.1 hp.2.1.1 (by rw [jq_of b9]) hS (by omega) (by omega) b10 (by decide) (fun y σ' z => z), hp.2.1.2, hp.2.2⟩
theorem jx_k1 {ta oa : Nat} {z1 z2 z3 : Int32} (h : jXd cI cT cX x P σ dr F G own fT ls w (jT_k (jSt_T σ ta)) f (nI (jT_r (jSt_T σ ta)), nI (jT_e (jSt_T σ ta)), lN (jT_q (jSt_T σ ta))) (nI 1)) (hS : jSh (jT_k (jSt_T σ ta)) f (jT_S (jSt_T σ ta))) (hta : ta < jSt_c σ) (ea : F ta = some oa) : jb_M l jy_X_draftOfOne jc_X_draftOfOne 6 (some .boolean) 5 120 0 0 D H0 (jt_all cI cJ cT cX) [.ref x, .int (nI 1), .ref oa, .int z1, .int z2, .int z3] w sz
    (fun v w' sz' => jXk cI cT cX x P σ dr F G own fT ls (jA_un σ 1 ta) v w' ∧ jXF P w w' ∧ sz' = sz) := by
  obtain ⟨b1, b2, b3, b4, b5, b6, b7, b8, b9, b10⟩ := h.ok hta
  refine (jx_one1 h hS hta ea).imp (fun v w' sz' hp => ?_)
  refine ⟨jXk.yes (what := _) (a := _) (b := _) (q := jT_q (jSt_T σ ta)) hp.1 hp.2.1.1 (by rw [jq_of b9]) hS (by omega) (by omega) b10 (by decide) (fun y σ' z => z), hp.2.1.2, hp.2.2⟩
theorem jx_k4 {ta oa : Nat} {z1 z2 z3 : Int32} (h : jXd cI cT cX x P σ dr F G own fT ls w (jT_k (jSt_T σ ta)) f (nI (jT_r (jSt_T σ ta)), nI (jT_e (jSt_T σ ta)), lN (jT_q (jSt_T σ ta))) (nI 1)) (hS : jSh (jT_k (jSt_T σ ta)) f (jT_S (jSt_T σ ta))) (hta : ta < jSt_c σ) (ea : F ta = some oa) : jb_M l jy_X_draftOfOne jc_X_draftOfOne 6 (some .boolean) 5 120 0 0 D H0 (jt_all cI cJ cT cX) [.ref x, .int (nI 4), .ref oa, .int z1, .int z2, .int z3] w sz
    (fun v w' sz' => jXk cI cT cX x P σ dr F G own fT ls (jA_un σ 4 ta) v w' ∧ jXF P w w' ∧ sz' = sz) := by
  obtain ⟨b1, b2, b3, b4, b5, b6, b7, b8, b9, b10⟩ := h.ok hta
  refine (jx_one4 h hS hta ea).imp (fun v w' sz' hp => ?_)
  refine ⟨jXk.yes (what := _) (a := _) (b := _) (q := jT_q (jSt_T σ ta)) hp.1 hp.2.1.1 (by rw [jq_of b9]) hS (by omega) (by omega) b10 (by decide) (fun y σ' z => z), hp.2.1.2, hp.2.2⟩
theorem jx_k2 {ta oa : Nat} {z1 z2 z3 : Int32} (h : jXd cI cT cX x P σ dr F G own fT ls w (jT_k (jSt_T σ ta)) f (nI (jT_r (jSt_T σ ta)), nI (jT_e (jSt_T σ ta)), lN (jT_q (jSt_T σ ta))) (nI 1)) (hS : jSh (jT_k (jSt_T σ ta)) f (jT_S (jSt_T σ ta))) (hta : ta < jSt_c σ) (ea : F ta = some oa) : jb_M l jy_X_draftOfOne jc_X_draftOfOne 6 (some .boolean) 5 120 0 0 D H0 (jt_all cI cJ cT cX) [.ref x, .int (nI 2), .ref oa, .int z1, .int z2, .int z3] w sz
    (fun v w' sz' => jXk cI cT cX x P σ dr F G own fT ls (jA_sq σ ta) v w' ∧ jXF P w w' ∧ sz' = sz) := by
  obtain ⟨b1, b2, b3, b4, b5, b6, b7, b8, b9, b10⟩ := h.ok hta
  refine (jx_one2 h hS hta ea).imp (fun v w' sz' hp => ?_)
  refine ⟨jXk.yes (what := _) (a := _) (b := _) hp.1 hp.2.1.1 (jx_mulM b9 b10 b9 b10) hS (by omega) (by omega) (jl_prod_lt _ _) (by decide) (fun y σ' z => by rw [← Nat.two_mul, ← Nat.two_mul] at z; exact z), hp.2.1.2, hp.2.2⟩
theorem jx_k3 {ta oa : Nat} {z1 z2 z3 : Int32} (h : jXd cI cT cX x P σ dr F G own fT ls w (jT_k (jSt_T σ ta)) f (nI (jT_r (jSt_T σ ta)), nI (jT_e (jSt_T σ ta)), lN (jT_q (jSt_T σ ta))) (nI 1)) (hS : jSh (jT_k (jSt_T σ ta)) f (jT_S (jSt_T σ ta))) (hta : ta < jSt_c σ) (ea : F ta = some oa) : jb_M l jy_X_draftOfOne jc_X_draftOfOne 6 (some .boolean) 5 120 0 0 D H0 (jt_all cI cJ cT cX) [.ref x, .int (nI 3), .ref oa, .int z1, .int z2, .int z3] w sz
    (fun v w' sz' => jXk cI cT cX x P σ dr F G own fT ls (jA_st σ ta) v w' ∧ jXF P w w' ∧ sz' = sz) := by
  obtain ⟨b1, b2, b3, b4, b5, b6, b7, b8, b9, b10⟩ := h.ok hta
  refine (jx_one3 h hS hta ea).imp (fun v w' sz' hp => ?_)
  refine ⟨jXk.yes (what := _) (a := _) (b := _) hp.1 hp.2.1.1 (q := 1) rfl hS (by omega) (by omega) (by decide) (by decide) (fun y σ' z => z), hp.2.1.2, hp.2.2⟩
theorem jx_k5n {ta oa : Nat} {z2 z3 : Int32} (h : jXd cI cT cX x P σ dr F G own fT ls w (jT_k (jSt_T σ ta)) f (nI (jT_r (jSt_T σ ta)), nI (jT_e (jSt_T σ ta)), lN (jT_q (jSt_T σ ta))) (nI 1)) (hS : jSh (jT_k (jSt_T σ ta)) f (jT_S (jSt_T σ ta))) (hta : ta < jSt_c σ) (ea : F ta = some oa) : jb_M l jy_X_draftOfOne jc_X_draftOfOne 6 (some .boolean) 5 120 0 0 D H0 (jt_all cI cJ cT cX) [.ref x, .int (nI 5), .ref oa, .int (nI 0), .int z2, .int z3] w sz
    (fun v w' sz' => jXk cI cT cX x P σ dr F G own fT ls (jA_s0 σ 5 ta) v w' ∧ jXF P w w' ∧ sz' = sz) := by
  obtain ⟨b1, b2, b3, b4, b5, b6, b7, b8, b9, b10⟩ := h.ok hta
  refine (jx_one5n h hS hta ea).imp (fun v w' sz' hp => ?_)
  have hc1 : 1 ≤ jl_cells (jT_S (jSt_T σ ta)) (jT_k (jSt_T σ ta)) := jl_cells_pos (fun j hj => (hS.2.1 j hj).2.1)
  have hlo := jl_log_le (m := jl_cells (jT_S (jSt_T σ ta)) (jT_k (jSt_T σ ta))) (by omega)
  have htw := jl_twos_le 40 (jl_cells (jT_S (jSt_T σ ta)) (jT_k (jSt_T σ ta)))
  refine ⟨jXk.yes (what := _) (a := _) (b := _) hp.1 hp.2.1.1 (jx_add5 hc1 (by omega) b9) jSh_0 (by omega) (by omega) b10 (by omega) (fun y σ' z => z), hp.2.1.2, hp.2.2⟩
theorem jx_k6n {ta oa : Nat} {z2 z3 : Int32} (h : jXd cI cT cX x P σ dr F G own fT ls w (jT_k (jSt_T σ ta)) f (nI (jT_r (jSt_T σ ta)), nI (jT_e (jSt_T σ ta)), lN (jT_q (jSt_T σ ta))) (nI 1)) (hS : jSh (jT_k (jSt_T σ ta)) f (jT_S (jSt_T σ ta))) (hta : ta < jSt_c σ) (ea : F ta = some oa) : jb_M l jy_X_draftOfOne jc_X_draftOfOne 6 (some .boolean) 5 120 0 0 D H0 (jt_all cI cJ cT cX) [.ref x, .int (nI 6), .ref oa, .int (nI 0), .int z2, .int z3] w sz
    (fun v w' sz' => jXk cI cT cX x P σ dr F G own fT ls (jA_s0 σ 6 ta) v w' ∧ jXF P w w' ∧ sz' = sz) := by
  obtain ⟨b1, b2, b3, b4, b5, b6, b7, b8, b9, b10⟩ := h.ok hta
  refine (jx_one6n h hS hta ea).imp (fun v w' sz' hp => ?_)
  have hc1 : 1 ≤ jl_cells (jT_S (jSt_T σ ta)) (jT_k (jSt_T σ ta)) := jl_cells_pos (fun j hj => (hS.2.1 j hj).2.1)
  have hlo := jl_log_le (m := jl_cells (jT_S (jSt_T σ ta)) (jT_k (jSt_T σ ta))) (by omega)
  have htw := jl_twos_le 40 (jl_cells (jT_S (jSt_T σ ta)) (jT_k (jSt_T σ ta)))
  refine ⟨jXk.yes (what := _) (a := _) (b := _) hp.1 hp.2.1.1 (jx_addO (by decide) hc1 (by omega) b9 b10) jSh_0 (by omega) (by omega) (jl_prod_lt _ _) (by omega) (fun y σ' z => z), hp.2.1.2, hp.2.2⟩
theorem jx_k5 {ta oa i : Nat} {z3 : Int32} (h : jXd cI cT cX x P σ dr F G own fT ls w (jT_k (jSt_T σ ta)) f (nI (jT_r (jSt_T σ ta)), nI (jT_e (jSt_T σ ta)), lN (jT_q (jSt_T σ ta))) (nI 1)) (hS : jSh (jT_k (jSt_T σ ta)) f (jT_S (jSt_T σ ta))) (hta : ta < jSt_c σ) (ea : F ta = some oa) (hi : i < 2 ^ 31) : jb_M l jy_X_draftOfOne jc_X_draftOfOne 6 (some .boolean) 5 120 0 0 D H0 (jt_all cI cJ cT cX) [.ref x, .int (nI 5), .ref oa, .int (nI 1), .int (nI i), .int z3] w sz
    (fun v w' sz' => jXk cI cT cX x P σ dr F G own fT ls (jA_s1 σ 5 ta i) v w' ∧ jXF P w w' ∧ sz' = sz) := by
  obtain ⟨b1, b2, b3, b4, b5, b6, b7, b8, b9, b10⟩ := h.ok hta
  refine (jx_one5 h hS hta ea hi).imp (fun v w' sz' hp => ?_)
  rcases Classical.em (i < jT_k (jSt_T σ ta)) with hf | hf
  · obtain ⟨hv, f7, hj7, hx⟩ := hp.1 hf
    have hi4 : i < 4 := by omega
    have hn := b2 i hi4
    have hlo := jl_log_le (m := jT_S (jSt_T σ ta) i) (by omega)
    have htw := jl_twos_le 40 (jT_S (jSt_T σ ta) i)
    refine ⟨jXk.yes (what := _) (a := _) (b := _) hv hx (jx_add5 hn.1 (by omega) b9) (hS.dr hj7) (by omega) (by omega) b10 (by omega) (fun y σ' z => ⟨fun _ => jB.ext z (fun j hj => if_pos hj), fun z => absurd hf z⟩), hp.2.2.1, hp.2.2.2⟩
  · obtain ⟨hv, hx⟩ := hp.2.1 hf
    exact ⟨Or.inr ⟨hv, hx, fun z => absurd z hf, fun _ => ⟨rfl, rfl⟩⟩, hp.2.2.1, hp.2.2.2⟩
theorem jx_k6 {ta oa i : Nat} {z3 : Int32} (h : jXd cI cT cX x P σ dr F G own fT ls w (jT_k (jSt_T σ ta)) f (nI (jT_r (jSt_T σ ta)), nI (jT_e (jSt_T σ ta)), lN (jT_q (jSt_T σ ta))) (nI 1)) (hS : jSh (jT_k (jSt_T σ ta)) f (jT_S (jSt_T σ ta))) (hta : ta < jSt_c σ) (ea : F ta = some oa) (hi : i < 2 ^ 31) : jb_M l jy_X_draftOfOne jc_X_draftOfOne 6 (some .boolean) 5 120 0 0 D H0 (jt_all cI cJ cT cX) [.ref x, .int (nI 6), .ref oa, .int (nI 1), .int (nI i), .int z3] w sz
    (fun v w' sz' => jXk cI cT cX x P σ dr F G own fT ls (jA_s1 σ 6 ta i) v w' ∧ jXF P w w' ∧ sz' = sz) := by
  obtain ⟨b1, b2, b3, b4, b5, b6, b7, b8, b9, b10⟩ := h.ok hta
  refine (jx_one6 h hS hta ea hi).imp (fun v w' sz' hp => ?_)
  rcases Classical.em (i < jT_k (jSt_T σ ta)) with hf | hf
  · obtain ⟨hv, f7, hj7, hx⟩ := hp.1 hf
    have hi4 : i < 4 := by omega
    have hn := b2 i hi4
    have hlo := jl_log_le (m := jT_S (jSt_T σ ta) i) (by omega)
    have htw := jl_twos_le 40 (jT_S (jSt_T σ ta) i)
    refine ⟨jXk.yes (what := _) (a := _) (b := _) hv hx (jx_addO (by decide) hn.1 (by omega) b9 b10) (hS.dr hj7) (by omega) (by omega) (jl_prod_lt _ _) (by omega) (fun y σ' z => ⟨fun _ => jB.ext z (fun j hj => if_pos hj), fun z => absurd hf z⟩), hp.2.2.1, hp.2.2.2⟩
  · obtain ⟨hv, hx⟩ := hp.2.1 hf
    exact ⟨Or.inr ⟨hv, hx, fun z => absurd z hf, fun _ => ⟨rfl, rfl⟩⟩, hp.2.2.1, hp.2.2.2⟩
theorem jx_k7 {ta oa i : Nat} {z1 z3 : Int32} (h : jXd cI cT cX x P σ dr F G own fT ls w (jT_k (jSt_T σ ta)) f (nI (jT_r (jSt_T σ ta)), nI (jT_e (jSt_T σ ta)), lN (jT_q (jSt_T σ ta))) (nI 1)) (hS : jSh (jT_k (jSt_T σ ta)) f (jT_S (jSt_T σ ta))) (hta : ta < jSt_c σ) (ea : F ta = some oa) (hi : i < 2 ^ 31) : jb_M l jy_X_draftOfOne jc_X_draftOfOne 6 (some .boolean) 5 120 0 0 D H0 (jt_all cI cJ cT cX) [.ref x, .int (nI 7), .ref oa, .int z1, .int (nI i), .int z3] w sz
    (fun v w' sz' => jXk cI cT cX x P σ dr F G own fT ls (jA_s1 σ 7 ta i) v w' ∧ jXF P w w' ∧ sz' = sz) := by
  obtain ⟨b1, b2, b3, b4, b5, b6, b7, b8, b9, b10⟩ := h.ok hta
  refine (jx_one7 h hS hta ea hi).imp (fun v w' sz' hp => ?_)
  rcases Classical.em (i < jT_k (jSt_T σ ta)) with hf | hf
  · obtain ⟨hv, f7, hj7, hx⟩ := hp.1 hf
    have hi4 : i < 4 := by omega
    have hn := b2 i hi4
    have hlo := jl_log_le (m := jT_S (jSt_T σ ta) i) (by omega)
    have htw := jl_twos_le 40 (jT_S (jSt_T σ ta) i)
    refine ⟨jXk.yes (what := _) (a := _) (b := _) hv hx (q := jT_q (jSt_T σ ta)) (by rw [jq_of b9]) (hS.dr hj7) (by omega) (by omega) b10 (by omega) (fun y σ' z => ⟨fun _ => jB.ext z (fun j hj => if_pos hj), fun z => absurd hf z⟩), hp.2.2.1, hp.2.2.2⟩
  · obtain ⟨hv, hx⟩ := hp.2.1 hf
    exact ⟨Or.inr ⟨hv, hx, fun z => absurd z hf, fun _ => ⟨rfl, rfl⟩⟩, hp.2.2.1, hp.2.2.2⟩
end X86
