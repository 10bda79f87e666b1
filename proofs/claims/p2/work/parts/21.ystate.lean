/-! THE REFERENCE'S OBJECT: its fields by numbers (s), the addresses of its arrays (A), what they hold (V, VL), the work (wk) -/
def jY_len (n n2 : Nat) : Nat → Nat
  | 4 => 4 * n
  | 12 => n2
  | 13 => n2
  | 14 => n2
  | 19 => 4
  | _ => n
def jY_f (A : Nat → Nat) (s : Nat → Int32) (wk : Int64) : List Value := [.int (s 0), .int (s 1), .int (s 2), .ref (A 0), .ref (A 1), .ref (A 2), .ref (A 3), .ref (A 4), .ref (A 5), .ref (A 6), .ref (A 7), .ref (A 8), .ref (A 9), .ref (A 10), .ref (A 11), .long wk, .int (s 3), .ref (A 12), .ref (A 13), .ref (A 14), .int (s 4), .ref (A 15), .ref (A 16), .ref (A 17), .ref (A 18), .int (s 5), .ref (A 19)]
def jY_c (cI cJ : ClassId) (n n2 : Nat) (V : Nat → Nat → Int32) (VL : Nat → Nat → Int64) (k : Nat) : va_E := if k = 9 ∨ k = 18 then .inl (cJ, jY_len n n2 k, .inr (.inl (VL k))) else .inl (cI, jY_len n n2 k, .inl (V k))
def jY (cI cJ : ClassId) (w : jb_W) (y : Nat) (A : Nat → Nat) (n n2 : Nat) (s : Nat → Int32) (V : Nat → Nat → Int32) (VL : Nat → Nat → Int64) (wk : Int64) : Prop :=
  w y = some (.inr (5, jY_f A s wk)) ∧ (∀ k, k < 20 → w (A k) = some (jY_c cI cJ n n2 V VL k)) ∧ ∀ i j, i < 20 → j < 20 → A i = A j → i = j
/-- all that isn't the reference's own stays -/
def jR (y : Nat) (A : Nat → Nat) (w w' : jb_W) : Prop := ∀ (a : Nat) (x : va_E), w a = some x → a ≠ y → (∀ k, k < 20 → a ≠ A k) → w' a = some x
theorem jR.rf {y : Nat} {A : Nat → Nat} {w : jb_W} : jR y A w w := fun _ _ h _ _ => h
theorem jR.tr {y : Nat} {A : Nat → Nat} {w w1 w2 : jb_W} (h : jR y A w w1) (h2 : jR y A w1 w2) : jR y A w w2 := fun a x hx h0 hk => h2 a x (h a x hx h0 hk) h0 hk
section YS
variable {cI cJ : ClassId} {w : jb_W} {y : Nat} {A : Nat → Nat} {n n2 : Nat} {s s' : Nat → Int32} {V : Nat → Nat → Int32} {VL : Nat → Nat → Int64} {wk wk' : Int64}
theorem jY.ne (h : jY cI cJ w y A n n2 s V VL wk) {k : Nat} (hk : k < 20) : A k ≠ y := fun e => by
  have h1 := h.2.1 k hk
  rw [e, h.1] at h1
  unfold jY_c at h1
  split at h1 <;> cases h1
/-- a field of the object is written -/
theorem jY.wr (h : jY cI cJ w y A n n2 s V VL wk) {fs : List Value} (hf : fs = jY_f A s' wk') : jY cI cJ (va_up w y (some (.inr (5, fs)))) y A n n2 s' V VL wk' ∧ jR y A w (va_up w y (some (.inr (5, fs)))) := by
  subst hf
  exact ⟨⟨va_up_self _ _ _, fun k hk => (va_up_ne _ _ (h.ne hk)).trans (h.2.1 k hk), h.2.2⟩, fun a x hx h0 _ => (va_up_ne _ _ h0).trans hx⟩
/-- a place of an array of ints is written -/
theorem jY.wa (h : jY cI cJ w y A n n2 s V VL wk) {k : Nat} (hk : k < 20) (hl : ¬ (k = 9 ∨ k = 18)) (f : Nat → Int32) : jY cI cJ (va_up w (A k) (some (.inl (cI, jY_len n n2 k, .inl f)))) y A n n2 s (va_up V k f) VL wk ∧ jR y A w (va_up w (A k) (some (.inl (cI, jY_len n n2 k, .inl f)))) := by
  refine ⟨⟨(va_up_ne _ _ (Ne.symm (h.ne hk))).trans h.1, fun j hj => ?_, h.2.2⟩, fun a x hx _ h0 => (va_up_ne _ _ (h0 k hk)).trans hx⟩
  by_cases e : j = k
  · subst e
    rw [va_up_self]
    unfold jY_c
    rw [if_neg hl, va_up_self]
  · rw [va_up_ne _ _ (fun z => e (h.2.2 j k hj hk z)), h.2.1 j hj]
    unfold jY_c
    rw [va_up_ne _ _ e]
theorem jY.wl (h : jY cI cJ w y A n n2 s V VL wk) {k : Nat} (hk : k < 20) (hl : k = 9 ∨ k = 18) (f : Nat → Int64) : jY cI cJ (va_up w (A k) (some (.inl (cJ, jY_len n n2 k, .inr (.inl f))))) y A n n2 s V (va_up VL k f) wk ∧ jR y A w (va_up w (A k) (some (.inl (cJ, jY_len n n2 k, .inr (.inl f))))) := by
  refine ⟨⟨(va_up_ne _ _ (Ne.symm (h.ne hk))).trans h.1, fun j hj => ?_, h.2.2⟩, fun a x hx _ h0 => (va_up_ne _ _ (h0 k hk)).trans hx⟩
  by_cases e : j = k
  · subst e
    rw [va_up_self]
    unfold jY_c
    rw [if_pos hl, va_up_self]
  · rw [va_up_ne _ _ (fun z => e (h.2.2 j k hj hk z)), h.2.1 j hj]
    unfold jY_c
    rw [va_up_ne _ _ e]
theorem jY.a_op (h : jY cI cJ w y A n n2 s V VL wk) : w (A 0) = some (.inl (cI, n, .inl (V 0))) := h.2.1 0 (by decide)
theorem jY.a_one (h : jY cI cJ w y A n n2 s V VL wk) : w (A 1) = some (.inl (cI, n, .inl (V 1))) := h.2.1 1 (by decide)
theorem jY.a_two (h : jY cI cJ w y A n n2 s V VL wk) : w (A 2) = some (.inl (cI, n, .inl (V 2))) := h.2.1 2 (by decide)
theorem jY.a_rank (h : jY cI cJ w y A n n2 s V VL wk) : w (A 3) = some (.inl (cI, n, .inl (V 3))) := h.2.1 3 (by decide)
theorem jY.a_sides (h : jY cI cJ w y A n n2 s V VL wk) : w (A 4) = some (.inl (cI, 4 * n, .inl (V 4))) := h.2.1 4 (by decide)
theorem jY.a_cells (h : jY cI cJ w y A n n2 s V VL wk) : w (A 5) = some (.inl (cI, n, .inl (V 5))) := h.2.1 5 (by decide)
theorem jY.a_terms (h : jY cI cJ w y A n n2 s V VL wk) : w (A 6) = some (.inl (cI, n, .inl (V 6))) := h.2.1 6 (by decide)
theorem jY.a_range (h : jY cI cJ w y A n n2 s V VL wk) : w (A 7) = some (.inl (cI, n, .inl (V 7))) := h.2.1 7 (by decide)
theorem jY.a_depth (h : jY cI cJ w y A n n2 s V VL wk) : w (A 8) = some (.inl (cI, n, .inl (V 8))) := h.2.1 8 (by decide)
theorem jY.a_odd (h : jY cI cJ w y A n n2 s V VL wk) : w (A 9) = some (.inl (cJ, n, .inr (.inl (VL 9)))) := h.2.1 9 (by decide)
theorem jY.a_upper (h : jY cI cJ w y A n n2 s V VL wk) : w (A 10) = some (.inl (cI, n, .inl (V 10))) := h.2.1 10 (by decide)
theorem jY.a_lower (h : jY cI cJ w y A n n2 s V VL wk) : w (A 11) = some (.inl (cI, n, .inl (V 11))) := h.2.1 11 (by decide)
theorem jY.a_indexRank (h : jY cI cJ w y A n n2 s V VL wk) : w (A 12) = some (.inl (cI, n2, .inl (V 12))) := h.2.1 12 (by decide)
theorem jY.a_indexSide (h : jY cI cJ w y A n n2 s V VL wk) : w (A 13) = some (.inl (cI, n2, .inl (V 13))) := h.2.1 13 (by decide)
theorem jY.a_below (h : jY cI cJ w y A n n2 s V VL wk) : w (A 14) = some (.inl (cI, n2, .inl (V 14))) := h.2.1 14 (by decide)
theorem jY.a_uses (h : jY cI cJ w y A n n2 s V VL wk) : w (A 15) = some (.inl (cI, n, .inl (V 15))) := h.2.1 15 (by decide)
theorem jY.a_slopeRange (h : jY cI cJ w y A n n2 s V VL wk) : w (A 16) = some (.inl (cI, n, .inl (V 16))) := h.2.1 16 (by decide)
theorem jY.a_slopeDepth (h : jY cI cJ w y A n n2 s V VL wk) : w (A 17) = some (.inl (cI, n, .inl (V 17))) := h.2.1 17 (by decide)
theorem jY.a_slopeOdd (h : jY cI cJ w y A n n2 s V VL wk) : w (A 18) = some (.inl (cJ, n, .inr (.inl (VL 18)))) := h.2.1 18 (by decide)
theorem jY.a_newSides (h : jY cI cJ w y A n n2 s V VL wk) : w (A 19) = some (.inl (cI, 4, .inl (V 19))) := h.2.1 19 (by decide)
end YS
theorem jfl_thrown : ja_FL jcl "MeasuredTensorsModel" 75 5 0 := ⟨_, rfl, by decide, jw_Y, jw_in (by decide +kernel) (by decide +kernel)⟩
theorem jfp_thrown : ja_FP jcl "MeasuredTensorsModel" 75 5 0 (.int) := ⟨_, jt_Y, rfl, by decide, jw_Y, jw_in (by decide +kernel) (by decide +kernel), jf_Y_ty, jf_Y_nm, rfl⟩
theorem jfn_thrown : ∀ r, jcl[5]? = some r → (r.2.1 0).2.2.2 = false := fun r h => by cases h; rfl
theorem jfl_places : ja_FL jcl "MeasuredTensorsModel" 78 5 1 := ⟨_, rfl, by decide, jw_Y, jw_in (by decide +kernel) (by decide +kernel)⟩
theorem jfp_places : ja_FP jcl "MeasuredTensorsModel" 78 5 1 (.int) := ⟨_, jt_Y, rfl, by decide, jw_Y, jw_in (by decide +kernel) (by decide +kernel), jf_Y_ty, jf_Y_nm, rfl⟩
theorem jfn_places : ∀ r, jcl[5]? = some r → (r.2.1 1).2.2.2 = false := fun r h => by cases h; rfl
theorem jfl_count : ja_FL jcl "MeasuredTensorsModel" 81 5 2 := ⟨_, rfl, by decide, jw_Y, jw_in (by decide +kernel) (by decide +kernel)⟩
theorem jfp_count : ja_FP jcl "MeasuredTensorsModel" 81 5 2 (.int) := ⟨_, jt_Y, rfl, by decide, jw_Y, jw_in (by decide +kernel) (by decide +kernel), jf_Y_ty, jf_Y_nm, rfl⟩
theorem jfn_count : ∀ r, jcl[5]? = some r → (r.2.1 2).2.2.2 = false := fun r h => by cases h; rfl
theorem jfl_op : ja_FL jcl "MeasuredTensorsModel" 7 5 3 := ⟨_, rfl, by decide, jw_Y, jw_in (by decide +kernel) (by decide +kernel)⟩
theorem jfp_op : ja_FP jcl "MeasuredTensorsModel" 7 5 3 (.array .int) := ⟨_, jt_Y, rfl, by decide, jw_Y, jw_in (by decide +kernel) (by decide +kernel), jf_Y_ty, jf_Y_nm, rfl⟩
theorem jfn_op : ∀ r, jcl[5]? = some r → (r.2.1 3).2.2.2 = false := fun r h => by cases h; rfl
theorem jfl_one : ja_FL jcl "MeasuredTensorsModel" 13 5 4 := ⟨_, rfl, by decide, jw_Y, jw_in (by decide +kernel) (by decide +kernel)⟩
theorem jfp_one : ja_FP jcl "MeasuredTensorsModel" 13 5 4 (.array .int) := ⟨_, jt_Y, rfl, by decide, jw_Y, jw_in (by decide +kernel) (by decide +kernel), jf_Y_ty, jf_Y_nm, rfl⟩
theorem jfn_one : ∀ r, jcl[5]? = some r → (r.2.1 4).2.2.2 = false := fun r h => by cases h; rfl
theorem jfl_two : ja_FL jcl "MeasuredTensorsModel" 16 5 5 := ⟨_, rfl, by decide, jw_Y, jw_in (by decide +kernel) (by decide +kernel)⟩
theorem jfp_two : ja_FP jcl "MeasuredTensorsModel" 16 5 5 (.array .int) := ⟨_, jt_Y, rfl, by decide, jw_Y, jw_in (by decide +kernel) (by decide +kernel), jf_Y_ty, jf_Y_nm, rfl⟩
theorem jfn_two : ∀ r, jcl[5]? = some r → (r.2.1 5).2.2.2 = false := fun r h => by cases h; rfl
theorem jfl_rank : ja_FL jcl "MeasuredTensorsModel" 19 5 6 := ⟨_, rfl, by decide, jw_Y, jw_in (by decide +kernel) (by decide +kernel)⟩
theorem jfp_rank : ja_FP jcl "MeasuredTensorsModel" 19 5 6 (.array .int) := ⟨_, jt_Y, rfl, by decide, jw_Y, jw_in (by decide +kernel) (by decide +kernel), jf_Y_ty, jf_Y_nm, rfl⟩
theorem jfn_rank : ∀ r, jcl[5]? = some r → (r.2.1 6).2.2.2 = false := fun r h => by cases h; rfl
theorem jfl_sides : ja_FL jcl "MeasuredTensorsModel" 22 5 7 := ⟨_, rfl, by decide, jw_Y, jw_in (by decide +kernel) (by decide +kernel)⟩
theorem jfp_sides : ja_FP jcl "MeasuredTensorsModel" 22 5 7 (.array .int) := ⟨_, jt_Y, rfl, by decide, jw_Y, jw_in (by decide +kernel) (by decide +kernel), jf_Y_ty, jf_Y_nm, rfl⟩
theorem jfn_sides : ∀ r, jcl[5]? = some r → (r.2.1 7).2.2.2 = false := fun r h => by cases h; rfl
theorem jfl_cells : ja_FL jcl "MeasuredTensorsModel" 25 5 8 := ⟨_, rfl, by decide, jw_Y, jw_in (by decide +kernel) (by decide +kernel)⟩
theorem jfp_cells : ja_FP jcl "MeasuredTensorsModel" 25 5 8 (.array .int) := ⟨_, jt_Y, rfl, by decide, jw_Y, jw_in (by decide +kernel) (by decide +kernel), jf_Y_ty, jf_Y_nm, rfl⟩
theorem jfn_cells : ∀ r, jcl[5]? = some r → (r.2.1 8).2.2.2 = false := fun r h => by cases h; rfl
theorem jfl_terms : ja_FL jcl "MeasuredTensorsModel" 28 5 9 := ⟨_, rfl, by decide, jw_Y, jw_in (by decide +kernel) (by decide +kernel)⟩
theorem jfp_terms : ja_FP jcl "MeasuredTensorsModel" 28 5 9 (.array .int) := ⟨_, jt_Y, rfl, by decide, jw_Y, jw_in (by decide +kernel) (by decide +kernel), jf_Y_ty, jf_Y_nm, rfl⟩
theorem jfn_terms : ∀ r, jcl[5]? = some r → (r.2.1 9).2.2.2 = false := fun r h => by cases h; rfl
theorem jfl_range : ja_FL jcl "MeasuredTensorsModel" 31 5 10 := ⟨_, rfl, by decide, jw_Y, jw_in (by decide +kernel) (by decide +kernel)⟩
theorem jfp_range : ja_FP jcl "MeasuredTensorsModel" 31 5 10 (.array .int) := ⟨_, jt_Y, rfl, by decide, jw_Y, jw_in (by decide +kernel) (by decide +kernel), jf_Y_ty, jf_Y_nm, rfl⟩
theorem jfn_range : ∀ r, jcl[5]? = some r → (r.2.1 10).2.2.2 = false := fun r h => by cases h; rfl
theorem jfl_depth : ja_FL jcl "MeasuredTensorsModel" 34 5 11 := ⟨_, rfl, by decide, jw_Y, jw_in (by decide +kernel) (by decide +kernel)⟩
theorem jfp_depth : ja_FP jcl "MeasuredTensorsModel" 34 5 11 (.array .int) := ⟨_, jt_Y, rfl, by decide, jw_Y, jw_in (by decide +kernel) (by decide +kernel), jf_Y_ty, jf_Y_nm, rfl⟩
theorem jfn_depth : ∀ r, jcl[5]? = some r → (r.2.1 11).2.2.2 = false := fun r h => by cases h; rfl
theorem jfl_odd : ja_FL jcl "MeasuredTensorsModel" 37 5 12 := ⟨_, rfl, by decide, jw_Y, jw_in (by decide +kernel) (by decide +kernel)⟩
theorem jfp_odd : ja_FP jcl "MeasuredTensorsModel" 37 5 12 (.array .long) := ⟨_, jt_Y, rfl, by decide, jw_Y, jw_in (by decide +kernel) (by decide +kernel), jf_Y_ty, jf_Y_nm, rfl⟩
theorem jfn_odd : ∀ r, jcl[5]? = some r → (r.2.1 12).2.2.2 = false := fun r h => by cases h; rfl
theorem jfl_upper : ja_FL jcl "MeasuredTensorsModel" 41 5 13 := ⟨_, rfl, by decide, jw_Y, jw_in (by decide +kernel) (by decide +kernel)⟩
theorem jfp_upper : ja_FP jcl "MeasuredTensorsModel" 41 5 13 (.array .int) := ⟨_, jt_Y, rfl, by decide, jw_Y, jw_in (by decide +kernel) (by decide +kernel), jf_Y_ty, jf_Y_nm, rfl⟩
theorem jfn_upper : ∀ r, jcl[5]? = some r → (r.2.1 13).2.2.2 = false := fun r h => by cases h; rfl
theorem jfl_lower : ja_FL jcl "MeasuredTensorsModel" 44 5 14 := ⟨_, rfl, by decide, jw_Y, jw_in (by decide +kernel) (by decide +kernel)⟩
theorem jfp_lower : ja_FP jcl "MeasuredTensorsModel" 44 5 14 (.array .int) := ⟨_, jt_Y, rfl, by decide, jw_Y, jw_in (by decide +kernel) (by decide +kernel), jf_Y_ty, jf_Y_nm, rfl⟩
theorem jfn_lower : ∀ r, jcl[5]? = some r → (r.2.1 14).2.2.2 = false := fun r h => by cases h; rfl
theorem jfl_work : ja_FL jcl "MeasuredTensorsModel" 84 5 15 := ⟨_, rfl, by decide, jw_Y, jw_in (by decide +kernel) (by decide +kernel)⟩
theorem jfp_work : ja_FP jcl "MeasuredTensorsModel" 84 5 15 (.long) := ⟨_, jt_Y, rfl, by decide, jw_Y, jw_in (by decide +kernel) (by decide +kernel), jf_Y_ty, jf_Y_nm, rfl⟩
theorem jfn_work : ∀ r, jcl[5]? = some r → (r.2.1 15).2.2.2 = false := fun r h => by cases h; rfl
theorem jfl_indices : ja_FL jcl "MeasuredTensorsModel" 88 5 16 := ⟨_, rfl, by decide, jw_Y, jw_in (by decide +kernel) (by decide +kernel)⟩
theorem jfp_indices : ja_FP jcl "MeasuredTensorsModel" 88 5 16 (.int) := ⟨_, jt_Y, rfl, by decide, jw_Y, jw_in (by decide +kernel) (by decide +kernel), jf_Y_ty, jf_Y_nm, rfl⟩
theorem jfn_indices : ∀ r, jcl[5]? = some r → (r.2.1 16).2.2.2 = false := fun r h => by cases h; rfl
theorem jfl_indexRank : ja_FL jcl "MeasuredTensorsModel" 47 5 17 := ⟨_, rfl, by decide, jw_Y, jw_in (by decide +kernel) (by decide +kernel)⟩
theorem jfp_indexRank : ja_FP jcl "MeasuredTensorsModel" 47 5 17 (.array .int) := ⟨_, jt_Y, rfl, by decide, jw_Y, jw_in (by decide +kernel) (by decide +kernel), jf_Y_ty, jf_Y_nm, rfl⟩
theorem jfn_indexRank : ∀ r, jcl[5]? = some r → (r.2.1 17).2.2.2 = false := fun r h => by cases h; rfl
theorem jfl_indexSide : ja_FL jcl "MeasuredTensorsModel" 50 5 18 := ⟨_, rfl, by decide, jw_Y, jw_in (by decide +kernel) (by decide +kernel)⟩
theorem jfp_indexSide : ja_FP jcl "MeasuredTensorsModel" 50 5 18 (.array .int) := ⟨_, jt_Y, rfl, by decide, jw_Y, jw_in (by decide +kernel) (by decide +kernel), jf_Y_ty, jf_Y_nm, rfl⟩
theorem jfn_indexSide : ∀ r, jcl[5]? = some r → (r.2.1 18).2.2.2 = false := fun r h => by cases h; rfl
theorem jfl_below : ja_FL jcl "MeasuredTensorsModel" 53 5 19 := ⟨_, rfl, by decide, jw_Y, jw_in (by decide +kernel) (by decide +kernel)⟩
theorem jfp_below : ja_FP jcl "MeasuredTensorsModel" 53 5 19 (.array .int) := ⟨_, jt_Y, rfl, by decide, jw_Y, jw_in (by decide +kernel) (by decide +kernel), jf_Y_ty, jf_Y_nm, rfl⟩
theorem jfn_below : ∀ r, jcl[5]? = some r → (r.2.1 19).2.2.2 = false := fun r h => by cases h; rfl
theorem jfl_loss : ja_FL jcl "MeasuredTensorsModel" 56 5 20 := ⟨_, rfl, by decide, jw_Y, jw_in (by decide +kernel) (by decide +kernel)⟩
theorem jfp_loss : ja_FP jcl "MeasuredTensorsModel" 56 5 20 (.int) := ⟨_, jt_Y, rfl, by decide, jw_Y, jw_in (by decide +kernel) (by decide +kernel), jf_Y_ty, jf_Y_nm, rfl⟩
theorem jfn_loss : ∀ r, jcl[5]? = some r → (r.2.1 20).2.2.2 = false := fun r h => by cases h; rfl
theorem jfl_uses : ja_FL jcl "MeasuredTensorsModel" 60 5 21 := ⟨_, rfl, by decide, jw_Y, jw_in (by decide +kernel) (by decide +kernel)⟩
theorem jfp_uses : ja_FP jcl "MeasuredTensorsModel" 60 5 21 (.array .int) := ⟨_, jt_Y, rfl, by decide, jw_Y, jw_in (by decide +kernel) (by decide +kernel), jf_Y_ty, jf_Y_nm, rfl⟩
theorem jfn_uses : ∀ r, jcl[5]? = some r → (r.2.1 21).2.2.2 = false := fun r h => by cases h; rfl
theorem jfl_slopeRange : ja_FL jcl "MeasuredTensorsModel" 63 5 22 := ⟨_, rfl, by decide, jw_Y, jw_in (by decide +kernel) (by decide +kernel)⟩
theorem jfp_slopeRange : ja_FP jcl "MeasuredTensorsModel" 63 5 22 (.array .int) := ⟨_, jt_Y, rfl, by decide, jw_Y, jw_in (by decide +kernel) (by decide +kernel), jf_Y_ty, jf_Y_nm, rfl⟩
theorem jfn_slopeRange : ∀ r, jcl[5]? = some r → (r.2.1 22).2.2.2 = false := fun r h => by cases h; rfl
theorem jfl_slopeDepth : ja_FL jcl "MeasuredTensorsModel" 66 5 23 := ⟨_, rfl, by decide, jw_Y, jw_in (by decide +kernel) (by decide +kernel)⟩
theorem jfp_slopeDepth : ja_FP jcl "MeasuredTensorsModel" 66 5 23 (.array .int) := ⟨_, jt_Y, rfl, by decide, jw_Y, jw_in (by decide +kernel) (by decide +kernel), jf_Y_ty, jf_Y_nm, rfl⟩
theorem jfn_slopeDepth : ∀ r, jcl[5]? = some r → (r.2.1 23).2.2.2 = false := fun r h => by cases h; rfl
theorem jfl_slopeOdd : ja_FL jcl "MeasuredTensorsModel" 69 5 24 := ⟨_, rfl, by decide, jw_Y, jw_in (by decide +kernel) (by decide +kernel)⟩
theorem jfp_slopeOdd : ja_FP jcl "MeasuredTensorsModel" 69 5 24 (.array .long) := ⟨_, jt_Y, rfl, by decide, jw_Y, jw_in (by decide +kernel) (by decide +kernel), jf_Y_ty, jf_Y_nm, rfl⟩
theorem jfn_slopeOdd : ∀ r, jcl[5]? = some r → (r.2.1 24).2.2.2 = false := fun r h => by cases h; rfl
theorem jfl_newRank : ja_FL jcl "MeasuredTensorsModel" 102 5 25 := ⟨_, rfl, by decide, jw_Y, jw_in (by decide +kernel) (by decide +kernel)⟩
theorem jfp_newRank : ja_FP jcl "MeasuredTensorsModel" 102 5 25 (.int) := ⟨_, jt_Y, rfl, by decide, jw_Y, jw_in (by decide +kernel) (by decide +kernel), jf_Y_ty, jf_Y_nm, rfl⟩
theorem jfn_newRank : ∀ r, jcl[5]? = some r → (r.2.1 25).2.2.2 = false := fun r h => by cases h; rfl
theorem jfl_newSides : ja_FL jcl "MeasuredTensorsModel" 72 5 26 := ⟨_, rfl, by decide, jw_Y, jw_in (by decide +kernel) (by decide +kernel)⟩
theorem jfp_newSides : ja_FP jcl "MeasuredTensorsModel" 72 5 26 (.array .int) := ⟨_, jt_Y, rfl, by decide, jw_Y, jw_in (by decide +kernel) (by decide +kernel), jf_Y_ty, jf_Y_nm, rfl⟩
