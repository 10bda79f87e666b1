/-! THE REFERENCE: make -/
theorem jk_65536 : Cond.constantLong "MeasuredTensorsModel" 122 65536 ∈ jw_all := jw_in (by decide +kernel) (by decide +kernel)
theorem jk_4000 : Cond.constantLong "MeasuredTensorsModel" 124 4000 ∈ jw_all := jw_in (by decide +kernel) (by decide +kernel)
theorem jk_1000000 : Cond.constantLong "MeasuredTensorsModel" 126 1000000 ∈ jw_all := jw_in (by decide +kernel) (by decide +kernel)
theorem jk_newCells : jb_KV "MeasuredTensorsModel" 118 jy_Y_newCells jc_Y_newCells 4 (some .long) 0 := ⟨jw_in (by decide +kernel) (by decide +kernel), jw_in (by decide +kernel) (by decide +kernel), jw_in (by decide +kernel) (by decide +kernel), jw_in (by decide +kernel) (by decide +kernel), jw_in (by decide +kernel) (by decide +kernel), by decide +kernel⟩
theorem jk_grow : jb_KV "MeasuredTensorsModel" 128 jy_Y_grow jc_Y_grow 2 none 0 := ⟨jw_in (by decide +kernel) (by decide +kernel), jw_in (by decide +kernel) (by decide +kernel), jw_in (by decide +kernel) (by decide +kernel), jw_in (by decide +kernel) (by decide +kernel), jw_in (by decide +kernel) (by decide +kernel), by decide +kernel⟩
/-- some side of the first r is above 4096 -/
def jl_long (N : Nat → Nat) : Nat → Bool
  | 0 => false
  | k + 1 => jl_long N k || decide (4096 < N k)
/-- too much, so that nothing is made -/
def jl_full (N : Nat → Nat) (rk r e q ad wkN : Nat) : Prop := (65536 < jl_cells N rk ∨ jl_long N rk = true) ∨ 4000 < r ∨ 4000 < e ∨ q = 0 ∨ 1000000 < wkN + jl_cells N rk * ad
/-- what was held at places below ct is held still; the index arrays and the new sides too -/
def jO (ct n2 : Nat) (V V' : Nat → Nat → Int32) : Prop := (∀ k, k < 20 → k ≠ 4 → k ≠ 12 → k ≠ 13 → k ≠ 14 → k ≠ 19 → ∀ i, i < ct → V' k i = V k i) ∧ (∀ i, i < 4 * ct → V' 4 i = V 4 i) ∧ (∀ i, i < n2 → V' 12 i = V 12 i ∧ V' 13 i = V 13 i ∧ V' 14 i = V 14 i) ∧ ∀ i, i < 4 → V' 19 i = V 19 i
def jOL (ct : Nat) (VL VL' : Nat → Nat → Int64) : Prop := ∀ i, i < ct → VL' 9 i = VL 9 i ∧ VL' 18 i = VL 18 i
section YK
variable {l : Launch} {R : Room} {nL : Nat} {D : va_G} {H0 : Heap} {cI cJ cT cX : ClassId} {u : jb_U} {cc : ByteArray} {w : jb_W} {sz kc ks pc : Nat} {lv : List (Nat × Value)} {rest : List Value}
variable {y : Nat} {A : Nat → Nat} {n n2 : Nat} {s : Nat → Int32} {V : Nat → Nat → Int32} {VL : Nat → Nat → Int64} {wk : Int64}
/-- a store whose array is known afterwards by what it holds alone -/
theorem jY_iastF (C : ja_C (jb_mk l R nL "MeasuredTensorsModel" D H0 (jt_all cI cJ cT cX) u) cc) (k : Nat) (hk : k < 20) (hl : ¬ (k = 9 ∨ k = 18)) {i : Nat} {x : Int32} (hd : decode cc pc = .ok (.iastore, 1)) (h : jY cI cJ w y A n n2 s V VL wk) (hi : i < jY_len n n2 k) (hb : jY_len n n2 k < 2 ^ 31)
    (kk : ∀ (w' : jb_W) (V' : Nat → Nat → Int32), jY cI cJ w' y A n n2 s V' VL wk → (∀ j, j ≠ k → V' j = V j) → V' k i = x → (∀ m, m ≠ i → V' k m = V k m) → jR y A w w' → ja (jb_mk l R nL "MeasuredTensorsModel" D H0 (jt_all cI cJ cT cX) u) w' sz kc ks (pc + 1) lv rest) : ja (jb_mk l R nL "MeasuredTensorsModel" D H0 (jt_all cI cJ cT cX) u) w sz kc ks pc lv (.int x :: .int (nI i) :: .ref (A k) :: rest) := by
  refine jY_iast C k hk hl hd h (vp_in_nI hi hb) (fun w' h' r' => ?_)
  rw [nI_clamp (by omega)] at h'
  exact kk w' _ h' (fun j hj => va_up_ne _ _ hj) (by rw [va_up_self, pk_us]) (fun m hm => by rw [va_up_self, pk_un hm]) r'
end YK
theorem jl_long_f {N : Nat → Nat} {r k : Nat} (h : jl_long N r = false) (hk : k < r) : N k ≤ 4096 := by
  induction r with
  | zero => omega
  | succ r ih =>
    rw [jl_long, Bool.or_eq_false_iff] at h
    by_cases e : k = r
    · rw [e]; have := of_decide_eq_false h.2; omega
    · exact ih h.1 (by omega)
theorem jl_long_t {N : Nat → Nat} {k r : Nat} (h : jl_long N k = true) (hr : k ≤ r) : jl_long N r = true := by
  induction r with
  | zero => rw [← h, show k = 0 by omega]
  | succ r ih =>
    by_cases e : k = r + 1
    · rw [← e]; exact h
    · rw [jl_long, ih (by omega), Bool.true_or]
