def jn_M : String := "MeasuredTensors$Measure"
def jf_M : u_T := fun k => match k with
  | 0 => ("MeasuredTensors$Measure", "range", "I", false)
  | 1 => ("MeasuredTensors$Measure", "places", "I", false)
  | _ => ("MeasuredTensors$Measure", "odd", "J", false)
def jt_M : Nat → FieldType := fun k => match k with
  | 0 => .int
  | 1 => .int
  | _ => .long
theorem jf_M_nm : ∀ a, a < 3 → ∀ b, b < 3 → a ≠ b → (jf_M a).2.1 ≠ (jf_M b).2.1 := by decide +kernel
theorem jf_M_ty : ∀ k, k < 3 → parseFieldDescriptor (jf_M k).2.2.1 = some (jt_M k) := by decide +kernel
def jn_S : String := "MeasuredTensors$Shape"
def jf_S : u_T := fun k => match k with
  | 0 => ("MeasuredTensors$Shape", "lengths", "[I", true)
  | _ => ("MeasuredTensors$Shape", "sides", "I", false)
def jt_S : Nat → FieldType := fun k => match k with
  | 0 => .array .int
  | _ => .int
theorem jf_S_nm : ∀ a, a < 2 → ∀ b, b < 2 → a ≠ b → (jf_S a).2.1 ≠ (jf_S b).2.1 := by decide +kernel
theorem jf_S_ty : ∀ k, k < 2 → parseFieldDescriptor (jf_S k).2.2.1 = some (jt_S k) := by decide +kernel
def jn_T : String := "MeasuredTensors$Tensor"
def jf_T : u_T := fun k => match k with
  | 0 => ("MeasuredTensors$Tensor", "shape", "LMeasuredTensors$Shape;", true)
  | 1 => ("MeasuredTensors$Tensor", "measure", "LMeasuredTensors$Measure;", true)
  | 2 => ("MeasuredTensors$Tensor", "slope", "LMeasuredTensors$Measure;", true)
  | 3 => ("MeasuredTensors$Tensor", "isParam", "Z", false)
  | 4 => ("MeasuredTensors$Tensor", "terms", "I", false)
  | 5 => ("MeasuredTensors$Tensor", "first", "I", false)
  | 6 => ("MeasuredTensors$Tensor", "second", "I", false)
  | 7 => ("MeasuredTensors$Tensor", "spreadOfFirst", "I", false)
  | 8 => ("MeasuredTensors$Tensor", "spreadOfSecond", "I", false)
  | 9 => ("MeasuredTensors$Tensor", "handing", "I", false)
  | 10 => ("MeasuredTensors$Tensor", "upper", "I", false)
  | 11 => ("MeasuredTensors$Tensor", "lower", "I", false)
  | _ => ("MeasuredTensors$Tensor", "uses", "I", false)
def jt_T : Nat → FieldType := fun k => match k with
  | 0 => .object "MeasuredTensors$Shape"
  | 1 => .object "MeasuredTensors$Measure"
  | 2 => .object "MeasuredTensors$Measure"
  | 3 => .boolean
  | 4 => .int
  | 5 => .int
  | 6 => .int
  | 7 => .int
  | 8 => .int
  | 9 => .int
  | 10 => .int
  | 11 => .int
  | _ => .int
theorem jf_T_nm : ∀ a, a < 13 → ∀ b, b < 13 → a ≠ b → (jf_T a).2.1 ≠ (jf_T b).2.1 := by decide +kernel
theorem jf_T_ty : ∀ k, k < 13 → parseFieldDescriptor (jf_T k).2.2.1 = some (jt_T k) := by decide +kernel
def jn_I : String := "MeasuredTensors$Index"
def jf_I : u_T := fun k => match k with
  | 0 => ("MeasuredTensors$Index", "shape", "LMeasuredTensors$Shape;", true)
  | _ => ("MeasuredTensors$Index", "below", "I", false)
def jt_I : Nat → FieldType := fun k => match k with
  | 0 => .object "MeasuredTensors$Shape"
  | _ => .int
theorem jf_I_nm : ∀ a, a < 2 → ∀ b, b < 2 → a ≠ b → (jf_I a).2.1 ≠ (jf_I b).2.1 := by decide +kernel
theorem jf_I_ty : ∀ k, k < 2 → parseFieldDescriptor (jf_I k).2.2.1 = some (jt_I k) := by decide +kernel
def jn_X : String := "MeasuredTensors"
def jf_X : u_T := fun k => match k with
  | 0 => ("MeasuredTensors", "tensors", "[LMeasuredTensors$Tensor;", true)
  | 1 => ("MeasuredTensors", "indices", "[LMeasuredTensors$Index;", true)
  | 2 => ("MeasuredTensors", "share", "LMeasuredTensors$Measure;", true)
  | 3 => ("MeasuredTensors", "difference", "LMeasuredTensors$Measure;", true)
  | 4 => ("MeasuredTensors", "draft", "LMeasuredTensors$Tensor;", false)
  | 5 => ("MeasuredTensors", "tensorCount", "I", false)
  | 6 => ("MeasuredTensors", "indexCount", "I", false)
  | 7 => ("MeasuredTensors", "workDone", "I", false)
  | 8 => ("MeasuredTensors", "lossNumber", "I", false)
  | _ => ("MeasuredTensors", "paramPlaces", "I", false)
def jt_X : Nat → FieldType := fun k => match k with
  | 0 => .array (.object "MeasuredTensors$Tensor")
  | 1 => .array (.object "MeasuredTensors$Index")
  | 2 => .object "MeasuredTensors$Measure"
  | 3 => .object "MeasuredTensors$Measure"
  | 4 => .object "MeasuredTensors$Tensor"
  | 5 => .int
  | 6 => .int
  | 7 => .int
  | 8 => .int
  | _ => .int
theorem jf_X_nm : ∀ a, a < 10 → ∀ b, b < 10 → a ≠ b → (jf_X a).2.1 ≠ (jf_X b).2.1 := by decide +kernel
theorem jf_X_ty : ∀ k, k < 10 → parseFieldDescriptor (jf_X k).2.2.1 = some (jt_X k) := by decide +kernel
def jn_Y : String := "MeasuredTensorsModel"
def jf_Y : u_T := fun k => match k with
  | 0 => ("MeasuredTensorsModel", "thrown", "I", false)
  | 1 => ("MeasuredTensorsModel", "places", "I", false)
  | 2 => ("MeasuredTensorsModel", "count", "I", false)
  | 3 => ("MeasuredTensorsModel", "op", "[I", false)
  | 4 => ("MeasuredTensorsModel", "one", "[I", false)
  | 5 => ("MeasuredTensorsModel", "two", "[I", false)
  | 6 => ("MeasuredTensorsModel", "rank", "[I", false)
  | 7 => ("MeasuredTensorsModel", "sides", "[I", false)
  | 8 => ("MeasuredTensorsModel", "cells", "[I", false)
  | 9 => ("MeasuredTensorsModel", "terms", "[I", false)
  | 10 => ("MeasuredTensorsModel", "range", "[I", false)
  | 11 => ("MeasuredTensorsModel", "depth", "[I", false)
  | 12 => ("MeasuredTensorsModel", "odd", "[J", false)
  | 13 => ("MeasuredTensorsModel", "upper", "[I", false)
  | 14 => ("MeasuredTensorsModel", "lower", "[I", false)
  | 15 => ("MeasuredTensorsModel", "work", "J", false)
  | 16 => ("MeasuredTensorsModel", "indices", "I", false)
  | 17 => ("MeasuredTensorsModel", "indexRank", "[I", false)
  | 18 => ("MeasuredTensorsModel", "indexSide", "[I", false)
  | 19 => ("MeasuredTensorsModel", "below", "[I", false)
  | 20 => ("MeasuredTensorsModel", "loss", "I", false)
  | 21 => ("MeasuredTensorsModel", "uses", "[I", false)
  | 22 => ("MeasuredTensorsModel", "slopeRange", "[I", false)
  | 23 => ("MeasuredTensorsModel", "slopeDepth", "[I", false)
  | 24 => ("MeasuredTensorsModel", "slopeOdd", "[J", false)
  | 25 => ("MeasuredTensorsModel", "newRank", "I", false)
  | _ => ("MeasuredTensorsModel", "newSides", "[I", true)
def jt_Y : Nat → FieldType := fun k => match k with
  | 0 => .int
  | 1 => .int
  | 2 => .int
  | 3 => .array .int
  | 4 => .array .int
  | 5 => .array .int
  | 6 => .array .int
  | 7 => .array .int
  | 8 => .array .int
  | 9 => .array .int
  | 10 => .array .int
  | 11 => .array .int
  | 12 => .array .long
  | 13 => .array .int
  | 14 => .array .int
  | 15 => .long
  | 16 => .int
  | 17 => .array .int
  | 18 => .array .int
  | 19 => .array .int
  | 20 => .int
  | 21 => .array .int
  | 22 => .array .int
  | 23 => .array .int
  | 24 => .array .long
  | 25 => .int
  | _ => .array .int
theorem jf_Y_nm : ∀ a, a < 27 → ∀ b, b < 27 → a ≠ b → (jf_Y a).2.1 ≠ (jf_Y b).2.1 := by decide +kernel
theorem jf_Y_ty : ∀ k, k < 27 → parseFieldDescriptor (jf_Y k).2.2.1 = some (jt_Y k) := by decide +kernel
abbrev jcl : List vw_C := [(jn_M, jf_M, 3), (jn_S, jf_S, 2), (jn_T, jf_T, 13), (jn_I, jf_I, 2), (jn_X, jf_X, 10), (jn_Y, jf_Y, 27)]
/-- the words that every method is given: those of the tables that stay -/
def jw_all : List Cond := lw_tbl.filter goodWord
theorem jw_ok : ∀ c ∈ jw_all, (c.onTables && c.keeps) = true ∨ ∃ ty, c = .arrayClass ty := fun c h => good_of_word (List.mem_filter.mp h).2
theorem jw_in {c : Cond} (h : c ∈ lw_tbl) (hg : goodWord c = true) : c ∈ jw_all := List.mem_filter.mpr ⟨h, hg⟩
/-- what a throw needs of the tables and of the heap that the law began with -/
def jx_cast : List Cond := [.castable "java/lang/IllegalArgumentException" "java/lang/IllegalArgumentException", .castable "java/lang/IndexOutOfBoundsException" "java/lang/IndexOutOfBoundsException", .castable "java/lang/UnsupportedOperationException" "java/lang/UnsupportedOperationException", .declares (Bundle.initS "java/lang/RuntimeException"), .declares (Bundle.initS "java/lang/Exception"), .declares (Bundle.initS "java/lang/Throwable")]
def jx_st : Cond → Bool
  | .castable _ _ => true
  | .declares _ => true
  | _ => false
theorem jx_cast_st : ∀ q ∈ jx_cast, jx_st q = true ∧ q.onTables = true := by decide +kernel
theorem jx_st_at {u U : State} (hW : u.WarmedH U.vm) {q : Cond} (hq : jx_st q = true) (h : q.before #[] u = true) : q.before #[] (u.setVm U.vm) = true := by
  cases q <;> first | (rw [Cond.castable_setVm hW.alike]; exact h) | (rw [Cond.declares_setVm hW.alike]; exact h) | (simp [jx_st] at hq)
def jx_nc : List (String × String) := [("java/lang/IllegalArgumentException", "java/lang/IndexOutOfBoundsException"), ("java/lang/IllegalArgumentException", "java/lang/UnsupportedOperationException"), ("java/lang/IndexOutOfBoundsException", "java/lang/IllegalArgumentException"), ("java/lang/IndexOutOfBoundsException", "java/lang/UnsupportedOperationException"), ("java/lang/UnsupportedOperationException", "java/lang/IllegalArgumentException"), ("java/lang/UnsupportedOperationException", "java/lang/IndexOutOfBoundsException")]
def jx_str : List (String × Nat × String) := [("MeasuredTensors", 54, "p is not 0 .. 64"), ("MeasuredTensors", 63, "no number in least terms"), ("MeasuredTensors", 91, "no such sides"), ("MeasuredTensors", 107, "no such sides, or below is not 1 .. 65536"), ("MeasuredTensors", 119, "too many cells, or indices"), ("MeasuredTensors", 128, "no such tensor"), ("MeasuredTensors", 131, "no such pair"), ("MeasuredTensors", 145, "no fraction in least terms"), ("MeasuredTensors", 157, "no such call"), ("MeasuredTensors", 163, "no such argument"), ("MeasuredTensors", 190, "it has sides"), ("MeasuredTensors", 230, "nothing like that is told")]
def jx_nest : List (String × Nat × MethodName × String) := [("MeasuredTensors", 23, ⟨"MeasuredTensors$Measure", "<init>", "()V"⟩, "MeasuredTensors"), ("MeasuredTensors", 31, ⟨"MeasuredTensors$Tensor", "<init>", "()V"⟩, "MeasuredTensors"), ("MeasuredTensors", 109, ⟨"MeasuredTensors$Index", "<init>", "()V"⟩, "MeasuredTensors"), ("MeasuredTensors$Index", 9, ⟨"MeasuredTensors$Shape", "<init>", "()V"⟩, "MeasuredTensors"), ("MeasuredTensors$Measure", 26, ⟨"MeasuredTensors", "productBelowBound", "(JJ)J"⟩, "MeasuredTensors"), ("MeasuredTensors$Measure", 30, ⟨"MeasuredTensors", "twosIn", "(I)I"⟩, "MeasuredTensors"), ("MeasuredTensors$Measure", 34, ⟨"MeasuredTensors", "bitsOf", "(I)I"⟩, "MeasuredTensors"), ("MeasuredTensors$Measure", 43, ⟨"MeasuredTensors", "leastCommonMultiple", "(JJ)J"⟩, "MeasuredTensors"), ("MeasuredTensors$Tensor", 11, ⟨"MeasuredTensors$Shape", "<init>", "()V"⟩, "MeasuredTensors"), ("MeasuredTensors$Tensor", 20, ⟨"MeasuredTensors$Measure", "<init>", "()V"⟩, "MeasuredTensors")]
def jx_arr : List String := ["MeasuredTensors$Index", "MeasuredTensors$Tensor"]
def jb_X (H0 : Heap) (U : State) : Prop := (vx_Zq "java/lang/Throwable" "UNASSIGNED_STACK" "[Ljava/lang/StackTraceElement;" (fun q => H0.size ≤ q) U H0 ∧ vx_Zq "java/lang/Throwable" "SUPPRESSED_SENTINEL" "Ljava/util/List;" (fun q => H0.size ≤ q) U H0) ∧ (∀ q ∈ jx_cast, q.before #[] U = true) ∧ (∀ q ∈ jx_nc, va_Nc q.1 q.2 U) ∧ (∀ q ∈ jx_str, ∃ a, vk_R q.1 q.2.1 q.2.2 a U) ∧ (∀ C ∈ jx_arr, va_AO C U) ∧ ∀ q ∈ jx_nest, va_Nw (.methodLinkNest q.1 q.2.1 q.2.2.1 q.2.2.2) U
theorem jb_X.moved {H0 : Heap} {u U : State} (hW : u.WarmedH U.vm) (h : jb_X H0 u) : jb_X H0 U := ⟨⟨vx_Zq.moved hW.alike h.1.1, vx_Zq.moved hW.alike h.1.2⟩, fun q hq => va_tabs (jx_cast_st q hq).2 (rfl : (u.setVm U.vm).vm = U.vm) (jx_st_at hW (jx_cast_st q hq).1 (h.2.1 q hq)), fun q hq => va_Nc.moved hW.alike (h.2.2.1 q hq), fun q hq => by obtain ⟨a, ha⟩ := h.2.2.2.1 q hq; exact ⟨a, vk_R.warm hW ha⟩, fun C hC => va_AO.moved hW.alike (h.2.2.2.2.1 C hC), fun q hq => va_Nw.warmM hW (h.2.2.2.2.2 q hq)⟩
theorem jw_M : ∀ c ∈ u_ws jn_M jf_M 3, c ∈ jw_all := by decide +kernel
theorem jw_S : ∀ c ∈ u_ws jn_S jf_S 2, c ∈ jw_all := by decide +kernel
theorem jw_T : ∀ c ∈ u_ws jn_T jf_T 13, c ∈ jw_all := by decide +kernel
theorem jw_I : ∀ c ∈ u_ws jn_I jf_I 2, c ∈ jw_all := by decide +kernel
theorem jw_X : ∀ c ∈ u_ws jn_X jf_X 10, c ∈ jw_all := by decide +kernel
theorem jw_Y : ∀ c ∈ u_ws jn_Y jf_Y 27, c ∈ jw_all := by decide +kernel
