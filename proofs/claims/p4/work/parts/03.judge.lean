/-! THE JUDGEMENT: the heap holds a world w (a function from addresses to cells) above the heap H0 that the law began with; every method may change what lies above H0. -/
section JA0
/-- the heap H holds the world w, has sz cells, and lies below H0.size as H0 does -/
def ja_H (D : va_G) (cl : List vw_C) (H0 : Heap) (w : Nat → Option va_E) (sz : Nat) (H : Heap) : Prop :=
  H.size = sz ∧ H0.size ≤ sz ∧ (∀ a : Nat, a < H0.size → H[a]? = H0[a]?) ∧ ∀ (a : Nat) (x : va_E), w a = some x → H0.size ≤ a ∧ va_at D cl (a, x) H
theorem ja_H.lt {D : va_G} {cl : List vw_C} {H0 : Heap} {w : Nat → Option va_E} {sz : Nat} {H : Heap} (h : ja_H D cl H0 w sz H) {a : Nat} {x : va_E} (ha : w a = some x) : a < sz := by
  have h1 := (h.2.2.2 a x ha).2.lt
  rw [h.1] at h1
  exact h1
theorem ja_H.put {D : va_G} {cl : List vw_C} {H0 : Heap} {w : Nat → Option va_E} {sz : Nat} {H H1 : Heap} (h : ja_H D cl H0 w sz H) {a : Nat} {x x' : va_E} (ha : w a = some x) (hx : va_at D cl (a, x') H1) (z : H1.size = H.size) (oq : ∀ q : Nat, q ≠ a → H1[q]? = H[q]?) : ja_H D cl H0 (va_up w a (some x')) sz H1 := by
  obtain ⟨h1, h2, h3, h4⟩ := h
  have hb := (h4 a x ha).1
  refine ⟨z.trans h1, h2, fun q hq => (oq q (by omega)).trans (h3 q hq), fun q y hy => ?_⟩
  by_cases e : q = a
  · subst e
    rw [va_up_self] at hy
    cases hy
    exact ⟨hb, hx⟩
  · rw [va_up_ne _ _ e] at hy
    exact ⟨(h4 q y hy).1, (h4 q y hy).2.kept (oq q e)⟩
theorem ja_H.new {D : va_G} {cl : List vw_C} {H0 : Heap} {w : Nat → Option va_E} {sz : Nat} {H H1 : Heap} (h : ja_H D cl H0 w sz H) {x' : va_E} (hx : va_at D cl (sz, x') H1) (z : H1.size = sz + 1) (oq : ∀ q : Nat, q < sz → H1[q]? = H[q]?) : ja_H D cl H0 (va_up w sz (some x')) (sz + 1) H1 := by
  obtain ⟨h1, h2, h3, h4⟩ := id h
  refine ⟨z, by omega, fun q hq => (oq q (by omega)).trans (h3 q hq), fun q y hy => ?_⟩
  by_cases e : q = sz
  · subst e
    rw [va_up_self] at hy
    cases hy
    exact ⟨h2, hx⟩
  · rw [va_up_ne _ _ e] at hy
    exact ⟨(h4 q y hy).1, (h4 q y hy).2.kept (oq q (h.lt hy))⟩
theorem ja_H.sub {D : va_G} {cl : List vw_C} {H0 : Heap} {w w' : Nat → Option va_E} {sz : Nat} {H : Heap} (h : ja_H D cl H0 w sz H) (hw : ∀ a x, w' a = some x → w a = some x) : ja_H D cl H0 w' sz H := ⟨h.1, h.2.1, h.2.2.1, fun a x hx => h.2.2.2 a x (hw a x hx)⟩
theorem ja_H.grow {D : va_G} {cl : List vw_C} {H0 : Heap} {w : Nat → Option va_E} {sz : Nat} {H H1 : Heap} (h : ja_H D cl H0 w sz H) (z : H.size ≤ H1.size) (oq : ∀ q : Nat, q < H.size → H1[q]? = H[q]?) : ja_H D cl H0 w H1.size H1 := by
  obtain ⟨h1, h2, h3, h4⟩ := id h
  exact ⟨rfl, by omega, fun q hq => (oq q (by omega)).trans (h3 q hq), fun q y hy => ⟨(h4 q y hy).1, (h4 q y hy).2.kept (oq q (by rw [h1]; exact h.lt hy))⟩⟩
end JA0
/-- where a walk stands: the machine, its room, the method's start, its end, its size of locals, its class, its words; the classes' numbers, the heap that the law began with, the array classes -/
abbrev ja_G : Type := (Program × Launch × Env × Room × State) × (MethodId × Array Value × List Frame × Method × Code) × ((State → Prop) × Nat × String) × (va_G × List vw_C × Heap × List (ClassId × FieldType))
abbrev ja_W (g : ja_G) (H : Heap) (locs : List Loc) (cells slots : Nat) (fr : JFrame) : Prop :=
  W g.1.1 g.1.2.1 g.1.2.2.1 g.1.2.2.2.1 g.1.2.2.2.2 g.2.1.1 g.2.1.2.1 g.2.1.2.2.1 g.2.1.2.2.2.1 g.2.1.2.2.2.2 H locs cells slots g.2.2.1.1 fr
abbrev ja_R (g : ja_G) : Room := g.1.2.2.2.1
abbrev ja_s (g : ja_G) : State := g.1.2.2.2.2
abbrev ja_m (g : ja_G) : MethodId := g.2.1.1
abbrev ja_a (g : ja_G) : Array Value := g.2.1.2.1
abbrev ja_c (g : ja_G) : Code := g.2.1.2.2.2.2
abbrev ja_n (g : ja_G) : Nat := g.2.2.1.2.1
abbrev ja_o (g : ja_G) : String := g.2.2.1.2.2
abbrev ja_D (g : ja_G) : va_G := g.2.2.2.1
abbrev ja_l (g : ja_G) : List vw_C := g.2.2.2.2.1
abbrev ja_0 (g : ja_G) : Heap := g.2.2.2.2.2.1
abbrev ja_t (g : ja_G) : List (ClassId × FieldType) := g.2.2.2.2.2.2
/-- what every row needs of it -/
abbrev ja_C (g : ja_G) (cc : ByteArray) : Prop := CallFix g.1.1 (ja_m g) (ja_c g) cc (ja_n g) (ja_s g) (ja_a g) jw_all (ja_o g) ∧ va_K (ja_D g) (ja_l g) (ja_t g) (ja_s g)
/-- THE JUDGEMENT: with the world w in a heap of sz cells, kc cells and ks slots left, at pc with the locals lv and the operands st, the walk comes to its end -/
def ja (g : ja_G) (w : Nat → Option va_E) (sz kc ks pc : Nat) (lv : List (Nat × Value)) (st : List Value) : Prop :=
  ∀ (H : Heap) (locs : List Loc) (cells slots : Nat) (ls : Array Slot), ja_H (ja_D g) (ja_l g) (ja_0 g) w sz H → (∀ q ∈ locs, (ja_0 g).size ≤ q.base) → cells + kc ≤ (ja_R g).cells → slots + ks ≤ (ja_R g).slots → lv_has ls (ja_n g) lv → ja_W g H locs cells slots (F0 (ja_m g) pc ls st)
section JA1
variable {g : ja_G} {cc : ByteArray} {w : Nat → Option va_E} {sz kc ks pc : Nat} {lv : List (Nat × Value)} {rest : List Value}
theorem ja_less {kc' ks' : Nat} (h1 : kc' ≤ kc) (h2 : ks' ≤ ks) {st : List Value} (k : ja g w sz kc' ks' pc lv st) : ja g w sz kc ks pc lv st := fun H locs cells slots ls a1 a2 a3 a4 hl => k H locs cells slots ls a1 a2 (by omega) (by omega) hl
theorem ja_world {w' : Nat → Option va_E} (hw : w' = w) {st : List Value} (k : ja g w' sz kc ks pc lv st) : ja g w sz kc ks pc lv st := hw ▸ k
theorem ja_lv {lv' : List (Nat × Value)} (h : ∀ q ∈ lv', q ∈ lv) {st : List Value} (k : ja g w sz kc ks pc lv' st) : ja g w sz kc ks pc lv st := fun H locs cells slots ls a1 a2 a3 a4 hl => k H locs cells slots ls a1 a2 a3 a4 ⟨hl.1, hl.2.1, fun q hq => hl.2.2 q (h q hq)⟩
theorem ja_st {st st' : List Value} (h : st = st') (k : ja g w sz kc ks pc lv st') : ja g w sz kc ks pc lv st := h ▸ k

theorem ja_iconst (C : ja_C g cc) {n : Int} (v : Int32) (hd : decode cc pc = .ok (.iconst n, 1)) (hv : Int32.ofInt n = v) (k : ja g w sz kc ks (pc + 1) lv (.int v :: rest)) : ja g w sz kc ks pc lv (rest) :=
  fun H locs cells slots ls a1 a2 a3 a4 hl => lv_iconst C.1.1 C.1.2.1 hd hv (k H locs cells slots ls a1 a2 a3 a4 hl)
theorem ja_bipush (C : ja_C g cc) {n : Int} (v : Int32) (hd : decode cc pc = .ok (.bipush n, 2)) (hv : (Int8.ofInt n).toInt32 = v) (k : ja g w sz kc ks (pc + 2) lv (.int v :: rest)) : ja g w sz kc ks pc lv (rest) :=
  fun H locs cells slots ls a1 a2 a3 a4 hl => lv_bipush C.1.1 C.1.2.1 hd hv (k H locs cells slots ls a1 a2 a3 a4 hl)
theorem ja_sipush (C : ja_C g cc) {n : Int} (v : Int32) (hd : decode cc pc = .ok (.sipush n, 3)) (hv : (Int16.ofInt n).toInt32 = v) (k : ja g w sz kc ks (pc + 3) lv (.int v :: rest)) : ja g w sz kc ks pc lv (rest) :=
  fun H locs cells slots ls a1 a2 a3 a4 hl => lv_sipush C.1.1 C.1.2.1 hd hv (k H locs cells slots ls a1 a2 a3 a4 hl)
theorem ja_lconst (C : ja_C g cc) {n : Fin 2} (v : Int64) (hd : decode cc pc = .ok (.lconst n, 1)) (hv : Int64.ofNat (n : Nat) = v) (k : ja g w sz kc ks (pc + 1) lv (.long v :: rest)) : ja g w sz kc ks pc lv (rest) :=
  fun H locs cells slots ls a1 a2 a3 a4 hl => lv_lconst C.1.1 C.1.2.1 hd hv (k H locs cells slots ls a1 a2 a3 a4 hl)
theorem ja_null (C : ja_C g cc) (hd : decode cc pc = .ok (.aconst_null, 1)) (k : ja g w sz kc ks (pc + 1) lv (.null :: rest)) : ja g w sz kc ks pc lv rest := fun H locs cells slots ls a1 a2 a3 a4 hl => lv_null C.1.1 C.1.2.1 hd (k H locs cells slots ls a1 a2 a3 a4 hl)
theorem ja_ldc (C : ja_C g cc) {index : Nat} (v : Int32) (hc : Cond.constant (ja_o g) index v ∈ jw_all) (hd : decode cc pc = .ok (.ldc index, 2)) (k : ja g w sz kc ks (pc + 2) lv (.int v :: rest)) : ja g w sz kc ks pc lv rest := fun H locs cells slots ls a1 a2 a3 a4 hl => lv_ldc C.1.1 C.1.2.1 C.1.2.2.2.1 (C.1.2.2.2.2 _ hc) hd (k H locs cells slots ls a1 a2 a3 a4 hl)
theorem ja_ldc2 (C : ja_C g cc) {index : Nat} (v : Int64) (hc : Cond.constantLong (ja_o g) index v ∈ jw_all) (hd : decode cc pc = .ok (.ldc2_w index, 3)) (k : ja g w sz kc ks (pc + 3) lv (.long v :: rest)) : ja g w sz kc ks pc lv rest := fun H locs cells slots ls a1 a2 a3 a4 hl => lv_ldc2 C.1.1 C.1.2.1 C.1.2.2.2.1 (C.1.2.2.2.2 _ hc) hd (k H locs cells slots ls a1 a2 a3 a4 hl)
theorem ja_iload_n (C : ja_C g cc) {j : Fin 4} {x : Int32} (hd : decode cc pc = .ok (.iload_n j, 1)) (q : Nat) (hq : lv[q]? = some ((j : Nat), .int x)) (k : ja g w sz kc ks (pc + 1) lv (.int x :: rest)) : ja g w sz kc ks pc lv rest :=
  fun H locs cells slots ls a1 a2 a3 a4 hl => lv_iload_n C.1.1 C.1.2.1 hd rfl (lv_at hl q hq) (k H locs cells slots ls a1 a2 a3 a4 hl)
theorem ja_iload (C : ja_C g cc) {j : Nat} {x : Int32} (hd : decode cc pc = .ok (.iload j, 2)) (q : Nat) (hq : lv[q]? = some (j, .int x)) (k : ja g w sz kc ks (pc + 2) lv (.int x :: rest)) : ja g w sz kc ks pc lv rest :=
  fun H locs cells slots ls a1 a2 a3 a4 hl => lv_iload C.1.1 C.1.2.1 hd (lv_at hl q hq) (k H locs cells slots ls a1 a2 a3 a4 hl)
theorem ja_lload_n (C : ja_C g cc) {j : Fin 4} {x : Int64} (hd : decode cc pc = .ok (.lload_n j, 1)) (q : Nat) (hq : lv[q]? = some ((j : Nat), .long x)) (k : ja g w sz kc ks (pc + 1) lv (.long x :: rest)) : ja g w sz kc ks pc lv rest :=
  fun H locs cells slots ls a1 a2 a3 a4 hl => lv_lload_n C.1.1 C.1.2.1 hd rfl (lv_at hl q hq) (k H locs cells slots ls a1 a2 a3 a4 hl)
theorem ja_lload (C : ja_C g cc) {j : Nat} {x : Int64} (hd : decode cc pc = .ok (.lload j, 2)) (q : Nat) (hq : lv[q]? = some (j, .long x)) (k : ja g w sz kc ks (pc + 2) lv (.long x :: rest)) : ja g w sz kc ks pc lv rest :=
  fun H locs cells slots ls a1 a2 a3 a4 hl => lv_lload C.1.1 C.1.2.1 hd (lv_at hl q hq) (k H locs cells slots ls a1 a2 a3 a4 hl)
theorem ja_aload_n (C : ja_C g cc) {j : Fin 4} {x : Nat} (hd : decode cc pc = .ok (.aload_n j, 1)) (q : Nat) (hq : lv[q]? = some ((j : Nat), .ref x)) (k : ja g w sz kc ks (pc + 1) lv (.ref x :: rest)) : ja g w sz kc ks pc lv rest :=
  fun H locs cells slots ls a1 a2 a3 a4 hl => lv_aload_n C.1.1 C.1.2.1 hd rfl (lv_at hl q hq) (k H locs cells slots ls a1 a2 a3 a4 hl)
theorem ja_aload (C : ja_C g cc) {j : Nat} {x : Nat} (hd : decode cc pc = .ok (.aload j, 2)) (q : Nat) (hq : lv[q]? = some (j, .ref x)) (k : ja g w sz kc ks (pc + 2) lv (.ref x :: rest)) : ja g w sz kc ks pc lv rest :=
  fun H locs cells slots ls a1 a2 a3 a4 hl => lv_aload C.1.1 C.1.2.1 hd (lv_at hl q hq) (k H locs cells slots ls a1 a2 a3 a4 hl)
theorem ja_aload_nN (C : ja_C g cc) {j : Fin 4} (hd : decode cc pc = .ok (.aload_n j, 1)) (q : Nat) (hq : lv[q]? = some ((j : Nat), .null)) (k : ja g w sz kc ks (pc + 1) lv (.null :: rest)) : ja g w sz kc ks pc lv rest :=
  fun H locs cells slots ls a1 a2 a3 a4 hl => lv_aload_nN C.1.1 C.1.2.1 hd rfl (lv_at hl q hq) (k H locs cells slots ls a1 a2 a3 a4 hl)
theorem ja_aloadN (C : ja_C g cc) {j : Nat} (hd : decode cc pc = .ok (.aload j, 2)) (q : Nat) (hq : lv[q]? = some (j, .null)) (k : ja g w sz kc ks (pc + 2) lv (.null :: rest)) : ja g w sz kc ks pc lv rest :=
  fun H locs cells slots ls a1 a2 a3 a4 hl => lv_aloadN C.1.1 C.1.2.1 hd (lv_at hl q hq) (k H locs cells slots ls a1 a2 a3 a4 hl)
theorem ja_istore_n (C : ja_C g cc) {j : Fin 4} {i : Nat} {x : Int32} (lv' : List (Nat × Value)) (hd : decode cc pc = .ok (.istore_n j, 1)) (hi : (j : Nat) = i) (hn : i < ja_n g) (hv : (i, Value.int x) :: lv.filter (fun q => !(q.1 == i) && !(q.1 + 1 == i && q.2.category == 2)) = lv') (k : ja g w sz kc ks (pc + 1) lv' rest) : ja g w sz kc ks pc lv (.int x :: rest) :=
  fun H locs cells slots ls a1 a2 a3 a4 hl => lv_istore_n C.1.1 C.1.2.1 hd hi hl hn hv (fun ls hl => k H locs cells slots ls a1 a2 a3 a4 hl)
theorem ja_istore (C : ja_C g cc) {i : Nat} {x : Int32} (lv' : List (Nat × Value)) (hd : decode cc pc = .ok (.istore i, 2)) (hn : i < ja_n g) (hv : (i, Value.int x) :: lv.filter (fun q => !(q.1 == i) && !(q.1 + 1 == i && q.2.category == 2)) = lv') (k : ja g w sz kc ks (pc + 2) lv' rest) : ja g w sz kc ks pc lv (.int x :: rest) :=
  fun H locs cells slots ls a1 a2 a3 a4 hl => lv_istore C.1.1 C.1.2.1 hd hl hn hv (fun ls hl => k H locs cells slots ls a1 a2 a3 a4 hl)
theorem ja_lstore_n (C : ja_C g cc) {j : Fin 4} {i : Nat} {x : Int64} (lv' : List (Nat × Value)) (hd : decode cc pc = .ok (.lstore_n j, 1)) (hi : (j : Nat) = i) (hn : i + 1 < ja_n g) (hv : (i, Value.long x) :: lv.filter (fun q => !(q.1 == i) && (!(q.1 == i + 1) && !(q.1 + 1 == i && q.2.category == 2))) = lv') (k : ja g w sz kc ks (pc + 1) lv' rest) : ja g w sz kc ks pc lv (.long x :: rest) :=
  fun H locs cells slots ls a1 a2 a3 a4 hl => lv_lstore_n C.1.1 C.1.2.1 hd hi hl hn hv (fun ls hl => k H locs cells slots ls a1 a2 a3 a4 hl)
theorem ja_lstore (C : ja_C g cc) {i : Nat} {x : Int64} (lv' : List (Nat × Value)) (hd : decode cc pc = .ok (.lstore i, 2)) (hn : i + 1 < ja_n g) (hv : (i, Value.long x) :: lv.filter (fun q => !(q.1 == i) && (!(q.1 == i + 1) && !(q.1 + 1 == i && q.2.category == 2))) = lv') (k : ja g w sz kc ks (pc + 2) lv' rest) : ja g w sz kc ks pc lv (.long x :: rest) :=
  fun H locs cells slots ls a1 a2 a3 a4 hl => lv_lstore C.1.1 C.1.2.1 hd hl hn hv (fun ls hl => k H locs cells slots ls a1 a2 a3 a4 hl)
theorem ja_astore_n (C : ja_C g cc) {j : Fin 4} {i : Nat} {x : Nat} (lv' : List (Nat × Value)) (hd : decode cc pc = .ok (.astore_n j, 1)) (hi : (j : Nat) = i) (hn : i < ja_n g) (hv : (i, Value.ref x) :: lv.filter (fun q => !(q.1 == i) && !(q.1 + 1 == i && q.2.category == 2)) = lv') (k : ja g w sz kc ks (pc + 1) lv' rest) : ja g w sz kc ks pc lv (.ref x :: rest) :=
  fun H locs cells slots ls a1 a2 a3 a4 hl => lv_astore_n C.1.1 C.1.2.1 hd hi hl hn hv (fun ls hl => k H locs cells slots ls a1 a2 a3 a4 hl)
theorem ja_astore (C : ja_C g cc) {i : Nat} {x : Nat} (lv' : List (Nat × Value)) (hd : decode cc pc = .ok (.astore i, 2)) (hn : i < ja_n g) (hv : (i, Value.ref x) :: lv.filter (fun q => !(q.1 == i) && !(q.1 + 1 == i && q.2.category == 2)) = lv') (k : ja g w sz kc ks (pc + 2) lv' rest) : ja g w sz kc ks pc lv (.ref x :: rest) :=
  fun H locs cells slots ls a1 a2 a3 a4 hl => lv_astore C.1.1 C.1.2.1 hd hl hn hv (fun ls hl => k H locs cells slots ls a1 a2 a3 a4 hl)
theorem ja_astore_nN (C : ja_C g cc) {j : Fin 4} {i : Nat} (lv' : List (Nat × Value)) (hd : decode cc pc = .ok (.astore_n j, 1)) (hi : (j : Nat) = i) (hn : i < ja_n g) (hv : (i, Value.null) :: lv.filter (fun q => !(q.1 == i) && !(q.1 + 1 == i && q.2.category == 2)) = lv') (k : ja g w sz kc ks (pc + 1) lv' rest) : ja g w sz kc ks pc lv (.null :: rest) :=
  fun H locs cells slots ls a1 a2 a3 a4 hl => lv_astore_nN C.1.1 C.1.2.1 hd hi hl hn hv (fun ls hl => k H locs cells slots ls a1 a2 a3 a4 hl)
theorem ja_astoreN (C : ja_C g cc) {i : Nat} (lv' : List (Nat × Value)) (hd : decode cc pc = .ok (.astore i, 2)) (hn : i < ja_n g) (hv : (i, Value.null) :: lv.filter (fun q => !(q.1 == i) && !(q.1 + 1 == i && q.2.category == 2)) = lv') (k : ja g w sz kc ks (pc + 2) lv' rest) : ja g w sz kc ks pc lv (.null :: rest) :=
  fun H locs cells slots ls a1 a2 a3 a4 hl => lv_astoreN C.1.1 C.1.2.1 hd hl hn hv (fun ls hl => k H locs cells slots ls a1 a2 a3 a4 hl)
theorem ja_iinc (C : ja_C g cc) {i : Nat} {n : Int} {x : Int32} (v : Int32) (lv' : List (Nat × Value)) (hd : decode cc pc = .ok (.iinc i n, 3)) (q : Nat) (hq : lv[q]? = some (i, .int x)) (hx : x + Int32.ofInt n = v) (hn : i < ja_n g) (hv : (i, Value.int v) :: lv.filter (fun q => !(q.1 == i) && !(q.1 + 1 == i && q.2.category == 2)) = lv') (k : ja g w sz kc ks (pc + 3) lv' rest) : ja g w sz kc ks pc lv rest :=
  fun H locs cells slots ls a1 a2 a3 a4 hl => lv_iinc C.1.1 C.1.2.1 hd hl hq hx hn hv (fun ls hl => k H locs cells slots ls a1 a2 a3 a4 hl)
theorem ja_iadd (C : ja_C g cc) {x y : Int32} (hd : decode cc pc = .ok (.iadd, 1)) (k : ja g w sz kc ks (pc + 1) lv (.int (x + y) :: rest)) : ja g w sz kc ks pc lv (.int y :: .int x :: rest) :=
  fun H locs cells slots ls a1 a2 a3 a4 hl => lv_iadd C.1.1 C.1.2.1 hd (k H locs cells slots ls a1 a2 a3 a4 hl)
theorem ja_isub (C : ja_C g cc) {x y : Int32} (hd : decode cc pc = .ok (.isub, 1)) (k : ja g w sz kc ks (pc + 1) lv (.int (x - y) :: rest)) : ja g w sz kc ks pc lv (.int y :: .int x :: rest) :=
  fun H locs cells slots ls a1 a2 a3 a4 hl => lv_isub C.1.1 C.1.2.1 hd (k H locs cells slots ls a1 a2 a3 a4 hl)
theorem ja_imul (C : ja_C g cc) {x y : Int32} (hd : decode cc pc = .ok (.imul, 1)) (k : ja g w sz kc ks (pc + 1) lv (.int (x * y) :: rest)) : ja g w sz kc ks pc lv (.int y :: .int x :: rest) :=
  fun H locs cells slots ls a1 a2 a3 a4 hl => lv_imul C.1.1 C.1.2.1 hd (k H locs cells slots ls a1 a2 a3 a4 hl)
theorem ja_iand (C : ja_C g cc) {x y : Int32} (hd : decode cc pc = .ok (.iand, 1)) (k : ja g w sz kc ks (pc + 1) lv (.int (x &&& y) :: rest)) : ja g w sz kc ks pc lv (.int y :: .int x :: rest) :=
  fun H locs cells slots ls a1 a2 a3 a4 hl => lv_iand C.1.1 C.1.2.1 hd (k H locs cells slots ls a1 a2 a3 a4 hl)
theorem ja_ior (C : ja_C g cc) {x y : Int32} (hd : decode cc pc = .ok (.ior, 1)) (k : ja g w sz kc ks (pc + 1) lv (.int (x ||| y) :: rest)) : ja g w sz kc ks pc lv (.int y :: .int x :: rest) :=
  fun H locs cells slots ls a1 a2 a3 a4 hl => lv_ior C.1.1 C.1.2.1 hd (k H locs cells slots ls a1 a2 a3 a4 hl)
theorem ja_ixor (C : ja_C g cc) {x y : Int32} (hd : decode cc pc = .ok (.ixor, 1)) (k : ja g w sz kc ks (pc + 1) lv (.int (x ^^^ y) :: rest)) : ja g w sz kc ks pc lv (.int y :: .int x :: rest) :=
  fun H locs cells slots ls a1 a2 a3 a4 hl => lv_ixor C.1.1 C.1.2.1 hd (k H locs cells slots ls a1 a2 a3 a4 hl)
theorem ja_ishl (C : ja_C g cc) {x y : Int32} (hd : decode cc pc = .ok (.ishl, 1)) (k : ja g w sz kc ks (pc + 1) lv (.int (x <<< (y &&& 31)) :: rest)) : ja g w sz kc ks pc lv (.int y :: .int x :: rest) :=
  fun H locs cells slots ls a1 a2 a3 a4 hl => lv_ishl C.1.1 C.1.2.1 hd (k H locs cells slots ls a1 a2 a3 a4 hl)
theorem ja_ishr (C : ja_C g cc) {x y : Int32} (hd : decode cc pc = .ok (.ishr, 1)) (k : ja g w sz kc ks (pc + 1) lv (.int (x >>> (y &&& 31)) :: rest)) : ja g w sz kc ks pc lv (.int y :: .int x :: rest) :=
  fun H locs cells slots ls a1 a2 a3 a4 hl => lv_ishr C.1.1 C.1.2.1 hd (k H locs cells slots ls a1 a2 a3 a4 hl)
theorem ja_ladd (C : ja_C g cc) {x y : Int64} (hd : decode cc pc = .ok (.ladd, 1)) (k : ja g w sz kc ks (pc + 1) lv (.long (x + y) :: rest)) : ja g w sz kc ks pc lv (.long y :: .long x :: rest) :=
  fun H locs cells slots ls a1 a2 a3 a4 hl => lv_ladd C.1.1 C.1.2.1 hd (k H locs cells slots ls a1 a2 a3 a4 hl)
theorem ja_lsub (C : ja_C g cc) {x y : Int64} (hd : decode cc pc = .ok (.lsub, 1)) (k : ja g w sz kc ks (pc + 1) lv (.long (x - y) :: rest)) : ja g w sz kc ks pc lv (.long y :: .long x :: rest) :=
  fun H locs cells slots ls a1 a2 a3 a4 hl => lv_lsub C.1.1 C.1.2.1 hd (k H locs cells slots ls a1 a2 a3 a4 hl)
theorem ja_lmul (C : ja_C g cc) {x y : Int64} (hd : decode cc pc = .ok (.lmul, 1)) (k : ja g w sz kc ks (pc + 1) lv (.long (x * y) :: rest)) : ja g w sz kc ks pc lv (.long y :: .long x :: rest) :=
  fun H locs cells slots ls a1 a2 a3 a4 hl => lv_lmul C.1.1 C.1.2.1 hd (k H locs cells slots ls a1 a2 a3 a4 hl)
theorem ja_land (C : ja_C g cc) {x y : Int64} (hd : decode cc pc = .ok (.land, 1)) (k : ja g w sz kc ks (pc + 1) lv (.long (x &&& y) :: rest)) : ja g w sz kc ks pc lv (.long y :: .long x :: rest) :=
  fun H locs cells slots ls a1 a2 a3 a4 hl => lv_land C.1.1 C.1.2.1 hd (k H locs cells slots ls a1 a2 a3 a4 hl)
theorem ja_lor (C : ja_C g cc) {x y : Int64} (hd : decode cc pc = .ok (.lor, 1)) (k : ja g w sz kc ks (pc + 1) lv (.long (x ||| y) :: rest)) : ja g w sz kc ks pc lv (.long y :: .long x :: rest) :=
  fun H locs cells slots ls a1 a2 a3 a4 hl => lv_lor C.1.1 C.1.2.1 hd (k H locs cells slots ls a1 a2 a3 a4 hl)
theorem ja_lxor (C : ja_C g cc) {x y : Int64} (hd : decode cc pc = .ok (.lxor, 1)) (k : ja g w sz kc ks (pc + 1) lv (.long (x ^^^ y) :: rest)) : ja g w sz kc ks pc lv (.long y :: .long x :: rest) :=
  fun H locs cells slots ls a1 a2 a3 a4 hl => lv_lxor C.1.1 C.1.2.1 hd (k H locs cells slots ls a1 a2 a3 a4 hl)
theorem ja_idiv (C : ja_C g cc) {x y : Int32} (hd : decode cc pc = .ok (.idiv, 1)) (hne : ¬ y = 0) (k : ja g w sz kc ks (pc + 1) lv (.int (x / y) :: rest)) : ja g w sz kc ks pc lv (.int y :: .int x :: rest) :=
  fun H locs cells slots ls a1 a2 a3 a4 hl => lv_idiv C.1.1 C.1.2.1 hd hne (k H locs cells slots ls a1 a2 a3 a4 hl)
theorem ja_irem (C : ja_C g cc) {x y : Int32} (hd : decode cc pc = .ok (.irem, 1)) (hne : ¬ y = 0) (k : ja g w sz kc ks (pc + 1) lv (.int (x - x / y * y) :: rest)) : ja g w sz kc ks pc lv (.int y :: .int x :: rest) :=
  fun H locs cells slots ls a1 a2 a3 a4 hl => lv_irem C.1.1 C.1.2.1 hd hne (k H locs cells slots ls a1 a2 a3 a4 hl)
theorem ja_ldiv (C : ja_C g cc) {x y : Int64} (hd : decode cc pc = .ok (.ldiv, 1)) (hne : ¬ y = 0) (k : ja g w sz kc ks (pc + 1) lv (.long (x / y) :: rest)) : ja g w sz kc ks pc lv (.long y :: .long x :: rest) :=
  fun H locs cells slots ls a1 a2 a3 a4 hl => lv_ldiv C.1.1 C.1.2.1 hd hne (k H locs cells slots ls a1 a2 a3 a4 hl)
theorem ja_lrem (C : ja_C g cc) {x y : Int64} (hd : decode cc pc = .ok (.lrem, 1)) (hne : ¬ y = 0) (k : ja g w sz kc ks (pc + 1) lv (.long (x - x / y * y) :: rest)) : ja g w sz kc ks pc lv (.long y :: .long x :: rest) :=
  fun H locs cells slots ls a1 a2 a3 a4 hl => lv_lrem C.1.1 C.1.2.1 hd hne (k H locs cells slots ls a1 a2 a3 a4 hl)
theorem ja_ineg (C : ja_C g cc) {x : Int32} (hd : decode cc pc = .ok (.ineg, 1)) (k : ja g w sz kc ks (pc + 1) lv (.int (-x) :: rest)) : ja g w sz kc ks pc lv (.int x :: rest) :=
  fun H locs cells slots ls a1 a2 a3 a4 hl => lv_ineg C.1.1 C.1.2.1 hd (k H locs cells slots ls a1 a2 a3 a4 hl)
theorem ja_lneg (C : ja_C g cc) {x : Int64} (hd : decode cc pc = .ok (.lneg, 1)) (k : ja g w sz kc ks (pc + 1) lv (.long (-x) :: rest)) : ja g w sz kc ks pc lv (.long x :: rest) :=
  fun H locs cells slots ls a1 a2 a3 a4 hl => lv_lneg C.1.1 C.1.2.1 hd (k H locs cells slots ls a1 a2 a3 a4 hl)
theorem ja_i2l (C : ja_C g cc) {x : Int32} (hd : decode cc pc = .ok (.i2l, 1)) (k : ja g w sz kc ks (pc + 1) lv (.long x.toInt64 :: rest)) : ja g w sz kc ks pc lv (.int x :: rest) :=
  fun H locs cells slots ls a1 a2 a3 a4 hl => lv_i2l C.1.1 C.1.2.1 hd rfl (k H locs cells slots ls a1 a2 a3 a4 hl)
theorem ja_l2i (C : ja_C g cc) {x : Int64} (hd : decode cc pc = .ok (.l2i, 1)) (k : ja g w sz kc ks (pc + 1) lv (.int x.toInt32 :: rest)) : ja g w sz kc ks pc lv (.long x :: rest) :=
  fun H locs cells slots ls a1 a2 a3 a4 hl => lv_l2i C.1.1 C.1.2.1 hd rfl (k H locs cells slots ls a1 a2 a3 a4 hl)
theorem ja_lshl (C : ja_C g cc) {x : Int64} {y : Int32} (hd : decode cc pc = .ok (.lshl, 1)) (k : ja g w sz kc ks (pc + 1) lv (.long (x <<< (y.toInt64 &&& 63)) :: rest)) : ja g w sz kc ks pc lv (.int y :: .long x :: rest) :=
  fun H locs cells slots ls a1 a2 a3 a4 hl => lv_lshl C.1.1 C.1.2.1 hd rfl (k H locs cells slots ls a1 a2 a3 a4 hl)
theorem ja_lshr (C : ja_C g cc) {x : Int64} {y : Int32} (hd : decode cc pc = .ok (.lshr, 1)) (k : ja g w sz kc ks (pc + 1) lv (.long (x >>> (y.toInt64 &&& 63)) :: rest)) : ja g w sz kc ks pc lv (.int y :: .long x :: rest) :=
  fun H locs cells slots ls a1 a2 a3 a4 hl => lv_lshr C.1.1 C.1.2.1 hd rfl (k H locs cells slots ls a1 a2 a3 a4 hl)
theorem ja_dup (C : ja_C g cc) {va : Value} (hd : decode cc pc = .ok (.dup, 1)) (h1 : va.category = 1) (k : ja g w sz kc ks (pc + 1) lv (va :: va :: rest)) : ja g w sz kc ks pc lv (va :: rest) :=
  fun H locs cells slots ls a1 a2 a3 a4 hl => lv_dup C.1.1 C.1.2.1 hd h1 (k H locs cells slots ls a1 a2 a3 a4 hl)
theorem ja_pop (C : ja_C g cc) {va : Value} (hd : decode cc pc = .ok (.pop, 1)) (h1 : va.category = 1) (k : ja g w sz kc ks (pc + 1) lv (rest)) : ja g w sz kc ks pc lv (va :: rest) :=
  fun H locs cells slots ls a1 a2 a3 a4 hl => lv_pop C.1.1 C.1.2.1 hd h1 (k H locs cells slots ls a1 a2 a3 a4 hl)
theorem ja_dup_x1 (C : ja_C g cc) {va vb : Value} (hd : decode cc pc = .ok (.dup_x1, 1)) (h1 : va.category = 1) (h2 : vb.category = 1) (k : ja g w sz kc ks (pc + 1) lv (va :: vb :: va :: rest)) : ja g w sz kc ks pc lv (va :: vb :: rest) :=
  fun H locs cells slots ls a1 a2 a3 a4 hl => lv_dup_x1 C.1.1 C.1.2.1 hd h1 h2 (k H locs cells slots ls a1 a2 a3 a4 hl)
theorem ja_dup_x2 (C : ja_C g cc) {va vb vc : Value} (hd : decode cc pc = .ok (.dup_x2, 1)) (h1 : va.category = 1) (h2 : vb.category = 1) (h3 : vc.category = 1) (k : ja g w sz kc ks (pc + 1) lv (va :: vb :: vc :: va :: rest)) : ja g w sz kc ks pc lv (va :: vb :: vc :: rest) :=
  fun H locs cells slots ls a1 a2 a3 a4 hl => lv_dup_x2 C.1.1 C.1.2.1 hd h1 h2 h3 (k H locs cells slots ls a1 a2 a3 a4 hl)
theorem ja_dup2_11 (C : ja_C g cc) {va vb : Value} (hd : decode cc pc = .ok (.dup2, 1)) (h1 : va.category = 1) (h2 : vb.category = 1) (k : ja g w sz kc ks (pc + 1) lv (va :: vb :: va :: vb :: rest)) : ja g w sz kc ks pc lv (va :: vb :: rest) :=
  fun H locs cells slots ls a1 a2 a3 a4 hl => lv_dup2_11 C.1.1 C.1.2.1 hd h1 h2 (k H locs cells slots ls a1 a2 a3 a4 hl)
theorem ja_dup2_2 (C : ja_C g cc) {va : Value} (hd : decode cc pc = .ok (.dup2, 1)) (h1 : va.category = 2) (k : ja g w sz kc ks (pc + 1) lv (va :: va :: rest)) : ja g w sz kc ks pc lv (va :: rest) :=
  fun H locs cells slots ls a1 a2 a3 a4 hl => lv_dup2_2 C.1.1 C.1.2.1 hd h1 (k H locs cells slots ls a1 a2 a3 a4 hl)
theorem ja_if_eq (C : ja_C g cc) {x : Int32} {off : Int} (tgt : Nat) (hd : decode cc pc = .ok (.ifCond .eq off, 3)) (ht : (pc : Int) + off = (tgt : Int)) (kt : x = 0 → ja g w sz kc ks tgt lv rest) (kf : ¬ x = 0 → ja g w sz kc ks (pc + 3) lv rest) : ja g w sz kc ks pc lv (.int x :: rest) :=
  fun H locs cells slots ls a1 a2 a3 a4 hl => lv_if_eq C.1.1 C.1.2.1 hd ht (fun z => kt z H locs cells slots ls a1 a2 a3 a4 hl) (fun z => kf z H locs cells slots ls a1 a2 a3 a4 hl)
theorem ja_icmp_eq (C : ja_C g cc) {x y : Int32} {off : Int} (tgt : Nat) (hd : decode cc pc = .ok (.if_icmp .eq off, 3)) (ht : (pc : Int) + off = (tgt : Int)) (kt : x = y → ja g w sz kc ks tgt lv rest) (kf : ¬ x = y → ja g w sz kc ks (pc + 3) lv rest) : ja g w sz kc ks pc lv (.int y :: .int x :: rest) :=
  fun H locs cells slots ls a1 a2 a3 a4 hl => lv_icmp_eq C.1.1 C.1.2.1 hd ht (fun z => kt z H locs cells slots ls a1 a2 a3 a4 hl) (fun z => kf z H locs cells slots ls a1 a2 a3 a4 hl)
theorem ja_if_ne (C : ja_C g cc) {x : Int32} {off : Int} (tgt : Nat) (hd : decode cc pc = .ok (.ifCond .ne off, 3)) (ht : (pc : Int) + off = (tgt : Int)) (kt : ¬ x = 0 → ja g w sz kc ks tgt lv rest) (kf : x = 0 → ja g w sz kc ks (pc + 3) lv rest) : ja g w sz kc ks pc lv (.int x :: rest) :=
  fun H locs cells slots ls a1 a2 a3 a4 hl => lv_if_ne C.1.1 C.1.2.1 hd ht (fun z => kt z H locs cells slots ls a1 a2 a3 a4 hl) (fun z => kf z H locs cells slots ls a1 a2 a3 a4 hl)
theorem ja_icmp_ne (C : ja_C g cc) {x y : Int32} {off : Int} (tgt : Nat) (hd : decode cc pc = .ok (.if_icmp .ne off, 3)) (ht : (pc : Int) + off = (tgt : Int)) (kt : ¬ x = y → ja g w sz kc ks tgt lv rest) (kf : x = y → ja g w sz kc ks (pc + 3) lv rest) : ja g w sz kc ks pc lv (.int y :: .int x :: rest) :=
  fun H locs cells slots ls a1 a2 a3 a4 hl => lv_icmp_ne C.1.1 C.1.2.1 hd ht (fun z => kt z H locs cells slots ls a1 a2 a3 a4 hl) (fun z => kf z H locs cells slots ls a1 a2 a3 a4 hl)
theorem ja_if_lt (C : ja_C g cc) {x : Int32} {off : Int} (tgt : Nat) (hd : decode cc pc = .ok (.ifCond .lt off, 3)) (ht : (pc : Int) + off = (tgt : Int)) (kt : x < 0 → ja g w sz kc ks tgt lv rest) (kf : ¬ x < 0 → ja g w sz kc ks (pc + 3) lv rest) : ja g w sz kc ks pc lv (.int x :: rest) :=
  fun H locs cells slots ls a1 a2 a3 a4 hl => lv_if_lt C.1.1 C.1.2.1 hd ht (fun z => kt z H locs cells slots ls a1 a2 a3 a4 hl) (fun z => kf z H locs cells slots ls a1 a2 a3 a4 hl)
theorem ja_icmp_lt (C : ja_C g cc) {x y : Int32} {off : Int} (tgt : Nat) (hd : decode cc pc = .ok (.if_icmp .lt off, 3)) (ht : (pc : Int) + off = (tgt : Int)) (kt : x < y → ja g w sz kc ks tgt lv rest) (kf : ¬ x < y → ja g w sz kc ks (pc + 3) lv rest) : ja g w sz kc ks pc lv (.int y :: .int x :: rest) :=
  fun H locs cells slots ls a1 a2 a3 a4 hl => lv_icmp_lt C.1.1 C.1.2.1 hd ht (fun z => kt z H locs cells slots ls a1 a2 a3 a4 hl) (fun z => kf z H locs cells slots ls a1 a2 a3 a4 hl)
theorem ja_if_ge (C : ja_C g cc) {x : Int32} {off : Int} (tgt : Nat) (hd : decode cc pc = .ok (.ifCond .ge off, 3)) (ht : (pc : Int) + off = (tgt : Int)) (kt : 0 ≤ x → ja g w sz kc ks tgt lv rest) (kf : ¬ 0 ≤ x → ja g w sz kc ks (pc + 3) lv rest) : ja g w sz kc ks pc lv (.int x :: rest) :=
  fun H locs cells slots ls a1 a2 a3 a4 hl => lv_if_ge C.1.1 C.1.2.1 hd ht (fun z => kt z H locs cells slots ls a1 a2 a3 a4 hl) (fun z => kf z H locs cells slots ls a1 a2 a3 a4 hl)
theorem ja_icmp_ge (C : ja_C g cc) {x y : Int32} {off : Int} (tgt : Nat) (hd : decode cc pc = .ok (.if_icmp .ge off, 3)) (ht : (pc : Int) + off = (tgt : Int)) (kt : y ≤ x → ja g w sz kc ks tgt lv rest) (kf : ¬ y ≤ x → ja g w sz kc ks (pc + 3) lv rest) : ja g w sz kc ks pc lv (.int y :: .int x :: rest) :=
  fun H locs cells slots ls a1 a2 a3 a4 hl => lv_icmp_ge C.1.1 C.1.2.1 hd ht (fun z => kt z H locs cells slots ls a1 a2 a3 a4 hl) (fun z => kf z H locs cells slots ls a1 a2 a3 a4 hl)
theorem ja_if_gt (C : ja_C g cc) {x : Int32} {off : Int} (tgt : Nat) (hd : decode cc pc = .ok (.ifCond .gt off, 3)) (ht : (pc : Int) + off = (tgt : Int)) (kt : 0 < x → ja g w sz kc ks tgt lv rest) (kf : ¬ 0 < x → ja g w sz kc ks (pc + 3) lv rest) : ja g w sz kc ks pc lv (.int x :: rest) :=
  fun H locs cells slots ls a1 a2 a3 a4 hl => lv_if_gt C.1.1 C.1.2.1 hd ht (fun z => kt z H locs cells slots ls a1 a2 a3 a4 hl) (fun z => kf z H locs cells slots ls a1 a2 a3 a4 hl)
theorem ja_icmp_gt (C : ja_C g cc) {x y : Int32} {off : Int} (tgt : Nat) (hd : decode cc pc = .ok (.if_icmp .gt off, 3)) (ht : (pc : Int) + off = (tgt : Int)) (kt : y < x → ja g w sz kc ks tgt lv rest) (kf : ¬ y < x → ja g w sz kc ks (pc + 3) lv rest) : ja g w sz kc ks pc lv (.int y :: .int x :: rest) :=
  fun H locs cells slots ls a1 a2 a3 a4 hl => lv_icmp_gt C.1.1 C.1.2.1 hd ht (fun z => kt z H locs cells slots ls a1 a2 a3 a4 hl) (fun z => kf z H locs cells slots ls a1 a2 a3 a4 hl)
theorem ja_if_le (C : ja_C g cc) {x : Int32} {off : Int} (tgt : Nat) (hd : decode cc pc = .ok (.ifCond .le off, 3)) (ht : (pc : Int) + off = (tgt : Int)) (kt : x ≤ 0 → ja g w sz kc ks tgt lv rest) (kf : ¬ x ≤ 0 → ja g w sz kc ks (pc + 3) lv rest) : ja g w sz kc ks pc lv (.int x :: rest) :=
  fun H locs cells slots ls a1 a2 a3 a4 hl => lv_if_le C.1.1 C.1.2.1 hd ht (fun z => kt z H locs cells slots ls a1 a2 a3 a4 hl) (fun z => kf z H locs cells slots ls a1 a2 a3 a4 hl)
theorem ja_icmp_le (C : ja_C g cc) {x y : Int32} {off : Int} (tgt : Nat) (hd : decode cc pc = .ok (.if_icmp .le off, 3)) (ht : (pc : Int) + off = (tgt : Int)) (kt : x ≤ y → ja g w sz kc ks tgt lv rest) (kf : ¬ x ≤ y → ja g w sz kc ks (pc + 3) lv rest) : ja g w sz kc ks pc lv (.int y :: .int x :: rest) :=
  fun H locs cells slots ls a1 a2 a3 a4 hl => lv_icmp_le C.1.1 C.1.2.1 hd ht (fun z => kt z H locs cells slots ls a1 a2 a3 a4 hl) (fun z => kf z H locs cells slots ls a1 a2 a3 a4 hl)
theorem ja_goto (C : ja_C g cc) {off : Int} (tgt : Nat) (hd : decode cc pc = .ok (.goto off, 3)) (ht : (pc : Int) + off = (tgt : Int)) (k : ja g w sz kc ks tgt lv rest) : ja g w sz kc ks pc lv rest :=
  fun H locs cells slots ls a1 a2 a3 a4 hl => lv_goto C.1.1 C.1.2.1 hd ht (k H locs cells slots ls a1 a2 a3 a4 hl)
theorem ja_ifnonnull (C : ja_C g cc) {x : Nat} {off : Int} (tgt : Nat) (hd : decode cc pc = .ok (.ifnonnull off, 3)) (ht : (pc : Int) + off = (tgt : Int)) (k : ja g w sz kc ks tgt lv rest) : ja g w sz kc ks pc lv (.ref x :: rest) :=
  fun H locs cells slots ls a1 a2 a3 a4 hl => lv_ifnonnull C.1.1 C.1.2.1 hd ht (k H locs cells slots ls a1 a2 a3 a4 hl)
theorem ja_ifnonnullN (C : ja_C g cc) {off : Int} (hd : decode cc pc = .ok (.ifnonnull off, 3)) (k : ja g w sz kc ks (pc + 3) lv rest) : ja g w sz kc ks pc lv (.null :: rest) :=
  fun H locs cells slots ls a1 a2 a3 a4 hl => lv_ifnonnullN C.1.1 C.1.2.1 hd (k H locs cells slots ls a1 a2 a3 a4 hl)
theorem ja_ifnull (C : ja_C g cc) {x : Nat} {off : Int} (hd : decode cc pc = .ok (.ifnull off, 3)) (k : ja g w sz kc ks (pc + 3) lv rest) : ja g w sz kc ks pc lv (.ref x :: rest) :=
  fun H locs cells slots ls a1 a2 a3 a4 hl => lv_ifnull C.1.1 C.1.2.1 hd (k H locs cells slots ls a1 a2 a3 a4 hl)
theorem ja_ifnullN (C : ja_C g cc) {off : Int} (tgt : Nat) (hd : decode cc pc = .ok (.ifnull off, 3)) (ht : (pc : Int) + off = (tgt : Int)) (k : ja g w sz kc ks tgt lv rest) : ja g w sz kc ks pc lv (.null :: rest) :=
  fun H locs cells slots ls a1 a2 a3 a4 hl => lv_ifnullN C.1.1 C.1.2.1 hd ht (k H locs cells slots ls a1 a2 a3 a4 hl)
theorem ja_tableOut (C : ja_C g cc) {dflt lo hi : Int} {offs : Array Int} {len : Nat} {x : Int32} (tgt : Nat) (hd : decode cc pc = .ok (.tableswitch dflt lo hi offs, len)) (h : x.toInt < lo ∨ hi < x.toInt) (ht : (pc : Int) + dflt = (tgt : Int)) (k : ja g w sz kc ks tgt lv rest) : ja g w sz kc ks pc lv (.int x :: rest) :=
  fun H locs cells slots ls a1 a2 a3 a4 hl => lv_tableOut C.1.1 C.1.2.1 hd h ht (k H locs cells slots ls a1 a2 a3 a4 hl)
theorem ja_tableIn (C : ja_C g cc) {dflt lo hi off : Int} {offs : Array Int} {len : Nat} {x : Int32} (tgt : Nat) (hd : decode cc pc = .ok (.tableswitch dflt lo hi offs, len)) (h1 : ¬ x.toInt < lo) (h2 : ¬ hi < x.toInt) (ho : offs[(x.toInt - lo).toNat]? = some off) (ht : (pc : Int) + off = (tgt : Int)) (k : ja g w sz kc ks tgt lv rest) : ja g w sz kc ks pc lv (.int x :: rest) :=
  fun H locs cells slots ls a1 a2 a3 a4 hl => lv_tableIn C.1.1 C.1.2.1 hd h1 h2 ho ht (k H locs cells slots ls a1 a2 a3 a4 hl)
theorem ja_lookup (C : ja_C g cc) {dflt off : Int} {ps : Array (Int × Int)} {len : Nat} {x : Int32} (tgt : Nat) (hd : decode cc pc = .ok (.lookupswitch dflt ps, len)) (hp : (ps.toList.zip (ps.toList.drop 1)).all (fun (a, next) => a.1 < next.1) = true) (ho : Op.lookupswitch.offset ps.toList dflt x.toInt = off) (ht : (pc : Int) + off = (tgt : Int)) (k : ja g w sz kc ks tgt lv rest) : ja g w sz kc ks pc lv (.int x :: rest) :=
  fun H locs cells slots ls a1 a2 a3 a4 hl => lv_lookup C.1.1 C.1.2.1 hd hp ho ht (k H locs cells slots ls a1 a2 a3 a4 hl)
theorem ja_lcmp (C : ja_C g cc) {x y : Int64} (hd : decode cc pc = .ok (.lcmp, 1)) (k : ja g w sz kc ks (pc + 1) lv (.int (lg_cmp x y) :: rest)) : ja g w sz kc ks pc lv (.long y :: .long x :: rest) :=
  fun H locs cells slots ls a1 a2 a3 a4 hl => W.lcmp C.1.1 C.1.2.1 hd (k H locs cells slots ls a1 a2 a3 a4 hl)
end JA1
section JA2
variable {g : ja_G} {cc : ByteArray} {w : Nat → Option va_E} {sz kc ks pc : Nat} {lv : List (Nat × Value)} {rest : List Value}
/-- the field k of the class ci, reached by the entry 'index' of the class 'own' -/
def ja_FL (cl : List vw_C) (own : String) (index ci k : Nat) : Prop := ∃ r : vw_C, cl[ci]? = some r ∧ k < r.2.2 ∧ (∀ c ∈ u_ws r.1 r.2.1 r.2.2, c ∈ jw_all) ∧ Cond.fieldLink own index (r.2.1 k).1 (r.2.1 k).2.1 (r.2.1 k).2.2.1 ∈ jw_all
/-- .. and it may be written; its type is ty -/
def ja_FP (cl : List vw_C) (own : String) (index ci k : Nat) (ty : FieldType) : Prop := ∃ (r : vw_C) (t0 : Nat → FieldType), cl[ci]? = some r ∧ k < r.2.2 ∧ (∀ c ∈ u_ws r.1 r.2.1 r.2.2, c ∈ jw_all) ∧ Cond.fieldLink own index (r.2.1 k).1 (r.2.1 k).2.1 (r.2.1 k).2.2.1 ∈ jw_all ∧ (∀ j, j < r.2.2 → parseFieldDescriptor (r.2.1 j).2.2.1 = some (t0 j)) ∧ (∀ a, a < r.2.2 → ∀ b, b < r.2.2 → a ≠ b → (r.2.1 a).2.1 ≠ (r.2.1 b).2.1) ∧ t0 k = ty
theorem ja_get (C : ja_C g cc) {index ci k a : Nat} {fs : List Value} {v : Value} (hF : ja_FL (ja_l g) (ja_o g) index ci k) (hd : decode cc pc = .ok (.getfield index, 3)) (hw : w a = some (.inr (ci, fs))) (hv : fs[k]? = some v) (kk : ja g w sz kc ks (pc + 3) lv (v :: rest)) : ja g w sz kc ks pc lv (.ref a :: rest) := by
  obtain ⟨⟨C1, T1, N1⟩, hc, hk, hin, hl9⟩ := hF
  intro H locs cells slots ls a1 a2 a3 a4 hl
  have hP : va_P (ja_D g) (ja_l g) [(a, .inr (ci, fs))] H := by
    intro i q hq
    match i, hq with
    | 0, hq => cases hq; exact (a1.2.2.2 a _ hw).2
    | i + 1, hq => cases hq
  exact va_get (D := ja_D g) (cl := ja_l g) C.1.1 C.1.2.1 C.1.2.2.2.2 hin C.1.2.2.2.1 C.2 hP 0 rfl hc k hk (C.1.2.2.2.2 _ hl9) (fun _ h => h) hv hd (kk H locs cells slots ls a1 a2 a3 a4 hl)
theorem ja_put (C : ja_C g cc) {index ci k a : Nat} {fs : List Value} {v : Value} {ty : FieldType} (hF : ja_FP (ja_l g) (ja_o g) index ci k ty) (hnf : ∀ r, (ja_l g)[ci]? = some r → (r.2.1 k).2.2.2 = false) (hd : decode cc pc = .ok (.putfield index, 3)) (hw : w a = some (.inr (ci, fs))) (hn : narrow ty v = v) (hfit : fits ty v = true) (hlen : k < fs.length) (kk : ja g (va_up w a (some (.inr (ci, fs.set k v)))) sz kc ks (pc + 3) lv rest) : ja g w sz kc ks pc lv (v :: .ref a :: rest) := by
  obtain ⟨⟨C1, T1, N1⟩, t0, hc, hk, hin, hl9, hty, hnm, hk0⟩ := hF
  intro H locs cells slots ls a1 a2 a3 a4 hl
  have hts := C.1.2.2.2.2
  have hap := va_apart (own := ja_o g) hts hin t0 hty hnm C.2 hc
  obtain ⟨r, h1, cell, q1, q2, q3, q4⟩ := (a1.2.2.2 a _ hw).2
  have hb9 := (a1.2.2.2 a _ hw).1
  have hr : r = (C1, T1, N1) := Option.some.inj (h1.symm.trans hc)
  subst hr
  obtain ⟨hS, hfc, kC, hkC, hkind⟩ := C.2.1 ci _ hc
  obtain ⟨cf, kf, fi, f, hi, hsl⟩ := hS k hk
  have hlay := hts _ (hin _ (u_in_lay hk))
  have hfin : (T1 k).2.2.2 = false := hnf _ hc
  unfold u_lay at hlay
  rw [if_neg (by rw [hfin]; decide)] at hlay
  have hst := (u_facts hfc hkC (u_lays hts hin hk) hi).1
  have h6 := u_store hfc hkC hkind hlay hi ((hty k hk).trans (by rw [hk0])) hn hfit
  refine W.putK C.1.1 C.1.2.1 (f := f) ⟨C.1.2.2.2.1, hts _ hl9, ⟨_, _, _, hi⟩, hst⟩ (by rw [q2]; exact h6) q1 q3 (by rw [hsl]; exact k2_hasslot (q4 k hk)) rfl rfl hd fun H1 e1 e2 e3 => ?_
  rw [hsl] at e1 ⊢
  refine kk H1 _ cells slots ls (a1.put hw ⟨_, hc, t_OB.to (V := updV (vp_V fs) k v) ⟨_, e1, q2, q3, t_set q4 hap hk v⟩ (fun j _ => vp_updV_set hlen v j)⟩ e2 e3) (fun q hq => ?_) a3 a4 hl
  rcases List.mem_append.mp hq with h | h
  · exact a2 q h
  · rw [List.mem_singleton.mp h]
    exact hb9
theorem ja_putF (C : ja_C g cc) {index ci k a : Nat} {fs : List Value} {v : Value} {ty : FieldType} (hF : ja_FP (ja_l g) (ja_o g) index ci k ty) (hnf : ∀ r, (ja_l g)[ci]? = some r → (r.2.1 k).2.2.2 = true ∧ (r.2.1 k).1 = ja_o g) (hin2 : g.2.1.2.2.2.1.name = "<init>") (hd : decode cc pc = .ok (.putfield index, 3)) (hw : w a = some (.inr (ci, fs))) (hn : narrow ty v = v) (hfit : fits ty v = true) (hlen : k < fs.length) (kk : ja g (va_up w a (some (.inr (ci, fs.set k v)))) sz kc ks (pc + 3) lv rest) : ja g w sz kc ks pc lv (v :: .ref a :: rest) := by
  obtain ⟨⟨C1, T1, N1⟩, t0, hc, hk, hin, hl9, hty, hnm, hk0⟩ := hF
  intro H locs cells slots ls a1 a2 a3 a4 hl
  have hts := C.1.2.2.2.2
  have hap := va_apart (own := ja_o g) hts hin t0 hty hnm C.2 hc
  obtain ⟨r, h1, cell, q1, q2, q3, q4⟩ := (a1.2.2.2 a _ hw).2
  have hb9 := (a1.2.2.2 a _ hw).1
  have hr : r = (C1, T1, N1) := Option.some.inj (h1.symm.trans hc)
  subst hr
  obtain ⟨hS, hfc, kC, hkC, hkind⟩ := C.2.1 ci _ hc
  obtain ⟨cf, kf, fi, f, hi, hsl⟩ := hS k hk
  have hlay := hts _ (hin _ (u_in_lay hk))
  obtain ⟨hfin, hdecl⟩ := hnf _ hc
  unfold u_lay at hlay
  rw [if_pos hfin] at hlay
  have hst := (u_facts hfc hkC (u_lays hts hin hk) hi).1
  have hcf : (ja_m g).cls = cf := by
    obtain ⟨_, _, c', _, _, _, -, -, hf', -, -, -, hown2, -⟩ := Cond.laysFinal_spec hlay
    have e1 : c' = cf := by have := hi.symm.trans hf'; simp at this; exact this.1.symm
    rw [hdecl] at hown2
    rw [← e1]; exact Option.some.inj (C.1.2.2.2.1.symm.trans hown2)
  have h6 := u_fits hfc hkC hkind (Or.inr hlay) hi ((hty k hk).trans (by rw [hk0])) hn hfit
  refine W.putFinK C.1.1 C.1.2.1 C.1.2.2.2.1 (hts _ hl9) hi hst hcf hin2 (by rw [q2]; exact h6) q1 q3 (by rw [hsl]; exact k2_hasslot (q4 k hk)) rfl rfl hd fun H1 e1 e2 e3 => ?_
  rw [hsl] at e1 ⊢
  refine kk H1 _ cells slots ls (a1.put hw ⟨_, hc, t_OB.to (V := updV (vp_V fs) k v) ⟨_, e1, q2, q3, t_set q4 hap hk v⟩ (fun j _ => vp_updV_set hlen v j)⟩ e2 e3) (fun q hq => ?_) a3 a4 hl
  rcases List.mem_append.mp hq with h | h
  · exact a2 q h
  · rw [List.mem_singleton.mp h]
    exact hb9
/-- a new object of the class ci: its fields are fs -/
def ja_NW (cl : List vw_C) (own : String) (index ci n : Nat) (fs : List Value) : Prop := ∃ (r : vw_C) (t0 : Nat → FieldType), cl[ci]? = some r ∧ r.2.2 = n ∧ (∀ c ∈ u_ws r.1 r.2.1 r.2.2, c ∈ jw_all) ∧ Cond.classLink own index r.1 ∈ jw_all ∧ Cond.instantiable r.1 r.2.2 ∈ jw_all ∧ Cond.initialized r.1 ∈ jw_all ∧ (∀ j, j < r.2.2 → parseFieldDescriptor (r.2.1 j).2.2.1 = some (t0 j)) ∧ ∀ j, j < r.2.2 → defaultValue (t0 j) = vp_V fs j
theorem ja_new (C : ja_C g cc) {index ci n : Nat} {fs : List Value} (hF : ja_NW (ja_l g) (ja_o g) index ci n fs) (hd : decode cc pc = .ok (.new index, 3)) (kk : ja g (va_up w sz (some (.inr (ci, fs)))) (sz + 1) kc ks (pc + 3) lv (.ref sz :: rest)) : ja g w sz (kc + 1) (ks + n) pc lv rest := by
  obtain ⟨⟨C1, T1, N1⟩, t0, hc, hn, hin, h1, h2, h3, hty, hfs⟩ := hF
  intro H locs cells slots ls a1 a2 a3 a4 hl
  have hts := C.1.2.2.2.2
  have hKn := C.2.1 ci _ hc
  have hn : N1 = n := hn
  subst hn
  refine W.newcK C.1.1 C.1.2.1 C.1.2.2.2.1 (hts _ h1) (hts _ h2) (hts _ h3) rfl hd (by show _ ≤ (ja_R g).cells; omega) (by show _ ≤ (ja_R g).slots; omega) hKn.2.1 a1.1 fun H1 kC hkC e1 z1 o1 => ?_
  exact kk H1 locs (cells + 1) (slots + N1) ls (a1.new ⟨_, hc, (u_born t0 hts hin hKn hkC e1 hty).to hfs⟩ z1 o1) a2 (by omega) (by omega) hl
/-- an array class by its place among the known ones -/
theorem ja_arr_one {U : State} {cA cB : ClassId} {ty : FieldType} (h : va_RA U cB ty) (h2 : U.vm.findClass ("[" ++ ty.toString) = some cA) : cA = cB := by
  cases ty with
  | object C =>
    obtain ⟨kA, comp, -, -, -, h4⟩ := h
    exact Option.some.inj (h2.symm.trans h4)
  | _ => exact Option.some.inj (h2.symm.trans h)
theorem ja_newa (C : ja_C g cc) {atype : ArrayType} {ty : FieldType} (hty : newarray.typeOf atype = ty) (harr : Cond.arrayClass ty ∈ jw_all) (t0 : Nat) {cA : ClassId} (ht : (ja_t g)[t0]? = some (cA, ty)) {n : Int32} (N : Nat) (a0 : vp_A) (ha : ∀ cB : ClassId, vp_cell cB a0 = arrV cB N (fun _ => defaultValue ty)) (hn : ¬ n < 0) (hN : n.toNatClampNeg = N) (hby : N * componentBytes ty ≤ 536870912) (hd : decode cc pc = .ok (.newarray atype, 2)) (kk : ja g (va_up w sz (some (.inl (cA, a0)))) (sz + 1) kc ks (pc + 2) lv (.ref sz :: rest)) : ja g w sz (kc + 1) (ks + N) pc lv (.int n :: rest) := by
  subst hty
  intro H locs cells slots ls a1 a2 a3 a4 hl
  refine va_newaK C.1.1 C.1.2.1 (C.1.2.2.2.2 _ harr) rfl hd rfl hn hN hby (by show _ ≤ (ja_R g).cells; omega) (by show _ ≤ (ja_R g).slots; omega) a1.1 fun H1 cB e1 z1 o1 hAr hNm => ?_
  have hcc : cB = cA := ja_arr_one (C.2.2 t0 _ ht).2 hNm
  subst hcc
  exact kk H1 locs (cells + 1) (slots + N) ls (a1.new (by show H1[sz]? = some (vp_cell _ _); rw [ha]; exact e1) z1 o1) a2 (by omega) (by omega) hl
theorem ja_newq (C : ja_C g cc) {index : Nat} {Cn : String} (hlk : Cond.classLink (ja_o g) index Cn ∈ jw_all) (hover : va_AO Cn (ja_s g)) (t0 : Nat) {cA : ClassId} (ht : (ja_t g)[t0]? = some (cA, .object Cn)) {n : Int32} (N : Nat) (hn : ¬ n < 0) (hN : n.toNatClampNeg = N) (hby : N * 4 ≤ 536870912) (hd : decode cc pc = .ok (.anewarray index, 3)) (kk : ja g (va_up w sz (some (.inl (cA, N, .inr (.inr (.inr (.inr (fun _ => none)))))))) (sz + 1) kc ks (pc + 3) lv (.ref sz :: rest)) : ja g w sz (kc + 1) (ks + N) pc lv (.int n :: rest) := by
  subst hN
  intro H locs cells slots ls a1 a2 a3 a4 hl
  refine W.anew C.1.1 C.1.2.1 C.1.2.2.2.1 (C.1.2.2.2.2 _ hlk) (va_AO.use hover) rfl hd rfl hn hby (by show _ ≤ (ja_R g).cells; omega) (by show _ ≤ (ja_R g).slots; omega) fun cB kA comp f1 f2 f3 f4 => ?_
  have hcc : cB = cA := ja_arr_one (C.2.2 t0 _ ht).2 f1
  subst hcc
  generalize hH1 : H.push ({ cls := cB, slots := Array.replicate n.toNatClampNeg .null, vm := .none } : Cell) = H1
  have hz := a1.1
  have z1 : H1.size = sz + 1 := by rw [← hH1, Array.size_push, hz]
  have e1 : H1[sz]? = some (arrV cB n.toNatClampNeg (fun _ => .null)) := by rw [← hH1, ← hz, Array.getElem?_push_size, ← arrV_new]
  have o1 : ∀ q : Nat, q < sz → H1[q]? = H[q]? := fun q hq => by rw [← hH1, Array.getElem?_push, if_neg (by omega)]
  rw [hz]
  exact kk H1 locs (cells + 1) (slots + n.toNatClampNeg) ls (a1.new (by show H1[sz]? = some (vp_cell _ _); rw [vp_cell_q]; exact e1) z1 o1) a2 (by omega) (by omega) hl
theorem ja_iald (C : ja_C g cc) (t0 : Nat) {cA : ClassId} (ht : (ja_t g)[t0]? = some (cA, .int)) {a n : Nat} {f : Nat → Int32} {i : Int32} (hd : decode cc pc = .ok (.iaload, 1)) (hw : w a = some (.inl (cA, n, .inl f))) (hin : vp_in i n) (kk : ja g w sz kc ks (pc + 1) lv (.int (f i.toNatClampNeg) :: rest)) : ja g w sz kc ks pc lv (.int i :: .ref a :: rest) := by
  intro H locs cells slots ls a1 a2 a3 a4 hl
  have hlt : i.toNatClampNeg < n := Nat.not_le.mp fun q => hin (Or.inr q)
  exact W.iald (v := .int (f i.toNatClampNeg)) C.1.1 C.1.2.1 (a1.2.2.2 a _ hw).2 ((C.2.2 t0 _ ht).1 n (fun j => .int (f j))) (fun q => by cases q) (by show ¬ (i < 0 ∨ (arrV _ _ _).slots.size ≤ _); rw [arrV_size]; exact hin) (by show (arrV _ _ _).slots[_]? = _; rw [arrV_read _ _ hlt]) rfl rfl hd (kk H locs cells slots ls a1 a2 a3 a4 hl)
theorem ja_lald (C : ja_C g cc) (t0 : Nat) {cA : ClassId} (ht : (ja_t g)[t0]? = some (cA, .long)) {a n : Nat} {f : Nat → Int64} {i : Int32} (hd : decode cc pc = .ok (.laload, 1)) (hw : w a = some (.inl (cA, n, .inr (.inl f)))) (hin : vp_in i n) (kk : ja g w sz kc ks (pc + 1) lv (.long (f i.toNatClampNeg) :: rest)) : ja g w sz kc ks pc lv (.int i :: .ref a :: rest) := by
  intro H locs cells slots ls a1 a2 a3 a4 hl
  have hlt : i.toNatClampNeg < n := Nat.not_le.mp fun q => hin (Or.inr q)
  exact W.lald (v := .long (f i.toNatClampNeg)) C.1.1 C.1.2.1 (a1.2.2.2 a _ hw).2 ((C.2.2 t0 _ ht).1 n (fun j => .long (f j))) (fun q => by cases q) (by show ¬ (i < 0 ∨ (arrV _ _ _).slots.size ≤ _); rw [arrV_size]; exact hin) (by show (arrV _ _ _).slots[_]? = _; rw [arrV_read _ _ hlt]) rfl rfl hd (kk H locs cells slots ls a1 a2 a3 a4 hl)
theorem ja_aald (C : ja_C g cc) (t0 : Nat) {cA : ClassId} {Cn : String} (ht : (ja_t g)[t0]? = some (cA, .object Cn)) {a n : Nat} {f : Nat → Option Nat} {i : Int32} (hd : decode cc pc = .ok (.aaload, 1)) (hw : w a = some (.inl (cA, n, .inr (.inr (.inr (.inr f)))))) (hin : vp_in i n) (kk : ja g w sz kc ks (pc + 1) lv (va_rf (f i.toNatClampNeg) :: rest)) : ja g w sz kc ks pc lv (.int i :: .ref a :: rest) := by
  intro H locs cells slots ls a1 a2 a3 a4 hl
  have hlt : i.toNatClampNeg < n := Nat.not_le.mp fun q => hin (Or.inr q)
  exact W.aald (v := va_rf (f i.toNatClampNeg)) (ty := .object Cn) C.1.1 C.1.2.1 (a1.2.2.2 a _ hw).2 ((C.2.2 t0 _ ht).1 n (fun j => va_rf (f j))) rfl (fun q => by cases q) (by show ¬ (i < 0 ∨ (arrV _ _ _).slots.size ≤ _); rw [arrV_size]; exact hin) (by show (arrV _ _ _).slots[_]? = _; rw [arrV_read _ _ hlt]) rfl rfl hd (kk H locs cells slots ls a1 a2 a3 a4 hl)
theorem ja_alen (C : ja_C g cc) (t0 : Nat) {cA : ClassId} {ty : FieldType} (ht : (ja_t g)[t0]? = some (cA, ty)) {a : Nat} {x : vp_A} (hd : decode cc pc = .ok (.arraylength, 1)) (hw : w a = some (.inl (cA, x))) (v : Int32) (hv : Int32.ofNat x.1 = v) (kk : ja g w sz kc ks (pc + 1) lv (.int v :: rest)) : ja g w sz kc ks pc lv (.ref a :: rest) := by
  intro H locs cells slots ls a1 a2 a3 a4 hl
  have hP : va_P (ja_D g) (ja_l g) [(a, .inl (cA, x))] H := by
    intro i q hq
    match i, hq with
    | 0, hq => cases hq; exact (a1.2.2.2 a _ hw).2
    | i + 1, hq => cases hq
  exact va_alen (D := ja_D g) (cl := ja_l g) C.1.1 C.1.2.1 C.2 hP 0 t0 rfl ht hv hd (kk H locs cells slots ls a1 a2 a3 a4 hl)
theorem ja_locs {H0 : Heap} {locs : List Loc} {a k : Nat} (h : ∀ q ∈ locs, H0.size ≤ q.base) (ha : H0.size ≤ a) : ∀ q ∈ locs ++ [⟨a, k⟩], H0.size ≤ q.base := fun q hq => by
  rcases List.mem_append.mp hq with h1 | h1
  · exact h q h1
  · rw [List.mem_singleton.mp h1]
    exact ha
theorem ja_iast (C : ja_C g cc) (t0 : Nat) {cA : ClassId} (ht : (ja_t g)[t0]? = some (cA, .int)) {a n : Nat} {f : Nat → Int32} {i x : Int32} (hd : decode cc pc = .ok (.iastore, 1)) (hw : w a = some (.inl (cA, n, .inl f))) (hin : vp_in i n) (kk : ja g (va_up w a (some (.inl (cA, n, .inl (upd f i.toNatClampNeg x))))) sz kc ks (pc + 1) lv rest) : ja g w sz kc ks pc lv (.int x :: .int i :: .ref a :: rest) := by
  intro H locs cells slots ls a1 a2 a3 a4 hl
  refine W.iast C.1.1 C.1.2.1 (a1.2.2.2 a _ hw).2 ((C.2.2 t0 _ ht).1 n (fun j => .int (f j))) (fun q => by cases q) (by show ¬ (i < 0 ∨ (arrV _ _ _).slots.size ≤ _); rw [arrV_size]; exact hin) rfl rfl hd fun H1 e z oq => ?_
  refine kk H1 _ cells slots ls (a1.put hw ?_ z oq) (ja_locs a2 (a1.2.2.2 a _ hw).1) a3 a4 hl
  show H1[a]? = some (vp_cell _ _)
  rw [e, vp_cell_i, vp_cell_i, arrV_store]
  congr 2
  funext q
  by_cases hq : q = i.toNatClampNeg
  · subst hq
    simp [updV, upd]
  · simp [updV, upd, hq]
theorem ja_last (C : ja_C g cc) (t0 : Nat) {cA : ClassId} (ht : (ja_t g)[t0]? = some (cA, .long)) {a n : Nat} {f : Nat → Int64} {i : Int32} {x : Int64} (hd : decode cc pc = .ok (.lastore, 1)) (hw : w a = some (.inl (cA, n, .inr (.inl f)))) (hin : vp_in i n) (kk : ja g (va_up w a (some (.inl (cA, n, .inr (.inl (vp_updL f i.toNatClampNeg x)))))) sz kc ks (pc + 1) lv rest) : ja g w sz kc ks pc lv (.long x :: .int i :: .ref a :: rest) := by
  intro H locs cells slots ls a1 a2 a3 a4 hl
  refine W.last C.1.1 C.1.2.1 (a1.2.2.2 a _ hw).2 ((C.2.2 t0 _ ht).1 n (fun j => .long (f j))) (fun q => by cases q) (by show ¬ (i < 0 ∨ (arrV _ _ _).slots.size ≤ _); rw [arrV_size]; exact hin) rfl rfl hd fun H1 e z oq => ?_
  refine kk H1 _ cells slots ls (a1.put hw ?_ z oq) (ja_locs a2 (a1.2.2.2 a _ hw).1) a3 a4 hl
  show H1[a]? = some (vp_cell _ _)
  rw [e, vp_cell_l, vp_cell_l, arrV_store]
  congr 2
  funext q
  by_cases hq : q = i.toNatClampNeg
  · subst hq
    simp [updV, vp_updL]
  · simp [updV, vp_updL, hq]
theorem ja_aast (C : ja_C g cc) (t0 : Nat) {cA : ClassId} {r : vw_C} (ht : (ja_t g)[t0]? = some (cA, .object r.1)) {a n v ci : Nat} {f : Nat → Option Nat} {vs : List Value} {i : Int32} (hc : (ja_l g)[ci]? = some r) (hd : decode cc pc = .ok (.aastore, 1)) (hw : w a = some (.inl (cA, n, .inr (.inr (.inr (.inr f)))))) (hv : w v = some (.inr (ci, vs))) (hin : vp_in i n) (kk : ja g (va_up w a (some (.inl (cA, n, .inr (.inr (.inr (.inr (va_up f i.toNatClampNeg (some v))))))))) sz kc ks (pc + 1) lv rest) : ja g w sz kc ks pc lv (.ref v :: .int i :: .ref a :: rest) := by
  intro H locs cells slots ls a1 a2 a3 a4 hl
  have hlt : i.toNatClampNeg < n := Nat.not_le.mp fun q => hin (Or.inr q)
  have h0 : ¬ i < 0 := fun q => hin (Or.inl q)
  obtain ⟨r', hr', cellV, g1, g2, g3, -⟩ := (a1.2.2.2 v _ hv).2
  have hcls := (C.2.1 ci r hc).2
  obtain ⟨kA, comp, k1, k2, k3, -⟩ := (C.2.2 t0 _ ht).2
  have hcomp : comp = (ja_D g).1 ci := Option.some.inj (k3.symm.trans hcls.1)
  subst hcomp
  obtain ⟨kC, hkC, -⟩ := hcls.2
  refine W.aast C.1.1 C.1.2.1 (a1.2.2.2 a _ hw).2 (fun q h => by cases h) (fun h => by cases h) k1 k2 rfl hkC ⟨h0, by show _ < (arrV _ _ _).slots.size; rw [arrV_size]; exact hlt⟩ g1 (fun q h => by rw [g3] at h; cases h) (by rw [g2]; exact hkC) (by rw [g2]; exact va_assign hcls) rfl rfl hd fun H1 e z oq => ?_
  refine kk H1 _ cells slots ls (a1.put hw ?_ z oq) (ja_locs a2 (a1.2.2.2 a _ hw).1) a3 a4 hl
  show H1[a]? = some (vp_cell _ _)
  rw [e, vp_cell_q, vp_cell_q, arrV_store]
  congr 2
  funext q
  by_cases hq : q = i.toNatClampNeg
  · subst hq
    simp [updV, va_up, va_rf]
  · simp [updV, va_up, hq]
end JA2
