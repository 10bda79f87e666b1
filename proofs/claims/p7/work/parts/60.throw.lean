/-! METHODS THAT THROW: a contract for both ends, and the row of a throw -/
def jb_XC (D : va_G) (H0 : Heap) (xpost : String → jb_W → Nat → Prop) : String → State → State → Prop := fun E _ t => ∃ (w : jb_W) (sz : Nat), xpost E w sz ∧ ja_H D jcl H0 w sz t.heap
/-- THE CONTRACT of a method that returns (post) or throws (xpost, by the class's name) -/
def jb_T (l : Launch) (y : MethodName) (bytes : ByteArray) (maxL : Nat) (ret : Option FieldType) (d q mc ms : Nat) (D : va_G) (H0 : Heap) (tys : List (ClassId × FieldType)) (av : List Value) (w : jb_W) (sz : Nat) (post : Option Value → jb_W → Nat → Prop) (xpost : String → jb_W → Nat → Prop) : Prop :=
  vx_Met l y (.code y bytes maxL ret :: jw_all) (jb_rm d q mc ms) (jb_P D H0 tys av w sz) (jb_Q D H0 post) (jb_XC D H0 xpost) mc ms (fun q9 => H0.size ≤ q9)
/-- what one place of a throw needs of the tables -/
def jx_ok (own : String) (ik is ic : Nat) (cls text : String) (names : List String) : Prop :=
  Bundle.fit cls = true ∧ (∀ n ∈ names, Bundle.fit n = true) ∧ Cond.classLink own ik cls ∈ jw_all ∧ Cond.initialized cls ∈ jw_all ∧ (own, is, text) ∈ jx_str ∧ (∀ w ∈ vx_atS own ic cls names, w ∈ jw_all ∨ w ∈ jx_cast) ∧ ∀ w ∈ Cond.classLink own ik cls :: Cond.initialized cls :: vx_atS own ic cls names, vx_ot w = true
/-- a throw, in a body: new, dup, ldc, invokespecial, athrow -/
def jb_Th (g : ja_G) (cc : ByteArray) (xpost : String → jb_W → Nat → Prop) : Prop := ∀ {w : jb_W} {sz kc ks pc : Nat} {lv : List (Nat × Value)} {cls text : String} {names : List String} {ik is ic : Nat}, jx_ok (ja_o g) ik is ic cls text names → decode cc pc = .ok (.new ik, 3) → decode cc (pc + 3) = .ok (.dup, 1) → decode cc (pc + 4) = .ok (.ldc is, 2) → decode cc (pc + 6) = .ok (.invokespecial ic, 3) → decode cc (pc + 9) = .ok (.athrow, 1) → names.length + 3 < (ja_R g).frames ∧ 13 * (names.length + 1) + 43 ≤ (ja_R g).locals → (∀ sz', sz ≤ sz' → xpost cls w sz') → ja g w sz (kc + 1) (ks + 6) pc lv []
section JT
variable {l : Launch} {y : MethodName} {cc : ByteArray} {nL d q mc ms : Nat} {D : va_G} {H0 : Heap} {tys : List (ClassId × FieldType)} {av : List Value} {w : jb_W} {sz : Nat} {post : Option Value → jb_W → Nat → Prop} {xpost : String → jb_W → Nat → Prop}
theorem ja_H.more {H H' : Heap} (h : ja_H D jcl H0 w sz H) (h1 : H.size ≤ H'.size) (h2 : ∀ q : Nat, q < H.size → H'[q]? = H[q]?) : ja_H D jcl H0 w H'.size H' := by
  obtain ⟨a1, a2, a3, a4⟩ := h
  refine ⟨rfl, by omega, fun a ha => (h2 a (by omega)).trans (a3 a ha), fun a x hx => ⟨(a4 a x hx).1, ?_⟩⟩
  exact va_at.kept (a4 a x hx).2 (h2 a (by have := (a4 a x hx).2.lt; exact this))
theorem jb_thr {u : jb_U} (C : ja_C (jb_mk l (jb_rm d q mc ms) nL y.cls D H0 tys u) cc) (X : jb_X H0 u.1.2.2) (hl : l.stackTraces = false) (hE : ja_H D jcl H0 w sz u.1.2.2.heap) (hlk : u.2.1.2.2.2.1.locks = false) (hout : ∀ x ∈ u.2.1.2.2.2.2.exceptionTable.toList, False) (hQ : u.2.2 = vx_MQ u.2.1.2.2.1 (jb_Q D H0 post) (jb_XC D H0 xpost) u.2.1.2.1 u.1.2.2 mc ms (fun q9 => H0.size ≤ q9)) : jb_Th (jb_mk l (jb_rm d q mc ms) nL y.cls D H0 tys u) cc xpost := by
  intro w' sz' kc ks pc lv cls text names ik is ic hok d0 d3 d4 d6 d9 hR hx H locs cells slots ls a1 a2 a3 a4 hls T hT X9
  obtain ⟨o1, o2, o3, o4, o5, o6, o7⟩ := hok
  have hts := C.1.2.2.2.2
  obtain ⟨f1, f2⟩ := vx_frame X9.same
  have f1 : u.1.2.2.heap.size ≤ T.heap.size := f1
  have hS : va_S (fun q => H0.size ≤ q) u.1.2.2.heap H locs := by
    rw [← hT]
    exact ⟨f1, fun q h1 h2 => f2 q h1 (fun z hz e => h2 (by rw [← e]; exact a2 z hz)), a2⟩
  have kU : ∀ a : Nat, a < H0.size → ¬ H0.size ≤ a → u.1.2.2.heap[a]? = H0[a]? := fun a ha _ => hE.2.2.1 a ha
  obtain ⟨sa, hsa⟩ := X.2.2.2.1 _ o5
  have hW := vx_throwS (p := u.1.1) (l := l) (e := u.1.2.1) (R := jb_rm d q mc ms) (s := u.1.2.2) (m := u.2.1.1) (args := u.2.1.2.1) (below := u.2.1.2.2.1) (meth := u.2.1.2.2.2.1) (c := u.2.1.2.2.2.2) (H := H) (locs := locs) (cells := cells) (slots := slots) (Qc := jb_Q D H0 post) (XC := jb_XC D H0 xpost) (free := fun q9 => H0.size ≤ q9) (ls := ls) (rest := []) (mc := mc) (ms := ms) C.1.1 C.1.2.1 hl C.1.2.2.2.1 o1 o2 (hts _ o3) (hts _ o4) hsa (fun w9 hw9 => by
      rcases o6 w9 hw9 with z | z
      · exact hts _ z
      · exact va_tabs (jx_cast_st _ z).2 rfl (X.2.1 _ z)) o7 (X.1.1.kept kU) (X.1.2.kept kU) hS (hls.1.trans C.1.2.2.1.symm) d0 d3 d4 d6 d9 (fun x hx => (hout x hx).elim) hR.1 (by show 0 + _ ≤ _; rw [Nat.zero_add]; exact hR.2) (by have : cells + (kc + 1) ≤ mc := a3; show cells + 1 ≤ mc; omega) (by have : slots + (ks + 6) ≤ ms := a4; show slots + 6 ≤ ms; omega) hlk
      (fun t _ h2 h3 => ⟨w', t.heap.size, hx _ (by rw [← a1.1]; exact h2), a1.more h2 h3⟩) a2 (by have : cells + (kc + 1) ≤ mc := a3; omega) (by have : slots + (ks + 6) ≤ ms := a4; omega)
  have hW := hW T hT X9
  show ∃ t, Steps _ _ _ _ t ∧ u.2.2 t
  rw [hQ]
  exact hW
theorem jb_bodyT {ret : Option FieldType} (hl : l.stackTraces = false) (hy : plainName y.cls = true) (hn : (lg_sl av).length ≤ nL)
    (body : ∀ u : jb_U, ja_C (jb_mk l (jb_rm d q mc ms) nL y.cls D H0 tys u) cc → jb_X H0 u.1.2.2 → u.2.1.2.2.2.1.locks = false → u.2.1.2.2.2.1.sig.returnType = ret → u.2.2 = vx_MQ u.2.1.2.2.1 (jb_Q D H0 post) (jb_XC D H0 xpost) u.2.1.2.1 u.1.2.2 mc ms (fun q9 => H0.size ≤ q9) → jb_Th (jb_mk l (jb_rm d q mc ms) nL y.cls D H0 tys u) cc xpost → ja (jb_mk l (jb_rm d q mc ms) nL y.cls D H0 tys u) w sz mc ms 0 (lv_args 0 av) []) :
    jb_T l y cc nL ret d q mc ms D H0 tys av w sz post xpost := by
  refine vx_ofW (cc := cc) (maxL := nL) (ret := ret) hy rfl ?_
  intro p e s m args below meth c s₁ B hml hout hv
  obtain ⟨rfl, hH, hK, hX⟩ := hv
  have hts := atoms_spec (ws := .code y cc nL ret :: jw_all) B.pre
  have hlv := lv_entry av (n := nL) hn
  rw [lg_entry_eq]
  have C : ja_C (jb_mk l (jb_rm d q mc ms) nL y.cls D H0 tys ((p, e, s), (m, av.toArray, below, meth, c), vx_MQ below (jb_Q D H0 post) (jb_XC D H0 xpost) av.toArray s mc ms (fun q9 => H0.size ≤ q9))) cc := ⟨⟨B.exec, B.bytes, hml, findClass_of_methodNamed B.named, fun w h => hts w (List.mem_cons_of_mem _ h)⟩, hK⟩
  exact body ((p, e, s), (m, av.toArray, below, meth, c), vx_MQ below (jb_Q D H0 post) (jb_XC D H0 xpost) av.toArray s mc ms (fun q9 => H0.size ≤ q9)) C hX B.notSynchronized B.returns rfl (jb_thr C hX hl hH B.notSynchronized hout rfl) s.heap [] 0 0 _ hH (fun _ h => by cases h) (by show 0 + mc ≤ mc; omega) (by show 0 + ms ≤ ms; omega) hlv
theorem jb_methT_i (hl : l.stackTraces = false) (hy : plainName y.cls = true) (hn : (lg_sl av).length ≤ nL)
    (body : ∀ u : jb_U, ja_C (jb_mk l (jb_rm d q mc ms) nL y.cls D H0 tys u) cc → jb_X H0 u.1.2.2 → jb_Ei (jb_mk l (jb_rm d q mc ms) nL y.cls D H0 tys u) cc post → jb_Th (jb_mk l (jb_rm d q mc ms) nL y.cls D H0 tys u) cc xpost → ja (jb_mk l (jb_rm d q mc ms) nL y.cls D H0 tys u) w sz mc ms 0 (lv_args 0 av) []) :
    jb_T l y cc nL (some .int) d q mc ms D H0 tys av w sz post xpost := by
  refine jb_bodyT hl hy hn (fun u C hX hlk hr hQ TH => body u C hX ?_ TH)
  intro w' sz' kc ks pc lv v hd hp H locs cells slots ls a1 a2 a3 a4 hl
  refine W.widen (k := mc) (n := ms) (Nat.le_trans (Nat.le_add_right _ _) a3) (Nat.le_trans (Nat.le_add_right _ _) a4) ?_
  show W _ _ _ _ _ _ _ _ _ _ H locs mc ms u.2.2 _
  rw [hQ]
  exact vx_ret (W.iret C.1.1 C.1.2.1 hr (fun t ht _ => ⟨_, w', sz', rfl, hp, by rw [ht]; exact a1⟩) a2 hd hlk)
theorem jb_methT_l (hl : l.stackTraces = false) (hy : plainName y.cls = true) (hn : (lg_sl av).length ≤ nL)
    (body : ∀ u : jb_U, ja_C (jb_mk l (jb_rm d q mc ms) nL y.cls D H0 tys u) cc → jb_X H0 u.1.2.2 → jb_El (jb_mk l (jb_rm d q mc ms) nL y.cls D H0 tys u) cc post → jb_Th (jb_mk l (jb_rm d q mc ms) nL y.cls D H0 tys u) cc xpost → ja (jb_mk l (jb_rm d q mc ms) nL y.cls D H0 tys u) w sz mc ms 0 (lv_args 0 av) []) :
    jb_T l y cc nL (some .long) d q mc ms D H0 tys av w sz post xpost := by
  refine jb_bodyT hl hy hn (fun u C hX hlk hr hQ TH => body u C hX ?_ TH)
  intro w' sz' kc ks pc lv v hd hp H locs cells slots ls a1 a2 a3 a4 hl
  refine W.widen (k := mc) (n := ms) (Nat.le_trans (Nat.le_add_right _ _) a3) (Nat.le_trans (Nat.le_add_right _ _) a4) ?_
  show W _ _ _ _ _ _ _ _ _ _ H locs mc ms u.2.2 _
  rw [hQ]
  exact vx_ret (W.lret C.1.1 C.1.2.1 hr (fun t ht _ => ⟨_, w', sz', rfl, hp, by rw [ht]; exact a1⟩) a2 hd hlk)
theorem jb_methT_v (hl : l.stackTraces = false) (hy : plainName y.cls = true) (hn : (lg_sl av).length ≤ nL)
    (body : ∀ u : jb_U, ja_C (jb_mk l (jb_rm d q mc ms) nL y.cls D H0 tys u) cc → jb_X H0 u.1.2.2 → jb_Ev (jb_mk l (jb_rm d q mc ms) nL y.cls D H0 tys u) cc post → jb_Th (jb_mk l (jb_rm d q mc ms) nL y.cls D H0 tys u) cc xpost → ja (jb_mk l (jb_rm d q mc ms) nL y.cls D H0 tys u) w sz mc ms 0 (lv_args 0 av) []) :
    jb_T l y cc nL none d q mc ms D H0 tys av w sz post xpost := by
  refine jb_bodyT hl hy hn (fun u C hX hlk hr hQ TH => body u C hX ?_ TH)
  intro w' sz' kc ks pc lv hd hp H locs cells slots ls a1 a2 a3 a4 hl
  refine W.widen (k := mc) (n := ms) (Nat.le_trans (Nat.le_add_right _ _) a3) (Nat.le_trans (Nat.le_add_right _ _) a4) ?_
  show W _ _ _ _ _ _ _ _ _ _ H locs mc ms u.2.2 _
  rw [hQ]
  exact vx_ret (W.vret C.1.1 C.1.2.1 hr (fun t ht _ => ⟨_, w', sz', rfl, hp, by rw [ht]; exact a1⟩) a2 hd hlk)
end JT
