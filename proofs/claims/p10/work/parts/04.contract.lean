/-! CONTRACTS over the judgement: what a method answers and what it does to the world; calls. -/
section JB0
abbrev jb_W : Type := Nat → Option va_E

abbrev jb_U : Type := (Program × Env × State) × (MethodId × Array Value × List Frame × Method × Code) × (State → Prop)
abbrev jb_mk (l : Launch) (R : Room) (nL : Nat) (own : String) (D : va_G) (H0 : Heap) (tys : List (ClassId × FieldType)) (u : jb_U) : ja_G := ((u.1.1, l, u.1.2.1, R, u.1.2.2), u.2.1, (u.2.2, nL, own), (D, jcl, H0, tys))
/-- the room of a method: d frames and q words for what it calls -/
abbrev jb_rm (d q mc ms : Nat) : Room := { frames := d, cells := mc, slots := ms, locals := q }
def jb_P (D : va_G) (H0 : Heap) (tys : List (ClassId × FieldType)) (av : List Value) (w : jb_W) (sz : Nat) : Array Value → State → Prop := va_Pc av (fun U => ja_H D jcl H0 w sz U.heap ∧ va_K D jcl tys U ∧ jb_X H0 U)
def jb_Q (D : va_G) (H0 : Heap) (post : Option Value → jb_W → Nat → Prop) : Array Value → State → Outcome → State → Prop := fun _ _ oc t => ∃ (v : Option Value) (w : jb_W) (sz : Nat), oc = .returned v ∧ post v w sz ∧ ja_H D jcl H0 w sz t.heap
/-- THE CONTRACT of a method that returns: from the world w in a heap of sz cells, with the arguments av -/
def jb_M (l : Launch) (y : MethodName) (bytes : ByteArray) (maxL : Nat) (ret : Option FieldType) (d q mc ms : Nat) (D : va_G) (H0 : Heap) (tys : List (ClassId × FieldType)) (av : List Value) (w : jb_W) (sz : Nat) (post : Option Value → jb_W → Nat → Prop) : Prop :=
  Met l y (.code y bytes maxL ret :: jw_all) (jb_rm d q mc ms) (jb_P D H0 tys av w sz) (jb_Q D H0 post) mc ms (fun q9 => H0.size ≤ q9)
theorem jb_P.blind {D : va_G} {H0 : Heap} {tys : List (ClassId × FieldType)} {av : List Value} {w : jb_W} {sz : Nat} : FrameBlind (jb_P D H0 tys av w sz) := fun a U g mk h => by
  obtain ⟨h1, h2, h3, h4⟩ := h
  exact ⟨h1, h2, va_K.moved (u := U) (U := U.calling g mk a) (Vm.Alike.refl U.vm) h3, jb_X.moved (u := U) (U := U.calling g mk a) (State.WarmedH.refl U) h4⟩
/-- the ends -/
def jb_Ei (g : ja_G) (cc : ByteArray) (post : Option Value → jb_W → Nat → Prop) : Prop := ∀ {w : jb_W} {sz kc ks pc : Nat} {lv : List (Nat × Value)} {v : Int32}, decode cc pc = .ok (.ireturn, 1) → post (some (.int v)) w sz → ja g w sz kc ks pc lv [.int v]
def jb_Ez (g : ja_G) (cc : ByteArray) (post : Option Value → jb_W → Nat → Prop) : Prop := ∀ {w : jb_W} {sz kc ks pc : Nat} {lv : List (Nat × Value)} {v : Int32}, decode cc pc = .ok (.ireturn, 1) → (v = 0 ∨ v = 1) → post (some (.int v)) w sz → ja g w sz kc ks pc lv [.int v]
def jb_El (g : ja_G) (cc : ByteArray) (post : Option Value → jb_W → Nat → Prop) : Prop := ∀ {w : jb_W} {sz kc ks pc : Nat} {lv : List (Nat × Value)} {v : Int64}, decode cc pc = .ok (.lreturn, 1) → post (some (.long v)) w sz → ja g w sz kc ks pc lv [.long v]
def jb_Ev (g : ja_G) (cc : ByteArray) (post : Option Value → jb_W → Nat → Prop) : Prop := ∀ {w : jb_W} {sz kc ks pc : Nat} {lv : List (Nat × Value)}, decode cc pc = .ok (.return_, 1) → post none w sz → ja g w sz kc ks pc lv []
def jb_Er (g : ja_G) (cc : ByteArray) (post : Option Value → jb_W → Nat → Prop) : Prop := ∀ {w : jb_W} {sz kc ks pc : Nat} {lv : List (Nat × Value)} {v : Option Nat}, decode cc pc = .ok (.areturn, 1) → post (some (va_rf v)) w sz → ja g w sz kc ks pc lv [va_rf v]
end JB0
section JB1
variable {l : Launch} {y : MethodName} {cc : ByteArray} {nL d q mc ms : Nat} {D : va_G} {H0 : Heap} {tys : List (ClassId × FieldType)} {av : List Value} {w : jb_W} {sz : Nat} {post : Option Value → jb_W → Nat → Prop}
theorem jb_body {ret : Option FieldType} (hy : plainName y.cls = true) (hn : (lg_sl av).length ≤ nL)
    (body : ∀ u : jb_U, ja_C (jb_mk l (jb_rm d q mc ms) nL y.cls D H0 tys u) cc → jb_X H0 u.1.2.2 → u.2.1.2.2.2.1.name = y.name → u.2.1.2.2.2.1.locks = false → u.2.1.2.2.2.1.sig.returnType = ret → u.2.2 = MQ u.2.1.2.2.1 (jb_Q D H0 post) u.2.1.2.1 u.1.2.2 mc ms (fun q9 => H0.size ≤ q9) → ja (jb_mk l (jb_rm d q mc ms) nL y.cls D H0 tys u) w sz mc ms 0 (lv_args 0 av) []) :
    jb_M l y cc nL ret d q mc ms D H0 tys av w sz post := by
  refine Met.ofW (cc := cc) (maxL := nL) (ret := ret) hy rfl ?_
  intro p e s m args below meth c s₁ B hml hv
  obtain ⟨rfl, hH, hK, hX⟩ := hv
  have hts := atoms_spec (ws := .code y cc nL ret :: jw_all) B.pre
  have hl := lv_entry av (n := nL) hn
  rw [lg_entry_eq]
  exact body ((p, e, s), (m, av.toArray, below, meth, c), MQ below (jb_Q D H0 post) av.toArray s mc ms (fun q9 => H0.size ≤ q9)) ⟨⟨B.exec, B.bytes, hml, findClass_of_methodNamed B.named, fun w h => hts w (List.mem_cons_of_mem _ h)⟩, hK⟩ hX (name_of_methodNamed B.named B.method).1 B.notSynchronized B.returns rfl s.heap [] 0 0 _ hH (fun _ h => by cases h) (by show 0 + mc ≤ mc; omega) (by show 0 + ms ≤ ms; omega) hl
theorem jb_meth_i (hy : plainName y.cls = true) (hn : (lg_sl av).length ≤ nL)
    (body : ∀ u : jb_U, ja_C (jb_mk l (jb_rm d q mc ms) nL y.cls D H0 tys u) cc → jb_X H0 u.1.2.2 → jb_Ei (jb_mk l (jb_rm d q mc ms) nL y.cls D H0 tys u) cc post → ja (jb_mk l (jb_rm d q mc ms) nL y.cls D H0 tys u) w sz mc ms 0 (lv_args 0 av) []) :
    jb_M l y cc nL (some .int) d q mc ms D H0 tys av w sz post := by
  refine jb_body hy hn (fun u C hX hnm hlk hr hQ => body u C hX ?_)
  intro w' sz' kc ks pc lv v hd hp H locs cells slots ls a1 a2 a3 a4 hl
  refine W.widen (k := mc) (n := ms) (Nat.le_trans (Nat.le_add_right _ _) a3) (Nat.le_trans (Nat.le_add_right _ _) a4) ?_
  show W _ _ _ _ _ _ _ _ _ _ H locs mc ms u.2.2 _
  rw [hQ]
  exact W.iret C.1.1 C.1.2.1 hr (fun t ht _ => ⟨_, w', sz', rfl, hp, by rw [ht]; exact a1⟩) a2 hd hlk
theorem jb_meth_z (hy : plainName y.cls = true) (hn : (lg_sl av).length ≤ nL)
    (body : ∀ u : jb_U, ja_C (jb_mk l (jb_rm d q mc ms) nL y.cls D H0 tys u) cc → jb_X H0 u.1.2.2 → jb_Ez (jb_mk l (jb_rm d q mc ms) nL y.cls D H0 tys u) cc post → ja (jb_mk l (jb_rm d q mc ms) nL y.cls D H0 tys u) w sz mc ms 0 (lv_args 0 av) []) :
    jb_M l y cc nL (some .boolean) d q mc ms D H0 tys av w sz post := by
  refine jb_body hy hn (fun u C hX hnm hlk hr hQ => body u C hX ?_)
  intro w' sz' kc ks pc lv v hd hv hp H locs cells slots ls a1 a2 a3 a4 hl
  refine W.widen (k := mc) (n := ms) (Nat.le_trans (Nat.le_add_right _ _) a3) (Nat.le_trans (Nat.le_add_right _ _) a4) ?_
  show W _ _ _ _ _ _ _ _ _ _ H locs mc ms u.2.2 _
  rw [hQ]
  exact W.zret C.1.1 C.1.2.1 hr (by rcases hv with rfl | rfl <;> rfl) (fun t ht _ => ⟨_, w', sz', rfl, hp, by rw [ht]; exact a1⟩) a2 hd hlk
theorem jb_meth_l (hy : plainName y.cls = true) (hn : (lg_sl av).length ≤ nL)
    (body : ∀ u : jb_U, ja_C (jb_mk l (jb_rm d q mc ms) nL y.cls D H0 tys u) cc → jb_X H0 u.1.2.2 → jb_El (jb_mk l (jb_rm d q mc ms) nL y.cls D H0 tys u) cc post → ja (jb_mk l (jb_rm d q mc ms) nL y.cls D H0 tys u) w sz mc ms 0 (lv_args 0 av) []) :
    jb_M l y cc nL (some .long) d q mc ms D H0 tys av w sz post := by
  refine jb_body hy hn (fun u C hX hnm hlk hr hQ => body u C hX ?_)
  intro w' sz' kc ks pc lv v hd hp H locs cells slots ls a1 a2 a3 a4 hl
  refine W.widen (k := mc) (n := ms) (Nat.le_trans (Nat.le_add_right _ _) a3) (Nat.le_trans (Nat.le_add_right _ _) a4) ?_
  show W _ _ _ _ _ _ _ _ _ _ H locs mc ms u.2.2 _
  rw [hQ]
  exact W.lret C.1.1 C.1.2.1 hr (fun t ht _ => ⟨_, w', sz', rfl, hp, by rw [ht]; exact a1⟩) a2 hd hlk
theorem jb_meth_v (hy : plainName y.cls = true) (hn : (lg_sl av).length ≤ nL)
    (body : ∀ u : jb_U, ja_C (jb_mk l (jb_rm d q mc ms) nL y.cls D H0 tys u) cc → jb_X H0 u.1.2.2 → u.2.1.2.2.2.1.name = y.name → jb_Ev (jb_mk l (jb_rm d q mc ms) nL y.cls D H0 tys u) cc post → ja (jb_mk l (jb_rm d q mc ms) nL y.cls D H0 tys u) w sz mc ms 0 (lv_args 0 av) []) :
    jb_M l y cc nL none d q mc ms D H0 tys av w sz post := by
  refine jb_body hy hn (fun u C hX hnm hlk hr hQ => body u C hX hnm ?_)
  intro w' sz' kc ks pc lv hd hp H locs cells slots ls a1 a2 a3 a4 hl
  refine W.widen (k := mc) (n := ms) (Nat.le_trans (Nat.le_add_right _ _) a3) (Nat.le_trans (Nat.le_add_right _ _) a4) ?_
  show W _ _ _ _ _ _ _ _ _ _ H locs mc ms u.2.2 _
  rw [hQ]
  exact W.vret C.1.1 C.1.2.1 hr (fun t ht _ => ⟨_, w', sz', rfl, hp, by rw [ht]; exact a1⟩) a2 hd hlk
theorem jb_meth_r {Cn : String} (hy : plainName y.cls = true) (hn : (lg_sl av).length ≤ nL)
    (body : ∀ u : jb_U, ja_C (jb_mk l (jb_rm d q mc ms) nL y.cls D H0 tys u) cc → jb_X H0 u.1.2.2 → jb_Er (jb_mk l (jb_rm d q mc ms) nL y.cls D H0 tys u) cc post → ja (jb_mk l (jb_rm d q mc ms) nL y.cls D H0 tys u) w sz mc ms 0 (lv_args 0 av) []) :
    jb_M l y cc nL (some (.object Cn)) d q mc ms D H0 tys av w sz post := by
  refine jb_body hy hn (fun u C hX hnm hlk hr hQ => body u C hX ?_)
  intro w' sz' kc ks pc lv v hd hp H locs cells slots ls a1 a2 a3 a4 hl
  refine W.widen (k := mc) (n := ms) (Nat.le_trans (Nat.le_add_right _ _) a3) (Nat.le_trans (Nat.le_add_right _ _) a4) ?_
  show W _ _ _ _ _ _ _ _ _ _ H locs mc ms u.2.2 _
  rw [hQ]
  exact W.aret C.1.1 C.1.2.1 hr (Or.inl ⟨_, rfl⟩) (by cases v with | none => exact Or.inl rfl | some a => exact Or.inr ⟨a, rfl⟩) (fun t ht _ => ⟨_, w', sz', rfl, hp, by rw [ht]; exact a1⟩) a2 hd hlk
end JB1
section JB2
variable {g : ja_G} {cc : ByteArray} {w : jb_W} {sz kc ks pc : Nat} {lv : List (Nat × Value)} {rest st0 : List Value} {mc ms : Nat} {post : Option Value → jb_W → Nat → Prop}
theorem jb_after (hr : ∀ (H : Heap) (locs : List Loc) (cells slots : Nat) (ls : Array Slot), ja_H (ja_D g) (ja_l g) (ja_0 g) w sz H → cells + mc ≤ (ja_R g).cells → slots + ms ≤ (ja_R g).slots → ls.size = ja_n g → va_Run g.1.1 g.1.2.1 g.1.2.2.1 g.1.2.2.2.1 g.1.2.2.2.2 g.2.1.1 g.2.1.2.1 g.2.1.2.2.1 g.2.1.2.2.2.1 g.2.1.2.2.2.2 H locs cells slots mc ms (F0 (ja_m g) pc ls st0) rest (fun _ oc t => ∃ (v : Option Value) (w : jb_W) (sz : Nat), oc = .returned v ∧ post v w sz ∧ ja_H (ja_D g) (ja_l g) (ja_0 g) w sz t.heap) (fun q => (ja_0 g).size ≤ q))
    (kk : ∀ (v : Option Value) (w' : jb_W) (sz' : Nat), post v w' sz' → ja g w' sz' kc ks (pc + 3) lv (v.toList ++ rest)) : ja g w sz (kc + mc) (ks + ms) pc lv st0 := by
  intro H locs cells slots ls a1 a2 a3 a4 hl T hT X
  obtain ⟨v, st₀, t, T', L, h0, X', hL, e1, e2, ⟨v', w', sz', hv, hp, hH⟩, st⟩ := hr H locs cells slots ls a1 (by omega) (by omega) hl.1 T hT X
  cases hv
  obtain ⟨t2, b1, b2⟩ := kk v w' sz' hp T'.heap (locs ++ L) (cells + mc) (slots + ms) ls (by rw [e1]; exact hH) (fun q hq => by
    rcases List.mem_append.mp hq with h | h
    · exact a2 q h
    · exact hL q h) (by omega) (by omega) hl T' rfl X'
  exact ⟨t2, st t2 b1, b2⟩
/-- a static method of the entry 'index' of the class 'own' -/
def jb_KS (own : String) (index : Nat) (y : MethodName) (bytes : ByteArray) (maxL : Nat) (ret : Option FieldType) (n : Nat) : Prop := Cond.methodLink own index y ∈ jw_all ∧ Cond.static y ∈ jw_all ∧ Cond.initialized y.cls ∈ jw_all ∧ Cond.code y bytes maxL ret ∈ jw_all ∧ (y.cls ≠ "java/lang/invoke/MethodHandle" ∧ y.cls ≠ "java/lang/invoke/VarHandle" ∧ (parseMethodDescriptor y.desc).map (fun d => d.parameters.length) = some n)
def jb_KV (own : String) (index : Nat) (y : MethodName) (bytes : ByteArray) (maxL : Nat) (ret : Option FieldType) (n : Nat) : Prop := Cond.methodLink own index y ∈ jw_all ∧ Cond.instanceMethod y ∈ jw_all ∧ Cond.selects y.cls y y ∈ jw_all ∧ Cond.initialized y.cls ∈ jw_all ∧ Cond.code y bytes maxL ret ∈ jw_all ∧ (y.cls ≠ "java/lang/invoke/MethodHandle" ∧ y.cls ≠ "java/lang/invoke/VarHandle" ∧ (parseMethodDescriptor y.desc).map (fun d => d.parameters.length) = some n)
def jb_KI (own : String) (index : Nat) (y : MethodName) (bytes : ByteArray) (maxL : Nat) (n : Nat) : Prop := Cond.methodLink own index y ∈ jw_all ∧ Cond.instanceMethod y ∈ jw_all ∧ y.name = "<init>" ∧ Cond.initialized y.cls ∈ jw_all ∧ Cond.code y bytes maxL none ∈ jw_all ∧ (y.cls ≠ "java/lang/invoke/MethodHandle" ∧ y.cls ≠ "java/lang/invoke/VarHandle" ∧ (parseMethodDescriptor y.desc).map (fun d => d.parameters.length) = some n)
theorem jb_good {c : Cond} (hc : c ∈ jw_all) : GoodIn jw_all (c :: jw_all) := fun x hx => (List.mem_cons.mp hx).elim (fun e => by rw [e]; exact ⟨hc, jw_ok _ hc⟩) (fun h => ⟨h, jw_ok _ h⟩)
variable {l : Launch} {R : Room} {nL : Nat} {own : String} {D : va_G} {H0 : Heap} {tys : List (ClassId × FieldType)} {u : jb_U} {y : MethodName} {bytes : ByteArray} {maxL d q n index : Nat} {ret : Option FieldType} {As : List Value} {b : Nat}
theorem jb_callS (C : ja_C (jb_mk l R nL own D H0 tys u) cc) (X : jb_X H0 u.1.2.2) (hK : jb_KS own index y bytes maxL ret n) (hM : jb_M l y bytes maxL ret d q mc ms D H0 tys As w sz post) (hd : decode cc pc = .ok (.invokestatic index, 3)) (hn : As.length = n) (hst : st0 = As.reverse ++ rest) (hrm : d + 1 ≤ R.frames ∧ 8 + (maxL + 11) + q ≤ R.locals) (hrs : (rest.map fun v => v.category).sum ≤ 8)
    (kk : ∀ (v : Option Value) (w' : jb_W) (sz' : Nat), post v w' sz' → ja (jb_mk l R nL own D H0 tys u) w' sz' kc ks (pc + 3) lv (v.toList ++ rest)) : ja (jb_mk l R nL own D H0 tys u) w sz (kc + mc) (ks + ms) pc lv st0 := by
  subst hst
  obtain ⟨k1, k2, k3, k4, k5⟩ := hK
  have hts := C.1.2.2.2.2
  refine jb_after (fun H locs cells slots ls a1 a3 a4 hls => ?_) kk
  exact va_runS (Pc := jb_P D H0 tys As w sz) C.1 hM ⟨callB_of n hts (jb_good k4) rfl rfl rfl (hts _ k3) (hts _ k1) k5 hrm, hts _ k2⟩ ⟨jb_P.blind, fun U hU hW => ⟨rfl, by rw [hU]; exact a1, va_K.moved hW.alike C.2, jb_X.moved hW X⟩⟩ rfl hn hls rfl (lv_room hrs) hd ⟨a3, a4⟩
theorem jb_callV (C : ja_C (jb_mk l R nL own D H0 tys u) cc) (X : jb_X H0 u.1.2.2) (hK : jb_KV own index y bytes maxL ret n) {ci : Nat} {fs : List Value} (hb : w b = some (.inr (ci, fs))) (hci : (jcl[ci]?).map (fun r => r.1) = some y.cls) (hM : jb_M l y bytes maxL ret d q mc ms D H0 tys (.ref b :: As) w sz post) (hd : decode cc pc = .ok (.invokevirtual index, 3)) (hn : As.length = n) (hst : st0 = As.reverse ++ .ref b :: rest) (hrm : d + 1 ≤ R.frames ∧ 8 + (maxL + 11) + q ≤ R.locals) (hrs : (rest.map fun v => v.category).sum ≤ 8)
    (kk : ∀ (v : Option Value) (w' : jb_W) (sz' : Nat), post v w' sz' → ja (jb_mk l R nL own D H0 tys u) w' sz' kc ks (pc + 3) lv (v.toList ++ rest)) : ja (jb_mk l R nL own D H0 tys u) w sz (kc + mc) (ks + ms) pc lv st0 := by
  subst hst
  obtain ⟨k1, k2, k2', k3, k4, k5⟩ := hK
  have hts := C.1.2.2.2.2
  refine jb_after (fun H locs cells slots ls a1 a3 a4 hls => ?_) kk
  have hrec : ∃ cellB : Cell, H[b]? = some cellB ∧ cellB.vm.isStatics = false ∧ u.1.2.2.vm.findClass y.cls = some cellB.cls := by
    obtain ⟨q', h1, cell, g1, g2, g3, -⟩ := (a1.2.2.2 b _ hb).2
    have h9 := (C.2.1 ci q' h1).2.1
    have hq : q'.1 = y.cls := by
      have h1' : jcl[ci]? = some q' := h1
      rw [h1'] at hci
      exact Option.some.inj hci
    rw [hq] at h9
    exact ⟨cell, g1, by rw [g3]; rfl, by rw [g2]; exact h9⟩
  exact va_runV (Pc := jb_P D H0 tys (.ref b :: As) w sz) C.1 hM ⟨callB_of n hts (jb_good k4) rfl rfl rfl (hts _ k3) (hts _ k1) k5 hrm, hts _ k2, hts _ k2'⟩ ⟨jb_P.blind, hrec, fun U hU hW => ⟨rfl, by rw [hU]; exact a1, va_K.moved hW.alike C.2, jb_X.moved hW X⟩⟩ rfl hn hls rfl (lv_room hrs) hd ⟨a3, a4⟩
theorem jb_callI (C : ja_C (jb_mk l R nL own D H0 tys u) cc) (X : jb_X H0 u.1.2.2) (hK : jb_KI own index y bytes maxL n) (hM : jb_M l y bytes maxL none d q mc ms D H0 tys (.ref b :: As) w sz post) (hd : decode cc pc = .ok (.invokespecial index, 3)) (hn : As.length = n) (hst : st0 = As.reverse ++ .ref b :: rest) (hrm : d + 1 ≤ R.frames ∧ 8 + (maxL + 11) + q ≤ R.locals) (hrs : (rest.map fun v => v.category).sum ≤ 8)
    (kk : ∀ (v : Option Value) (w' : jb_W) (sz' : Nat), post v w' sz' → ja (jb_mk l R nL own D H0 tys u) w' sz' kc ks (pc + 3) lv (v.toList ++ rest)) : ja (jb_mk l R nL own D H0 tys u) w sz (kc + mc) (ks + ms) pc lv st0 := by
  subst hst
  obtain ⟨k1, k2, k2', k3, k4, k5⟩ := hK
  have hts := C.1.2.2.2.2
  refine jb_after (fun H locs cells slots ls a1 a3 a4 hls => ?_) kk
  exact va_runI (Pc := jb_P D H0 tys (.ref b :: As) w sz) C.1 hM ⟨callB_of n hts (jb_good k4) rfl rfl rfl (hts _ k3) (hts _ k1) k5 hrm, k2', hts _ k2⟩ ⟨jb_P.blind, fun U hU hW => ⟨rfl, by rw [hU]; exact a1, va_K.moved hW.alike C.2, jb_X.moved hW X⟩⟩ rfl hn hls rfl (lv_room hrs) hd ⟨a3, a4⟩
/-- super(): Object's constructor -/
theorem jb_objInit (C : ja_C (jb_mk l R nL own D H0 tys u) cc) (h1 : Cond.methodLink own index objectInit ∈ jw_all) (h2 : Cond.instanceMethod objectInit ∈ jw_all) (h3 : Cond.code objectInit ⟨#[0xb1]⟩ 1 none ∈ jw_all) (hd : decode cc pc = .ok (.invokespecial index, 3)) (hf : 1 ≤ R.frames ∧ 20 ≤ R.locals) (hrs : (rest.map fun v => v.category).sum ≤ 8) (k : ja (jb_mk l R nL own D H0 tys u) w sz kc ks (pc + 3) lv rest) : ja (jb_mk l R nL own D H0 tys u) w sz kc ks pc lv (.ref b :: rest) := by
  intro H locs cells slots ls a1 a2 a3 a4 hl
  have hts := C.1.2.2.2.2
  have hml : u.2.1.2.2.2.2.maxLocals = nL := C.1.2.2.1
  have hls : ls.size = nL := hl.1
  refine W.objInit C.1.1 C.1.2.1 C.1.2.2.2.1 (hts _ h1) (hts _ h2) (hts _ h3) rfl (by rw [hml]; exact hls) rfl hd ?_ ?_ ?_
  · exact hf.1
  · have h9 := hf.2
    have h8 := lv_room (m := ja_m (jb_mk l R nL own D H0 tys u)) (pc := pc) (ls := ls) (rest := .ref b :: rest) hrs
    exact Nat.le_trans (Nat.add_le_add_right h8 12) h9
  · exact W.eq (g2 := F0 (ja_m (jb_mk l R nL own D H0 tys u)) (pc + 3) ls rest) rfl (k H locs cells slots ls a1 a2 a3 a4 hl)
end JB2
