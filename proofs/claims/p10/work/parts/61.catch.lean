/-! CALLS of nest mates; bodies that catch; calls of methods that throw, and of methods with a table of their own -/
def jb_KSN (own : String) (index : Nat) (y : MethodName) (host : String) (bytes : ByteArray) (maxL : Nat) (ret : Option FieldType) (n : Nat) : Prop := (own, index, y, host) ∈ jx_nest ∧ Cond.static y ∈ jw_all ∧ Cond.initialized y.cls ∈ jw_all ∧ Cond.code y bytes maxL ret ∈ jw_all ∧ (y.cls ≠ "java/lang/invoke/MethodHandle" ∧ y.cls ≠ "java/lang/invoke/VarHandle" ∧ (parseMethodDescriptor y.desc).map (fun d => d.parameters.length) = some n)
def jb_KIN (own : String) (index : Nat) (y : MethodName) (host : String) (bytes : ByteArray) (maxL : Nat) (n : Nat) : Prop := (own, index, y, host) ∈ jx_nest ∧ Cond.instanceMethod y ∈ jw_all ∧ y.name = "<init>" ∧ Cond.initialized y.cls ∈ jw_all ∧ Cond.code y bytes maxL none ∈ jw_all ∧ (y.cls ≠ "java/lang/invoke/MethodHandle" ∧ y.cls ≠ "java/lang/invoke/VarHandle" ∧ (parseMethodDescriptor y.desc).map (fun d => d.parameters.length) = some n)
def jb_KSW (own : String) (index : Nat) (y : MethodName) (bytes : ByteArray) (maxL : Nat) (ret : Option FieldType) (hh : List (Nat × Nat × Nat × Nat)) (n : Nat) : Prop := Cond.methodLink own index y ∈ jw_all ∧ Cond.static y ∈ jw_all ∧ Cond.initialized y.cls ∈ jw_all ∧ Cond.codeWith y bytes maxL ret hh ∈ jw_all ∧ (y.cls ≠ "java/lang/invoke/MethodHandle" ∧ y.cls ≠ "java/lang/invoke/VarHandle" ∧ (parseMethodDescriptor y.desc).map (fun d => d.parameters.length) = some n)
/-- THE CONTRACT of a method that catches what it calls throws -/
def jb_MW (l : Launch) (y : MethodName) (bytes : ByteArray) (maxL : Nat) (ret : Option FieldType) (hh : List (Nat × Nat × Nat × Nat)) (d q mc ms : Nat) (D : va_G) (H0 : Heap) (tys : List (ClassId × FieldType)) (av : List Value) (w : jb_W) (sz : Nat) (post : Option Value → jb_W → Nat → Prop) : Prop :=
  vx_Met l y (.codeWith y bytes maxL ret hh :: jw_all) (jb_rm d q mc ms) (jb_P D H0 tys av w sz) (jb_Q D H0 post) (jb_XC D H0 (fun _ _ _ => False)) mc ms (fun q9 => H0.size ≤ q9)
/-- an object q of the class E is thrown over the frame at pc -/
def jb_Cx (g : ja_G) (w : jb_W) (sz kc ks pc : Nat) (lv : List (Nat × Value)) (rest : List Value) (E : String) (q : Addr) : Prop :=
  ∀ (H : Heap) (locs : List Loc) (cells slots : Nat) (ls : Array Slot) (ce : Cell), ja_H (ja_D g) (ja_l g) (ja_0 g) w sz H → (∀ q ∈ locs, (ja_0 g).size ≤ q.base) → cells + kc ≤ (ja_R g).cells → slots + ks ≤ (ja_R g).slots → lv_has ls (ja_n g) lv → H[q]? = some ce → ce.vm = .none → (ja_s g).vm.findClass E = some ce.cls → vx_W g.1.1 g.1.2.1 g.1.2.2.1 g.1.2.2.2.1 g.1.2.2.2.2 g.2.1.1 g.2.1.2.1 g.2.1.2.2.1 g.2.1.2.2.2.1 g.2.1.2.2.2.2 H locs cells slots g.2.2.1.1 (F0 (ja_m g) pc ls rest) q
section JN1
variable {cc : ByteArray} {w : jb_W} {sz kc ks pc : Nat} {lv : List (Nat × Value)} {rest st0 : List Value} {mc ms : Nat} {post : Option Value → jb_W → Nat → Prop} {xpost : String → jb_W → Nat → Prop}
variable {l : Launch} {R : Room} {nL : Nat} {own host : String} {D : va_G} {H0 : Heap} {tys : List (ClassId × FieldType)} {u : jb_U} {y : MethodName} {bytes : ByteArray} {maxL d q n index : Nat} {ret : Option FieldType} {As : List Value} {b : Nat} {hh : List (Nat × Nat × Nat × Nat)}
theorem jb_callSN (C : ja_C (jb_mk l R nL own D H0 tys u) cc) (X : jb_X H0 u.1.2.2) (hK : jb_KSN own index y host bytes maxL ret n) (hM : jb_M l y bytes maxL ret d q mc ms D H0 tys As w sz post) (hd : decode cc pc = .ok (.invokestatic index, 3)) (hn : As.length = n) (hst : st0 = As.reverse ++ rest) (hrm : d + 1 ≤ R.frames ∧ 8 + (maxL + 11) + q ≤ R.locals) (hrs : (rest.map fun v => v.category).sum ≤ 8)
    (kk : ∀ (v : Option Value) (w' : jb_W) (sz' : Nat), post v w' sz' → ja (jb_mk l R nL own D H0 tys u) w' sz' kc ks (pc + 3) lv (v.toList ++ rest)) : ja (jb_mk l R nL own D H0 tys u) w sz (kc + mc) (ks + ms) pc lv st0 := by
  subst hst
  obtain ⟨k1, k2, k3, k4, k5⟩ := hK
  have hts := C.1.2.2.2.2
  refine jb_after (fun H locs cells slots ls a1 a3 a4 hls => ?_) kk
  exact va_runSN (Pc := jb_P D H0 tys As w sz) C.1 hM ⟨va_cnB n hts (jb_good k4) rfl rfl rfl (X.2.2.2.2.2 _ k1) (hts _ k3) k5 hrm, hts _ k2, trivial⟩ ⟨jb_P.blind, fun U hU hW => ⟨rfl, by rw [hU]; exact a1, va_K.moved hW.alike C.2, jb_X.moved hW X⟩⟩ rfl hn hls rfl (lv_room hrs) hd ⟨a3, a4⟩
theorem jb_pSN {r : Value} (C : ja_C (jb_mk l R nL own D H0 tys u) cc) (X : jb_X H0 u.1.2.2) (hK : jb_KSN own index y host bytes maxL ret n) (hM : jb_M l y bytes maxL ret d q 0 0 D H0 tys As w sz (fun v w' sz' => v = some r ∧ w' = w ∧ sz' = sz)) (hd : decode cc pc = .ok (.invokestatic index, 3)) (hn : As.length = n) (hst : st0 = As.reverse ++ rest) (hrm : d + 1 ≤ R.frames ∧ 8 + (maxL + 11) + q ≤ R.locals) (hrs : (rest.map fun v => v.category).sum ≤ 8)
    (kk : ja (jb_mk l R nL own D H0 tys u) w sz kc ks (pc + 3) lv (r :: rest)) : ja (jb_mk l R nL own D H0 tys u) w sz kc ks pc lv st0 :=
  jb_callSN (kc := kc) (ks := ks) (mc := 0) (ms := 0) C X hK hM hd hn hst hrm hrs (fun v w' sz' hp => by obtain ⟨e1, e2, e3⟩ := hp; rw [e1, e2, e3]; exact kk)
theorem jb_callIN (C : ja_C (jb_mk l R nL own D H0 tys u) cc) (X : jb_X H0 u.1.2.2) (hK : jb_KIN own index y host bytes maxL n) (hM : jb_M l y bytes maxL none d q mc ms D H0 tys (.ref b :: As) w sz post) (hd : decode cc pc = .ok (.invokespecial index, 3)) (hn : As.length = n) (hst : st0 = As.reverse ++ .ref b :: rest) (hrm : d + 1 ≤ R.frames ∧ 8 + (maxL + 11) + q ≤ R.locals) (hrs : (rest.map fun v => v.category).sum ≤ 8)
    (kk : ∀ (v : Option Value) (w' : jb_W) (sz' : Nat), post v w' sz' → ja (jb_mk l R nL own D H0 tys u) w' sz' kc ks (pc + 3) lv (v.toList ++ rest)) : ja (jb_mk l R nL own D H0 tys u) w sz (kc + mc) (ks + ms) pc lv st0 := by
  subst hst
  obtain ⟨k1, k2, k2', k3, k4, k5⟩ := hK
  have hts := C.1.2.2.2.2
  refine jb_after (fun H locs cells slots ls a1 a3 a4 hls => ?_) kk
  exact va_runIN (Pc := jb_P D H0 tys (.ref b :: As) w sz) C.1 hM ⟨va_cnB n hts (jb_good k4) rfl rfl rfl (X.2.2.2.2.2 _ k1) (hts _ k3) k5 hrm, k2', hts _ k2⟩ ⟨jb_P.blind, fun U hU hW => ⟨rfl, by rw [hU]; exact a1, va_K.moved hW.alike C.2, jb_X.moved hW X⟩⟩ rfl hn hls rfl (lv_room hrs) hd ⟨a3, a4⟩
/-- behind a call that may throw -/
theorem jb_afterX {g : ja_G} (hr : ∀ (H : Heap) (locs : List Loc) (cells slots : Nat) (ls : Array Slot), ja_H (ja_D g) (ja_l g) (ja_0 g) w sz H → cells + mc ≤ (ja_R g).cells → slots + ms ≤ (ja_R g).slots → ls.size = ja_n g → vx_Run g.1.1 g.1.2.1 g.1.2.2.1 g.1.2.2.2.1 g.1.2.2.2.2 g.2.1.1 g.2.1.2.1 g.2.1.2.2.1 g.2.1.2.2.2.1 g.2.1.2.2.2.2 H locs cells slots mc ms (F0 (ja_m g) pc ls st0) rest (fun _ oc t => ∃ (v : Option Value) (w : jb_W) (sz : Nat), oc = .returned v ∧ post v w sz ∧ ja_H (ja_D g) (ja_l g) (ja_0 g) w sz t.heap) (fun E _ t => ∃ (w : jb_W) (sz : Nat), xpost E w sz ∧ ja_H (ja_D g) (ja_l g) (ja_0 g) w sz t.heap) (fun q => (ja_0 g).size ≤ q))
    (kk : ∀ (v : Option Value) (w' : jb_W) (sz' : Nat), post v w' sz' → ja g w' sz' kc ks (pc + 3) lv (v.toList ++ rest)) (kx : ∀ (E : String) (w' : jb_W) (sz' : Nat) (q : Addr), xpost E w' sz' → jb_Cx g w' sz' kc ks pc lv rest E q) : ja g w sz (kc + mc) (ks + ms) pc lv st0 := by
  intro H locs cells slots ls a1 a2 a3 a4 hl T hT X
  rcases hr H locs cells slots ls a1 (by omega) (by omega) hl.1 T hT X with ⟨v, st₀, t, T', L, h0, X', hL, e1, e2, ⟨v', w', sz', hv, hp, hH⟩, st⟩ | ⟨q, st₀, t, T', L, E, ce, h0, X', hL, e1, e2, ⟨w', sz', hp, hH⟩, hce, hcv, hcl, st⟩
  · cases hv
    obtain ⟨t2, b1, b2⟩ := kk v w' sz' hp T'.heap (locs ++ L) (cells + mc) (slots + ms) ls (by rw [e1]; exact hH) (fun q hq => by
      rcases List.mem_append.mp hq with h | h
      · exact a2 q h
      · exact hL q h) (by omega) (by omega) hl T' rfl X'
    exact ⟨t2, st t2 b1, b2⟩
  · obtain ⟨t2, b1, b2⟩ := kx E w' sz' q hp T'.heap (locs ++ L) (cells + mc) (slots + ms) ls ce (by rw [e1]; exact hH) (fun q hq => by
      rcases List.mem_append.mp hq with h | h
      · exact a2 q h
      · exact hL q h) (by omega) (by omega) hl (by rw [e1]; exact hce) hcv hcl T' rfl X'
    exact ⟨t2, st.trans b1, b2⟩
theorem jb_callVT (C : ja_C (jb_mk l R nL own D H0 tys u) cc) (X : jb_X H0 u.1.2.2) (hK : jb_KV own index y bytes maxL ret n) {ci : Nat} {fs : List Value} (hb : w b = some (.inr (ci, fs))) (hci : (jcl[ci]?).map (fun r => r.1) = some y.cls) (hM : jb_T l y bytes maxL ret d q mc ms D H0 tys (.ref b :: As) w sz post xpost) (hd : decode cc pc = .ok (.invokevirtual index, 3)) (hn : As.length = n) (hst : st0 = As.reverse ++ .ref b :: rest) (hrm : d + 1 ≤ R.frames ∧ 8 + (maxL + 11) + q ≤ R.locals) (hrs : (rest.map fun v => v.category).sum ≤ 8)
    (kk : ∀ (v : Option Value) (w' : jb_W) (sz' : Nat), post v w' sz' → ja (jb_mk l R nL own D H0 tys u) w' sz' kc ks (pc + 3) lv (v.toList ++ rest)) (kx : ∀ (E : String) (w' : jb_W) (sz' : Nat) (q : Addr), xpost E w' sz' → jb_Cx (jb_mk l R nL own D H0 tys u) w' sz' kc ks pc lv rest E q) : ja (jb_mk l R nL own D H0 tys u) w sz (kc + mc) (ks + ms) pc lv st0 := by
  subst hst
  obtain ⟨k1, k2, k2', k3, k4, k5⟩ := hK
  have hts := C.1.2.2.2.2
  refine jb_afterX (fun H locs cells slots ls a1 a3 a4 hls => ?_) kk kx
  have hrec : ∃ cellB : Cell, H[b]? = some cellB ∧ cellB.vm.isStatics = false ∧ u.1.2.2.vm.findClass y.cls = some cellB.cls := by
    obtain ⟨q', h1, cell, g1, g2, g3, -⟩ := (a1.2.2.2 b _ hb).2
    have h9 := (C.2.1 ci q' h1).2.1
    have hq : q'.1 = y.cls := by
      have h1' : jcl[ci]? = some q' := h1
      rw [h1'] at hci
      exact Option.some.inj hci
    rw [hq] at h9
    exact ⟨cell, g1, by rw [g3]; rfl, by rw [g2]; exact h9⟩
  exact vx_runV (Pc := jb_P D H0 tys (.ref b :: As) w sz) C.1 hM ⟨callB_of n hts (jb_good k4) rfl rfl rfl (hts _ k3) (hts _ k1) k5 hrm, hts _ k2, hts _ k2'⟩ ⟨jb_P.blind, hrec, fun U hU hW => ⟨rfl, by rw [hU]; exact a1, va_K.moved hW.alike C.2, jb_X.moved hW X⟩⟩ rfl hn hls rfl (lv_room hrs) hd ⟨a3, a4⟩
/-- a static call of a method that catches -/
theorem jb_callSX (C : ja_C (jb_mk l R nL own D H0 tys u) cc) (X : jb_X H0 u.1.2.2) (hK : jb_KSW own index y bytes maxL ret hh n) (hM : jb_MW l y bytes maxL ret hh d q mc ms D H0 tys As w sz post) (hd : decode cc pc = .ok (.invokestatic index, 3)) (hn : As.length = n) (hst : st0 = As.reverse ++ rest) (hrm : d + 1 ≤ R.frames ∧ 8 + (maxL + 11) + q ≤ R.locals) (hrs : (rest.map fun v => v.category).sum ≤ 8)
    (kk : ∀ (v : Option Value) (w' : jb_W) (sz' : Nat), post v w' sz' → ja (jb_mk l R nL own D H0 tys u) w' sz' kc ks (pc + 3) lv (v.toList ++ rest)) : ja (jb_mk l R nL own D H0 tys u) w sz (kc + mc) (ks + ms) pc lv st0 := by
  subst hst
  obtain ⟨k1, k2, k3, k4, k5, k6, k7⟩ := hK
  have hts := C.1.2.2.2.2
  refine jb_afterX (xpost := fun _ _ _ => False) (fun H locs cells slots ls a1 a3 a4 hls => ?_) kk (fun _ _ _ _ z => z.elim)
  exact vx_runSX (Pc := jb_P D H0 tys As w sz) (hh := hh) C.1 hM ⟨⟨rfl, rfl, hrm.1, hrm.2, pay_in hts (jb_good k4), List.mem_cons_self⟩, hts _ k4, hts _ k3, ⟨k5, k6⟩, fun sig h => by rw [h] at k7; exact (Option.some.inj k7).symm, hts _ k1, hts _ k2⟩ ⟨jb_P.blind, fun U hU hW => ⟨rfl, by rw [hU]; exact a1, va_K.moved hW.alike C.2, jb_X.moved hW X⟩⟩ rfl hn hls rfl (lv_room hrs) hd ⟨a3, a4⟩
/-- caught here: by the row x of the table; those ahead name other classes -/
theorem jb_catch {E name : String} {q9 : Addr} (C : ja_C (jb_mk l R nL own D H0 tys u) cc) (X : jb_X H0 u.1.2.2) (hT : u.2.1.2.2.2.2.exceptionTable.toList = tableOf hh) (pre : List ExceptionTableEntry) (x : ExceptionTableEntry) (suf : List ExceptionTableEntry) (hsplit : tableOf hh = pre ++ x :: suf) (hpass : ∀ z ∈ pre, z.catchType ≠ 0 ∧ ∃ nm : String, Cond.classLink own z.catchType nm ∈ jw_all ∧ (E, nm) ∈ jx_nc) (hx : covers x pc = true) (h0 : x.catchType ≠ 0) (hlink : Cond.classLink own x.catchType name ∈ jw_all) (hcast : Cond.castable E name ∈ jx_cast) (k : ja (jb_mk l R nL own D H0 tys u) w sz kc ks x.handlerPc lv [.ref q9]) : jb_Cx (jb_mk l R nL own D H0 tys u) w sz kc ks pc lv rest E q9 := by
  intro H locs cells slots ls ce a1 a2 a3 a4 hl hce hcv hcl
  have hts := C.1.2.2.2.2
  exact vx_catch C.1.2.2.2.1 pre x suf (hT.trans hsplit) (fun z hz => by
    obtain ⟨z1, nm, z2, z3⟩ := hpass z hz
    exact Or.inr ⟨z1, nm, hts _ z2, X.2.2.1 _ z3⟩) hx h0 (hts _ hlink) (va_tabs rfl rfl (X.2.1 _ hcast)) hce hcv hcl (k H locs cells slots ls a1 a2 a3 a4 hl)
end JN1
section JN2
variable {l : Launch} {y : MethodName} {cc : ByteArray} {nL d q mc ms : Nat} {D : va_G} {H0 : Heap} {tys : List (ClassId × FieldType)} {av : List Value} {w : jb_W} {sz : Nat} {post : Option Value → jb_W → Nat → Prop} {hh : List (Nat × Nat × Nat × Nat)}
theorem jb_methW_i (hy : plainName y.cls = true) (hn : (lg_sl av).length ≤ nL)
    (body : ∀ u : jb_U, ja_C (jb_mk l (jb_rm d q mc ms) nL y.cls D H0 tys u) cc → jb_X H0 u.1.2.2 → u.2.1.2.2.2.2.exceptionTable.toList = tableOf hh → jb_Ei (jb_mk l (jb_rm d q mc ms) nL y.cls D H0 tys u) cc post → ja (jb_mk l (jb_rm d q mc ms) nL y.cls D H0 tys u) w sz mc ms 0 (lv_args 0 av) []) :
    jb_MW l y cc nL (some .int) hh d q mc ms D H0 tys av w sz post := by
  refine vx_ofWH (cc := cc) (maxL := nL) (ret := some .int) (hh := hh) hy rfl ?_
  intro p e s m args below meth c s₁ B hml hv
  obtain ⟨rfl, hH, hK, hX⟩ := hv
  have hts := atoms_spec (ws := .codeWith y cc nL (some .int) hh :: jw_all) B.pre
  have hlv := lv_entry av (n := nL) hn
  rw [lg_entry_eq]
  have C : ja_C (jb_mk l (jb_rm d q mc ms) nL y.cls D H0 tys ((p, e, s), (m, av.toArray, below, meth, c), vx_MQ below (jb_Q D H0 post) (jb_XC D H0 (fun _ _ _ => False)) av.toArray s mc ms (fun q9 => H0.size ≤ q9))) cc := ⟨⟨B.exec, B.bytes, hml, findClass_of_methodNamed B.named, fun w h => hts w (List.mem_cons_of_mem _ h)⟩, hK⟩
  refine body ((p, e, s), (m, av.toArray, below, meth, c), vx_MQ below (jb_Q D H0 post) (jb_XC D H0 (fun _ _ _ => False)) av.toArray s mc ms (fun q9 => H0.size ≤ q9)) C hX (vx_table (x := y) B (hts _ List.mem_cons_self)) ?_ s.heap [] 0 0 _ hH (fun _ h => by cases h) (by show 0 + mc ≤ mc; omega) (by show 0 + ms ≤ ms; omega) hlv
  intro w' sz' kc ks pc lv v hd hp H locs cells slots ls a1 a2 a3 a4 hl
  refine W.widen (k := mc) (n := ms) (Nat.le_trans (Nat.le_add_right _ _) a3) (Nat.le_trans (Nat.le_add_right _ _) a4) ?_
  show W _ _ _ _ _ _ _ _ _ _ H locs mc ms (vx_MQ below (jb_Q D H0 post) (jb_XC D H0 (fun _ _ _ => False)) av.toArray s mc ms (fun q9 => H0.size ≤ q9)) _
  exact vx_ret (W.iret C.1.1 C.1.2.1 B.returns (fun t ht _ => ⟨_, w', sz', rfl, hp, by rw [ht]; exact a1⟩) a2 hd B.notSynchronized)
end JN2
