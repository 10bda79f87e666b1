/-! CALLS over an operand stack of any weight (the rows of 04 take eight words) -/
theorem jb_mon {m : MethodId} {pc : Nat} {ls : Array Slot} {st rest : List Value} {z : Nat} (h : (rest.map fun v => v.category).sum ≤ z) : 2 * (F0 m pc ls st).monitorRoom + (rest.map fun v => v.category).sum ≤ z := by
  show 2 * 0 + _ ≤ z
  omega
section JW
variable {cc : ByteArray} {w : jb_W} {sz kc ks pc : Nat} {lv : List (Nat × Value)} {rest st0 : List Value} {mc ms : Nat} {post : Option Value → jb_W → Nat → Prop}
variable {l : Launch} {R : Room} {nL : Nat} {own : String} {D : va_G} {H0 : Heap} {tys : List (ClassId × FieldType)} {u : jb_U} {y : MethodName} {bytes : ByteArray} {maxL d q n index : Nat} {ret : Option FieldType} {As : List Value} {b : Nat}
theorem jb_callSw (z : Nat) (C : ja_C (jb_mk l R nL own D H0 tys u) cc) (X : jb_X H0 u.1.2.2) (hK : jb_KS own index y bytes maxL ret n) (hM : jb_M l y bytes maxL ret d q mc ms D H0 tys As w sz post) (hd : decode cc pc = .ok (.invokestatic index, 3)) (hn : As.length = n) (hst : st0 = As.reverse ++ rest) (hrm : d + 1 ≤ R.frames ∧ z + (maxL + 11) + q ≤ R.locals) (hrs : (rest.map fun v => v.category).sum ≤ z)
    (kk : ∀ (v : Option Value) (w' : jb_W) (sz' : Nat), post v w' sz' → ja (jb_mk l R nL own D H0 tys u) w' sz' kc ks (pc + 3) lv (v.toList ++ rest)) : ja (jb_mk l R nL own D H0 tys u) w sz (kc + mc) (ks + ms) pc lv st0 := by
  subst hst
  obtain ⟨k1, k2, k3, k4, k5, k6, k7⟩ := hK
  have hts := C.1.2.2.2.2
  refine jb_after (fun H locs cells slots ls a1 a3 a4 hls => ?_) kk
  intro T hT X9
  have hB := back_of (l := l) (R := R) (p := u.1.1) (e := u.1.2.1) (below := u.2.1.2.2.1) (s := u.1.2.2) (sargs := u.2.1.2.1) (len := 3) (W := z) (bytes := bytes) (maxL := maxL) (ret := ret) hM jb_P.blind rfl rfl hrm.1 hrm.2 (pay_in hts (jb_good k4)) List.mem_cons_self (fun a' U hW => word_at hW (jw_ok _ k3) (hts _ k3))
  obtain ⟨v, vm₁, ⟨U', l2, c2, s2⟩, hW₁, X', ⟨g', mk, t, L, e1, e2, hq, h1, hL, h2, h3⟩, st⟩ := callS X9 C.1.1 (bytes := bytes) (maxL := maxL) (ret := ret) C.1.2.2.2.1 (hts _ k1) (hts _ k2) (hts _ k3) (hts _ k4) ⟨k5, k6⟩ hB (g := F0 (ja_m (jb_mk l R nL own D H0 tys u)) pc ls (As.reverse ++ rest)) rfl (hls.trans C.1.2.2.1.symm) (argsL := As) (rest := rest) (fun sig h => by rw [h] at k7; exact hn.trans (Option.some.inj k7).symm) rfl (jb_mon hrs) (by rw [C.1.2.1]; exact hd)
    (fun vm₁ hW₁ => ⟨a3, a4, rfl, by show ja_H D jcl H0 w sz T.heap; rw [hT]; exact a1, va_K.moved hW₁.alike C.2, jb_X.moved hW₁ X⟩)
  dsimp only [Pt.U, Pt.locs, Pt.cells, Pt.slots] at X' e1 e2 h1 h2 h3 st
  subst h1; subst h2; subst h3
  exact ⟨v, (T.setVm vm₁).calling g' mk As.toArray, t, U', L, hT, X', hL, e1, e2, hq, st⟩
theorem jb_callVw (z : Nat) (C : ja_C (jb_mk l R nL own D H0 tys u) cc) (X : jb_X H0 u.1.2.2) (hK : jb_KV own index y bytes maxL ret n) {ci : Nat} {fs : List Value} (hb : w b = some (.inr (ci, fs))) (hci : (jcl[ci]?).map (fun r => r.1) = some y.cls) (hM : jb_M l y bytes maxL ret d q mc ms D H0 tys (.ref b :: As) w sz post) (hd : decode cc pc = .ok (.invokevirtual index, 3)) (hn : As.length = n) (hst : st0 = As.reverse ++ .ref b :: rest) (hrm : d + 1 ≤ R.frames ∧ z + (maxL + 11) + q ≤ R.locals) (hrs : (rest.map fun v => v.category).sum ≤ z)
    (kk : ∀ (v : Option Value) (w' : jb_W) (sz' : Nat), post v w' sz' → ja (jb_mk l R nL own D H0 tys u) w' sz' kc ks (pc + 3) lv (v.toList ++ rest)) : ja (jb_mk l R nL own D H0 tys u) w sz (kc + mc) (ks + ms) pc lv st0 := by
  subst hst
  obtain ⟨k1, k2, k2', k3, k4, k5, k6, k7⟩ := hK
  have hts := C.1.2.2.2.2
  refine jb_after (fun H locs cells slots ls a1 a3 a4 hls => ?_) kk
  obtain ⟨cellB, g1, g2, g3⟩ : ∃ cellB : Cell, H[b]? = some cellB ∧ cellB.vm.isStatics = false ∧ u.1.2.2.vm.findClass y.cls = some cellB.cls := by
    obtain ⟨q', h1, cell, g1, g2, g3, -⟩ := (a1.2.2.2 b _ hb).2
    have h9 := (C.2.1 ci q' h1).2.1
    have hq : q'.1 = y.cls := by
      have h1' : jcl[ci]? = some q' := h1
      rw [h1'] at hci
      exact Option.some.inj hci
    rw [hq] at h9
    exact ⟨cell, g1, by rw [g3]; rfl, by rw [g2]; exact h9⟩
  intro T hT X9
  have hB := back_of (l := l) (R := R) (p := u.1.1) (e := u.1.2.1) (below := u.2.1.2.2.1) (s := u.1.2.2) (sargs := u.2.1.2.1) (len := 3) (W := z) (bytes := bytes) (maxL := maxL) (ret := ret) hM jb_P.blind rfl rfl hrm.1 hrm.2 (pay_in hts (jb_good k4)) List.mem_cons_self (fun a' U hW => word_at hW (jw_ok _ k3) (hts _ k3))
  obtain ⟨v, vm₁, ⟨U', l2, c2, s2⟩, hW₁, X', ⟨g', mk, t, L, e1, e2, hq, h1, hL, h2, h3⟩, st⟩ := callV X9 C.1.1 (C := y.cls) (bytes := bytes) (maxL := maxL) (ret := ret) C.1.2.2.2.1 (hts _ k1) (hts _ k2) (hts _ k2') (hts _ k4) ⟨k5, k6⟩ hB (by rw [hT]; exact g1) g2 g3 (g := F0 (ja_m (jb_mk l R nL own D H0 tys u)) pc ls (As.reverse ++ .ref b :: rest)) rfl (hls.trans C.1.2.2.1.symm) (argsL := As) (rest := rest) (fun sig h => by rw [h] at k7; exact hn.trans (Option.some.inj k7).symm) rfl (jb_mon hrs) (by rw [C.1.2.1]; exact hd)
    (fun vm₁ hW₁ => ⟨a3, a4, rfl, by show ja_H D jcl H0 w sz T.heap; rw [hT]; exact a1, va_K.moved hW₁.alike C.2, jb_X.moved hW₁ X⟩)
  dsimp only [Pt.U, Pt.locs, Pt.cells, Pt.slots] at X' e1 e2 h1 h2 h3 st
  subst h1; subst h2; subst h3
  exact ⟨v, (T.setVm vm₁).calling g' mk (Value.ref b :: As).toArray, t, U', L, hT, X', hL, e1, e2, hq, st⟩
end JW
