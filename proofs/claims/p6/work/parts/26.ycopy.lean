/-! Arrays.copyOf of ints and longs; Math.min, Math.max; System.arraycopy from place 0 to place 0 -/
abbrev jc_copyI : ByteArray := prog_18_method_123_code
abbrev jy_copyI : MethodName := ⟨"java/util/Arrays", "copyOf", "([II)[I"⟩
theorem jd_copyI_0 : decode jc_copyI 0 = .ok (.iload_n 1, 1) := by decide +kernel
theorem jd_copyI_1 : decode jc_copyI 1 = .ok (.aload_n 0, 1) := by decide +kernel
theorem jd_copyI_2 : decode jc_copyI 2 = .ok (.arraylength, 1) := by decide +kernel
theorem jd_copyI_3 : decode jc_copyI 3 = .ok (.if_icmp .ne 11, 3) := by decide +kernel
theorem jd_copyI_14 : decode jc_copyI 14 = .ok (.iload_n 1, 1) := by decide +kernel
theorem jd_copyI_15 : decode jc_copyI 15 = .ok (.newarray .int, 2) := by decide +kernel
theorem jd_copyI_17 : decode jc_copyI 17 = .ok (.astore_n 2, 1) := by decide +kernel
theorem jd_copyI_18 : decode jc_copyI 18 = .ok (.aload_n 0, 1) := by decide +kernel
theorem jd_copyI_19 : decode jc_copyI 19 = .ok (.iconst 0, 1) := by decide +kernel
theorem jd_copyI_20 : decode jc_copyI 20 = .ok (.aload_n 2, 1) := by decide +kernel
theorem jd_copyI_21 : decode jc_copyI 21 = .ok (.iconst 0, 1) := by decide +kernel
theorem jd_copyI_22 : decode jc_copyI 22 = .ok (.aload_n 0, 1) := by decide +kernel
theorem jd_copyI_23 : decode jc_copyI 23 = .ok (.arraylength, 1) := by decide +kernel
theorem jd_copyI_24 : decode jc_copyI 24 = .ok (.iload_n 1, 1) := by decide +kernel
theorem jd_copyI_25 : decode jc_copyI 25 = .ok (.invokestatic 304, 3) := by decide +kernel
theorem jd_copyI_28 : decode jc_copyI 28 = .ok (.invokestatic 150, 3) := by decide +kernel
theorem jd_copyI_31 : decode jc_copyI 31 = .ok (.aload_n 2, 1) := by decide +kernel
theorem jd_copyI_32 : decode jc_copyI 32 = .ok (.areturn, 1) := by decide +kernel
abbrev jc_copyJ : ByteArray := prog_18_method_124_code
abbrev jy_copyJ : MethodName := ⟨"java/util/Arrays", "copyOf", "([JI)[J"⟩
theorem jd_copyJ_0 : decode jc_copyJ 0 = .ok (.iload_n 1, 1) := by decide +kernel
theorem jd_copyJ_1 : decode jc_copyJ 1 = .ok (.aload_n 0, 1) := by decide +kernel
theorem jd_copyJ_2 : decode jc_copyJ 2 = .ok (.arraylength, 1) := by decide +kernel
theorem jd_copyJ_3 : decode jc_copyJ 3 = .ok (.if_icmp .ne 11, 3) := by decide +kernel
theorem jd_copyJ_14 : decode jc_copyJ 14 = .ok (.iload_n 1, 1) := by decide +kernel
theorem jd_copyJ_15 : decode jc_copyJ 15 = .ok (.newarray .long, 2) := by decide +kernel
theorem jd_copyJ_17 : decode jc_copyJ 17 = .ok (.astore_n 2, 1) := by decide +kernel
theorem jd_copyJ_18 : decode jc_copyJ 18 = .ok (.aload_n 0, 1) := by decide +kernel
theorem jd_copyJ_19 : decode jc_copyJ 19 = .ok (.iconst 0, 1) := by decide +kernel
theorem jd_copyJ_20 : decode jc_copyJ 20 = .ok (.aload_n 2, 1) := by decide +kernel
theorem jd_copyJ_21 : decode jc_copyJ 21 = .ok (.iconst 0, 1) := by decide +kernel
theorem jd_copyJ_22 : decode jc_copyJ 22 = .ok (.aload_n 0, 1) := by decide +kernel
theorem jd_copyJ_23 : decode jc_copyJ 23 = .ok (.arraylength, 1) := by decide +kernel
theorem jd_copyJ_24 : decode jc_copyJ 24 = .ok (.iload_n 1, 1) := by decide +kernel
theorem jd_copyJ_25 : decode jc_copyJ 25 = .ok (.invokestatic 304, 3) := by decide +kernel
theorem jd_copyJ_28 : decode jc_copyJ 28 = .ok (.invokestatic 150, 3) := by decide +kernel
theorem jd_copyJ_31 : decode jc_copyJ 31 = .ok (.aload_n 2, 1) := by decide +kernel
theorem jd_copyJ_32 : decode jc_copyJ 32 = .ok (.areturn, 1) := by decide +kernel
theorem jw_minl : Cond.methodLink "java/util/Arrays" 304 Lib.Math.min.name ∈ jw_all := jw_in (by decide +kernel) (by decide +kernel)
theorem jw_mins : Cond.static Lib.Math.min.name ∈ jw_all := jw_in (by decide +kernel) (by decide +kernel)
theorem jw_mini : Cond.initialized "java/lang/Math" ∈ jw_all := jw_in (by decide +kernel) (by decide +kernel)
theorem jw_minc : Cond.code Lib.Math.min.name Lib.Math.min.code 2 (some .int) ∈ jw_all := jw_in (by decide +kernel) (by decide +kernel)
theorem jw_acl : Cond.methodLink "java/util/Arrays" 150 arraycopyName ∈ jw_all := jw_in (by decide +kernel) (by decide +kernel)
theorem jw_acn : Cond.native arraycopyName ∈ jw_all := jw_in (by decide +kernel) (by decide +kernel)
theorem jw_acs : Cond.static arraycopyName ∈ jw_all := jw_in (by decide +kernel) (by decide +kernel)
theorem jw_aci : Cond.initialized "java/lang/System" ∈ jw_all := jw_in (by decide +kernel) (by decide +kernel)
theorem jw_aI : Cond.arrayClass .int ∈ jw_all := jw_in (by decide +kernel) (by decide +kernel)
theorem jw_aJ : Cond.arrayClass .long ∈ jw_all := jw_in (by decide +kernel) (by decide +kernel)
theorem jl_nfw : nativeFrameWords "java/lang/System" "arraycopy" 5 + 11 ≤ 60 := by decide +kernel
section JC
variable {g : ja_G} {cc : ByteArray} {w : jb_W} {sz kc ks pc : Nat} {lv : List (Nat × Value)} {rest : List Value}
theorem ja_mmin (C : ja_C g cc) {index : Nat} (hlink : Cond.methodLink (ja_o g) index Lib.Math.min.name ∈ jw_all) (hR : 1 ≤ (ja_R g).frames ∧ (rest.map fun v => v.category).sum + 13 ≤ (ja_R g).locals) {x y : Int32} (hd : decode cc pc = .ok (.invokestatic index, 3)) (k : ja g w sz kc ks (pc + 3) lv (.int (if y < x then y else x) :: rest)) : ja g w sz kc ks pc lv (.int y :: .int x :: rest) :=
  fun H locs cells slots ls a1 a2 a3 a4 hl => va_mmin C.1.1 C.1.2.1 (C.1.2.2.1.trans hl.1.symm) C.1.2.2.2.1 (C.1.2.2.2.2 _ hlink) (C.1.2.2.2.2 _ jw_mins) (C.1.2.2.2.2 _ jw_mini) (C.1.2.2.2.2 _ jw_minc) hR.1 hR.2 (Nat.le_trans (Nat.le_add_right _ _) a3) (Nat.le_trans (Nat.le_add_right _ _) a4) hd (k H locs cells slots ls a1 a2 a3 a4 hl)
theorem ja_copyi (C : ja_C g cc) {index : Nat} (hlink : Cond.methodLink (ja_o g) index arraycopyName ∈ jw_all) (hR : 1 ≤ (ja_R g).frames ∧ (rest.map fun v => v.category).sum + 60 ≤ (ja_R g).locals) (t0 : Nat) {cA : ClassId} (ht : (ja_t g)[t0]? = some (cA, .int)) {a b n0 n1 : Nat} {f h : Nat → Int32} (hf : w a = some (.inl (cA, n0, .inl f))) (hh : w b = some (.inl (cA, n1, .inl h))) {z : Nat} (z0 : z ≤ n0) (z1 : z ≤ n1) (zb : z < 2 ^ 31) (hd : decode cc pc = .ok (.invokestatic index, 3))
    (kk : ja g (va_up w b (some (.inl (cA, n1, .inl (va_cpy f h 0 0 z))))) sz kc ks (pc + 3) lv rest) : ja g w sz kc ks pc lv (.int (nI z) :: .int 0 :: .ref b :: .int 0 :: .ref a :: rest) := by
  intro H locs cells slots ls a1 a2 a3 a4 hl T hT X
  have hts := C.1.2.2.2.2
  have hc0 : H[a]? = some (arrV cA n0 (fun j => .int (f j))) := (a1.2.2.2 a _ hf).2
  have hc1 : H[b]? = some (arrV cA n1 (fun j => .int (h j))) := (a1.2.2.2 b _ hh).2
  obtain ⟨-, k0, hk0, cm0, hkk0⟩ := (C.2.2 t0 _ ht).1 n0 (fun j => .int (f j))
  obtain ⟨-, k1, hk1, cm1, hkk1⟩ := (C.2.2 t0 _ ht).1 n1 (fun j => .int (h j))
  have zz : (nI z).toInt = (z : Int) := nI_toInt zb
  obtain ⟨vm', X', step⟩ := X.arraycopy C.1.1 C.1.2.2.2.1 (hts _ hlink) (hts _ jw_acn) (hts _ jw_acs) (hts _ jw_aci) (src := a) (dst := b) (cs := arrV cA n0 (fun j => .int (f j))) (cd := arrV cA n1 (fun j => .int (h j))) (srcPos := 0) (destPos := 0) (n := nI z) (by rw [hT]; exact hc0) (by rw [hT]; exact hc1)
    (fun _ q => by cases q) (fun _ q => by cases q) (fun q => by cases q) (fun q => by cases q) hk0 hk1 hkk0 hkk1 (by simp [refKind]) (by decide) (by decide) (nI_pos zb)
    (by rw [zz, arrV_size]; show ¬ (0 : Int) + _ > _; omega) (by rw [zz, arrV_size]; show ¬ (0 : Int) + _ > _; omega)
    (fun vm₁ _ i hi => by
      have hi : i < z := by rw [nI_clamp zb] at hi; exact hi
      have e : (arrV cA n0 (fun j => Value.int (f j))).slots.getD ((0 : Int32).toNatClampNeg + i) .null = .int (f i) := by
        rw [Array.getD_eq_getD_getElem?, show (0 : Int32).toNatClampNeg + i = i by rw [sb_cl0]; omega, arrV_read _ _ (by omega)]
        rfl
      exact ⟨by rw [e]; rfl, by rw [e]; exact trivial⟩)
    (g := F0 (ja_m g) pc ls (.int (nI z) :: .int 0 :: .ref b :: .int 0 :: .ref a :: rest)) rfl (by rw [C.1.2.2.1]; exact hl.1) (rest := rest) rfl (by rw [C.1.2.1]; exact hd) hR.1 (by have := jl_nfw; have := hR.2; show 2 * 0 + _ + _ ≤ (ja_R g).locals; omega)
  have e1 : copied (arrV cA n0 (fun j => Value.int (f j))) (arrV cA n1 (fun j => Value.int (h j))) 0 0 (nI z) = arrV cA n1 (fun j => .int (va_cpy f h 0 0 z j)) := by
    have e2 := va_copied (fun z => Value.int z) cA cA (n0 := n0) (n1 := n1) (sp := 0) (dp := 0) (n := z) f h (by omega)
    rw [← e2]
    unfold copied
    rw [nI_clamp zb, sb_cl0]
  rw [e1] at X' step
  have hlt : b < H.size := (Array.getElem?_eq_some_iff.mp hc1).1
  have hheap : ((T.setVm vm').setCell b (arrV cA n1 (fun j => .int (va_cpy f h 0 0 z j)))).heap = H.setIfInBounds b (arrV cA n1 (fun j => .int (va_cpy f h 0 0 z j))) := by rw [← hT]; rfl
  have oq : ∀ q : Nat, q ≠ b → (H.setIfInBounds b (arrV cA n1 (fun j => .int (va_cpy f h 0 0 z j))))[q]? = H[q]? := fun q hq => by simp [Array.getElem?_setIfInBounds, Ne.symm hq]
  obtain ⟨t, b1, b2⟩ := kk _ _ cells slots ls (a1.put hh (show (H.setIfInBounds b _)[b]? = some (vp_cell _ _) by simp [Array.getElem?_setIfInBounds, hlt]; rfl) (by simp) oq) (fun q hq => by
    rcases List.mem_append.mp hq with p1 | p1
    · exact a2 q p1
    · obtain ⟨i9, -, hz⟩ := List.mem_map.mp p1
      rw [← hz]
      exact (a1.2.2.2 b _ hh).1) a3 a4 hl _ hheap X'
  exact ⟨t, step t b1, b2⟩
theorem ja_copyl (C : ja_C g cc) {index : Nat} (hlink : Cond.methodLink (ja_o g) index arraycopyName ∈ jw_all) (hR : 1 ≤ (ja_R g).frames ∧ (rest.map fun v => v.category).sum + 60 ≤ (ja_R g).locals) (t0 : Nat) {cA : ClassId} (ht : (ja_t g)[t0]? = some (cA, .long)) {a b n0 n1 : Nat} {f h : Nat → Int64} (hf : w a = some (.inl (cA, n0, .inr (.inl f)))) (hh : w b = some (.inl (cA, n1, .inr (.inl h)))) {z : Nat} (z0 : z ≤ n0) (z1 : z ≤ n1) (zb : z < 2 ^ 31) (hd : decode cc pc = .ok (.invokestatic index, 3))
    (kk : ja g (va_up w b (some (.inl (cA, n1, .inr (.inl (va_cpy f h 0 0 z)))))) sz kc ks (pc + 3) lv rest) : ja g w sz kc ks pc lv (.int (nI z) :: .int 0 :: .ref b :: .int 0 :: .ref a :: rest) := by
  intro H locs cells slots ls a1 a2 a3 a4 hl T hT X
  have hts := C.1.2.2.2.2
  have hc0 : H[a]? = some (arrV cA n0 (fun j => .long (f j))) := (a1.2.2.2 a _ hf).2
  have hc1 : H[b]? = some (arrV cA n1 (fun j => .long (h j))) := (a1.2.2.2 b _ hh).2
  obtain ⟨-, k0, hk0, cm0, hkk0⟩ := (C.2.2 t0 _ ht).1 n0 (fun j => .long (f j))
  obtain ⟨-, k1, hk1, cm1, hkk1⟩ := (C.2.2 t0 _ ht).1 n1 (fun j => .long (h j))
  have zz : (nI z).toInt = (z : Int) := nI_toInt zb
  obtain ⟨vm', X', step⟩ := X.arraycopy C.1.1 C.1.2.2.2.1 (hts _ hlink) (hts _ jw_acn) (hts _ jw_acs) (hts _ jw_aci) (src := a) (dst := b) (cs := arrV cA n0 (fun j => .long (f j))) (cd := arrV cA n1 (fun j => .long (h j))) (srcPos := 0) (destPos := 0) (n := nI z) (by rw [hT]; exact hc0) (by rw [hT]; exact hc1)
    (fun _ q => by cases q) (fun _ q => by cases q) (fun q => by cases q) (fun q => by cases q) hk0 hk1 hkk0 hkk1 (by simp [refKind]) (by decide) (by decide) (nI_pos zb)
    (by rw [zz, arrV_size]; show ¬ (0 : Int) + _ > _; omega) (by rw [zz, arrV_size]; show ¬ (0 : Int) + _ > _; omega)
    (fun vm₁ _ i hi => by
      have hi : i < z := by rw [nI_clamp zb] at hi; exact hi
      have e : (arrV cA n0 (fun j => Value.long (f j))).slots.getD ((0 : Int32).toNatClampNeg + i) .null = .long (f i) := by
        rw [Array.getD_eq_getD_getElem?, show (0 : Int32).toNatClampNeg + i = i by rw [sb_cl0]; omega, arrV_read _ _ (by omega)]
        rfl
      exact ⟨by rw [e]; rfl, by rw [e]; exact trivial⟩)
    (g := F0 (ja_m g) pc ls (.int (nI z) :: .int 0 :: .ref b :: .int 0 :: .ref a :: rest)) rfl (by rw [C.1.2.2.1]; exact hl.1) (rest := rest) rfl (by rw [C.1.2.1]; exact hd) hR.1 (by have := jl_nfw; have := hR.2; show 2 * 0 + _ + _ ≤ (ja_R g).locals; omega)
  have e1 : copied (arrV cA n0 (fun j => Value.long (f j))) (arrV cA n1 (fun j => Value.long (h j))) 0 0 (nI z) = arrV cA n1 (fun j => .long (va_cpy f h 0 0 z j)) := by
    have e2 := va_copied (fun z => Value.long z) cA cA (n0 := n0) (n1 := n1) (sp := 0) (dp := 0) (n := z) f h (by omega)
    rw [← e2]
    unfold copied
    rw [nI_clamp zb, sb_cl0]
  rw [e1] at X' step
  have hlt : b < H.size := (Array.getElem?_eq_some_iff.mp hc1).1
  have hheap : ((T.setVm vm').setCell b (arrV cA n1 (fun j => .long (va_cpy f h 0 0 z j)))).heap = H.setIfInBounds b (arrV cA n1 (fun j => .long (va_cpy f h 0 0 z j))) := by rw [← hT]; rfl
  have oq : ∀ q : Nat, q ≠ b → (H.setIfInBounds b (arrV cA n1 (fun j => .long (va_cpy f h 0 0 z j))))[q]? = H[q]? := fun q hq => by simp [Array.getElem?_setIfInBounds, Ne.symm hq]
  obtain ⟨t, b1, b2⟩ := kk _ _ cells slots ls (a1.put hh (show (H.setIfInBounds b _)[b]? = some (vp_cell _ _) by simp [Array.getElem?_setIfInBounds, hlt]; rfl) (by simp) oq) (fun q hq => by
    rcases List.mem_append.mp hq with p1 | p1
    · exact a2 q p1
    · obtain ⟨i9, -, hz⟩ := List.mem_map.mp p1
      rw [← hz]
      exact (a1.2.2.2 b _ hh).1) a3 a4 hl _ hheap X'
  exact ⟨t, step t b1, b2⟩
end JC

section JD
variable {l : Launch} {D : va_G} {H0 : Heap} {cI cJ cT cX : ClassId} {w : jb_W} {sz : Nat}
theorem jb_meth_ra {y : MethodName} {cc : ByteArray} {nL d q mc ms : Nat} {tys : List (ClassId × FieldType)} {av : List Value} {post : Option Value → jb_W → Nat → Prop} {te : FieldType} (hy : plainName y.cls = true) (hn : (lg_sl av).length ≤ nL)
    (body : ∀ u : jb_U, ja_C (jb_mk l (jb_rm d q mc ms) nL y.cls D H0 tys u) cc → jb_X H0 u.1.2.2 → jb_Er (jb_mk l (jb_rm d q mc ms) nL y.cls D H0 tys u) cc post → ja (jb_mk l (jb_rm d q mc ms) nL y.cls D H0 tys u) w sz mc ms 0 (lv_args 0 av) []) :
    jb_M l y cc nL (some (.array te)) d q mc ms D H0 tys av w sz post := by
  refine jb_body hy hn (fun u C hX hnm hlk hr hQ => body u C hX ?_)
  intro w' sz' kc ks pc lv v hd hp H locs cells slots ls a1 a2 a3 a4 hl
  refine W.widen (k := mc) (n := ms) (Nat.le_trans (Nat.le_add_right _ _) a3) (Nat.le_trans (Nat.le_add_right _ _) a4) ?_
  show W _ _ _ _ _ _ _ _ _ _ H locs mc ms u.2.2 _
  rw [hQ]
  exact W.aret C.1.1 C.1.2.1 hr (Or.inr ⟨_, rfl⟩) (by cases v with | none => exact Or.inl rfl | some a => exact Or.inr ⟨a, rfl⟩) (fun t ht _ => ⟨_, w', sz', rfl, hp, by rw [ht]; exact a1⟩) a2 hd hlk
/-- Arrays.copyOf of ints to a greater length: a new array, the old places in it, 0 behind them -/
theorem jz_copyI {a n0 n1 : Nat} {f : Nat → Int32} (hf : w a = some (.inl (cI, n0, .inl f))) (h01 : n0 < n1) (h1 : n1 ≤ 65536) (hsz : a < sz) : jb_M l jy_copyI jc_copyI 3 (some (.array .int)) 1 68 1 n1 D H0 (jt_all cI cJ cT cX) [.ref a, .int (nI n1)] w sz (fun v w' sz' => v = some (va_rf (some sz)) ∧ w' = va_up w sz (some (.inl (cI, n1, .inl (va_cpy f (fun _ => 0) 0 0 n0)))) ∧ sz' = sz + 1) := by
  refine jb_meth_ra (by decide) (Nat.le_of_ble_eq_true rfl) (fun u C X E => ?_)
  refine ja_iload_n C jd_copyI_0 1 rfl ?_
  refine ja_aload_n C jd_copyI_1 0 rfl ?_
  refine ja_alen C 0 rfl jd_copyI_2 hf (nI n0) rfl ?_
  refine ja_icmp_ne C 14 jd_copyI_3 (by decide) (fun c => ?_) (fun c => absurd ((nI_eq (by omega) (by omega)).mp c) (by omega))
  refine ja_iload_n C jd_copyI_14 1 rfl ?_
  refine ja_less (kc' := 0 + 1) (ks' := 0 + n1) (Nat.le_refl _) (by omega) ?_
  refine ja_newa (atype := .int) (ty := .int) C rfl jw_aI 0 rfl n1 (n1, .inl (fun _ => 0)) (fun _ => rfl) (nI_pos (by omega)) (nI_clamp (by omega)) (by show n1 * 4 ≤ _; omega) jd_copyI_15 ?_
  have hf' : va_up w sz (some (.inl (cI, n1, .inl (fun _ => 0)))) a = some (.inl (cI, n0, .inl f)) := (va_up_ne _ _ (by omega)).trans hf
  refine ja_astore_n C [(2, .ref sz), (0, .ref a), (1, .int (nI n1))] jd_copyI_17 rfl (Nat.le_of_ble_eq_true rfl) rfl ?_
  refine ja_aload_n C jd_copyI_18 1 rfl ?_
  refine ja_iconst C 0 jd_copyI_19 (by decide) ?_
  refine ja_aload_n C jd_copyI_20 0 rfl ?_
  refine ja_iconst C 0 jd_copyI_21 (by decide) ?_
  refine ja_aload_n C jd_copyI_22 1 rfl ?_
  refine ja_alen C 0 rfl jd_copyI_23 hf' (nI n0) rfl ?_
  refine ja_iload_n C jd_copyI_24 2 rfl ?_
  refine ja_mmin C jw_minl ⟨Nat.le_of_ble_eq_true rfl, Nat.le_of_ble_eq_true rfl⟩ jd_copyI_25 ?_
  rw [if_neg (nI_nlt (show n0 ≤ n1 by omega) (by omega))]
  refine ja_copyi C jw_acl ⟨Nat.le_of_ble_eq_true rfl, Nat.le_of_ble_eq_true rfl⟩ 0 rfl hf' (va_up_self _ _ _) (Nat.le_refl n0) (by omega) (by omega) jd_copyI_28 ?_
  rw [bx_uu]
  refine ja_aload_n C jd_copyI_31 0 rfl ?_
  exact E (v := some sz) jd_copyI_32 ⟨rfl, rfl, rfl⟩
/-- Arrays.copyOf of longs to a greater length: a new array, the old places in it, 0 behind them -/
theorem jz_copyJ {a n0 n1 : Nat} {f : Nat → Int64} (hf : w a = some (.inl (cJ, n0, .inr (.inl f)))) (h01 : n0 < n1) (h1 : n1 ≤ 65536) (hsz : a < sz) : jb_M l jy_copyJ jc_copyJ 3 (some (.array .long)) 1 68 1 n1 D H0 (jt_all cI cJ cT cX) [.ref a, .int (nI n1)] w sz (fun v w' sz' => v = some (va_rf (some sz)) ∧ w' = va_up w sz (some (.inl (cJ, n1, .inr (.inl (va_cpy f (fun _ => 0) 0 0 n0))))) ∧ sz' = sz + 1) := by
  refine jb_meth_ra (by decide) (Nat.le_of_ble_eq_true rfl) (fun u C X E => ?_)
  refine ja_iload_n C jd_copyJ_0 1 rfl ?_
  refine ja_aload_n C jd_copyJ_1 0 rfl ?_
  refine ja_alen C 1 rfl jd_copyJ_2 hf (nI n0) rfl ?_
  refine ja_icmp_ne C 14 jd_copyJ_3 (by decide) (fun c => ?_) (fun c => absurd ((nI_eq (by omega) (by omega)).mp c) (by omega))
  refine ja_iload_n C jd_copyJ_14 1 rfl ?_
  refine ja_less (kc' := 0 + 1) (ks' := 0 + n1) (Nat.le_refl _) (by omega) ?_
  refine ja_newa (atype := .long) (ty := .long) C rfl jw_aJ 1 rfl n1 (n1, .inr (.inl (fun _ => 0))) (fun _ => rfl) (nI_pos (by omega)) (nI_clamp (by omega)) (by show n1 * 8 ≤ _; omega) jd_copyJ_15 ?_
  have hf' : va_up w sz (some (.inl (cJ, n1, .inr (.inl (fun _ => 0))))) a = some (.inl (cJ, n0, .inr (.inl f))) := (va_up_ne _ _ (by omega)).trans hf
  refine ja_astore_n C [(2, .ref sz), (0, .ref a), (1, .int (nI n1))] jd_copyJ_17 rfl (Nat.le_of_ble_eq_true rfl) rfl ?_
  refine ja_aload_n C jd_copyJ_18 1 rfl ?_
  refine ja_iconst C 0 jd_copyJ_19 (by decide) ?_
  refine ja_aload_n C jd_copyJ_20 0 rfl ?_
  refine ja_iconst C 0 jd_copyJ_21 (by decide) ?_
  refine ja_aload_n C jd_copyJ_22 1 rfl ?_
  refine ja_alen C 1 rfl jd_copyJ_23 hf' (nI n0) rfl ?_
  refine ja_iload_n C jd_copyJ_24 2 rfl ?_
  refine ja_mmin C jw_minl ⟨Nat.le_of_ble_eq_true rfl, Nat.le_of_ble_eq_true rfl⟩ jd_copyJ_25 ?_
  rw [if_neg (nI_nlt (show n0 ≤ n1 by omega) (by omega))]
  refine ja_copyl C jw_acl ⟨Nat.le_of_ble_eq_true rfl, Nat.le_of_ble_eq_true rfl⟩ 1 rfl hf' (va_up_self _ _ _) (Nat.le_refl n0) (by omega) (by omega) jd_copyJ_28 ?_
  rw [bx_uu]
  refine ja_aload_n C jd_copyJ_31 0 rfl ?_
  exact E (v := some sz) jd_copyJ_32 ⟨rfl, rfl, rfl⟩
end JD
