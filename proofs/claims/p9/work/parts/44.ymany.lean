/-! THE REFERENCE: isMany; what a call is -/
theorem jl_negb {b : Int32} (h : b < 0) : ¬ -1 - b < 0 := fun z => by
  have h1 := Int32.lt_iff_toInt_lt.mp h
  have h2 := Int32.lt_iff_toInt_lt.mp z
  have h3 := Int32.le_toInt b
  rw [Int32.toInt_sub, show (-1 : Int32).toInt = -1 by decide, show (0 : Int32).toInt = 0 by decide] at h2
  rw [show (0 : Int32).toInt = 0 by decide] at h1
  rw [Int.bmod_eq_of_le (by omega) (by omega)] at h2
  omega
def jl_wanted (wt : Nat) : Nat := if wt = 8 ∨ wt = 14 ∨ wt = 18 ∨ wt = 16 ∨ wt = 17 then 2 else 1
def jl_many (wt m : Nat) : Bool := if wt = 5 ∨ wt = 6 then decide (m < 2) else if wt = 7 ∨ wt = 8 ∨ wt = 9 ∨ wt = 10 ∨ wt = 15 then decide (m = 1) else if wt = 13 then decide (m = 2) else decide (m = 0)
/-- a call that goes: as many arguments as wanted, of their kinds, as many numbers -/
def jl_goes (wt n : Nat) (a b : Int32) (m : Nat) : Prop := n = jl_wanted wt ∧ 0 ≤ a ∧ (n = 1 ∨ ((wt = 16 ∨ wt = 17) ↔ b < 0)) ∧ jl_many wt m = true
def jA_apply (σ : jSt) (wt a : Nat) (b : Int32) (m : Nat) (x1 y1 : Int32) (x : Int32) (σ' : jSt) : Prop :=
  match wt with
  | 2 => jA_sq σ a x σ'
  | 3 => jA_st σ a x σ'
  | 5 => if m = 0 then jA_s0 σ 5 a x σ' else jA_s1 σ 5 a x1.toNatClampNeg x σ'
  | 6 => if m = 0 then jA_s0 σ 6 a x σ' else jA_s1 σ 6 a x1.toNatClampNeg x σ'
  | 7 => jA_s1 σ 7 a x1.toNatClampNeg x σ'
  | 8 => jA_conv σ a b.toNatClampNeg x1.toNatClampNeg x σ'
  | 9 => jA_pl σ 9 a x1.toNatClampNeg x σ'
  | 10 => jA_pl σ 10 a x1.toNatClampNeg x σ'
  | 12 => jA_tn σ a x σ'
  | 13 => jA_pt σ a x1.toNatClampNeg y1.toNatClampNeg x σ'
  | 14 => jA_join σ a b.toNatClampNeg x σ'
  | 15 => jA_pd σ a x1.toNatClampNeg x σ'
  | 16 => jA_pk σ a (-1 - b).toNatClampNeg x σ'
  | 17 => jA_hg σ a (-1 - b).toNatClampNeg x σ'
  | 18 => jA_gap σ a b.toNatClampNeg x σ'
  | k => jA_un σ k a x σ'
def jl_none (σ : jSt) (t : Int32) : Prop := if t < 0 then nI (jSt_i σ) ≤ -1 - t else nI (jSt_c σ) ≤ t
def jl_wrong (what n m x y : Int32) : Prop := what < 0 ∨ 18 < what ∨ what = 11 ∨ n < 0 ∨ 2 < n ∨ m < 0 ∨ 2 < m ∨ (0 < m ∧ x < 0) ∨ (1 < m ∧ y < 0)
def jl_gone (σ : jSt) (n a b : Int32) : Prop := (0 < n ∧ jl_none σ a) ∨ (1 < n ∧ jl_none σ b)
def jA_call (σ : jSt) (what n a b m x1 y1 : Int32) (x th : Int32) (σ' : jSt) : Prop :=
  (jl_wrong what n m x1 y1 → th = 1 ∧ σ' = σ) ∧ (¬ jl_wrong what n m x1 y1 → jl_gone σ n a b → th = 2 ∧ σ' = σ) ∧ (¬ jl_wrong what n m x1 y1 → ¬ jl_gone σ n a b → th = 0 ∧ (jl_goes what.toNatClampNeg n.toNatClampNeg a b m.toNatClampNeg → jA_apply σ what.toNatClampNeg a.toNatClampNeg b m.toNatClampNeg x1 y1 x σ') ∧ (¬ jl_goes what.toNatClampNeg n.toNatClampNeg a b m.toNatClampNeg → x = -5 ∧ σ' = σ))
theorem jl_tens {σ : jSt} {a : Int32} (hc : jSt_c σ < 2 ^ 31) (h0 : ¬ a < 0) (h : ¬ jl_none σ a) : ∃ t, t < jSt_c σ ∧ a = nI t := by
  unfold jl_none at h
  rw [if_neg h0] at h
  exact (pk_ix a hc).elim (fun z => absurd z h0) (fun z => z.elim (fun z => absurd z h) id)
theorem jl_indx {σ : jSt} {a : Int32} (hc : jSt_i σ < 2 ^ 31) (h0 : a < 0) (h : ¬ jl_none σ a) : ∃ i, i < jSt_i σ ∧ -1 - a = nI i := by
  unfold jl_none at h
  rw [if_pos h0] at h
  exact (pk_ix (-1 - a) hc).elim (fun z => absurd z (jl_negb h0)) (fun z => z.elim (fun z => absurd z h) id)

section Y44
variable {l : Launch} {D : va_G} {H0 : Heap} {cI cJ cT cX : ClassId} {w : jb_W} {sz : Nat}
variable {y : Nat} {A : Nat → Nat} {n n2 : Nat} {σ : jSt} {th rk : Int32} {N : Nat → Int32}
theorem jn_isMany_0 {m : Nat} (hm : m ≤ 2) : jb_M l jy_Y_isMany jc_Y_isMany 2 (some .boolean) 0 0 0 0 D H0 (jt_all cI cJ cT cX) [.int (nI 0), .int (nI m)] w sz
    (fun v w' sz' => v = some (.int (if m = 0 then 1 else 0)) ∧ w' = w ∧ sz' = sz) := by
  refine jb_meth_z (by decide) (Nat.le_of_ble_eq_true rfl) (fun u C X E => ?_)
  refine ja_iload_n C jd_Y_isMany_0 0 rfl ?_
  refine ja_tableOut C 93 jd_Y_isMany_1 (by decide) (by decide) ?_
  refine ja_iload_n C jd_Y_isMany_93 1 rfl ?_
  refine ja_if_neN C 101 jd_Y_isMany_94 (by decide) (by omega) (fun c => ?_) (fun c => ?_)
  · refine ja_iconst C (nI 0) jd_Y_isMany_101 (by decide) ?_
    exact E jd_Y_isMany_102 (Or.inl rfl) ⟨by rw [if_neg (by omega)]; rfl, rfl, rfl⟩
  · refine ja_iconst C (nI 1) jd_Y_isMany_97 (by decide) ?_
    refine ja_goto C 102 jd_Y_isMany_98 (by decide) ?_
    exact E jd_Y_isMany_102 (Or.inr rfl) ⟨by rw [if_pos (by omega)]; rfl, rfl, rfl⟩
theorem jn_isMany_1 {m : Nat} (hm : m ≤ 2) : jb_M l jy_Y_isMany jc_Y_isMany 2 (some .boolean) 0 0 0 0 D H0 (jt_all cI cJ cT cX) [.int (nI 1), .int (nI m)] w sz
    (fun v w' sz' => v = some (.int (if m = 0 then 1 else 0)) ∧ w' = w ∧ sz' = sz) := by
  refine jb_meth_z (by decide) (Nat.le_of_ble_eq_true rfl) (fun u C X E => ?_)
  refine ja_iload_n C jd_Y_isMany_0 0 rfl ?_
  refine ja_tableOut C 93 jd_Y_isMany_1 (by decide) (by decide) ?_
  refine ja_iload_n C jd_Y_isMany_93 1 rfl ?_
  refine ja_if_neN C 101 jd_Y_isMany_94 (by decide) (by omega) (fun c => ?_) (fun c => ?_)
  · refine ja_iconst C (nI 0) jd_Y_isMany_101 (by decide) ?_
    exact E jd_Y_isMany_102 (Or.inl rfl) ⟨by rw [if_neg (by omega)]; rfl, rfl, rfl⟩
  · refine ja_iconst C (nI 1) jd_Y_isMany_97 (by decide) ?_
    refine ja_goto C 102 jd_Y_isMany_98 (by decide) ?_
    exact E jd_Y_isMany_102 (Or.inr rfl) ⟨by rw [if_pos (by omega)]; rfl, rfl, rfl⟩
theorem jn_isMany_2 {m : Nat} (hm : m ≤ 2) : jb_M l jy_Y_isMany jc_Y_isMany 2 (some .boolean) 0 0 0 0 D H0 (jt_all cI cJ cT cX) [.int (nI 2), .int (nI m)] w sz
    (fun v w' sz' => v = some (.int (if m = 0 then 1 else 0)) ∧ w' = w ∧ sz' = sz) := by
  refine jb_meth_z (by decide) (Nat.le_of_ble_eq_true rfl) (fun u C X E => ?_)
  refine ja_iload_n C jd_Y_isMany_0 0 rfl ?_
  refine ja_tableOut C 93 jd_Y_isMany_1 (by decide) (by decide) ?_
  refine ja_iload_n C jd_Y_isMany_93 1 rfl ?_
  refine ja_if_neN C 101 jd_Y_isMany_94 (by decide) (by omega) (fun c => ?_) (fun c => ?_)
  · refine ja_iconst C (nI 0) jd_Y_isMany_101 (by decide) ?_
    exact E jd_Y_isMany_102 (Or.inl rfl) ⟨by rw [if_neg (by omega)]; rfl, rfl, rfl⟩
  · refine ja_iconst C (nI 1) jd_Y_isMany_97 (by decide) ?_
    refine ja_goto C 102 jd_Y_isMany_98 (by decide) ?_
    exact E jd_Y_isMany_102 (Or.inr rfl) ⟨by rw [if_pos (by omega)]; rfl, rfl, rfl⟩
theorem jn_isMany_3 {m : Nat} (hm : m ≤ 2) : jb_M l jy_Y_isMany jc_Y_isMany 2 (some .boolean) 0 0 0 0 D H0 (jt_all cI cJ cT cX) [.int (nI 3), .int (nI m)] w sz
    (fun v w' sz' => v = some (.int (if m = 0 then 1 else 0)) ∧ w' = w ∧ sz' = sz) := by
  refine jb_meth_z (by decide) (Nat.le_of_ble_eq_true rfl) (fun u C X E => ?_)
  refine ja_iload_n C jd_Y_isMany_0 0 rfl ?_
  refine ja_tableOut C 93 jd_Y_isMany_1 (by decide) (by decide) ?_
  refine ja_iload_n C jd_Y_isMany_93 1 rfl ?_
  refine ja_if_neN C 101 jd_Y_isMany_94 (by decide) (by omega) (fun c => ?_) (fun c => ?_)
  · refine ja_iconst C (nI 0) jd_Y_isMany_101 (by decide) ?_
    exact E jd_Y_isMany_102 (Or.inl rfl) ⟨by rw [if_neg (by omega)]; rfl, rfl, rfl⟩
  · refine ja_iconst C (nI 1) jd_Y_isMany_97 (by decide) ?_
    refine ja_goto C 102 jd_Y_isMany_98 (by decide) ?_
    exact E jd_Y_isMany_102 (Or.inr rfl) ⟨by rw [if_pos (by omega)]; rfl, rfl, rfl⟩
theorem jn_isMany_4 {m : Nat} (hm : m ≤ 2) : jb_M l jy_Y_isMany jc_Y_isMany 2 (some .boolean) 0 0 0 0 D H0 (jt_all cI cJ cT cX) [.int (nI 4), .int (nI m)] w sz
    (fun v w' sz' => v = some (.int (if m = 0 then 1 else 0)) ∧ w' = w ∧ sz' = sz) := by
  refine jb_meth_z (by decide) (Nat.le_of_ble_eq_true rfl) (fun u C X E => ?_)
  refine ja_iload_n C jd_Y_isMany_0 0 rfl ?_
  refine ja_tableOut C 93 jd_Y_isMany_1 (by decide) (by decide) ?_
  refine ja_iload_n C jd_Y_isMany_93 1 rfl ?_
  refine ja_if_neN C 101 jd_Y_isMany_94 (by decide) (by omega) (fun c => ?_) (fun c => ?_)
  · refine ja_iconst C (nI 0) jd_Y_isMany_101 (by decide) ?_
    exact E jd_Y_isMany_102 (Or.inl rfl) ⟨by rw [if_neg (by omega)]; rfl, rfl, rfl⟩
  · refine ja_iconst C (nI 1) jd_Y_isMany_97 (by decide) ?_
    refine ja_goto C 102 jd_Y_isMany_98 (by decide) ?_
    exact E jd_Y_isMany_102 (Or.inr rfl) ⟨by rw [if_pos (by omega)]; rfl, rfl, rfl⟩
theorem jn_isMany_5 {m : Nat} (hm : m ≤ 2) : jb_M l jy_Y_isMany jc_Y_isMany 2 (some .boolean) 0 0 0 0 D H0 (jt_all cI cJ cT cX) [.int (nI 5), .int (nI m)] w sz
    (fun v w' sz' => v = some (.int (if m < 2 then 1 else 0)) ∧ w' = w ∧ sz' = sz) := by
  refine jb_meth_z (by decide) (Nat.le_of_ble_eq_true rfl) (fun u C X E => ?_)
  refine ja_iload_n C jd_Y_isMany_0 0 rfl ?_
  refine ja_tableIn C 60 jd_Y_isMany_1 (by decide) (by decide) rfl (by decide) ?_
  refine ja_iload_n C jd_Y_isMany_60 1 rfl ?_
  refine ja_iconst C (nI 2) jd_Y_isMany_61 (by decide) ?_
  refine ja_icmp_geN C 69 jd_Y_isMany_62 (by decide) (by omega) (by decide) (fun c => ?_) (fun c => ?_)
  · refine ja_iconst C (nI 0) jd_Y_isMany_69 (by decide) ?_
    exact E jd_Y_isMany_70 (Or.inl rfl) ⟨by rw [if_neg (by omega)]; rfl, rfl, rfl⟩
  · refine ja_iconst C (nI 1) jd_Y_isMany_65 (by decide) ?_
    refine ja_goto C 70 jd_Y_isMany_66 (by decide) ?_
    exact E jd_Y_isMany_70 (Or.inr rfl) ⟨by rw [if_pos (by omega)]; rfl, rfl, rfl⟩
theorem jn_isMany_6 {m : Nat} (hm : m ≤ 2) : jb_M l jy_Y_isMany jc_Y_isMany 2 (some .boolean) 0 0 0 0 D H0 (jt_all cI cJ cT cX) [.int (nI 6), .int (nI m)] w sz
    (fun v w' sz' => v = some (.int (if m < 2 then 1 else 0)) ∧ w' = w ∧ sz' = sz) := by
  refine jb_meth_z (by decide) (Nat.le_of_ble_eq_true rfl) (fun u C X E => ?_)
  refine ja_iload_n C jd_Y_isMany_0 0 rfl ?_
  refine ja_tableIn C 60 jd_Y_isMany_1 (by decide) (by decide) rfl (by decide) ?_
  refine ja_iload_n C jd_Y_isMany_60 1 rfl ?_
  refine ja_iconst C (nI 2) jd_Y_isMany_61 (by decide) ?_
  refine ja_icmp_geN C 69 jd_Y_isMany_62 (by decide) (by omega) (by decide) (fun c => ?_) (fun c => ?_)
  · refine ja_iconst C (nI 0) jd_Y_isMany_69 (by decide) ?_
    exact E jd_Y_isMany_70 (Or.inl rfl) ⟨by rw [if_neg (by omega)]; rfl, rfl, rfl⟩
  · refine ja_iconst C (nI 1) jd_Y_isMany_65 (by decide) ?_
    refine ja_goto C 70 jd_Y_isMany_66 (by decide) ?_
    exact E jd_Y_isMany_70 (Or.inr rfl) ⟨by rw [if_pos (by omega)]; rfl, rfl, rfl⟩
theorem jn_isMany_7 {m : Nat} (hm : m ≤ 2) : jb_M l jy_Y_isMany jc_Y_isMany 2 (some .boolean) 0 0 0 0 D H0 (jt_all cI cJ cT cX) [.int (nI 7), .int (nI m)] w sz
    (fun v w' sz' => v = some (.int (if m = 1 then 1 else 0)) ∧ w' = w ∧ sz' = sz) := by
  refine jb_meth_z (by decide) (Nat.le_of_ble_eq_true rfl) (fun u C X E => ?_)
  refine ja_iload_n C jd_Y_isMany_0 0 rfl ?_
  refine ja_tableIn C 71 jd_Y_isMany_1 (by decide) (by decide) rfl (by decide) ?_
  refine ja_iload_n C jd_Y_isMany_71 1 rfl ?_
  refine ja_iconst C (nI 1) jd_Y_isMany_72 (by decide) ?_
  refine ja_icmp_neN C 80 jd_Y_isMany_73 (by decide) (by omega) (by decide) (fun c => ?_) (fun c => ?_)
  · refine ja_iconst C (nI 0) jd_Y_isMany_80 (by decide) ?_
    exact E jd_Y_isMany_81 (Or.inl rfl) ⟨by rw [if_neg (by omega)]; rfl, rfl, rfl⟩
  · refine ja_iconst C (nI 1) jd_Y_isMany_76 (by decide) ?_
    refine ja_goto C 81 jd_Y_isMany_77 (by decide) ?_
    exact E jd_Y_isMany_81 (Or.inr rfl) ⟨by rw [if_pos (by omega)]; rfl, rfl, rfl⟩
theorem jn_isMany_8 {m : Nat} (hm : m ≤ 2) : jb_M l jy_Y_isMany jc_Y_isMany 2 (some .boolean) 0 0 0 0 D H0 (jt_all cI cJ cT cX) [.int (nI 8), .int (nI m)] w sz
    (fun v w' sz' => v = some (.int (if m = 1 then 1 else 0)) ∧ w' = w ∧ sz' = sz) := by
  refine jb_meth_z (by decide) (Nat.le_of_ble_eq_true rfl) (fun u C X E => ?_)
  refine ja_iload_n C jd_Y_isMany_0 0 rfl ?_
  refine ja_tableIn C 71 jd_Y_isMany_1 (by decide) (by decide) rfl (by decide) ?_
  refine ja_iload_n C jd_Y_isMany_71 1 rfl ?_
  refine ja_iconst C (nI 1) jd_Y_isMany_72 (by decide) ?_
  refine ja_icmp_neN C 80 jd_Y_isMany_73 (by decide) (by omega) (by decide) (fun c => ?_) (fun c => ?_)
  · refine ja_iconst C (nI 0) jd_Y_isMany_80 (by decide) ?_
    exact E jd_Y_isMany_81 (Or.inl rfl) ⟨by rw [if_neg (by omega)]; rfl, rfl, rfl⟩
  · refine ja_iconst C (nI 1) jd_Y_isMany_76 (by decide) ?_
    refine ja_goto C 81 jd_Y_isMany_77 (by decide) ?_
    exact E jd_Y_isMany_81 (Or.inr rfl) ⟨by rw [if_pos (by omega)]; rfl, rfl, rfl⟩
theorem jn_isMany_9 {m : Nat} (hm : m ≤ 2) : jb_M l jy_Y_isMany jc_Y_isMany 2 (some .boolean) 0 0 0 0 D H0 (jt_all cI cJ cT cX) [.int (nI 9), .int (nI m)] w sz
    (fun v w' sz' => v = some (.int (if m = 1 then 1 else 0)) ∧ w' = w ∧ sz' = sz) := by
  refine jb_meth_z (by decide) (Nat.le_of_ble_eq_true rfl) (fun u C X E => ?_)
  refine ja_iload_n C jd_Y_isMany_0 0 rfl ?_
  refine ja_tableIn C 71 jd_Y_isMany_1 (by decide) (by decide) rfl (by decide) ?_
  refine ja_iload_n C jd_Y_isMany_71 1 rfl ?_
  refine ja_iconst C (nI 1) jd_Y_isMany_72 (by decide) ?_
  refine ja_icmp_neN C 80 jd_Y_isMany_73 (by decide) (by omega) (by decide) (fun c => ?_) (fun c => ?_)
  · refine ja_iconst C (nI 0) jd_Y_isMany_80 (by decide) ?_
    exact E jd_Y_isMany_81 (Or.inl rfl) ⟨by rw [if_neg (by omega)]; rfl, rfl, rfl⟩
  · refine ja_iconst C (nI 1) jd_Y_isMany_76 (by decide) ?_
    refine ja_goto C 81 jd_Y_isMany_77 (by decide) ?_
    exact E jd_Y_isMany_81 (Or.inr rfl) ⟨by rw [if_pos (by omega)]; rfl, rfl, rfl⟩
theorem jn_isMany_10 {m : Nat} (hm : m ≤ 2) : jb_M l jy_Y_isMany jc_Y_isMany 2 (some .boolean) 0 0 0 0 D H0 (jt_all cI cJ cT cX) [.int (nI 10), .int (nI m)] w sz
    (fun v w' sz' => v = some (.int (if m = 1 then 1 else 0)) ∧ w' = w ∧ sz' = sz) := by
  refine jb_meth_z (by decide) (Nat.le_of_ble_eq_true rfl) (fun u C X E => ?_)
  refine ja_iload_n C jd_Y_isMany_0 0 rfl ?_
  refine ja_tableIn C 71 jd_Y_isMany_1 (by decide) (by decide) rfl (by decide) ?_
  refine ja_iload_n C jd_Y_isMany_71 1 rfl ?_
  refine ja_iconst C (nI 1) jd_Y_isMany_72 (by decide) ?_
  refine ja_icmp_neN C 80 jd_Y_isMany_73 (by decide) (by omega) (by decide) (fun c => ?_) (fun c => ?_)
  · refine ja_iconst C (nI 0) jd_Y_isMany_80 (by decide) ?_
    exact E jd_Y_isMany_81 (Or.inl rfl) ⟨by rw [if_neg (by omega)]; rfl, rfl, rfl⟩
  · refine ja_iconst C (nI 1) jd_Y_isMany_76 (by decide) ?_
    refine ja_goto C 81 jd_Y_isMany_77 (by decide) ?_
    exact E jd_Y_isMany_81 (Or.inr rfl) ⟨by rw [if_pos (by omega)]; rfl, rfl, rfl⟩
theorem jn_isMany_11 {m : Nat} (hm : m ≤ 2) : jb_M l jy_Y_isMany jc_Y_isMany 2 (some .boolean) 0 0 0 0 D H0 (jt_all cI cJ cT cX) [.int (nI 11), .int (nI m)] w sz
    (fun v w' sz' => v = some (.int (if m = 0 then 1 else 0)) ∧ w' = w ∧ sz' = sz) := by
  refine jb_meth_z (by decide) (Nat.le_of_ble_eq_true rfl) (fun u C X E => ?_)
  refine ja_iload_n C jd_Y_isMany_0 0 rfl ?_
  refine ja_tableIn C 93 jd_Y_isMany_1 (by decide) (by decide) rfl (by decide) ?_
  refine ja_iload_n C jd_Y_isMany_93 1 rfl ?_
  refine ja_if_neN C 101 jd_Y_isMany_94 (by decide) (by omega) (fun c => ?_) (fun c => ?_)
  · refine ja_iconst C (nI 0) jd_Y_isMany_101 (by decide) ?_
    exact E jd_Y_isMany_102 (Or.inl rfl) ⟨by rw [if_neg (by omega)]; rfl, rfl, rfl⟩
  · refine ja_iconst C (nI 1) jd_Y_isMany_97 (by decide) ?_
    refine ja_goto C 102 jd_Y_isMany_98 (by decide) ?_
    exact E jd_Y_isMany_102 (Or.inr rfl) ⟨by rw [if_pos (by omega)]; rfl, rfl, rfl⟩
theorem jn_isMany_12 {m : Nat} (hm : m ≤ 2) : jb_M l jy_Y_isMany jc_Y_isMany 2 (some .boolean) 0 0 0 0 D H0 (jt_all cI cJ cT cX) [.int (nI 12), .int (nI m)] w sz
    (fun v w' sz' => v = some (.int (if m = 0 then 1 else 0)) ∧ w' = w ∧ sz' = sz) := by
  refine jb_meth_z (by decide) (Nat.le_of_ble_eq_true rfl) (fun u C X E => ?_)
  refine ja_iload_n C jd_Y_isMany_0 0 rfl ?_
  refine ja_tableIn C 93 jd_Y_isMany_1 (by decide) (by decide) rfl (by decide) ?_
  refine ja_iload_n C jd_Y_isMany_93 1 rfl ?_
  refine ja_if_neN C 101 jd_Y_isMany_94 (by decide) (by omega) (fun c => ?_) (fun c => ?_)
  · refine ja_iconst C (nI 0) jd_Y_isMany_101 (by decide) ?_
    exact E jd_Y_isMany_102 (Or.inl rfl) ⟨by rw [if_neg (by omega)]; rfl, rfl, rfl⟩
  · refine ja_iconst C (nI 1) jd_Y_isMany_97 (by decide) ?_
    refine ja_goto C 102 jd_Y_isMany_98 (by decide) ?_
    exact E jd_Y_isMany_102 (Or.inr rfl) ⟨by rw [if_pos (by omega)]; rfl, rfl, rfl⟩
theorem jn_isMany_13 {m : Nat} (hm : m ≤ 2) : jb_M l jy_Y_isMany jc_Y_isMany 2 (some .boolean) 0 0 0 0 D H0 (jt_all cI cJ cT cX) [.int (nI 13), .int (nI m)] w sz
    (fun v w' sz' => v = some (.int (if m = 2 then 1 else 0)) ∧ w' = w ∧ sz' = sz) := by
  refine jb_meth_z (by decide) (Nat.le_of_ble_eq_true rfl) (fun u C X E => ?_)
  refine ja_iload_n C jd_Y_isMany_0 0 rfl ?_
  refine ja_tableIn C 82 jd_Y_isMany_1 (by decide) (by decide) rfl (by decide) ?_
  refine ja_iload_n C jd_Y_isMany_82 1 rfl ?_
  refine ja_iconst C (nI 2) jd_Y_isMany_83 (by decide) ?_
  refine ja_icmp_neN C 91 jd_Y_isMany_84 (by decide) (by omega) (by decide) (fun c => ?_) (fun c => ?_)
  · refine ja_iconst C (nI 0) jd_Y_isMany_91 (by decide) ?_
    exact E jd_Y_isMany_92 (Or.inl rfl) ⟨by rw [if_neg (by omega)]; rfl, rfl, rfl⟩
  · refine ja_iconst C (nI 1) jd_Y_isMany_87 (by decide) ?_
    refine ja_goto C 92 jd_Y_isMany_88 (by decide) ?_
    exact E jd_Y_isMany_92 (Or.inr rfl) ⟨by rw [if_pos (by omega)]; rfl, rfl, rfl⟩
theorem jn_isMany_14 {m : Nat} (hm : m ≤ 2) : jb_M l jy_Y_isMany jc_Y_isMany 2 (some .boolean) 0 0 0 0 D H0 (jt_all cI cJ cT cX) [.int (nI 14), .int (nI m)] w sz
    (fun v w' sz' => v = some (.int (if m = 0 then 1 else 0)) ∧ w' = w ∧ sz' = sz) := by
  refine jb_meth_z (by decide) (Nat.le_of_ble_eq_true rfl) (fun u C X E => ?_)
  refine ja_iload_n C jd_Y_isMany_0 0 rfl ?_
  refine ja_tableIn C 93 jd_Y_isMany_1 (by decide) (by decide) rfl (by decide) ?_
  refine ja_iload_n C jd_Y_isMany_93 1 rfl ?_
  refine ja_if_neN C 101 jd_Y_isMany_94 (by decide) (by omega) (fun c => ?_) (fun c => ?_)
  · refine ja_iconst C (nI 0) jd_Y_isMany_101 (by decide) ?_
    exact E jd_Y_isMany_102 (Or.inl rfl) ⟨by rw [if_neg (by omega)]; rfl, rfl, rfl⟩
  · refine ja_iconst C (nI 1) jd_Y_isMany_97 (by decide) ?_
    refine ja_goto C 102 jd_Y_isMany_98 (by decide) ?_
    exact E jd_Y_isMany_102 (Or.inr rfl) ⟨by rw [if_pos (by omega)]; rfl, rfl, rfl⟩
theorem jn_isMany_15 {m : Nat} (hm : m ≤ 2) : jb_M l jy_Y_isMany jc_Y_isMany 2 (some .boolean) 0 0 0 0 D H0 (jt_all cI cJ cT cX) [.int (nI 15), .int (nI m)] w sz
    (fun v w' sz' => v = some (.int (if m = 1 then 1 else 0)) ∧ w' = w ∧ sz' = sz) := by
  refine jb_meth_z (by decide) (Nat.le_of_ble_eq_true rfl) (fun u C X E => ?_)
  refine ja_iload_n C jd_Y_isMany_0 0 rfl ?_
  refine ja_tableIn C 71 jd_Y_isMany_1 (by decide) (by decide) rfl (by decide) ?_
  refine ja_iload_n C jd_Y_isMany_71 1 rfl ?_
  refine ja_iconst C (nI 1) jd_Y_isMany_72 (by decide) ?_
  refine ja_icmp_neN C 80 jd_Y_isMany_73 (by decide) (by omega) (by decide) (fun c => ?_) (fun c => ?_)
  · refine ja_iconst C (nI 0) jd_Y_isMany_80 (by decide) ?_
    exact E jd_Y_isMany_81 (Or.inl rfl) ⟨by rw [if_neg (by omega)]; rfl, rfl, rfl⟩
  · refine ja_iconst C (nI 1) jd_Y_isMany_76 (by decide) ?_
    refine ja_goto C 81 jd_Y_isMany_77 (by decide) ?_
    exact E jd_Y_isMany_81 (Or.inr rfl) ⟨by rw [if_pos (by omega)]; rfl, rfl, rfl⟩
theorem jn_isMany_16 {m : Nat} (hm : m ≤ 2) : jb_M l jy_Y_isMany jc_Y_isMany 2 (some .boolean) 0 0 0 0 D H0 (jt_all cI cJ cT cX) [.int (nI 16), .int (nI m)] w sz
    (fun v w' sz' => v = some (.int (if m = 0 then 1 else 0)) ∧ w' = w ∧ sz' = sz) := by
  refine jb_meth_z (by decide) (Nat.le_of_ble_eq_true rfl) (fun u C X E => ?_)
  refine ja_iload_n C jd_Y_isMany_0 0 rfl ?_
  refine ja_tableOut C 93 jd_Y_isMany_1 (by decide) (by decide) ?_
  refine ja_iload_n C jd_Y_isMany_93 1 rfl ?_
  refine ja_if_neN C 101 jd_Y_isMany_94 (by decide) (by omega) (fun c => ?_) (fun c => ?_)
  · refine ja_iconst C (nI 0) jd_Y_isMany_101 (by decide) ?_
    exact E jd_Y_isMany_102 (Or.inl rfl) ⟨by rw [if_neg (by omega)]; rfl, rfl, rfl⟩
  · refine ja_iconst C (nI 1) jd_Y_isMany_97 (by decide) ?_
    refine ja_goto C 102 jd_Y_isMany_98 (by decide) ?_
    exact E jd_Y_isMany_102 (Or.inr rfl) ⟨by rw [if_pos (by omega)]; rfl, rfl, rfl⟩
theorem jn_isMany_17 {m : Nat} (hm : m ≤ 2) : jb_M l jy_Y_isMany jc_Y_isMany 2 (some .boolean) 0 0 0 0 D H0 (jt_all cI cJ cT cX) [.int (nI 17), .int (nI m)] w sz
    (fun v w' sz' => v = some (.int (if m = 0 then 1 else 0)) ∧ w' = w ∧ sz' = sz) := by
  refine jb_meth_z (by decide) (Nat.le_of_ble_eq_true rfl) (fun u C X E => ?_)
  refine ja_iload_n C jd_Y_isMany_0 0 rfl ?_
  refine ja_tableOut C 93 jd_Y_isMany_1 (by decide) (by decide) ?_
  refine ja_iload_n C jd_Y_isMany_93 1 rfl ?_
  refine ja_if_neN C 101 jd_Y_isMany_94 (by decide) (by omega) (fun c => ?_) (fun c => ?_)
  · refine ja_iconst C (nI 0) jd_Y_isMany_101 (by decide) ?_
    exact E jd_Y_isMany_102 (Or.inl rfl) ⟨by rw [if_neg (by omega)]; rfl, rfl, rfl⟩
  · refine ja_iconst C (nI 1) jd_Y_isMany_97 (by decide) ?_
    refine ja_goto C 102 jd_Y_isMany_98 (by decide) ?_
    exact E jd_Y_isMany_102 (Or.inr rfl) ⟨by rw [if_pos (by omega)]; rfl, rfl, rfl⟩
theorem jn_isMany_18 {m : Nat} (hm : m ≤ 2) : jb_M l jy_Y_isMany jc_Y_isMany 2 (some .boolean) 0 0 0 0 D H0 (jt_all cI cJ cT cX) [.int (nI 18), .int (nI m)] w sz
    (fun v w' sz' => v = some (.int (if m = 0 then 1 else 0)) ∧ w' = w ∧ sz' = sz) := by
  refine jb_meth_z (by decide) (Nat.le_of_ble_eq_true rfl) (fun u C X E => ?_)
  refine ja_iload_n C jd_Y_isMany_0 0 rfl ?_
  refine ja_tableOut C 93 jd_Y_isMany_1 (by decide) (by decide) ?_
  refine ja_iload_n C jd_Y_isMany_93 1 rfl ?_
  refine ja_if_neN C 101 jd_Y_isMany_94 (by decide) (by omega) (fun c => ?_) (fun c => ?_)
  · refine ja_iconst C (nI 0) jd_Y_isMany_101 (by decide) ?_
    exact E jd_Y_isMany_102 (Or.inl rfl) ⟨by rw [if_neg (by omega)]; rfl, rfl, rfl⟩
  · refine ja_iconst C (nI 1) jd_Y_isMany_97 (by decide) ?_
    refine ja_goto C 102 jd_Y_isMany_98 (by decide) ?_
    exact E jd_Y_isMany_102 (Or.inr rfl) ⟨by rw [if_pos (by omega)]; rfl, rfl, rfl⟩
end Y44
