/-! conditions; the short instructions -/
theorem holds_eq {σ : XS} {τ : MS} (h : rS σ τ) {n : Int32} (hn : vp_in n 16) : kX_holds σ n = kM_holds τ n := by
  obtain ⟨j, hj, rfl⟩ := vp_in_of hn (by decide)
  simp only [kX_holds, kX_holds_c11, kX_holdsPlainly, kX_holdsPlainly_c20, has_carry h, has_over h, has_zero h, has_neg h, kM_holds, kM_holds_c150, kM_holds_c162, kM_holds_c122, kM_holds_c117, kM_holds_c99, kM_holds_c79, kM_holds_c74]
  generalize τ.2.1 9 = b9
  generalize τ.2.1 10 = b10
  generalize τ.2.1 11 = b11
  generalize τ.2.1 12 = b12
  clear hn h
  revert j b9 b10 b11 b12
  decide +kernel
theorem shl2 (x : Int32) : x <<< ((2 : Int32) &&& 31) = 4 * x := by
  rw [← Int32.toBitVec_inj, Int32.toBitVec_shiftLeft, Int32.toBitVec_mul]
  show x.toBitVec <<< ((nI 2 &&& 31).toBitVec.smod 32).toNat = _
  rw [s_l 2 (by decide)]
  apply BitVec.eq_of_toNat_eq
  rw [BitVec.toNat_shiftLeft, BitVec.toNat_mul, Nat.shiftLeft_eq, Nat.mul_comm]
  rfl
theorem rel_ann {σ : XS} {τ : MS} (h : Rel σ τ) (b : Bool) : Rel (xB σ 10 b) (mB τ 18 b) := by
  obtain ⟨⟨s1, s2, s3⟩, ⟨t1, t2, t3⟩, ⟨i1, i2, i3, i4, i5, i6, i7, i8⟩, r, m⟩ := h
  exact ⟨⟨s1, s2, s3⟩, ⟨t1, t2, t3⟩, ⟨i1, i2, i3, i4, i5, i6, rfl, i8⟩, r, m⟩
theorem tr_short {τ : MS} {k : Int32} (h : τ.1 27 = k) : kM_trouble τ 0 = if k = 4 then 0 else if k = 2 then 0 else 2 := by
  have e : kM_isKnown τ 0 = if k = 4 then true else if k = 2 then true else false := by
    rw [← h]; rfl
  unfold kM_trouble
  rw [e]
  by_cases h4 : k = 4
  · rw [if_pos h4, if_pos h4]; rfl
  · rw [if_neg h4, if_neg h4]
    by_cases h2 : k = 2
    · rw [if_pos h2, if_pos h2]; rfl
    · rw [if_neg h2, if_neg h2]; rfl
theorem v2t : vp_in (2 : Int32) 256 := (vp_in_nI (by decide) (by decide) : vp_in (nI 2) 256)
theorem c239_ok {τ : MS} {v : Int32} (h : kM_trouble τ v = 0) (hv : ¬ v = 2) : kM_oneStep_c239 τ v = kM_oneStep_c298 (kM_act (mI τ 28 (τ.1 17 + 4)) v) := by
  unfold kM_oneStep_c239
  rw [h, if_pos (by decide), if_neg hv]; rfl
theorem c239_tr {τ : MS} {v t : Int32} (h : kM_trouble τ v = t) (ht : ¬ t ≤ 0) : kM_oneStep_c239 τ v = kM_trap τ t := by
  unfold kM_oneStep_c239
  rw [h, if_neg ht]
theorem cond_in (c : Int32) : vp_in (kX_conditionOf c) 16 := pk_andIn _ 4 (by decide) (by decide)
theorem branch_rel {σ : XS} {τ : MS} {c k : Int32} (d : Dec σ τ c k) : sameR (kX_performBranch σ c) (kM_oneStep_c298 (if (bI (kM_holds τ (kX_conditionOf c))) = 0 then kM_simple_c112 (mI τ 28 (τ.1 17 + 4)) (kX_conditionOf c) (kM_holds τ (kX_conditionOf c)) (τ.1 17 + 4) else kM_simple_c112 (mI τ 28 (τ.1 17 + 4)) (kX_conditionOf c) (kM_holds τ (kX_conditionOf c)) (τ.1 16 + 4 * kM_signed c 22))) := by
  obtain ⟨h, h23, h24, h27, h25, h26⟩ := d
  have q : (c &&& (536870912 : Int32)) = 0 ↔ bt c 29 = false := and_bit c (k := 29) (by decide)
  have p : ((τ.1 23 >>> ((29 : Int32) &&& 31)) &&& 1) = 1 ↔ bt c 29 = true := by rw [h23]; exact sh1 c (k := 29) (by decide)
  have p5 : σ.1 5 = τ.1 16 := h.2.2.1.2.1.1
  have al : (τ.1 16 + 4 * kM_signed c 22) &&& 3 = 0 := by
    rw [← shl2, ← p5]; exact al_add h.2.2.1.2.1.2 (al_shl _)
  have on : ∀ b, sameR (kX_goOn (xB σ 10 b)) (kM_oneStep_c298 (mB (mI (mI τ 28 (τ.1 17 + 4)) 28 (τ.1 17 + 4)) 18 b)) := fun b => fin_on (rel_ann (rel_28 (rel_28 h _) _) b) rfl
  have to : ∀ b, sameR (kX_goTo (xB σ 10 b) (σ.1 5 + (((c <<< ((10 : Int32) &&& 31)) >>> ((10 : Int32) &&& 31)) <<< ((2 : Int32) &&& 31)))) (kM_oneStep_c298 (mB (mI (mI τ 28 (τ.1 17 + 4)) 28 (τ.1 16 + 4 * kM_signed c 22)) 18 b)) := fun b => by
    rw [shl2, p5]
    exact fin_to (rel_ann (rel_28 (rel_28 h _) _) b) rfl al
  unfold kX_performBranch
  rw [holds_eq h.1 (cond_in c)]
  generalize kX_conditionOf c = cc
  cases hh : kM_holds τ cc
  · rw [if_pos (show bI false = 0 from rfl)]
    cases hb : bt c 29
    · rw [if_pos (q.mpr hb)]
      have e : kM_simple_c112 (mI τ 28 (τ.1 17 + 4)) cc false (τ.1 17 + 4) = mB (mI (mI τ 28 (τ.1 17 + 4)) 28 (τ.1 17 + 4)) 18 false := if_neg (fun z => by rw [p.mp z] at hb; cases hb)
      rw [e]; exact on false
    · rw [if_neg (fun z => by rw [q.mp z] at hb; cases hb)]
      have e : kM_simple_c112 (mI τ 28 (τ.1 17 + 4)) cc false (τ.1 17 + 4) = mB (mI (mI τ 28 (τ.1 17 + 4)) 28 (τ.1 17 + 4)) 18 true := if_pos (p.mpr hb)
      rw [e]; exact on true
  · rw [if_neg (show ¬ bI true = 0 by decide)]
    by_cases h8 : cc = 8
    · cases hb : bt c 29
      · rw [if_pos (q.mpr hb)]
        have e : kM_simple_c112 (mI τ 28 (τ.1 17 + 4)) cc true (τ.1 16 + 4 * kM_signed c 22) = mB (mI (mI τ 28 (τ.1 17 + 4)) 28 (τ.1 16 + 4 * kM_signed c 22)) 18 false := (if_pos h8).trans (if_neg (fun z => by rw [p.mp z] at hb; cases hb))
        rw [e]; exact to false
      · rw [if_neg (fun z => by rw [q.mp z] at hb; cases hb)]
        have e : kM_simple_c112 (mI τ 28 (τ.1 17 + 4)) cc true (τ.1 16 + 4 * kM_signed c 22) = mB (mI (mI τ 28 (τ.1 17 + 4)) 28 (τ.1 16 + 4 * kM_signed c 22)) 18 true := (if_pos h8).trans (if_pos (p.mpr hb))
        have f : kX_performBranch_c23 σ c cc true true = kX_performBranch_c41 σ c true := if_pos h8
        rw [e, f]; exact to true
    · have e : kM_simple_c112 (mI τ 28 (τ.1 17 + 4)) cc true (τ.1 16 + 4 * kM_signed c 22) = mB (mI (mI τ 28 (τ.1 17 + 4)) 28 (τ.1 16 + 4 * kM_signed c 22)) 18 false := if_neg h8
      have f : kX_performBranch_c23 σ c cc true true = kX_performBranch_c45 σ c true := if_neg h8
      rw [e]
      cases hb : bt c 29
      · rw [if_pos (q.mpr hb)]; exact to false
      · rw [if_neg (fun z => by rw [q.mp z] at hb; cases hb), f]; exact to false
theorem short_rel {σ : XS} {τ : MS} {c : Int32} (d : Dec σ τ c (uS c 22 &&& 7)) : sameR (kX_performShort σ c) (kM_oneStep_c239 τ 0) := by
  have d' := d
  obtain ⟨h, h23, h24, h27, h25, h26⟩ := d
  have tr := tr_short h27
  unfold kX_performShort
  generalize uS c 22 &&& 7 = k at *
  by_cases h2 : k = 2
  · rw [if_pos h2]
    subst h2
    rw [c239_ok tr (by decide)]
    have q := branch_rel d'
    have e : kM_act (mI τ 28 (τ.1 17 + 4)) 0 = (if (bI (kM_holds τ ((τ.1 23 >>> ((25 : Int32) &&& 31)) &&& 15))) = 0 then kM_simple_c112 (mI τ 28 (τ.1 17 + 4)) ((τ.1 23 >>> ((25 : Int32) &&& 31)) &&& 15) (kM_holds τ ((τ.1 23 >>> ((25 : Int32) &&& 31)) &&& 15)) (τ.1 17 + 4) else kM_simple_c112 (mI τ 28 (τ.1 17 + 4)) ((τ.1 23 >>> ((25 : Int32) &&& 31)) &&& 15) (kM_holds τ ((τ.1 23 >>> ((25 : Int32) &&& 31)) &&& 15)) (τ.1 16 + 4 * kM_signed (τ.1 23) 22)) := by
      have e1 : kM_act (mI τ 28 (τ.1 17 + 4)) 0 = kM_simple (mI τ 28 (τ.1 17 + 4)) 0 := rfl
      rw [e1]; unfold kM_simple
      rw [if_neg (by decide), if_neg (show ¬ (mI τ 28 (τ.1 17 + 4)).1 27 = 4 by show ¬ τ.1 27 = 4; rw [h27]; decide)]; rfl
    rw [e, h23, ← d_cond]
    exact q
  · rw [if_neg h2]
    by_cases h4 : k = 4
    · rw [if_pos h4]
      subst h4
      rw [c239_ok tr (by decide)]
      have e : kM_act (mI τ 28 (τ.1 17 + 4)) 0 = kM_give (mI τ 28 (τ.1 17 + 4)) (τ.1 4) (τ.1 24) (τ.1 23 <<< ((10 : Int32) &&& 31)) := if_pos h27
      rw [e, h23, h24]
      have g := (give_keeps (mI τ 28 (τ.1 17 + 4)) (τ.1 4) (kX_numberOfD c) (c <<< ((10 : Int32) &&& 31))).1
      exact fin_on (write_rel (rel_28 h _) (num_in c) _) (by rw [g]; rfl)
    · rw [if_neg h4]
      rw [if_neg h4, if_neg h2] at tr
      rw [c239_tr tr (by decide)]
      exact rel_trap h v2t
