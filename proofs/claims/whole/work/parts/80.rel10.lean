/-! the step, over what performing gives -/
def PerfOK : Prop := ∀ σ τ c, Rel σ τ → sameR (kX_perform σ c) (kM_oneStep_c120 (mI τ 23 c))
theorem word_place {p : Int32} (hp : p &&& 3 = 0) : kX_isWordOfMemory p = kM_inMemory p 4 := by
  cases hm : kM_inMemory p 4
  · rw [sameWord]; unfold kM_isWord; rw [hm]; rfl
  · have e : kX_isInMemory p = true := by
      unfold kM_inMemory at hm
      unfold kX_isInMemory
      by_cases h1 : p < 0
      · rw [if_pos h1] at hm; cases hm
      · rw [if_neg h1] at hm ⊢
        by_cases h2 : (4096 : Int32) - 4 < p
        · rw [if_pos h2] at hm; cases hm
        · have h3 : ¬ (4096 : Int32) ≤ p := by
            rw [Int32.lt_iff_toInt_lt] at h2
            rw [Int32.le_iff_toInt_le]
            have e1 : (4096 : Int32).toInt = 4096 := by decide
            have e2 : ((4096 : Int32) - 4).toInt = 4092 := by decide
            omega
          rw [if_neg h3]
    unfold kX_isWordOfMemory
    rw [e, if_neg (by decide), if_pos hp]
theorem word_load {σ : XS} {τ : MS} (h : rM σ τ) {p : Int32} (hp : kM_isWord p = true) : σ.2.2.1 (uS p 2).toNatClampNeg = kM_load τ p 4 := by
  obtain ⟨n, hn, ha, rfl⟩ := word_n hp
  rw [idx_at hn]
  refine b_ext (fun i hi => ?_)
  have q := bt_load h hn (z := 4) (by simp) (by omega) i hi
  rw [show nI 4 = (4 : Int32) from rfl] at q
  rw [q, decide_eq_true (by omega), Bool.true_and]
  congr 1; omega
theorem v1t : vp_in (1 : Int32) 256 := (vp_in_nI (by decide) (by decide) : vp_in (nI 1) 256)
theorem int_in {x : Int32} (hx : vp_in x 16) : vp_in (16 + x) 256 := by
  obtain ⟨j, hj, rfl⟩ := vp_in_of hx (by decide)
  rw [show (16 : Int32) + nI j = nI (16 + j) from nI_add 16 j]
  exact vp_in_nI (by omega) (by decide)
theorem fetch_rel (P : PerfOK) {σ : XS} {τ : MS} (h : Rel σ τ) : sameR (if (bI (kX_isWordOfMemory (σ.1 5))) = 0 then ((kX_trap σ (1 : Int32)).1, (kX_trap σ (1 : Int32)).2) else ((kX_perform σ (σ.2.2.1 (uS (σ.1 5) (2 : Int32)).toNatClampNeg)).1, (kX_perform σ (σ.2.2.1 (uS (σ.1 5) (2 : Int32)).toNatClampNeg)).2)) (kM_oneStep_c90 τ) := by
  have hp := h.2.2.1.2.1
  unfold kM_oneStep_c90
  rw [← hp.1, ← word_place hp.2]
  by_cases e : bI (kX_isWordOfMemory (σ.1 5)) = 0
  · rw [if_pos e, if_pos e]; exact rel_trap h v1t
  · rw [if_neg e, if_neg e]
    have e2 : kM_isWord (σ.1 5) = true := by
      rw [← sameWord]
      cases hb : kX_isWordOfMemory (σ.1 5)
      · rw [hb] at e; exact absurd rfl e
      · rfl
    rw [word_load h.2.2.2.2 e2]
    exact P σ τ _ h
theorem rel_count {σ : XS} {τ : MS} (h : Rel σ τ) : Rel (xI σ 8 (σ.1 8 + 1)) (mI τ 21 (τ.1 21 + 1)) := by
  obtain ⟨⟨s1, s2, s3⟩, ⟨t1, t2, t3⟩, ⟨i1, i2, i3, i4, i5, i6, i7, i8⟩, r, m⟩ := h
  have i5' : σ.1 8 + 1 = τ.1 21 + 1 := by rw [i5]
  exact ⟨⟨s1, s2, s3⟩, ⟨t1, t2, t3⟩, ⟨i1, i2, i3, i4, i5', i6, i7, i8⟩, r, m⟩
theorem adv_rel (P : PerfOK) {σ : XS} {τ : MS} (h : Rel σ τ) : sameR (kX_advance_c19 σ) (kM_oneStep_c19 τ) := by
  have i7 : σ.2.1 10 = τ.2.1 18 := h.2.2.1.2.2.2.2.2.2.1
  have i4 := h.2.2.1.2.2.2.1
  unfold kX_advance_c19 kM_oneStep_c19
  rw [i7]
  by_cases a : bI (τ.2.1 18) = 0
  · rw [if_pos a, if_pos a]
    unfold kX_isInterrupted
    rw [has_traps h.1, level_eq h.1, i4.1]
    by_cases b : bI (τ.2.1 5) = 0
    · rw [if_pos b, if_pos b, if_pos (show bI false = 0 from rfl)]; exact fetch_rel P h
    · rw [if_neg b, if_neg b]
      by_cases c : τ.1 20 = 15
      · rw [if_pos c, if_pos c, if_neg (show ¬ bI true = 0 by decide)]; exact rel_trap h (int_in i4.2)
      · rw [if_neg c, if_neg c]
        by_cases d : τ.1 20 ≤ τ.1 8
        · rw [if_pos d, if_pos d, if_pos (show bI false = 0 from rfl)]; exact fetch_rel P h
        · rw [if_neg d, if_neg d, if_neg (show ¬ bI true = 0 by decide)]; exact rel_trap h (int_in i4.2)
  · rw [if_neg a, if_neg a]
    exact ⟨rfl, goOn_rel (rel_ann h false)⟩
theorem advance_rel (P : PerfOK) {σ : XS} {τ : MS} (h : Rel σ τ) : sameR (kX_advance σ) (kM_oneStep τ) := by
  have i8 : σ.2.1 11 = τ.2.1 19 := h.2.2.1.2.2.2.2.2.2.2
  unfold kX_advance kM_oneStep
  rw [i8]
  by_cases a : bI (τ.2.1 19) = 0
  · rw [if_pos a, if_pos a]; exact adv_rel P (rel_count h)
  · rw [if_neg a, if_neg a]; exact ⟨rfl, h⟩
theorem step_rel (P : PerfOK) (σ : XS) (τ : MS) (h : Rel σ τ) : (kX_step σ).1 = (kM_step τ).1 ∧ Rel (kX_step σ).2 (kM_step τ).2 := advance_rel P (rel_thrown (x := 0) h)
