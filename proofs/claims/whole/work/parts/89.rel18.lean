/-! writing the control words -/
theorem st_word {v : Int32} (h : (v &&& 31) < 8) : ∀ i, i < 32 → bt (v &&& 15732735) i = (bt v i && stM i) := by
  intro i hi
  have hv : vp_in (v &&& 31) 8 := by
    obtain ⟨j, hj, e⟩ := pk_andE v (m := 31) 5 (by decide)
    rw [e] at h ⊢
    have q : j < 8 := by
      rw [Int32.lt_iff_toInt_lt, nI_toInt (by omega)] at h
      have e8 : (8 : Int32).toInt = 8 := by decide
      omega
    exact vp_in_nI q (by decide)
  have b3 : ∀ j, 3 ≤ j → j < 5 → bt v j = false := fun j h1 h2 => by
    have q := bt_lt (n := 3) hv (by decide) h1
    rw [b_and, (by decide +kernel : ∀ j, j < 5 → bt 31 j = true) j h2, Bool.and_true] at q
    exact q
  rw [b_and]
  by_cases g : 3 ≤ i ∧ i < 5
  · rw [b3 i g.1 g.2]; rfl
  · rw [(by decide +kernel : ∀ i, i < 32 → ¬ (3 ≤ i ∧ i < 5) → bt 15732735 i = stM i) i hi g]
theorem tab_rest {σ : XS} {τ : MS} (h : rT σ τ) : σ.1 4 &&& 4095 = τ.1 15 <<< ((4 : Int32) &&& 31) := by
  refine b_ext (fun i hi => ?_)
  rw [b_and, h.1, (by decide +kernel : ∀ i, i < 32 → bt 4095 i = decide (i < 12)) i hi]
  unfold kM_table
  rw [b_or, bt_shl4 _ hi]
  by_cases q : i < 12
  · rw [h.2.1 i q, decide_eq_true q, Bool.and_true, Bool.false_or]
  · rw [decide_eq_false q, Bool.and_false, bt_lt (n := 8) h.2.2 (by decide) (show 8 ≤ i - 4 by omega), Bool.and_false]
theorem rel_setst {σ : XS} {τ : MS} (h : Rel σ τ) {v : Int32} (hv : (v &&& 31) < 8) : Rel (xI σ 2 (v &&& 15732735)) (kM_setStatus τ v) := by
  have s := rS_set (σ := σ) (st_word hv) h.1.2.1
  rw [setStatus_eq] at s ⊢
  obtain ⟨-, ⟨t1, t2, t3⟩, ⟨i1, i2, i3, i4, i5, i6, i7, i8⟩, r, m⟩ := h
  exact ⟨⟨s.1, s.2.1, s.2.2⟩, ⟨t1, t2, t3⟩, ⟨i1, i2, i3, i4, i5, i6, i7, i8⟩, r, m⟩
theorem rel_inv {σ : XS} {τ : MS} (h : Rel σ τ) (v : Int32) : Rel (xI σ 3 v) (mI τ 13 v) := by
  obtain ⟨⟨s1, s2, s3⟩, ⟨t1, t2, t3⟩, ⟨i1, i2, i3, i4, i5, i6, i7, i8⟩, r, m⟩ := h
  exact ⟨⟨s1, s2, s3⟩, ⟨t1, t2, t3⟩, ⟨rfl, i2, i3, i4, i5, i6, i7, i8⟩, r, m⟩
theorem rel_tab {σ : XS} {τ : MS} (h : Rel σ τ) (v : Int32) : Rel (xI σ 4 ((v &&& (-4096)) ||| (σ.1 4 &&& 4095))) (mI τ 14 (v &&& (-4096))) := by
  rw [tab_rest h.2.1]
  obtain ⟨⟨s1, s2, s3⟩, ⟨t1, t2, t3⟩, ⟨i1, i2, i3, i4, i5, i6, i7, i8⟩, r, m⟩ := h
  exact ⟨⟨s1, s2, s3⟩, ⟨rfl, low12 v, t3⟩, ⟨i1, i2, i3, i4, i5, i6, i7, i8⟩, r, m⟩
theorem lt8 (v : Int32) : (v &&& 31) < 8 ↔ ¬ 7 < (v &&& 31) := by
  obtain ⟨j, hj, e⟩ := pk_andE v (m := 31) 5 (by decide)
  rw [e]
  exact (by decide +kernel : ∀ j, j < 32 → (nI j < 8 ↔ ¬ 7 < nI j)) j (by omega)
theorem writing_rel {σ : XS} {τ : MS} {c k : Int32} (D : Dec σ τ c k) (hk : k = 49 ∨ k = 50 ∨ k = 51) : sameR (kX_performWriting σ c k) (kM_oneStep_c239 τ 2) := by
  obtain ⟨h, h23, h24, h27, h25, h26⟩ := D
  have kn : knownK k = true := by rcases hk with rfl | rfl | rfl <;> decide
  have wk : kM_isWork k = false := by rcases hk with rfl | rfl | rfl <;> decide
  have ck : kM_isControl k = true := by rcases hk with rfl | rfl | rfl <;> decide
  have n57 : ¬ k = 57 := by rcases hk with rfl | rfl | rfl <;> decide
  have hR := rel_28 h (τ.1 17 + 4)
  have tr0 := tr_known h27 kn
  have toc := fun q => to_ctl (s := τ.1 25 + τ.1 26) h27 n57 q ck (by rcases hk with rfl | rfl | rfl <;> decide) (by rcases hk with rfl | rfl | rfl <;> decide) (by rcases hk with rfl | rfl | rfl <;> decide) (by rcases hk with rfl | rfl | rfl <;> decide)
  have cs : kM_controls (mI τ 28 (τ.1 17 + 4)) = if k = 49 then kM_setStatus (mI τ 28 (τ.1 17 + 4)) (τ.1 25 ^^^ τ.1 26) else if k = 50 then mI (mI τ 28 (τ.1 17 + 4)) 13 ((τ.1 25 ^^^ τ.1 26) &&& 255) else mI (mI τ 28 (τ.1 17 + 4)) 14 ((τ.1 25 ^^^ τ.1 26) &&& (-4096)) := by
    unfold kM_controls
    rw [show (mI τ 28 (τ.1 17 + 4)).1 27 = k from h27, if_pos (by rcases hk with rfl | rfl | rfl <;> decide)]
    rfl
  have main : (k = 49 → ((τ.1 25 ^^^ τ.1 26) &&& 31) < 8) → sameR (kX_performWriting_c33 σ k (τ.1 25 ^^^ τ.1 26)) (kM_oneStep_c239 τ 2) := by
    intro h8
    have tr := tr0.trans (toc (fun q => (lt8 _).mp (h8 q.1) q.2))
    unfold kX_performWriting_c33
    rw [has_kernel h.1]
    by_cases e : bI (τ.2.1 7) = 0
    · rw [if_pos e] at tr ⊢
      rw [c239_tr tr (by decide)]; exact rel_trap h v3t
    · rw [if_neg e] at tr ⊢
      rw [c239_ok2 tr (by rw [h27]; exact n57), act_ctl (τ := mI τ 28 (τ.1 17 + 4)) h27 wk ck, cs]
      by_cases e1 : k = 49
      · rw [if_pos e1, if_pos e1]
        exact fin_on (rel_setst hR (h8 e1)) (by rw [setStatus_eq]; rfl)
      · rw [if_neg e1, if_neg e1]
        by_cases e2 : k = 50
        · rw [if_pos e2, if_pos e2]; exact fin_on (rel_inv hR _) rfl
        · rw [if_neg e2, if_neg e2]; exact fin_on (rel_tab hR _) rfl
  unfold kX_performWriting
  rw [← h25, ← h26]
  by_cases e : k = 49
  · rw [if_pos e]
    by_cases g : ((τ.1 25 ^^^ τ.1 26) &&& 31) < 8
    · rw [if_pos g]; exact main (fun _ => g)
    · rw [if_neg g]
      have tr : kM_trouble τ 2 = 2 := by
        rw [tr0]
        unfold kM_troubleOf kM_troubleOf_c20 kM_troubleOf_c21
        rw [h27, if_neg n57, if_pos e, if_pos (Classical.not_not.mp (fun q => g ((lt8 _).mpr q)))]
      rw [c239_tr tr (by decide)]; exact rel_trap h v2t
  · rw [if_neg e]; exact main (fun q => absurd q e)
