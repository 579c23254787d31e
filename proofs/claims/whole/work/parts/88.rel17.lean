/-! the control words read and written -/
theorem to_ctl {τ : MS} {k s : Int32} (h : τ.1 27 = k) (h57 : ¬ k = 57) (h49 : ¬ (k = 49 ∧ 7 < ((τ.1 25 ^^^ τ.1 26) &&& 31))) (hc : kM_isControl k = true) (h60 : ¬ k = 60) (h61 : ¬ k = 61) (h56 : ¬ k = 56) (h58 : ¬ k = 58) : kM_troubleOf τ s = if bI (τ.2.1 7) = 0 then 3 else 0 := by
  have e : kM_troubleOf_c48 τ s false = if bI (τ.2.1 7) = 0 then 3 else 0 := by
    simp only [kM_troubleOf_c48, kM_troubleOf_c61, kM_troubleOf_c78, kM_troubleOf_c115, kM_troubleOf_c162, kM_troubleOf_c180, h, hc, if_neg h60, if_neg h61, if_neg h56, if_neg h58]
    rw [if_pos (show bI false = 0 from rfl), if_neg (show ¬ bI true = 0 by decide)]
    rfl
  unfold kM_troubleOf kM_troubleOf_c20 kM_troubleOf_c21
  rw [h, if_neg h57]
  by_cases q : k = 49
  · rw [if_pos q, if_neg (fun z => h49 ⟨q, z⟩)]; exact e
  · rw [if_neg q]; exact e
theorem v3t : vp_in (3 : Int32) 256 := (vp_in_nI (by decide) (by decide) : vp_in (nI 3) 256)
theorem act_ctl {τ : MS} {k : Int32} (h27 : τ.1 27 = k) (hw : kM_isWork k = false) (hc : kM_isControl k = true) : kM_act τ 2 = kM_controls τ := by
  have e : kM_act τ 2 = if bI (kM_isWork (τ.1 27)) = 0 then (if bI (kM_isControl (τ.1 27)) = 0 then kM_go τ (τ.1 25 + τ.1 26) else kM_controls τ) else (if τ.1 27 ≤ 36 then kM_work τ else kM_shift τ) := rfl
  rw [e, h27, hw, hc]; rfl
theorem reading_rel {σ : XS} {τ : MS} {c k : Int32} (D : Dec σ τ c k) (hk : k = 41 ∨ k = 42 ∨ k = 43) : sameR (kX_performReading σ c k) (kM_oneStep_c239 τ 2) := by
  obtain ⟨h, h23, h24, h27, h25, h26⟩ := D
  have kn : knownK k = true := by rcases hk with rfl | rfl | rfl <;> decide
  have wk : kM_isWork k = false := by rcases hk with rfl | rfl | rfl <;> decide
  have ck : kM_isControl k = true := by rcases hk with rfl | rfl | rfl <;> decide
  have n57 : ¬ k = 57 := by rcases hk with rfl | rfl | rfl <;> decide
  have tr : kM_trouble τ 2 = if bI (τ.2.1 7) = 0 then 3 else 0 := by
    rw [tr_known h27 kn]
    exact to_ctl h27 n57 (fun q => by rcases hk with rfl | rfl | rfl <;> exact absurd q.1 (by decide)) ck (by rcases hk with rfl | rfl | rfl <;> decide) (by rcases hk with rfl | rfl | rfl <;> decide) (by rcases hk with rfl | rfl | rfl <;> decide) (by rcases hk with rfl | rfl | rfl <;> decide)
  unfold kX_performReading
  rw [has_kernel h.1]
  by_cases e : bI (τ.2.1 7) = 0
  · rw [if_pos e] at tr ⊢
    rw [c239_tr tr (by decide)]; exact rel_trap h v3t
  · rw [if_neg e] at tr ⊢
    rw [c239_ok2 tr (by rw [h27]; exact n57), act_ctl (τ := mI τ 28 (τ.1 17 + 4)) h27 wk ck]
    have hR := rel_28 h (τ.1 17 + 4)
    have fin : ∀ v, sameR (kX_goOn (kX_write σ (kX_numberOfD c) v)) (kM_oneStep_c298 (kM_give (mI τ 28 (τ.1 17 + 4)) (τ.1 4) (kX_numberOfD c) v)) := fun v => fin_on (write_rel hR (num_in c) v) (by rw [give_ints]; rfl)
    have cs : kM_controls (mI τ 28 (τ.1 17 + 4)) = kM_give (mI τ 28 (τ.1 17 + 4)) (τ.1 4) (τ.1 24) (kM_seen τ (k - 41)) := by
      unfold kM_controls kM_controls_c64
      rw [show (mI τ 28 (τ.1 17 + 4)).1 27 = k from h27]
      rcases hk with rfl | rfl | rfl <;> rfl
    rw [cs, h24, shown_seen h]
    exact fin _
