/-! operations: troubles; shifts -/
theorem c239_ok2 {τ : MS} (h : kM_trouble τ 2 = 0) (hk : ¬ τ.1 27 = 57) : kM_oneStep_c239 τ 2 = kM_oneStep_c298 (kM_act (mI τ 28 (τ.1 17 + 4)) 2) := by
  unfold kM_oneStep_c239
  rw [h, if_pos (by decide), if_pos rfl, if_neg hk]; rfl
def knownK (k : Int32) : Bool := if bI (kM_isWork k) = 0 then (if bI (kM_isControl k) = 0 then (if k < 56 then (if k = 60 then true else if k = 61 then true else false) else (if k ≤ 58 then true else (if k = 60 then true else if k = 61 then true else false))) else true) else true
theorem tr_2 {τ : MS} {k : Int32} (h : τ.1 27 = k) : kM_trouble τ 2 = if bI (knownK k) = 0 then 2 else kM_troubleOf τ (τ.1 25 + τ.1 26) := by
  rw [← h]; rfl
theorem tr_unknown {τ : MS} {k : Int32} (h : τ.1 27 = k) (hk : knownK k = false) : kM_trouble τ 2 = 2 := by
  rw [tr_2 h, hk]; rfl
theorem tr_known {τ : MS} {k : Int32} (h : τ.1 27 = k) (hk : knownK k = true) : kM_trouble τ 2 = kM_troubleOf τ (τ.1 25 + τ.1 26) := by
  rw [tr_2 h, hk]; rfl
theorem to_work {τ : MS} {k s : Int32} (h : τ.1 27 = k) (h57 : ¬ k = 57) (h49 : ¬ k = 49) (hc : kM_isControl k = false) (h60 : ¬ k = 60) (h61 : ¬ k = 61) (h56 : ¬ k = 56) (h58 : ¬ k = 58) : kM_troubleOf τ s = 0 := by
  simp only [kM_troubleOf, kM_troubleOf_c20, kM_troubleOf_c21, kM_troubleOf_c48, kM_troubleOf_c61, kM_troubleOf_c78, kM_troubleOf_c115, kM_troubleOf_c162, kM_troubleOf_c180, h, if_neg h57, if_neg h49, hc, if_neg h60, if_neg h61, if_neg h56, if_neg h58]
  rfl
theorem shift_rel {σ : XS} {τ : MS} {c k : Int32} (D : Dec σ τ c k) (hk : k = 37 ∨ k = 38 ∨ k = 39) : sameR (kX_performShift σ c k) (kM_oneStep_c239 τ 2) := by
  obtain ⟨h, h23, h24, h27, h25, h26⟩ := D
  have kn : knownK k = true := by rcases hk with rfl | rfl | rfl <;> decide
  have wk : kM_isWork k = true := by rcases hk with rfl | rfl | rfl <;> decide
  have tr : kM_trouble τ 2 = 0 := by
    rw [tr_known h27 kn]
    exact to_work h27 (by rcases hk with rfl | rfl | rfl <;> decide) (by rcases hk with rfl | rfl | rfl <;> decide) (by rcases hk with rfl | rfl | rfl <;> decide) (by rcases hk with rfl | rfl | rfl <;> decide) (by rcases hk with rfl | rfl | rfl <;> decide) (by rcases hk with rfl | rfl | rfl <;> decide) (by rcases hk with rfl | rfl | rfl <;> decide)
  rw [c239_ok2 tr (by rw [h27]; rcases hk with rfl | rfl | rfl <;> decide)]
  have act : kM_act (mI τ 28 (τ.1 17 + 4)) 2 = kM_shift (mI τ 28 (τ.1 17 + 4)) := by
    have e : kM_act (mI τ 28 (τ.1 17 + 4)) 2 = if bI (kM_isWork (τ.1 27)) = 0 then (if bI (kM_isControl (τ.1 27)) = 0 then kM_go (mI τ 28 (τ.1 17 + 4)) (τ.1 25 + τ.1 26) else kM_controls (mI τ 28 (τ.1 17 + 4))) else (if τ.1 27 ≤ 36 then kM_work (mI τ 28 (τ.1 17 + 4)) else kM_shift (mI τ 28 (τ.1 17 + 4))) := rfl
    rw [e, h27, wk, if_neg (show ¬ bI true = 0 by decide), if_neg (by rcases hk with rfl | rfl | rfl <;> decide)]
  rw [act]
  have hR := rel_28 h (τ.1 17 + 4)
  have fin : ∀ v, sameR (kX_goOn (kX_write σ (kX_numberOfD c) v)) (kM_oneStep_c298 (kM_give (mI τ 28 (τ.1 17 + 4)) (τ.1 4) (kX_numberOfD c) v)) := fun v => fin_on (write_rel hR (num_in c) v) (by rw [give_ints]; rfl)
  have sh : kM_shift (mI τ 28 (τ.1 17 + 4)) = if τ.1 27 = 37 then kM_give (mI τ 28 (τ.1 17 + 4)) (τ.1 4) (τ.1 24) (τ.1 25 <<< ((τ.1 26 &&& 31) &&& 31)) else if τ.1 27 = 38 then kM_give (mI τ 28 (τ.1 17 + 4)) (τ.1 4) (τ.1 24) (uS (τ.1 25) (τ.1 26 &&& 31)) else kM_give (mI τ 28 (τ.1 17 + 4)) (τ.1 4) (τ.1 24) (τ.1 25 >>> ((τ.1 26 &&& 31) &&& 31)) := rfl
  rw [sh, h27, h24, h25, h26]
  unfold kX_performShift
  by_cases e1 : k = 37
  · rw [if_pos e1, if_pos e1]; exact fin _
  · rw [if_neg e1, if_neg e1]
    by_cases e2 : k = 38
    · rw [if_pos e2, if_pos e2]; exact fin _
    · rw [if_neg e2, if_neg e2]; exact fin _
