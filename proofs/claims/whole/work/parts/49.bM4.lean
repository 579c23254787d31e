/-! a step keeps them too -/
theorem mok_oneStep_c306 {τ : MS}  (h : mOK τ) : mOK (kM_oneStep_c306 τ ).2 := by
  unfold kM_oneStep_c306
  exact (show mOK (mI τ 17 (τ.1 28)) from (mok_I (by decide) (by decide) (h)))
theorem mok_oneStep_c298 {τ : MS}  (h : mOK τ) : mOK (kM_oneStep_c298 τ ).2 := by
  unfold kM_oneStep_c298
  exact (mok_oneStep_c306 ((mok_I (by decide) (by decide) (h))))
theorem mok_oneStep_c293 {τ : MS} {v1 : Int32} (h : mOK τ) : mOK (kM_oneStep_c293 τ v1).2 := by
  unfold kM_oneStep_c293
  exact (mok_oneStep_c298 ((mok_act (h))))
theorem mok_oneStep_c283 {τ : MS} {v1 : Int32} (h : mOK τ) : mOK (kM_oneStep_c283 τ v1).2 := by
  unfold kM_oneStep_c283
  exact (mok_oneStep_c293 ((mok_I (by decide) (by decide) (h))))
theorem mok_oneStep_c239 {τ : MS} {v1 : Int32} (h : mOK τ) : mOK (kM_oneStep_c239 τ v1).2 := by
  unfold kM_oneStep_c239
  exact (mok_iteP (mok_iteP (mok_iteP (mok_iteP (mok_oneStep_c283 (h)) (show mOK (mB τ 19 true) from (mok_mB (h)))) (mok_oneStep_c283 (h))) (mok_oneStep_c283 (h))) (show mOK ((kM_trap τ (kM_trouble τ v1)).2) from (mok_trap (h))))
theorem mok_oneStep_c236 {τ : MS} {v1 : Int32} {s0 : Int32} (h : mOK τ) : mOK (kM_oneStep_c236 τ v1 s0).2 := by
  unfold kM_oneStep_c236
  exact (mok_oneStep_c239 ((mok_I (by decide) (by decide) (h))))
theorem mok_oneStep_c195 {τ : MS} {v1 : Int32} (h : mOK τ) : mOK (kM_oneStep_c195 τ v1).2 := by
  unfold kM_oneStep_c195
  exact (mok_iteP (mok_oneStep_c236 (h)) (mok_oneStep_c236 (h)))
theorem mok_oneStep_c173 {τ : MS} {v1 : Int32} (h : mOK τ) : mOK (kM_oneStep_c173 τ v1).2 := by
  unfold kM_oneStep_c173
  exact (mok_oneStep_c195 ((mok_I (by decide) (by decide) (h))))
theorem mok_oneStep_c170 {τ : MS} {v1 : Int32} {s0 : Int32} (h : mOK τ) : mOK (kM_oneStep_c170 τ v1 s0).2 := by
  unfold kM_oneStep_c170
  exact (mok_oneStep_c173 ((mok_I (by decide) (by decide) (h))))
theorem mok_oneStep_c142 {τ : MS} {v1 : Int32} (h : mOK τ) : mOK (kM_oneStep_c142 τ v1).2 := by
  unfold kM_oneStep_c142
  exact (mok_iteP (mok_oneStep_c170 (h)) (mok_oneStep_c170 (h)))
theorem mok_oneStep_c120 {τ : MS}  (h : mOK τ) : mOK (kM_oneStep_c120 τ ).2 := by
  unfold kM_oneStep_c120
  exact (mok_oneStep_c142 ((mok_d (h))))
theorem mok_oneStep_c90 {τ : MS}  (h : mOK τ) : mOK (kM_oneStep_c90 τ ).2 := by
  unfold kM_oneStep_c90
  exact (mok_iteP (show mOK ((kM_trap τ (1 : Int32)).2) from (mok_trap (h))) (mok_oneStep_c120 ((mok_I (by decide) (by decide) (h)))))
theorem mok_oneStep_c78 {τ : MS}  (h : mOK τ) : mOK (kM_oneStep_c78 τ ).2 := by
  unfold kM_oneStep_c78
  exact (show mOK ((kM_trap τ ((16 : Int32) + (τ.1 20))).2) from (mok_trap (h)))
theorem mok_oneStep_c39 {τ : MS}  (h : mOK τ) : mOK (kM_oneStep_c39 τ ).2 := by
  unfold kM_oneStep_c39
  exact (show mOK (mI τ 17 ((τ.1 17) + (4 : Int32))) from (mok_I (by decide) (by decide) (h)))
theorem mok_oneStep_c31 {τ : MS}  (h : mOK τ) : mOK (kM_oneStep_c31 τ ).2 := by
  unfold kM_oneStep_c31
  exact (mok_oneStep_c39 ((mok_I (by decide) (by decide) (h))))
theorem mok_oneStep_c19 {τ : MS}  (h : mOK τ) : mOK (kM_oneStep_c19 τ ).2 := by
  unfold kM_oneStep_c19
  exact (mok_iteP (mok_iteP (mok_oneStep_c90 (h)) (mok_iteP (mok_oneStep_c78 (h)) (mok_iteP (mok_oneStep_c90 (h)) (mok_oneStep_c78 (h))))) (mok_oneStep_c31 ((mok_mB (h)))))
theorem mok_oneStep {τ : MS}  (h : mOK τ) : mOK (kM_oneStep τ ).2 := by
  unfold kM_oneStep
  exact (mok_iteP (mok_oneStep_c19 ((mok_I (by decide) (by decide) (h)))) (show mOK τ from h))
theorem mok_step_c5 {τ : MS}  (h : mOK τ) : mOK (kM_step_c5 τ ).2 := by
  unfold kM_step_c5
  exact (show mOK ((kM_oneStep τ).2) from (mok_oneStep (h)))
theorem mok_step {τ : MS}  (h : mOK τ) : mOK (kM_step τ ).2 := by
  unfold kM_step
  exact (mok_step_c5 ((mok_I (by decide) (by decide) (h))))
