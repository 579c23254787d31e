/-! the law's loop over the pure facts: laid by my program -/
theorem qGX_reset {R : Room} {s : State} {args : Array Value} (hts : ∀ w ∈ wAll, w.before args s = true) (hR : 2 + 1 ≤ R.frames ∧ 8 + (1 + 11) + 43 ≤ R.locals) : CallW R s args RL RX 44 yX_reset bX_reset 1 none (Cond.code yX_reset bX_reset 1 none :: wAll) { frames := 2, cells := 0, slots := 0, locals := 43 } 0 0 0 :=
  cwV 0 hts (z_goodV wAll_good (List.mem_append_left _ (List.mem_append_left _ (List.mem_append_left _ (List.mem_append_right _ (List.mem_append_left _ (List.mem_append_left _ (List.mem_of_getElem? (i := 5) rfl))))))) (List.mem_append_left _ (List.mem_append_left _ (List.mem_append_left _ (List.mem_append_right _ (List.mem_append_left _ (List.mem_append_left _ (List.mem_of_getElem? (i := 6) rfl))))))) (List.mem_append_left _ (List.mem_append_left _ (List.mem_append_left _ (List.mem_append_right _ (List.mem_append_left _ (List.mem_append_left _ (List.mem_of_getElem? (i := 7) rfl))))))) (List.mem_append_left _ (List.mem_append_left _ (List.mem_append_left _ (List.mem_append_left _ (List.mem_append_left _ (List.mem_append_left _ (List.mem_of_getElem? (i := 1) rfl))))))) (List.mem_append_left _ (List.mem_append_left _ (List.mem_append_left _ (List.mem_append_right _ (List.mem_append_left _ (List.mem_append_right _ (List.mem_of_getElem? (i := 0) rfl)))))))) rfl rfl rfl (by decide +kernel) hR
theorem qGX_step {R : Room} {s : State} {args : Array Value} (hts : ∀ w ∈ wAll, w.before args s = true) (hR : 7 + 1 ≤ R.frames ∧ 8 + (1 + 11) + 157 ≤ R.locals) : CallW R s args RL RX 75 yX_step bX_step 1 (some .int) (Cond.code yX_step bX_step 1 (some .int) :: wAll) { frames := 7, cells := 0, slots := 0, locals := 157 } 0 0 0 :=
  cwV 0 hts (z_goodV wAll_good (List.mem_append_left _ (List.mem_append_left _ (List.mem_append_left _ (List.mem_append_right _ (List.mem_append_left _ (List.mem_append_right _ (List.mem_of_getElem? (i := 1) rfl))))))) (List.mem_append_left _ (List.mem_append_left _ (List.mem_append_left _ (List.mem_append_right _ (List.mem_append_left _ (List.mem_append_right _ (List.mem_of_getElem? (i := 2) rfl))))))) (List.mem_append_left _ (List.mem_append_left _ (List.mem_append_left _ (List.mem_append_right _ (List.mem_append_left _ (List.mem_append_right _ (List.mem_of_getElem? (i := 3) rfl))))))) (List.mem_append_left _ (List.mem_append_left _ (List.mem_append_left _ (List.mem_append_left _ (List.mem_append_left _ (List.mem_append_left _ (List.mem_of_getElem? (i := 1) rfl))))))) (List.mem_append_left _ (List.mem_append_left _ (List.mem_append_left _ (List.mem_append_right _ (List.mem_append_left _ (List.mem_append_right _ (List.mem_of_getElem? (i := 4) rfl)))))))) rfl rfl rfl (by decide +kernel) hR
theorem qGM_reset {R : Room} {s : State} {args : Array Value} (hts : ∀ w ∈ wAll, w.before args s = true) (hR : 1 + 1 ≤ R.frames ∧ 8 + (2 + 11) + 21 ≤ R.locals) : CallW R s args RL RM 47 yM_reset bM_reset 2 none (Cond.code yM_reset bM_reset 2 none :: wAll) { frames := 1, cells := 0, slots := 0, locals := 21 } 0 0 0 :=
  cwV 0 hts (z_goodV wAll_good (List.mem_append_right _ (List.mem_append_left _ (List.mem_append_right _ (List.mem_append_left _ (List.mem_append_left _ (List.mem_append_left _ (List.mem_of_getElem? (i := 1) rfl))))))) (List.mem_append_right _ (List.mem_append_left _ (List.mem_append_right _ (List.mem_append_left _ (List.mem_append_left _ (List.mem_append_left _ (List.mem_of_getElem? (i := 2) rfl))))))) (List.mem_append_right _ (List.mem_append_left _ (List.mem_append_right _ (List.mem_append_left _ (List.mem_append_left _ (List.mem_append_left _ (List.mem_of_getElem? (i := 3) rfl))))))) (List.mem_append_left _ (List.mem_append_left _ (List.mem_append_left _ (List.mem_append_left _ (List.mem_append_left _ (List.mem_append_left _ (List.mem_of_getElem? (i := 3) rfl))))))) (List.mem_append_right _ (List.mem_append_left _ (List.mem_append_right _ (List.mem_append_left _ (List.mem_append_left _ (List.mem_append_left _ (List.mem_of_getElem? (i := 4) rfl)))))))) rfl rfl rfl (by decide +kernel) hR
theorem qGM_step {R : Room} {s : State} {args : Array Value} (hts : ∀ w ∈ wAll, w.before args s = true) (hR : 5 + 1 ≤ R.frames ∧ 8 + (1 + 11) + 114 ≤ R.locals) : CallW R s args RL RM 78 yM_step bM_step 1 (some .int) (Cond.code yM_step bM_step 1 (some .int) :: wAll) { frames := 5, cells := 0, slots := 0, locals := 114 } 0 0 0 :=
  cwV 0 hts (z_goodV wAll_good (List.mem_append_right _ (List.mem_append_right _ (List.mem_append_left _ (List.mem_append_left _ (List.mem_append_left _ (List.mem_append_left _ (List.mem_of_getElem? (i := 3) rfl))))))) (List.mem_append_right _ (List.mem_append_right _ (List.mem_append_left _ (List.mem_append_left _ (List.mem_append_left _ (List.mem_append_left _ (List.mem_of_getElem? (i := 4) rfl))))))) (List.mem_append_right _ (List.mem_append_right _ (List.mem_append_left _ (List.mem_append_left _ (List.mem_append_left _ (List.mem_append_left _ (List.mem_of_getElem? (i := 5) rfl))))))) (List.mem_append_left _ (List.mem_append_left _ (List.mem_append_left _ (List.mem_append_left _ (List.mem_append_left _ (List.mem_append_left _ (List.mem_of_getElem? (i := 3) rfl))))))) (List.mem_append_right _ (List.mem_append_right _ (List.mem_append_left _ (List.mem_append_left _ (List.mem_append_left _ (List.mem_append_left _ (List.mem_of_getElem? (i := 6) rfl)))))))) rfl rfl rfl (by decide +kernel) hR
theorem qGM_thrown {R : Room} {s : State} {args : Array Value} (hts : ∀ w ∈ wAll, w.before args s = true) (hR : 0 + 1 ≤ R.frames ∧ 8 + (1 + 11) + 0 ≤ R.locals) : CallW R s args RL RM 54 yM_thrown bM_thrown 1 (some .int) (Cond.code yM_thrown bM_thrown 1 (some .int) :: wAll) { frames := 0, cells := 0, slots := 0, locals := 0 } 0 0 0 :=
  cwV 0 hts (z_goodV wAll_good (List.mem_append_right _ (List.mem_append_left _ (List.mem_append_left _ (List.mem_append_right _ (List.mem_append_right _ (List.mem_append_right _ (List.mem_append_right _ (List.mem_of_getElem? (i := 5) rfl)))))))) (List.mem_append_right _ (List.mem_append_left _ (List.mem_append_left _ (List.mem_append_right _ (List.mem_append_right _ (List.mem_append_right _ (List.mem_append_right _ (List.mem_of_getElem? (i := 6) rfl)))))))) (List.mem_append_right _ (List.mem_append_left _ (List.mem_append_left _ (List.mem_append_right _ (List.mem_append_right _ (List.mem_append_right _ (List.mem_append_right _ (List.mem_of_getElem? (i := 7) rfl)))))))) (List.mem_append_left _ (List.mem_append_left _ (List.mem_append_left _ (List.mem_append_left _ (List.mem_append_left _ (List.mem_append_left _ (List.mem_of_getElem? (i := 3) rfl))))))) (List.mem_append_right _ (List.mem_append_left _ (List.mem_append_right _ (List.mem_append_left _ (List.mem_append_left _ (List.mem_append_left _ (List.mem_of_getElem? (i := 0) rfl)))))))) rfl rfl rfl (by decide +kernel) hR
theorem qGM_put {R : Room} {s : State} {args : Array Value} (hts : ∀ w ∈ wAll, w.before args s = true) (hR : 2 + 1 ≤ R.frames ∧ 8 + (4 + 11) + 41 ≤ R.locals) : CallW R s args RL RM 53 yM_put bM_put 4 (some .int) (Cond.code yM_put bM_put 4 (some .int) :: wAll) { frames := 2, cells := 0, slots := 0, locals := 41 } 0 0 2 :=
  cwV 2 hts (z_goodV wAll_good (List.mem_append_right _ (List.mem_append_left _ (List.mem_append_right _ (List.mem_append_left _ (List.mem_append_left _ (List.mem_append_right _ (List.mem_of_getElem? (i := 0) rfl))))))) (List.mem_append_right _ (List.mem_append_left _ (List.mem_append_right _ (List.mem_append_left _ (List.mem_append_left _ (List.mem_append_right _ (List.mem_of_getElem? (i := 1) rfl))))))) (List.mem_append_right _ (List.mem_append_left _ (List.mem_append_right _ (List.mem_append_left _ (List.mem_append_left _ (List.mem_append_right _ (List.mem_of_getElem? (i := 2) rfl))))))) (List.mem_append_left _ (List.mem_append_left _ (List.mem_append_left _ (List.mem_append_left _ (List.mem_append_left _ (List.mem_append_left _ (List.mem_of_getElem? (i := 3) rfl))))))) (List.mem_append_right _ (List.mem_append_left _ (List.mem_append_right _ (List.mem_append_left _ (List.mem_append_left _ (List.mem_append_right _ (List.mem_of_getElem? (i := 3) rfl)))))))) rfl rfl rfl (by decide +kernel) hR
theorem qGM_word {R : Room} {s : State} {args : Array Value} (hts : ∀ w ∈ wAll, w.before args s = true) (hR : 2 + 1 ≤ R.frames ∧ 8 + (2 + 11) + 41 ≤ R.locals) : CallW R s args RL RM 61 yM_word bM_word 2 (some .int) (Cond.code yM_word bM_word 2 (some .int) :: wAll) { frames := 2, cells := 0, slots := 0, locals := 41 } 0 0 1 :=
  cwV 1 hts (z_goodV wAll_good (List.mem_append_right _ (List.mem_append_left _ (List.mem_append_right _ (List.mem_append_left _ (List.mem_append_right _ (List.mem_append_right _ (List.mem_of_getElem? (i := 3) rfl))))))) (List.mem_append_right _ (List.mem_append_left _ (List.mem_append_right _ (List.mem_append_left _ (List.mem_append_right _ (List.mem_append_right _ (List.mem_of_getElem? (i := 4) rfl))))))) (List.mem_append_right _ (List.mem_append_left _ (List.mem_append_right _ (List.mem_append_left _ (List.mem_append_right _ (List.mem_append_right _ (List.mem_of_getElem? (i := 5) rfl))))))) (List.mem_append_left _ (List.mem_append_left _ (List.mem_append_left _ (List.mem_append_left _ (List.mem_append_left _ (List.mem_append_left _ (List.mem_of_getElem? (i := 3) rfl))))))) (List.mem_append_right _ (List.mem_append_left _ (List.mem_append_right _ (List.mem_append_left _ (List.mem_append_right _ (List.mem_append_right _ (List.mem_of_getElem? (i := 6) rfl)))))))) rfl rfl rfl (by decide +kernel) hR
theorem qGM_set {R : Room} {s : State} {args : Array Value} (hts : ∀ w ∈ wAll, w.before args s = true) (hR : 2 + 1 ≤ R.frames ∧ 8 + (5 + 11) + 44 ≤ R.locals) : CallW R s args RL RM 65 yM_set bM_set 5 (some .int) (Cond.code yM_set bM_set 5 (some .int) :: wAll) { frames := 2, cells := 0, slots := 0, locals := 44 } 0 0 3 :=
  cwV 3 hts (z_goodV wAll_good (List.mem_append_right _ (List.mem_append_left _ (List.mem_append_right _ (List.mem_append_left _ (List.mem_append_right _ (List.mem_append_right _ (List.mem_of_getElem? (i := 7) rfl))))))) (List.mem_append_right _ (List.mem_append_left _ (List.mem_append_right _ (List.mem_append_right _ (List.mem_append_left _ (List.mem_append_left _ (List.mem_of_getElem? (i := 0) rfl))))))) (List.mem_append_right _ (List.mem_append_left _ (List.mem_append_right _ (List.mem_append_right _ (List.mem_append_left _ (List.mem_append_left _ (List.mem_of_getElem? (i := 1) rfl))))))) (List.mem_append_left _ (List.mem_append_left _ (List.mem_append_left _ (List.mem_append_left _ (List.mem_append_left _ (List.mem_append_left _ (List.mem_of_getElem? (i := 3) rfl))))))) (List.mem_append_right _ (List.mem_append_left _ (List.mem_append_right _ (List.mem_append_right _ (List.mem_append_left _ (List.mem_append_left _ (List.mem_of_getElem? (i := 2) rfl)))))))) rfl rfl rfl (by decide +kernel) hR
theorem qGM_register {R : Room} {s : State} {args : Array Value} (hts : ∀ w ∈ wAll, w.before args s = true) (hR : 2 + 1 ≤ R.frames ∧ 8 + (3 + 11) + 43 ≤ R.locals) : CallW R s args RL RM 68 yM_register bM_register 3 (some .int) (Cond.code yM_register bM_register 3 (some .int) :: wAll) { frames := 2, cells := 0, slots := 0, locals := 43 } 0 0 2 :=
  cwV 2 hts (z_goodV wAll_good (List.mem_append_right _ (List.mem_append_left _ (List.mem_append_right _ (List.mem_append_right _ (List.mem_append_left _ (List.mem_append_right _ (List.mem_of_getElem? (i := 7) rfl))))))) (List.mem_append_right _ (List.mem_append_left _ (List.mem_append_right _ (List.mem_append_right _ (List.mem_append_right _ (List.mem_append_left _ (List.mem_of_getElem? (i := 0) rfl))))))) (List.mem_append_right _ (List.mem_append_left _ (List.mem_append_right _ (List.mem_append_right _ (List.mem_append_right _ (List.mem_append_left _ (List.mem_of_getElem? (i := 1) rfl))))))) (List.mem_append_left _ (List.mem_append_left _ (List.mem_append_left _ (List.mem_append_left _ (List.mem_append_left _ (List.mem_append_left _ (List.mem_of_getElem? (i := 3) rfl))))))) (List.mem_append_right _ (List.mem_append_left _ (List.mem_append_right _ (List.mem_append_right _ (List.mem_append_right _ (List.mem_append_left _ (List.mem_of_getElem? (i := 2) rfl)))))))) rfl rfl rfl (by decide +kernel) hR
theorem qGM_control {R : Room} {s : State} {args : Array Value} (hts : ∀ w ∈ wAll, w.before args s = true) (hR : 3 + 1 ≤ R.frames ∧ 8 + (4 + 11) + 62 ≤ R.locals) : CallW R s args RL RM 71 yM_control bM_control 4 (some .int) (Cond.code yM_control bM_control 4 (some .int) :: wAll) { frames := 3, cells := 0, slots := 0, locals := 62 } 0 0 2 :=
  cwV 2 hts (z_goodV wAll_good (List.mem_append_right _ (List.mem_append_left _ (List.mem_append_right _ (List.mem_append_right _ (List.mem_append_right _ (List.mem_append_left _ (List.mem_of_getElem? (i := 3) rfl))))))) (List.mem_append_right _ (List.mem_append_left _ (List.mem_append_right _ (List.mem_append_right _ (List.mem_append_right _ (List.mem_append_left _ (List.mem_of_getElem? (i := 4) rfl))))))) (List.mem_append_right _ (List.mem_append_left _ (List.mem_append_right _ (List.mem_append_right _ (List.mem_append_right _ (List.mem_append_left _ (List.mem_of_getElem? (i := 5) rfl))))))) (List.mem_append_left _ (List.mem_append_left _ (List.mem_append_left _ (List.mem_append_left _ (List.mem_append_left _ (List.mem_append_left _ (List.mem_of_getElem? (i := 3) rfl))))))) (List.mem_append_right _ (List.mem_append_left _ (List.mem_append_right _ (List.mem_append_right _ (List.mem_append_right _ (List.mem_append_left _ (List.mem_of_getElem? (i := 6) rfl)))))))) rfl rfl rfl (by decide +kernel) hR
theorem qGM_request {R : Room} {s : State} {args : Array Value} (hts : ∀ w ∈ wAll, w.before args s = true) (hR : 1 + 1 ≤ R.frames ∧ 8 + (3 + 11) + 21 ≤ R.locals) : CallW R s args RL RM 74 yM_request bM_request 3 (some .int) (Cond.code yM_request bM_request 3 (some .int) :: wAll) { frames := 1, cells := 0, slots := 0, locals := 21 } 0 0 1 :=
  cwV 1 hts (z_goodV wAll_good (List.mem_append_right _ (List.mem_append_left _ (List.mem_append_right _ (List.mem_append_right _ (List.mem_append_right _ (List.mem_append_right _ (List.mem_append_right _ (List.mem_of_getElem? (i := 3) rfl)))))))) (List.mem_append_right _ (List.mem_append_left _ (List.mem_append_right _ (List.mem_append_right _ (List.mem_append_right _ (List.mem_append_right _ (List.mem_append_right _ (List.mem_of_getElem? (i := 4) rfl)))))))) (List.mem_append_right _ (List.mem_append_left _ (List.mem_append_right _ (List.mem_append_right _ (List.mem_append_right _ (List.mem_append_right _ (List.mem_append_right _ (List.mem_of_getElem? (i := 5) rfl)))))))) (List.mem_append_left _ (List.mem_append_left _ (List.mem_append_left _ (List.mem_append_left _ (List.mem_append_left _ (List.mem_append_left _ (List.mem_of_getElem? (i := 3) rfl))))))) (List.mem_append_right _ (List.mem_append_left _ (List.mem_append_right _ (List.mem_append_right _ (List.mem_append_right _ (List.mem_append_right _ (List.mem_append_right _ (List.mem_of_getElem? (i := 6) rfl))))))))) rfl rfl rfl (by decide +kernel) hR
theorem qGM_run {R : Room} {s : State} {args : Array Value} (hts : ∀ w ∈ wAll, w.before args s = true) (hR : 5 + 1 ≤ R.frames ∧ 8 + (4 + 11) + 114 ≤ R.locals) : CallW R s args RL RM 81 yM_run bM_run 4 (some .int) (Cond.code yM_run bM_run 4 (some .int) :: wAll) { frames := 5, cells := 0, slots := 0, locals := 114 } 0 0 1 :=
  cwV 1 hts (z_goodV wAll_good (List.mem_append_right _ (List.mem_append_right _ (List.mem_append_left _ (List.mem_append_right _ (List.mem_append_right _ (List.mem_append_right _ (List.mem_append_right _ (List.mem_of_getElem? (i := 4) rfl)))))))) (List.mem_append_right _ (List.mem_append_right _ (List.mem_append_left _ (List.mem_append_right _ (List.mem_append_right _ (List.mem_append_right _ (List.mem_append_right _ (List.mem_of_getElem? (i := 5) rfl)))))))) (List.mem_append_right _ (List.mem_append_right _ (List.mem_append_left _ (List.mem_append_right _ (List.mem_append_right _ (List.mem_append_right _ (List.mem_append_right _ (List.mem_of_getElem? (i := 6) rfl)))))))) (List.mem_append_left _ (List.mem_append_left _ (List.mem_append_left _ (List.mem_append_left _ (List.mem_append_left _ (List.mem_append_left _ (List.mem_of_getElem? (i := 3) rfl))))))) (List.mem_append_right _ (List.mem_append_right _ (List.mem_append_left _ (List.mem_append_right _ (List.mem_append_right _ (List.mem_append_right _ (List.mem_append_right _ (List.mem_of_getElem? (i := 7) rfl))))))))) rfl rfl rfl (by decide +kernel) hR
theorem qGM_look {R : Room} {s : State} {args : Array Value} (hts : ∀ w ∈ wAll, w.before args s = true) (hR : 3 + 1 ≤ R.frames ∧ 8 + (2 + 11) + 62 ≤ R.locals) : CallW R s args RL RM 84 yM_look bM_look 2 (some .int) (Cond.code yM_look bM_look 2 (some .int) :: wAll) { frames := 3, cells := 0, slots := 0, locals := 62 } 0 0 1 :=
  cwV 1 hts (z_goodV wAll_good (List.mem_append_right _ (List.mem_append_left _ (List.mem_append_right _ (List.mem_append_right _ (List.mem_append_right _ (List.mem_append_right _ (List.mem_append_right _ (List.mem_of_getElem? (i := 7) rfl)))))))) (List.mem_append_right _ (List.mem_append_right _ (List.mem_append_left _ (List.mem_append_left _ (List.mem_append_left _ (List.mem_append_left _ (List.mem_of_getElem? (i := 0) rfl))))))) (List.mem_append_right _ (List.mem_append_right _ (List.mem_append_left _ (List.mem_append_left _ (List.mem_append_left _ (List.mem_append_left _ (List.mem_of_getElem? (i := 1) rfl))))))) (List.mem_append_left _ (List.mem_append_left _ (List.mem_append_left _ (List.mem_append_left _ (List.mem_append_left _ (List.mem_append_left _ (List.mem_of_getElem? (i := 3) rfl))))))) (List.mem_append_right _ (List.mem_append_right _ (List.mem_append_left _ (List.mem_append_left _ (List.mem_append_left _ (List.mem_append_left _ (List.mem_of_getElem? (i := 2) rfl)))))))) rfl rfl rfl (by decide +kernel) hR
theorem qG_put {R : Room} {s : State} {args : Array Value} (hts : ∀ w ∈ wAll, w.before args s = true) (hR : 8 + 1 ≤ R.frames ∧ 8 + (5 + 11) + 133 ≤ R.locals) : CallSW R s args RL 48 yL_put bL_put 5 (some .int) [(0, 10, 13, 13)] (Cond.codeWith yL_put bL_put 5 (some .int) [(0, 10, 13, 13)] :: wAll) { frames := 8, cells := 1, slots := 6, locals := 133 } 1 6 4 :=
  cwSW (rm := { frames := 8, cells := 1, slots := 6, locals := 133 }) hts (List.mem_append_left _ (List.mem_append_right _ (List.mem_append_left _ (List.mem_append_right _ (List.mem_append_right _ (List.mem_append_right _ (List.mem_append_left _ (List.mem_of_getElem? (i := 6) rfl)))))))) (List.mem_append_left _ (List.mem_append_right _ (List.mem_append_left _ (List.mem_append_right _ (List.mem_append_right _ (List.mem_append_right _ (List.mem_append_left _ (List.mem_of_getElem? (i := 7) rfl)))))))) (List.mem_append_left _ (List.mem_append_left _ (List.mem_append_left _ (List.mem_append_left _ (List.mem_append_left _ (List.mem_append_left _ (List.mem_of_getElem? (i := 0) rfl))))))) (List.mem_append_left _ (List.mem_append_right _ (List.mem_append_left _ (List.mem_append_right _ (List.mem_append_right _ (List.mem_append_right _ (List.mem_append_right _ (List.mem_of_getElem? (i := 0) rfl)))))))) (by decide +kernel) hR
theorem qG_word {R : Room} {s : State} {args : Array Value} (hts : ∀ w ∈ wAll, w.before args s = true) (hR : 8 + 1 ≤ R.frames ∧ 8 + (4 + 11) + 131 ≤ R.locals) : CallSW R s args RL 58 yL_word bL_word 4 (some .int) [(0, 9, 12, 13)] (Cond.codeWith yL_word bL_word 4 (some .int) [(0, 9, 12, 13)] :: wAll) { frames := 8, cells := 1, slots := 6, locals := 131 } 1 6 3 :=
  cwSW (rm := { frames := 8, cells := 1, slots := 6, locals := 131 }) hts (List.mem_append_left _ (List.mem_append_right _ (List.mem_append_right _ (List.mem_append_right _ (List.mem_append_left _ (List.mem_append_left _ (List.mem_of_getElem? (i := 3) rfl))))))) (List.mem_append_left _ (List.mem_append_right _ (List.mem_append_right _ (List.mem_append_right _ (List.mem_append_left _ (List.mem_append_left _ (List.mem_of_getElem? (i := 4) rfl))))))) (List.mem_append_left _ (List.mem_append_left _ (List.mem_append_left _ (List.mem_append_left _ (List.mem_append_left _ (List.mem_append_left _ (List.mem_of_getElem? (i := 0) rfl))))))) (List.mem_append_left _ (List.mem_append_right _ (List.mem_append_right _ (List.mem_append_right _ (List.mem_append_left _ (List.mem_append_left _ (List.mem_of_getElem? (i := 5) rfl))))))) (by decide +kernel) hR
theorem qG_set {R : Room} {s : State} {args : Array Value} (hts : ∀ w ∈ wAll, w.before args s = true) (hR : 8 + 1 ≤ R.frames ∧ 8 + (6 + 11) + 134 ≤ R.locals) : CallSW R s args RL 62 yL_set bL_set 6 (some .int) [(0, 12, 15, 13)] (Cond.codeWith yL_set bL_set 6 (some .int) [(0, 12, 15, 13)] :: wAll) { frames := 8, cells := 1, slots := 6, locals := 134 } 1 6 5 :=
  cwSW (rm := { frames := 8, cells := 1, slots := 6, locals := 134 }) hts (List.mem_append_left _ (List.mem_append_right _ (List.mem_append_right _ (List.mem_append_right _ (List.mem_append_left _ (List.mem_append_right _ (List.mem_of_getElem? (i := 2) rfl))))))) (List.mem_append_left _ (List.mem_append_right _ (List.mem_append_right _ (List.mem_append_right _ (List.mem_append_left _ (List.mem_append_right _ (List.mem_of_getElem? (i := 3) rfl))))))) (List.mem_append_left _ (List.mem_append_left _ (List.mem_append_left _ (List.mem_append_left _ (List.mem_append_left _ (List.mem_append_left _ (List.mem_of_getElem? (i := 0) rfl))))))) (List.mem_append_left _ (List.mem_append_right _ (List.mem_append_right _ (List.mem_append_right _ (List.mem_append_left _ (List.mem_append_right _ (List.mem_of_getElem? (i := 4) rfl))))))) (by decide +kernel) hR
theorem qG_register {R : Room} {s : State} {args : Array Value} (hts : ∀ w ∈ wAll, w.before args s = true) (hR : 8 + 1 ≤ R.frames ∧ 8 + (5 + 11) + 132 ≤ R.locals) : CallSW R s args RL 66 yL_register bL_register 5 (some .int) [(0, 10, 13, 13)] (Cond.codeWith yL_register bL_register 5 (some .int) [(0, 10, 13, 13)] :: wAll) { frames := 8, cells := 1, slots := 6, locals := 132 } 1 6 4 :=
  cwSW (rm := { frames := 8, cells := 1, slots := 6, locals := 132 }) hts (List.mem_append_left _ (List.mem_append_right _ (List.mem_append_right _ (List.mem_append_right _ (List.mem_append_right _ (List.mem_append_left _ (List.mem_of_getElem? (i := 4) rfl))))))) (List.mem_append_left _ (List.mem_append_right _ (List.mem_append_right _ (List.mem_append_right _ (List.mem_append_right _ (List.mem_append_left _ (List.mem_of_getElem? (i := 5) rfl))))))) (List.mem_append_left _ (List.mem_append_left _ (List.mem_append_left _ (List.mem_append_left _ (List.mem_append_left _ (List.mem_append_left _ (List.mem_of_getElem? (i := 0) rfl))))))) (List.mem_append_left _ (List.mem_append_right _ (List.mem_append_right _ (List.mem_append_right _ (List.mem_append_right _ (List.mem_append_left _ (List.mem_of_getElem? (i := 6) rfl))))))) (by decide +kernel) hR
theorem qG_control {R : Room} {s : State} {args : Array Value} (hts : ∀ w ∈ wAll, w.before args s = true) (hR : 8 + 1 ≤ R.frames ∧ 8 + (5 + 11) + 133 ≤ R.locals) : CallSW R s args RL 69 yL_control bL_control 5 (some .int) [(0, 10, 13, 13)] (Cond.codeWith yL_control bL_control 5 (some .int) [(0, 10, 13, 13)] :: wAll) { frames := 8, cells := 1, slots := 6, locals := 133 } 1 6 4 :=
  cwSW (rm := { frames := 8, cells := 1, slots := 6, locals := 133 }) hts (List.mem_append_left _ (List.mem_append_right _ (List.mem_append_right _ (List.mem_append_right _ (List.mem_append_right _ (List.mem_append_right _ (List.mem_append_left _ (List.mem_of_getElem? (i := 3) rfl)))))))) (List.mem_append_left _ (List.mem_append_right _ (List.mem_append_right _ (List.mem_append_right _ (List.mem_append_right _ (List.mem_append_right _ (List.mem_append_left _ (List.mem_of_getElem? (i := 4) rfl)))))))) (List.mem_append_left _ (List.mem_append_left _ (List.mem_append_left _ (List.mem_append_left _ (List.mem_append_left _ (List.mem_append_left _ (List.mem_of_getElem? (i := 0) rfl))))))) (List.mem_append_left _ (List.mem_append_right _ (List.mem_append_right _ (List.mem_append_right _ (List.mem_append_right _ (List.mem_append_right _ (List.mem_append_left _ (List.mem_of_getElem? (i := 5) rfl)))))))) (by decide +kernel) hR
theorem qG_request {R : Room} {s : State} {args : Array Value} (hts : ∀ w ∈ wAll, w.before args s = true) (hR : 8 + 1 ≤ R.frames ∧ 8 + (4 + 11) + 132 ≤ R.locals) : CallSW R s args RL 72 yL_request bL_request 4 (some .int) [(0, 9, 12, 32)] (Cond.codeWith yL_request bL_request 4 (some .int) [(0, 9, 12, 32)] :: wAll) { frames := 8, cells := 1, slots := 6, locals := 132 } 1 6 3 :=
  cwSW (rm := { frames := 8, cells := 1, slots := 6, locals := 132 }) hts (List.mem_append_left _ (List.mem_append_right _ (List.mem_append_right _ (List.mem_append_right _ (List.mem_append_right _ (List.mem_append_right _ (List.mem_append_right _ (List.mem_of_getElem? (i := 5) rfl)))))))) (List.mem_append_left _ (List.mem_append_right _ (List.mem_append_right _ (List.mem_append_right _ (List.mem_append_right _ (List.mem_append_right _ (List.mem_append_right _ (List.mem_of_getElem? (i := 6) rfl)))))))) (List.mem_append_left _ (List.mem_append_left _ (List.mem_append_left _ (List.mem_append_left _ (List.mem_append_left _ (List.mem_append_left _ (List.mem_of_getElem? (i := 0) rfl))))))) (List.mem_append_left _ (List.mem_append_right _ (List.mem_append_right _ (List.mem_append_right _ (List.mem_append_right _ (List.mem_append_right _ (List.mem_append_right _ (List.mem_of_getElem? (i := 7) rfl)))))))) (by decide +kernel) hR
theorem qG_run {R : Room} {s : State} {args : Array Value} (hts : ∀ w ∈ wAll, w.before args s = true) (hR : 8 + 1 ≤ R.frames ∧ 8 + (4 + 11) + 180 ≤ R.locals) : CallSW R s args RL 79 yL_run bL_run 4 (some .int) [(0, 9, 12, 32)] (Cond.codeWith yL_run bL_run 4 (some .int) [(0, 9, 12, 32)] :: wAll) { frames := 8, cells := 1, slots := 6, locals := 180 } 1 6 3 :=
  cwSW (rm := { frames := 8, cells := 1, slots := 6, locals := 180 }) hts (List.mem_append_right _ (List.mem_append_left _ (List.mem_append_left _ (List.mem_append_left _ (List.mem_append_right _ (List.mem_append_left _ (List.mem_of_getElem? (i := 3) rfl))))))) (List.mem_append_right _ (List.mem_append_left _ (List.mem_append_left _ (List.mem_append_left _ (List.mem_append_right _ (List.mem_append_left _ (List.mem_of_getElem? (i := 4) rfl))))))) (List.mem_append_left _ (List.mem_append_left _ (List.mem_append_left _ (List.mem_append_left _ (List.mem_append_left _ (List.mem_append_left _ (List.mem_of_getElem? (i := 0) rfl))))))) (List.mem_append_right _ (List.mem_append_left _ (List.mem_append_left _ (List.mem_append_left _ (List.mem_append_right _ (List.mem_append_left _ (List.mem_of_getElem? (i := 5) rfl))))))) (by decide +kernel) hR
theorem qG_look {R : Room} {s : State} {args : Array Value} (hts : ∀ w ∈ wAll, w.before args s = true) (hR : 8 + 1 ≤ R.frames ∧ 8 + (4 + 11) + 131 ≤ R.locals) : CallSW R s args RL 82 yL_look bL_look 4 (some .int) [(0, 9, 12, 13)] (Cond.codeWith yL_look bL_look 4 (some .int) [(0, 9, 12, 13)] :: wAll) { frames := 8, cells := 1, slots := 6, locals := 131 } 1 6 3 :=
  cwSW (rm := { frames := 8, cells := 1, slots := 6, locals := 131 }) hts (List.mem_append_right _ (List.mem_append_left _ (List.mem_append_left _ (List.mem_append_left _ (List.mem_append_right _ (List.mem_append_right _ (List.mem_of_getElem? (i := 2) rfl))))))) (List.mem_append_right _ (List.mem_append_left _ (List.mem_append_left _ (List.mem_append_left _ (List.mem_append_right _ (List.mem_append_right _ (List.mem_of_getElem? (i := 3) rfl))))))) (List.mem_append_left _ (List.mem_append_left _ (List.mem_append_left _ (List.mem_append_left _ (List.mem_append_left _ (List.mem_append_left _ (List.mem_of_getElem? (i := 0) rfl))))))) (List.mem_append_right _ (List.mem_append_left _ (List.mem_append_left _ (List.mem_append_left _ (List.mem_append_right _ (List.mem_append_right _ (List.mem_of_getElem? (i := 4) rfl))))))) (by decide +kernel) hR
def faceOK (Rel : XS → MS → Prop) (K : Option (Int32 × XS)) (σ : XS) (M : Int32 × MS) : Prop := match K with
  | some (r, σ') => M.2.1 0 = 0 ∧ r = M.1 ∧ Rel σ' M.2
  | none => M.2.1 0 = 1 ∧ Rel σ M.2
/-- the pure facts that the law rests on -/
def Pure (Rel : XS → MS → Prop) : Prop :=
  (∀ σ τ, Rel σ τ → mOK τ) ∧ Rel x0 m0 ∧ (∀ σ τ, Rel σ τ → Rel (kX_reset σ) (kM_reset τ)) ∧ (∀ σ τ, Rel σ τ → (kX_step σ).1 = (kM_step τ).1 ∧ Rel (kX_step σ).2 (kM_step τ).2) ∧
  (∀ σ τ a b, Rel σ τ → faceOK Rel (kX_put σ a b) σ (kM_put τ a b)) ∧ (∀ σ τ a, Rel σ τ → faceOK Rel (kX_word σ a) σ (kM_word τ a)) ∧ (∀ σ τ a b v, Rel σ τ → faceOK Rel (kX_set σ a b v) σ (kM_set τ a b v)) ∧ (∀ σ τ a b, Rel σ τ → faceOK Rel (kX_register σ a b) σ (kM_register τ a b)) ∧
  (∀ σ τ a b, Rel σ τ → faceOK Rel (kX_control σ a b) σ (kM_control τ a b)) ∧ (∀ σ τ a, Rel σ τ → faceOK Rel (kX_request σ a) σ (kM_request τ a)) ∧ (∀ σ τ a, Rel σ τ → faceOK Rel (kX_run σ a) σ (kM_run τ a)) ∧ (∀ σ τ a, Rel σ τ → faceOK Rel (kX_look σ a) σ (kM_look τ a))
theorem law_lt {L j : Nat} (hL : L ≤ 2048) (hj : 4 * j ≤ L) (h : ¬ Int32.ofNat L - 4 < nI (4 * j)) : 4 * j + 4 ≤ L := by
  rw [Int32.lt_iff_toInt_lt] at h
  have h1 : (Int32.ofNat L - 4).toInt = (L : Int) - 4 := pk_sub_toInt (a := L) (b := 4) (by omega) (by omega)
  rw [h1, nI_toInt (by omega)] at h
  omega
theorem law_in0 {L j : Nat} (hL : L ≤ 2048) (hj : 4 * j + 4 ≤ L) : vp_in (nI (4 * j)) L := vp_in_nI (by omega) (by omega)
theorem law_in1 {L j : Nat} (hL : L ≤ 2048) (hj : 4 * j + 4 ≤ L) : vp_in (nI (4 * j) + 1) L := by
  rw [nI_1]; exact vp_in_nI (by omega) (by omega)
theorem law_in2 {L j : Nat} (hL : L ≤ 2048) (hj : 4 * j + 4 ≤ L) : vp_in (nI (4 * j) + 2) L := by
  rw [show nI (4 * j) + 2 = nI (4 * j + 2) from nI_add _ 2]; exact vp_in_nI (by omega) (by omega)
theorem law_in3 {L j : Nat} (hL : L ≤ 2048) (hj : 4 * j + 4 ≤ L) : vp_in (nI (4 * j) + 3) L := by
  rw [show nI (4 * j) + 3 = nI (4 * j + 3) from nI_add _ 3]; exact vp_in_nI (by omega) (by omega)
theorem law_nx (j : Nat) : nI (4 * j) + Int32.ofInt 4 = nI (4 * (j + 1)) := nI_add _ 4
set_option maxRecDepth 100000 in
set_option maxHeartbeats 4000000 in
theorem law_reset {Rel : XS → MS → Prop} (P : Pure Rel) {p : Program} {e : Env} {s : State} {m : MethodId} {below : List Frame} {meth : Method} {c : Code} (l : Launch) (hst : l.stackTraces = false) {b L : Nat} {xs : Nat → Int32} (hL : L ≤ 2048) (C : CallFix p m c bL_law 7 s #[Value.ref b] wAll RL) (hX : va_X b L xs s s.heap) (hbl : b < s.heap.size) (hzn : tz nsE (gN s.heap.size) s s.heap) (hzi : tz iaE (gN s.heap.size) s s.heap) (D : va_G) (h qm qr g qb qg qw qo : Nat) (cA cL : ClassId) {Q : State → Prop} {j : Nat} (hj : 4 * j + 4 ≤ L)
    (cont : ∀ (ls : Array Slot) (H : Heap) (locs : List Loc) (cells slots : Nat) (u : GS), cells ≤ 8 + (j + 1) → slots ≤ 5434 + 6 * (j + 1) → Rel u.1 u.2.1 → lv_has ls 7 [(0, .ref b), (1, .ref h), (2, .ref g), (3, .ref qo), (4, .int (nI (4 * j)))] → gH D h qm qr g qb qg qw qo cA cL s u H locs → W p l e room_1 s m #[Value.ref b] below meth c H locs cells slots Q (F0 m 624 ls []))
    {ls : Array Slot} {H : Heap} {locs : List Loc} {cells slots : Nat} {u : GS} (hc : cells ≤ 8 + j) (hs : slots ≤ 5434 + 6 * j) (hr : Rel u.1 u.2.1) (hl : lv_has ls 7 [(0, .ref b), (1, .ref h), (2, .ref g), (3, .ref qo), (4, .int (nI (4 * j)))]) (hw : gH D h qm qr g qb qg qw qo cA cL s u H locs) : W p l e room_1 s m #[Value.ref b] below meth c H locs cells slots Q (F0 m 92 ls []) := by
  have hx := C.1
  have hb := C.2.1
  have hbA : ¬ gN s.heap.size b := Nat.not_le.mpr hbl
  refine lv_aload_n hx hb dL_law_92 rfl (lv_at hl 1 rfl) ?_
  refine g_callvX C (cX_reset l D h qm qr cA u.1) (qGX_reset C.2.2.2.2 ⟨Nat.le_of_ble_eq_true rfl, Nat.le_of_ble_eq_true rfl⟩) hw rfl hl.1 rfl (Nat.le_of_ble_eq_true rfl) dL_law_93 ⟨by show cells ≤ 1040; omega, by show slots ≤ 13674; omega⟩ (fun H locs hw => ?_)
  refine lv_aload_n hx hb dL_law_96 rfl (lv_at hl 2 rfl) ?_
  refine g_callvM (u := (kX_reset u.1, u.2)) C (cM_reset l D g qb qg qw cA u.2.1) (qGM_reset C.2.2.2.2 ⟨Nat.le_of_ble_eq_true rfl, Nat.le_of_ble_eq_true rfl⟩) hw rfl hl.1 rfl (Nat.le_of_ble_eq_true rfl) dL_law_97 ⟨by show cells ≤ 1040; omega, by show slots ≤ 13674; omega⟩ (fun H locs hw => ?_)
  refine lv_goto (tgt := 624) hx hb dL_law_100 (by decide) ?_
  exact cont _ _ _ _ _ (kX_reset u.1, kM_reset u.2.1, u.2.2) (by omega) (by omega) (P.2.2.1 _ _ hr) hl hw
set_option maxRecDepth 100000 in
set_option maxHeartbeats 4000000 in
theorem law_step {Rel : XS → MS → Prop} (P : Pure Rel) {p : Program} {e : Env} {s : State} {m : MethodId} {below : List Frame} {meth : Method} {c : Code} (l : Launch) (hst : l.stackTraces = false) {b L : Nat} {xs : Nat → Int32} (hL : L ≤ 2048) (C : CallFix p m c bL_law 7 s #[Value.ref b] wAll RL) (hX : va_X b L xs s s.heap) (hbl : b < s.heap.size) (hzn : tz nsE (gN s.heap.size) s s.heap) (hzi : tz iaE (gN s.heap.size) s s.heap) (D : va_G) (h qm qr g qb qg qw qo : Nat) (cA cL : ClassId) {Q : State → Prop} {j : Nat} (hj : 4 * j + 4 ≤ L)
    (cont : ∀ (ls : Array Slot) (H : Heap) (locs : List Loc) (cells slots : Nat) (u : GS), cells ≤ 8 + (j + 1) → slots ≤ 5434 + 6 * (j + 1) → Rel u.1 u.2.1 → lv_has ls 7 [(0, .ref b), (1, .ref h), (2, .ref g), (3, .ref qo), (4, .int (nI (4 * j)))] → gH D h qm qr g qb qg qw qo cA cL s u H locs → W p l e room_1 s m #[Value.ref b] below meth c H locs cells slots Q (F0 m 624 ls []))
    {ls : Array Slot} {H : Heap} {locs : List Loc} {cells slots : Nat} {u : GS} (hc : cells ≤ 8 + j) (hs : slots ≤ 5434 + 6 * j) (hr : Rel u.1 u.2.1) (hl : lv_has ls 7 [(0, .ref b), (1, .ref h), (2, .ref g), (3, .ref qo), (4, .int (nI (4 * j)))]) (hw : gH D h qm qr g qb qg qw qo cA cL s u H locs) : W p l e room_1 s m #[Value.ref b] below meth c H locs cells slots Q (F0 m 499 ls []) := by
  have hx := C.1
  have hb := C.2.1
  have hbA : ¬ gN s.heap.size b := Nat.not_le.mpr hbl
  refine lv_aload_n hx hb dL_law_499 rfl (lv_at hl 1 rfl) ?_
  refine g_calliX C (cX_step l D h qm qr cA u.1) (qGX_step C.2.2.2.2 ⟨Nat.le_of_ble_eq_true rfl, Nat.le_of_ble_eq_true rfl⟩) hw rfl hl.1 rfl (Nat.le_of_ble_eq_true rfl) dL_law_500 ⟨by show cells ≤ 1040; omega, by show slots ≤ 13674; omega⟩ (fun H locs hw => ?_)
  refine lv_aload_n hx hb dL_law_503 rfl (lv_at hl 2 rfl) ?_
  refine g_calliM (u := ((kX_step u.1).2, u.2)) C (cM_step l D g qb qg qw cA u.2.1 (P.1 _ _ hr)) (qGM_step C.2.2.2.2 ⟨Nat.le_of_ble_eq_true rfl, Nat.le_of_ble_eq_true rfl⟩) hw rfl hl.1 rfl (Nat.le_of_ble_eq_true rfl) dL_law_504 ⟨by show cells ≤ 1040; omega, by show slots ≤ 13674; omega⟩ (fun H locs hw => ?_)
  refine lv_icmp_eq (tgt := 624) hx hb dL_law_507 (by decide) (fun _ => ?_) (fun hn => absurd (P.2.2.2.1 _ _ hr).1 hn)
  exact cont _ _ _ _ _ ((kX_step u.1).2, (kM_step u.2.1).2, u.2.2) (by omega) (by omega) (P.2.2.2.1 _ _ hr).2 hl hw
set_option maxRecDepth 100000 in
set_option maxHeartbeats 4000000 in
theorem law_put {Rel : XS → MS → Prop} (P : Pure Rel) {p : Program} {e : Env} {s : State} {m : MethodId} {below : List Frame} {meth : Method} {c : Code} (l : Launch) (hst : l.stackTraces = false) {b L : Nat} {xs : Nat → Int32} (hL : L ≤ 2048) (C : CallFix p m c bL_law 7 s #[Value.ref b] wAll RL) (hX : va_X b L xs s s.heap) (hbl : b < s.heap.size) (hzn : tz nsE (gN s.heap.size) s s.heap) (hzi : tz iaE (gN s.heap.size) s s.heap) (D : va_G) (h qm qr g qb qg qw qo : Nat) (cA cL : ClassId) {Q : State → Prop} {j : Nat} (hj : 4 * j + 4 ≤ L)
    (cont : ∀ (ls : Array Slot) (H : Heap) (locs : List Loc) (cells slots : Nat) (u : GS), cells ≤ 8 + (j + 1) → slots ≤ 5434 + 6 * (j + 1) → Rel u.1 u.2.1 → lv_has ls 7 [(0, .ref b), (1, .ref h), (2, .ref g), (3, .ref qo), (4, .int (nI (4 * j)))] → gH D h qm qr g qb qg qw qo cA cL s u H locs → W p l e room_1 s m #[Value.ref b] below meth c H locs cells slots Q (F0 m 624 ls []))
    {ls : Array Slot} {H : Heap} {locs : List Loc} {cells slots : Nat} {u : GS} (hc : cells ≤ 8 + j) (hs : slots ≤ 5434 + 6 * j) (hr : Rel u.1 u.2.1) (hl : lv_has ls 7 [(0, .ref b), (1, .ref h), (2, .ref g), (3, .ref qo), (4, .int (nI (4 * j)))]) (hw : gH D h qm qr g qb qg qw qo cA cL s u H locs) : W p l e room_1 s m #[Value.ref b] below meth c H locs cells slots Q (F0 m 103 ls []) := by
  have hx := C.1
  have hb := C.2.1
  have hbA : ¬ gN s.heap.size b := Nat.not_le.mpr hbl
  refine lv_aload_n hx hb dL_law_103 rfl (lv_at hl 1 rfl) ?_
  refine lv_aload_n hx hb dL_law_104 rfl (lv_at hl 0 rfl) ?_
  refine lv_iload hx hb dL_law_105 (lv_at hl 4 rfl) ?_
  refine lv_iconst (v := 1) hx hb dL_law_107 (by decide) ?_
  refine lv_iadd hx hb dL_law_108 ?_
  refine va_sld hx hb hX hbl hbA hw.2.2.1 (law_in1 hL hj) dL_law_109 ?_
  refine lv_aload_n hx hb dL_law_110 rfl (lv_at hl 0 rfl) ?_
  refine lv_iload hx hb dL_law_111 (lv_at hl 4 rfl) ?_
  refine lv_iconst (v := 2) hx hb dL_law_113 (by decide) ?_
  refine lv_iadd hx hb dL_law_114 ?_
  refine va_sld hx hb hX hbl hbA hw.2.2.1 (law_in2 hL hj) dL_law_115 ?_
  refine lv_aload_n hx hb dL_law_116 rfl (lv_at hl 3 rfl) ?_
  refine g_calliL C (cL_put l D h qm qr qo cA cL hst (u.1, u.2.2) (xs (nI (4 * j) + 1).toNatClampNeg) (xs (nI (4 * j) + 2).toNatClampNeg)) (qG_put C.2.2.2.2 ⟨Nat.le_of_ble_eq_true rfl, Nat.le_of_ble_eq_true rfl⟩) hw hzn rfl hl.1 rfl (Nat.le_of_ble_eq_true rfl) dL_law_117 ⟨by show cells + 1 ≤ 1040; omega, by show slots + 6 ≤ 13674; omega⟩ (fun H locs hw => ?_)
  have hF := P.2.2.2.2.1 u.1 u.2.1 (xs (nI (4 * j) + 1).toNatClampNeg) (xs (nI (4 * j) + 2).toNatClampNeg) hr
  rcases hK : kX_put u.1 (xs (nI (4 * j) + 1).toNatClampNeg) (xs (nI (4 * j) + 2).toNatClampNeg) with _ | ⟨r, σ⟩
  · rw [show kX_put (u.1, u.2.2).1 (xs (nI (4 * j) + 1).toNatClampNeg) (xs (nI (4 * j) + 2).toNatClampNeg) = none from hK] at hw
    rw [hK] at hF
    have hw : gH D h qm qr g qb qg qw qo cA cL s (u.1, u.2.1, u.2.2) H locs := hw
    refine lv_istore (x := 1) (lv' := [(5, .int 1), (0, .ref b), (1, .ref h), (2, .ref g), (3, .ref qo), (4, .int (nI (4 * j)))]) hx hb dL_law_120 hl (by decide) rfl (fun ls hl => ?_)
    refine lv_aload_n hx hb dL_law_122 rfl (lv_at hl 3 rfl) ?_
    refine lv_aload_n hx hb dL_law_123 rfl (lv_at hl 1 rfl) ?_
    refine lv_iload hx hb dL_law_124 (lv_at hl 5 rfl) ?_
    refine lv_iconst (v := 1) hx hb dL_law_126 (by decide) ?_
    refine lv_iadd hx hb dL_law_127 ?_
    refine va_sld hx hb hX hbl hbA hw.2.2.1 (law_in1 hL hj) dL_law_128 ?_
    refine lv_aload_n hx hb dL_law_129 rfl (lv_at hl 1 rfl) ?_
    refine lv_iload hx hb dL_law_130 (lv_at hl 5 rfl) ?_
    refine lv_iconst (v := 2) hx hb dL_law_132 (by decide) ?_
    refine lv_iadd hx hb dL_law_133 ?_
    refine va_sld hx hb hX hbl hbA hw.2.2.1 (law_in2 hL hj) dL_law_134 ?_
    refine g_calliM (u := (u.1, u.2.1, u.2.2)) (cells := cells + 1) (slots := slots + 6) C (cM_put l D g qb qg qw cA u.2.1 (xs (nI (4 * j) + 1).toNatClampNeg) (xs (nI (4 * j) + 2).toNatClampNeg)) (qGM_put C.2.2.2.2 ⟨Nat.le_of_ble_eq_true rfl, Nat.le_of_ble_eq_true rfl⟩) hw rfl hl.1 rfl (Nat.le_of_ble_eq_true rfl) dL_law_135 ⟨by show cells + 1 ≤ 1040; omega, by show slots + 6 ≤ 13674; omega⟩ (fun H locs hw => ?_)
    refine lv_istore (lv' := [(6, .int (kM_put u.2.1 (xs (nI (4 * j) + 1).toNatClampNeg) (xs (nI (4 * j) + 2).toNatClampNeg)).1), (5, .int 1), (0, .ref b), (1, .ref h), (2, .ref g), (3, .ref qo), (4, .int (nI (4 * j)))]) hx hb dL_law_138 hl (by decide) rfl (fun ls hl => ?_)
    refine lv_aload_n hx hb dL_law_140 rfl (lv_at hl 4 rfl) ?_
    refine g_calliM (u := (u.1, (kM_put u.2.1 (xs (nI (4 * j) + 1).toNatClampNeg) (xs (nI (4 * j) + 2).toNatClampNeg)).2, u.2.2)) (cells := cells + 1) (slots := slots + 6) C (cM_thrown l D g qb qg qw cA (kM_put u.2.1 (xs (nI (4 * j) + 1).toNatClampNeg) (xs (nI (4 * j) + 2).toNatClampNeg)).2) (qGM_thrown C.2.2.2.2 ⟨Nat.le_of_ble_eq_true rfl, Nat.le_of_ble_eq_true rfl⟩) hw rfl hl.1 rfl (Nat.le_of_ble_eq_true rfl) dL_law_141 ⟨by show cells + 1 ≤ 1040; omega, by show slots + 6 ≤ 13674; omega⟩ (fun H locs hw => ?_)
    refine lv_iload hx hb dL_law_144 (lv_at hl 1 rfl) ?_
    refine lv_icmp_eq (tgt := 151) hx hb dL_law_146 (by decide) (fun _ => ?_) (fun hn => absurd (show kM_thrown (kM_put u.2.1 (xs (nI (4 * j) + 1).toNatClampNeg) (xs (nI (4 * j) + 2).toNatClampNeg)).2 = 1 from hF.1) hn)
    refine lv_iload hx hb dL_law_151 (lv_at hl 1 rfl) ?_
    refine lv_if_ne (tgt := 168) hx hb dL_law_153 (by decide) (fun _ => ?_) (fun hn => absurd hn (by decide))
    refine lv_goto (tgt := 624) hx hb dL_law_168 (by decide) ?_
    exact cont _ _ _ _ _ (u.1, (kM_put u.2.1 (xs (nI (4 * j) + 1).toNatClampNeg) (xs (nI (4 * j) + 2).toNatClampNeg)).2, u.2.2) (by omega) (by omega) hF.2 (lv_sub hl [2, 3, 4, 5, 6] rfl) hw
  · rw [show kX_put (u.1, u.2.2).1 (xs (nI (4 * j) + 1).toNatClampNeg) (xs (nI (4 * j) + 2).toNatClampNeg) = some (r, σ) from hK] at hw
    rw [hK] at hF
    have hw : gH D h qm qr g qb qg qw qo cA cL s (σ, u.2.1, (vp_updL u.2.2 0 r.toInt64)) H locs := hw
    refine lv_istore (x := 0) (lv' := [(5, .int 0), (0, .ref b), (1, .ref h), (2, .ref g), (3, .ref qo), (4, .int (nI (4 * j)))]) hx hb dL_law_120 hl (by decide) rfl (fun ls hl => ?_)
    refine lv_aload_n hx hb dL_law_122 rfl (lv_at hl 3 rfl) ?_
    refine lv_aload_n hx hb dL_law_123 rfl (lv_at hl 1 rfl) ?_
    refine lv_iload hx hb dL_law_124 (lv_at hl 5 rfl) ?_
    refine lv_iconst (v := 1) hx hb dL_law_126 (by decide) ?_
    refine lv_iadd hx hb dL_law_127 ?_
    refine va_sld hx hb hX hbl hbA hw.2.2.1 (law_in1 hL hj) dL_law_128 ?_
    refine lv_aload_n hx hb dL_law_129 rfl (lv_at hl 1 rfl) ?_
    refine lv_iload hx hb dL_law_130 (lv_at hl 5 rfl) ?_
    refine lv_iconst (v := 2) hx hb dL_law_132 (by decide) ?_
    refine lv_iadd hx hb dL_law_133 ?_
    refine va_sld hx hb hX hbl hbA hw.2.2.1 (law_in2 hL hj) dL_law_134 ?_
    refine g_calliM (u := (σ, u.2.1, (vp_updL u.2.2 0 r.toInt64))) (cells := cells + 1) (slots := slots + 6) C (cM_put l D g qb qg qw cA u.2.1 (xs (nI (4 * j) + 1).toNatClampNeg) (xs (nI (4 * j) + 2).toNatClampNeg)) (qGM_put C.2.2.2.2 ⟨Nat.le_of_ble_eq_true rfl, Nat.le_of_ble_eq_true rfl⟩) hw rfl hl.1 rfl (Nat.le_of_ble_eq_true rfl) dL_law_135 ⟨by show cells + 1 ≤ 1040; omega, by show slots + 6 ≤ 13674; omega⟩ (fun H locs hw => ?_)
    refine lv_istore (lv' := [(6, .int (kM_put u.2.1 (xs (nI (4 * j) + 1).toNatClampNeg) (xs (nI (4 * j) + 2).toNatClampNeg)).1), (5, .int 0), (0, .ref b), (1, .ref h), (2, .ref g), (3, .ref qo), (4, .int (nI (4 * j)))]) hx hb dL_law_138 hl (by decide) rfl (fun ls hl => ?_)
    refine lv_aload_n hx hb dL_law_140 rfl (lv_at hl 4 rfl) ?_
    refine g_calliM (u := (σ, (kM_put u.2.1 (xs (nI (4 * j) + 1).toNatClampNeg) (xs (nI (4 * j) + 2).toNatClampNeg)).2, (vp_updL u.2.2 0 r.toInt64))) (cells := cells + 1) (slots := slots + 6) C (cM_thrown l D g qb qg qw cA (kM_put u.2.1 (xs (nI (4 * j) + 1).toNatClampNeg) (xs (nI (4 * j) + 2).toNatClampNeg)).2) (qGM_thrown C.2.2.2.2 ⟨Nat.le_of_ble_eq_true rfl, Nat.le_of_ble_eq_true rfl⟩) hw rfl hl.1 rfl (Nat.le_of_ble_eq_true rfl) dL_law_141 ⟨by show cells + 1 ≤ 1040; omega, by show slots + 6 ≤ 13674; omega⟩ (fun H locs hw => ?_)
    refine lv_iload hx hb dL_law_144 (lv_at hl 1 rfl) ?_
    refine lv_icmp_eq (tgt := 151) hx hb dL_law_146 (by decide) (fun _ => ?_) (fun hn => absurd (show kM_thrown (kM_put u.2.1 (xs (nI (4 * j) + 1).toNatClampNeg) (xs (nI (4 * j) + 2).toNatClampNeg)).2 = 0 from hF.1) hn)
    refine lv_iload hx hb dL_law_151 (lv_at hl 1 rfl) ?_
    refine lv_if_ne (tgt := 168) hx hb dL_law_153 (by decide) (fun hn => absurd rfl hn) (fun _ => ?_)
    refine lv_aload_n hx hb dL_law_156 rfl (lv_at hl 5 rfl) ?_
    refine lv_iconst (v := 0) hx hb dL_law_157 (by decide) ?_
    refine va_lald hx hb hw.2.2.2 hw.1 7 1 rfl rfl (by unfold vp_in; decide) dL_law_158 ?_
    refine lv_iload hx hb dL_law_159 (lv_at hl 0 rfl) ?_
    refine lv_i2l (v := (kM_put u.2.1 (xs (nI (4 * j) + 1).toNatClampNeg) (xs (nI (4 * j) + 2).toNatClampNeg)).1.toInt64) hx hb dL_law_161 rfl ?_
    refine W.lcmp hx hb dL_law_162 ?_
    refine lv_if_eq (tgt := 168) hx hb dL_law_163 (by decide) (fun _ => ?_) (fun hn => absurd ((lg_cmp_eq _ _).mpr (by show vp_updL u.2.2 0 r.toInt64 0 = _; rw [pk_uLs, hF.2.1])) hn)
    refine lv_goto (tgt := 624) hx hb dL_law_168 (by decide) ?_
    exact cont _ _ _ _ _ (σ, (kM_put u.2.1 (xs (nI (4 * j) + 1).toNatClampNeg) (xs (nI (4 * j) + 2).toNatClampNeg)).2, (vp_updL u.2.2 0 r.toInt64)) (by omega) (by omega) hF.2.2 (lv_sub hl [2, 3, 4, 5, 6] rfl) hw
set_option maxRecDepth 100000 in
set_option maxHeartbeats 4000000 in
theorem law_word {Rel : XS → MS → Prop} (P : Pure Rel) {p : Program} {e : Env} {s : State} {m : MethodId} {below : List Frame} {meth : Method} {c : Code} (l : Launch) (hst : l.stackTraces = false) {b L : Nat} {xs : Nat → Int32} (hL : L ≤ 2048) (C : CallFix p m c bL_law 7 s #[Value.ref b] wAll RL) (hX : va_X b L xs s s.heap) (hbl : b < s.heap.size) (hzn : tz nsE (gN s.heap.size) s s.heap) (hzi : tz iaE (gN s.heap.size) s s.heap) (D : va_G) (h qm qr g qb qg qw qo : Nat) (cA cL : ClassId) {Q : State → Prop} {j : Nat} (hj : 4 * j + 4 ≤ L)
    (cont : ∀ (ls : Array Slot) (H : Heap) (locs : List Loc) (cells slots : Nat) (u : GS), cells ≤ 8 + (j + 1) → slots ≤ 5434 + 6 * (j + 1) → Rel u.1 u.2.1 → lv_has ls 7 [(0, .ref b), (1, .ref h), (2, .ref g), (3, .ref qo), (4, .int (nI (4 * j)))] → gH D h qm qr g qb qg qw qo cA cL s u H locs → W p l e room_1 s m #[Value.ref b] below meth c H locs cells slots Q (F0 m 624 ls []))
    {ls : Array Slot} {H : Heap} {locs : List Loc} {cells slots : Nat} {u : GS} (hc : cells ≤ 8 + j) (hs : slots ≤ 5434 + 6 * j) (hr : Rel u.1 u.2.1) (hl : lv_has ls 7 [(0, .ref b), (1, .ref h), (2, .ref g), (3, .ref qo), (4, .int (nI (4 * j)))]) (hw : gH D h qm qr g qb qg qw qo cA cL s u H locs) : W p l e room_1 s m #[Value.ref b] below meth c H locs cells slots Q (F0 m 171 ls []) := by
  have hx := C.1
  have hb := C.2.1
  have hbA : ¬ gN s.heap.size b := Nat.not_le.mpr hbl
  refine lv_aload_n hx hb dL_law_171 rfl (lv_at hl 1 rfl) ?_
  refine lv_aload_n hx hb dL_law_172 rfl (lv_at hl 0 rfl) ?_
  refine lv_iload hx hb dL_law_173 (lv_at hl 4 rfl) ?_
  refine lv_iconst (v := 1) hx hb dL_law_175 (by decide) ?_
  refine lv_iadd hx hb dL_law_176 ?_
  refine va_sld hx hb hX hbl hbA hw.2.2.1 (law_in1 hL hj) dL_law_177 ?_
  refine lv_aload_n hx hb dL_law_178 rfl (lv_at hl 3 rfl) ?_
  refine g_calliL C (cL_word l D h qm qr qo cA cL hst (u.1, u.2.2) (xs (nI (4 * j) + 1).toNatClampNeg)) (qG_word C.2.2.2.2 ⟨Nat.le_of_ble_eq_true rfl, Nat.le_of_ble_eq_true rfl⟩) hw hzn rfl hl.1 rfl (Nat.le_of_ble_eq_true rfl) dL_law_179 ⟨by show cells + 1 ≤ 1040; omega, by show slots + 6 ≤ 13674; omega⟩ (fun H locs hw => ?_)
  have hF := P.2.2.2.2.2.1 u.1 u.2.1 (xs (nI (4 * j) + 1).toNatClampNeg) hr
  rcases hK : kX_word u.1 (xs (nI (4 * j) + 1).toNatClampNeg) with _ | ⟨r, σ⟩
  · rw [show kX_word (u.1, u.2.2).1 (xs (nI (4 * j) + 1).toNatClampNeg) = none from hK] at hw
    rw [hK] at hF
    have hw : gH D h qm qr g qb qg qw qo cA cL s (u.1, u.2.1, u.2.2) H locs := hw
    refine lv_istore (x := 1) (lv' := [(5, .int 1), (0, .ref b), (1, .ref h), (2, .ref g), (3, .ref qo), (4, .int (nI (4 * j)))]) hx hb dL_law_182 hl (by decide) rfl (fun ls hl => ?_)
    refine lv_aload_n hx hb dL_law_184 rfl (lv_at hl 3 rfl) ?_
    refine lv_aload_n hx hb dL_law_185 rfl (lv_at hl 1 rfl) ?_
    refine lv_iload hx hb dL_law_186 (lv_at hl 5 rfl) ?_
    refine lv_iconst (v := 1) hx hb dL_law_188 (by decide) ?_
    refine lv_iadd hx hb dL_law_189 ?_
    refine va_sld hx hb hX hbl hbA hw.2.2.1 (law_in1 hL hj) dL_law_190 ?_
    refine g_calliM (u := (u.1, u.2.1, u.2.2)) (cells := cells + 1) (slots := slots + 6) C (cM_word l D g qb qg qw cA u.2.1 (xs (nI (4 * j) + 1).toNatClampNeg)) (qGM_word C.2.2.2.2 ⟨Nat.le_of_ble_eq_true rfl, Nat.le_of_ble_eq_true rfl⟩) hw rfl hl.1 rfl (Nat.le_of_ble_eq_true rfl) dL_law_191 ⟨by show cells + 1 ≤ 1040; omega, by show slots + 6 ≤ 13674; omega⟩ (fun H locs hw => ?_)
    refine lv_istore (lv' := [(6, .int (kM_word u.2.1 (xs (nI (4 * j) + 1).toNatClampNeg)).1), (5, .int 1), (0, .ref b), (1, .ref h), (2, .ref g), (3, .ref qo), (4, .int (nI (4 * j)))]) hx hb dL_law_194 hl (by decide) rfl (fun ls hl => ?_)
    refine lv_aload_n hx hb dL_law_196 rfl (lv_at hl 4 rfl) ?_
    refine g_calliM (u := (u.1, (kM_word u.2.1 (xs (nI (4 * j) + 1).toNatClampNeg)).2, u.2.2)) (cells := cells + 1) (slots := slots + 6) C (cM_thrown l D g qb qg qw cA (kM_word u.2.1 (xs (nI (4 * j) + 1).toNatClampNeg)).2) (qGM_thrown C.2.2.2.2 ⟨Nat.le_of_ble_eq_true rfl, Nat.le_of_ble_eq_true rfl⟩) hw rfl hl.1 rfl (Nat.le_of_ble_eq_true rfl) dL_law_197 ⟨by show cells + 1 ≤ 1040; omega, by show slots + 6 ≤ 13674; omega⟩ (fun H locs hw => ?_)
    refine lv_iload hx hb dL_law_200 (lv_at hl 1 rfl) ?_
    refine lv_icmp_eq (tgt := 207) hx hb dL_law_202 (by decide) (fun _ => ?_) (fun hn => absurd (show kM_thrown (kM_word u.2.1 (xs (nI (4 * j) + 1).toNatClampNeg)).2 = 1 from hF.1) hn)
    refine lv_iload hx hb dL_law_207 (lv_at hl 1 rfl) ?_
    refine lv_if_ne (tgt := 224) hx hb dL_law_209 (by decide) (fun _ => ?_) (fun hn => absurd hn (by decide))
    refine lv_goto (tgt := 624) hx hb dL_law_224 (by decide) ?_
    exact cont _ _ _ _ _ (u.1, (kM_word u.2.1 (xs (nI (4 * j) + 1).toNatClampNeg)).2, u.2.2) (by omega) (by omega) hF.2 (lv_sub hl [2, 3, 4, 5, 6] rfl) hw
  · rw [show kX_word (u.1, u.2.2).1 (xs (nI (4 * j) + 1).toNatClampNeg) = some (r, σ) from hK] at hw
    rw [hK] at hF
    have hw : gH D h qm qr g qb qg qw qo cA cL s (σ, u.2.1, (vp_updL u.2.2 0 r.toInt64)) H locs := hw
    refine lv_istore (x := 0) (lv' := [(5, .int 0), (0, .ref b), (1, .ref h), (2, .ref g), (3, .ref qo), (4, .int (nI (4 * j)))]) hx hb dL_law_182 hl (by decide) rfl (fun ls hl => ?_)
    refine lv_aload_n hx hb dL_law_184 rfl (lv_at hl 3 rfl) ?_
    refine lv_aload_n hx hb dL_law_185 rfl (lv_at hl 1 rfl) ?_
    refine lv_iload hx hb dL_law_186 (lv_at hl 5 rfl) ?_
    refine lv_iconst (v := 1) hx hb dL_law_188 (by decide) ?_
    refine lv_iadd hx hb dL_law_189 ?_
    refine va_sld hx hb hX hbl hbA hw.2.2.1 (law_in1 hL hj) dL_law_190 ?_
    refine g_calliM (u := (σ, u.2.1, (vp_updL u.2.2 0 r.toInt64))) (cells := cells + 1) (slots := slots + 6) C (cM_word l D g qb qg qw cA u.2.1 (xs (nI (4 * j) + 1).toNatClampNeg)) (qGM_word C.2.2.2.2 ⟨Nat.le_of_ble_eq_true rfl, Nat.le_of_ble_eq_true rfl⟩) hw rfl hl.1 rfl (Nat.le_of_ble_eq_true rfl) dL_law_191 ⟨by show cells + 1 ≤ 1040; omega, by show slots + 6 ≤ 13674; omega⟩ (fun H locs hw => ?_)
    refine lv_istore (lv' := [(6, .int (kM_word u.2.1 (xs (nI (4 * j) + 1).toNatClampNeg)).1), (5, .int 0), (0, .ref b), (1, .ref h), (2, .ref g), (3, .ref qo), (4, .int (nI (4 * j)))]) hx hb dL_law_194 hl (by decide) rfl (fun ls hl => ?_)
    refine lv_aload_n hx hb dL_law_196 rfl (lv_at hl 4 rfl) ?_
    refine g_calliM (u := (σ, (kM_word u.2.1 (xs (nI (4 * j) + 1).toNatClampNeg)).2, (vp_updL u.2.2 0 r.toInt64))) (cells := cells + 1) (slots := slots + 6) C (cM_thrown l D g qb qg qw cA (kM_word u.2.1 (xs (nI (4 * j) + 1).toNatClampNeg)).2) (qGM_thrown C.2.2.2.2 ⟨Nat.le_of_ble_eq_true rfl, Nat.le_of_ble_eq_true rfl⟩) hw rfl hl.1 rfl (Nat.le_of_ble_eq_true rfl) dL_law_197 ⟨by show cells + 1 ≤ 1040; omega, by show slots + 6 ≤ 13674; omega⟩ (fun H locs hw => ?_)
    refine lv_iload hx hb dL_law_200 (lv_at hl 1 rfl) ?_
    refine lv_icmp_eq (tgt := 207) hx hb dL_law_202 (by decide) (fun _ => ?_) (fun hn => absurd (show kM_thrown (kM_word u.2.1 (xs (nI (4 * j) + 1).toNatClampNeg)).2 = 0 from hF.1) hn)
    refine lv_iload hx hb dL_law_207 (lv_at hl 1 rfl) ?_
    refine lv_if_ne (tgt := 224) hx hb dL_law_209 (by decide) (fun hn => absurd rfl hn) (fun _ => ?_)
    refine lv_aload_n hx hb dL_law_212 rfl (lv_at hl 5 rfl) ?_
    refine lv_iconst (v := 0) hx hb dL_law_213 (by decide) ?_
    refine va_lald hx hb hw.2.2.2 hw.1 7 1 rfl rfl (by unfold vp_in; decide) dL_law_214 ?_
    refine lv_iload hx hb dL_law_215 (lv_at hl 0 rfl) ?_
    refine lv_i2l (v := (kM_word u.2.1 (xs (nI (4 * j) + 1).toNatClampNeg)).1.toInt64) hx hb dL_law_217 rfl ?_
    refine W.lcmp hx hb dL_law_218 ?_
    refine lv_if_eq (tgt := 224) hx hb dL_law_219 (by decide) (fun _ => ?_) (fun hn => absurd ((lg_cmp_eq _ _).mpr (by show vp_updL u.2.2 0 r.toInt64 0 = _; rw [pk_uLs, hF.2.1])) hn)
    refine lv_goto (tgt := 624) hx hb dL_law_224 (by decide) ?_
    exact cont _ _ _ _ _ (σ, (kM_word u.2.1 (xs (nI (4 * j) + 1).toNatClampNeg)).2, (vp_updL u.2.2 0 r.toInt64)) (by omega) (by omega) hF.2.2 (lv_sub hl [2, 3, 4, 5, 6] rfl) hw
set_option maxRecDepth 100000 in
set_option maxHeartbeats 4000000 in
theorem law_set {Rel : XS → MS → Prop} (P : Pure Rel) {p : Program} {e : Env} {s : State} {m : MethodId} {below : List Frame} {meth : Method} {c : Code} (l : Launch) (hst : l.stackTraces = false) {b L : Nat} {xs : Nat → Int32} (hL : L ≤ 2048) (C : CallFix p m c bL_law 7 s #[Value.ref b] wAll RL) (hX : va_X b L xs s s.heap) (hbl : b < s.heap.size) (hzn : tz nsE (gN s.heap.size) s s.heap) (hzi : tz iaE (gN s.heap.size) s s.heap) (D : va_G) (h qm qr g qb qg qw qo : Nat) (cA cL : ClassId) {Q : State → Prop} {j : Nat} (hj : 4 * j + 4 ≤ L)
    (cont : ∀ (ls : Array Slot) (H : Heap) (locs : List Loc) (cells slots : Nat) (u : GS), cells ≤ 8 + (j + 1) → slots ≤ 5434 + 6 * (j + 1) → Rel u.1 u.2.1 → lv_has ls 7 [(0, .ref b), (1, .ref h), (2, .ref g), (3, .ref qo), (4, .int (nI (4 * j)))] → gH D h qm qr g qb qg qw qo cA cL s u H locs → W p l e room_1 s m #[Value.ref b] below meth c H locs cells slots Q (F0 m 624 ls []))
    {ls : Array Slot} {H : Heap} {locs : List Loc} {cells slots : Nat} {u : GS} (hc : cells ≤ 8 + j) (hs : slots ≤ 5434 + 6 * j) (hr : Rel u.1 u.2.1) (hl : lv_has ls 7 [(0, .ref b), (1, .ref h), (2, .ref g), (3, .ref qo), (4, .int (nI (4 * j)))]) (hw : gH D h qm qr g qb qg qw qo cA cL s u H locs) : W p l e room_1 s m #[Value.ref b] below meth c H locs cells slots Q (F0 m 227 ls []) := by
  have hx := C.1
  have hb := C.2.1
  have hbA : ¬ gN s.heap.size b := Nat.not_le.mpr hbl
  refine lv_aload_n hx hb dL_law_227 rfl (lv_at hl 1 rfl) ?_
  refine lv_aload_n hx hb dL_law_228 rfl (lv_at hl 0 rfl) ?_
  refine lv_iload hx hb dL_law_229 (lv_at hl 4 rfl) ?_
  refine lv_iconst (v := 1) hx hb dL_law_231 (by decide) ?_
  refine lv_iadd hx hb dL_law_232 ?_
  refine va_sld hx hb hX hbl hbA hw.2.2.1 (law_in1 hL hj) dL_law_233 ?_
  refine lv_aload_n hx hb dL_law_234 rfl (lv_at hl 0 rfl) ?_
  refine lv_iload hx hb dL_law_235 (lv_at hl 4 rfl) ?_
  refine lv_iconst (v := 2) hx hb dL_law_237 (by decide) ?_
  refine lv_iadd hx hb dL_law_238 ?_
  refine va_sld hx hb hX hbl hbA hw.2.2.1 (law_in2 hL hj) dL_law_239 ?_
  refine lv_aload_n hx hb dL_law_240 rfl (lv_at hl 0 rfl) ?_
  refine lv_iload hx hb dL_law_241 (lv_at hl 4 rfl) ?_
  refine lv_iconst (v := 3) hx hb dL_law_243 (by decide) ?_
  refine lv_iadd hx hb dL_law_244 ?_
  refine va_sld hx hb hX hbl hbA hw.2.2.1 (law_in3 hL hj) dL_law_245 ?_
  refine lv_aload_n hx hb dL_law_246 rfl (lv_at hl 3 rfl) ?_
  refine g_calliL C (cL_set l D h qm qr qo cA cL hst (u.1, u.2.2) (xs (nI (4 * j) + 1).toNatClampNeg) (xs (nI (4 * j) + 2).toNatClampNeg) (xs (nI (4 * j) + 3).toNatClampNeg)) (qG_set C.2.2.2.2 ⟨Nat.le_of_ble_eq_true rfl, Nat.le_of_ble_eq_true rfl⟩) hw hzn rfl hl.1 rfl (Nat.le_of_ble_eq_true rfl) dL_law_247 ⟨by show cells + 1 ≤ 1040; omega, by show slots + 6 ≤ 13674; omega⟩ (fun H locs hw => ?_)
  have hF := P.2.2.2.2.2.2.1 u.1 u.2.1 (xs (nI (4 * j) + 1).toNatClampNeg) (xs (nI (4 * j) + 2).toNatClampNeg) (xs (nI (4 * j) + 3).toNatClampNeg) hr
  rcases hK : kX_set u.1 (xs (nI (4 * j) + 1).toNatClampNeg) (xs (nI (4 * j) + 2).toNatClampNeg) (xs (nI (4 * j) + 3).toNatClampNeg) with _ | ⟨r, σ⟩
  · rw [show kX_set (u.1, u.2.2).1 (xs (nI (4 * j) + 1).toNatClampNeg) (xs (nI (4 * j) + 2).toNatClampNeg) (xs (nI (4 * j) + 3).toNatClampNeg) = none from hK] at hw
    rw [hK] at hF
    have hw : gH D h qm qr g qb qg qw qo cA cL s (u.1, u.2.1, u.2.2) H locs := hw
    refine lv_istore (x := 1) (lv' := [(5, .int 1), (0, .ref b), (1, .ref h), (2, .ref g), (3, .ref qo), (4, .int (nI (4 * j)))]) hx hb dL_law_250 hl (by decide) rfl (fun ls hl => ?_)
    refine lv_aload_n hx hb dL_law_252 rfl (lv_at hl 3 rfl) ?_
    refine lv_aload_n hx hb dL_law_253 rfl (lv_at hl 1 rfl) ?_
    refine lv_iload hx hb dL_law_254 (lv_at hl 5 rfl) ?_
    refine lv_iconst (v := 1) hx hb dL_law_256 (by decide) ?_
    refine lv_iadd hx hb dL_law_257 ?_
    refine va_sld hx hb hX hbl hbA hw.2.2.1 (law_in1 hL hj) dL_law_258 ?_
    refine lv_aload_n hx hb dL_law_259 rfl (lv_at hl 1 rfl) ?_
    refine lv_iload hx hb dL_law_260 (lv_at hl 5 rfl) ?_
    refine lv_iconst (v := 2) hx hb dL_law_262 (by decide) ?_
    refine lv_iadd hx hb dL_law_263 ?_
    refine va_sld hx hb hX hbl hbA hw.2.2.1 (law_in2 hL hj) dL_law_264 ?_
    refine lv_aload_n hx hb dL_law_265 rfl (lv_at hl 1 rfl) ?_
    refine lv_iload hx hb dL_law_266 (lv_at hl 5 rfl) ?_
    refine lv_iconst (v := 3) hx hb dL_law_268 (by decide) ?_
    refine lv_iadd hx hb dL_law_269 ?_
    refine va_sld hx hb hX hbl hbA hw.2.2.1 (law_in3 hL hj) dL_law_270 ?_
    refine g_calliM (u := (u.1, u.2.1, u.2.2)) (cells := cells + 1) (slots := slots + 6) C (cM_set l D g qb qg qw cA u.2.1 (xs (nI (4 * j) + 1).toNatClampNeg) (xs (nI (4 * j) + 2).toNatClampNeg) (xs (nI (4 * j) + 3).toNatClampNeg)) (qGM_set C.2.2.2.2 ⟨Nat.le_of_ble_eq_true rfl, Nat.le_of_ble_eq_true rfl⟩) hw rfl hl.1 rfl (Nat.le_of_ble_eq_true rfl) dL_law_271 ⟨by show cells + 1 ≤ 1040; omega, by show slots + 6 ≤ 13674; omega⟩ (fun H locs hw => ?_)
    refine lv_istore (lv' := [(6, .int (kM_set u.2.1 (xs (nI (4 * j) + 1).toNatClampNeg) (xs (nI (4 * j) + 2).toNatClampNeg) (xs (nI (4 * j) + 3).toNatClampNeg)).1), (5, .int 1), (0, .ref b), (1, .ref h), (2, .ref g), (3, .ref qo), (4, .int (nI (4 * j)))]) hx hb dL_law_274 hl (by decide) rfl (fun ls hl => ?_)
    refine lv_aload_n hx hb dL_law_276 rfl (lv_at hl 4 rfl) ?_
    refine g_calliM (u := (u.1, (kM_set u.2.1 (xs (nI (4 * j) + 1).toNatClampNeg) (xs (nI (4 * j) + 2).toNatClampNeg) (xs (nI (4 * j) + 3).toNatClampNeg)).2, u.2.2)) (cells := cells + 1) (slots := slots + 6) C (cM_thrown l D g qb qg qw cA (kM_set u.2.1 (xs (nI (4 * j) + 1).toNatClampNeg) (xs (nI (4 * j) + 2).toNatClampNeg) (xs (nI (4 * j) + 3).toNatClampNeg)).2) (qGM_thrown C.2.2.2.2 ⟨Nat.le_of_ble_eq_true rfl, Nat.le_of_ble_eq_true rfl⟩) hw rfl hl.1 rfl (Nat.le_of_ble_eq_true rfl) dL_law_277 ⟨by show cells + 1 ≤ 1040; omega, by show slots + 6 ≤ 13674; omega⟩ (fun H locs hw => ?_)
    refine lv_iload hx hb dL_law_280 (lv_at hl 1 rfl) ?_
    refine lv_icmp_eq (tgt := 287) hx hb dL_law_282 (by decide) (fun _ => ?_) (fun hn => absurd (show kM_thrown (kM_set u.2.1 (xs (nI (4 * j) + 1).toNatClampNeg) (xs (nI (4 * j) + 2).toNatClampNeg) (xs (nI (4 * j) + 3).toNatClampNeg)).2 = 1 from hF.1) hn)
    refine lv_iload hx hb dL_law_287 (lv_at hl 1 rfl) ?_
    refine lv_if_ne (tgt := 304) hx hb dL_law_289 (by decide) (fun _ => ?_) (fun hn => absurd hn (by decide))
    refine lv_goto (tgt := 624) hx hb dL_law_304 (by decide) ?_
    exact cont _ _ _ _ _ (u.1, (kM_set u.2.1 (xs (nI (4 * j) + 1).toNatClampNeg) (xs (nI (4 * j) + 2).toNatClampNeg) (xs (nI (4 * j) + 3).toNatClampNeg)).2, u.2.2) (by omega) (by omega) hF.2 (lv_sub hl [2, 3, 4, 5, 6] rfl) hw
  · rw [show kX_set (u.1, u.2.2).1 (xs (nI (4 * j) + 1).toNatClampNeg) (xs (nI (4 * j) + 2).toNatClampNeg) (xs (nI (4 * j) + 3).toNatClampNeg) = some (r, σ) from hK] at hw
    rw [hK] at hF
    have hw : gH D h qm qr g qb qg qw qo cA cL s (σ, u.2.1, (vp_updL u.2.2 0 r.toInt64)) H locs := hw
    refine lv_istore (x := 0) (lv' := [(5, .int 0), (0, .ref b), (1, .ref h), (2, .ref g), (3, .ref qo), (4, .int (nI (4 * j)))]) hx hb dL_law_250 hl (by decide) rfl (fun ls hl => ?_)
    refine lv_aload_n hx hb dL_law_252 rfl (lv_at hl 3 rfl) ?_
    refine lv_aload_n hx hb dL_law_253 rfl (lv_at hl 1 rfl) ?_
    refine lv_iload hx hb dL_law_254 (lv_at hl 5 rfl) ?_
    refine lv_iconst (v := 1) hx hb dL_law_256 (by decide) ?_
    refine lv_iadd hx hb dL_law_257 ?_
    refine va_sld hx hb hX hbl hbA hw.2.2.1 (law_in1 hL hj) dL_law_258 ?_
    refine lv_aload_n hx hb dL_law_259 rfl (lv_at hl 1 rfl) ?_
    refine lv_iload hx hb dL_law_260 (lv_at hl 5 rfl) ?_
    refine lv_iconst (v := 2) hx hb dL_law_262 (by decide) ?_
    refine lv_iadd hx hb dL_law_263 ?_
    refine va_sld hx hb hX hbl hbA hw.2.2.1 (law_in2 hL hj) dL_law_264 ?_
    refine lv_aload_n hx hb dL_law_265 rfl (lv_at hl 1 rfl) ?_
    refine lv_iload hx hb dL_law_266 (lv_at hl 5 rfl) ?_
    refine lv_iconst (v := 3) hx hb dL_law_268 (by decide) ?_
    refine lv_iadd hx hb dL_law_269 ?_
    refine va_sld hx hb hX hbl hbA hw.2.2.1 (law_in3 hL hj) dL_law_270 ?_
    refine g_calliM (u := (σ, u.2.1, (vp_updL u.2.2 0 r.toInt64))) (cells := cells + 1) (slots := slots + 6) C (cM_set l D g qb qg qw cA u.2.1 (xs (nI (4 * j) + 1).toNatClampNeg) (xs (nI (4 * j) + 2).toNatClampNeg) (xs (nI (4 * j) + 3).toNatClampNeg)) (qGM_set C.2.2.2.2 ⟨Nat.le_of_ble_eq_true rfl, Nat.le_of_ble_eq_true rfl⟩) hw rfl hl.1 rfl (Nat.le_of_ble_eq_true rfl) dL_law_271 ⟨by show cells + 1 ≤ 1040; omega, by show slots + 6 ≤ 13674; omega⟩ (fun H locs hw => ?_)
    refine lv_istore (lv' := [(6, .int (kM_set u.2.1 (xs (nI (4 * j) + 1).toNatClampNeg) (xs (nI (4 * j) + 2).toNatClampNeg) (xs (nI (4 * j) + 3).toNatClampNeg)).1), (5, .int 0), (0, .ref b), (1, .ref h), (2, .ref g), (3, .ref qo), (4, .int (nI (4 * j)))]) hx hb dL_law_274 hl (by decide) rfl (fun ls hl => ?_)
    refine lv_aload_n hx hb dL_law_276 rfl (lv_at hl 4 rfl) ?_
    refine g_calliM (u := (σ, (kM_set u.2.1 (xs (nI (4 * j) + 1).toNatClampNeg) (xs (nI (4 * j) + 2).toNatClampNeg) (xs (nI (4 * j) + 3).toNatClampNeg)).2, (vp_updL u.2.2 0 r.toInt64))) (cells := cells + 1) (slots := slots + 6) C (cM_thrown l D g qb qg qw cA (kM_set u.2.1 (xs (nI (4 * j) + 1).toNatClampNeg) (xs (nI (4 * j) + 2).toNatClampNeg) (xs (nI (4 * j) + 3).toNatClampNeg)).2) (qGM_thrown C.2.2.2.2 ⟨Nat.le_of_ble_eq_true rfl, Nat.le_of_ble_eq_true rfl⟩) hw rfl hl.1 rfl (Nat.le_of_ble_eq_true rfl) dL_law_277 ⟨by show cells + 1 ≤ 1040; omega, by show slots + 6 ≤ 13674; omega⟩ (fun H locs hw => ?_)
    refine lv_iload hx hb dL_law_280 (lv_at hl 1 rfl) ?_
    refine lv_icmp_eq (tgt := 287) hx hb dL_law_282 (by decide) (fun _ => ?_) (fun hn => absurd (show kM_thrown (kM_set u.2.1 (xs (nI (4 * j) + 1).toNatClampNeg) (xs (nI (4 * j) + 2).toNatClampNeg) (xs (nI (4 * j) + 3).toNatClampNeg)).2 = 0 from hF.1) hn)
    refine lv_iload hx hb dL_law_287 (lv_at hl 1 rfl) ?_
    refine lv_if_ne (tgt := 304) hx hb dL_law_289 (by decide) (fun hn => absurd rfl hn) (fun _ => ?_)
    refine lv_aload_n hx hb dL_law_292 rfl (lv_at hl 5 rfl) ?_
    refine lv_iconst (v := 0) hx hb dL_law_293 (by decide) ?_
    refine va_lald hx hb hw.2.2.2 hw.1 7 1 rfl rfl (by unfold vp_in; decide) dL_law_294 ?_
    refine lv_iload hx hb dL_law_295 (lv_at hl 0 rfl) ?_
    refine lv_i2l (v := (kM_set u.2.1 (xs (nI (4 * j) + 1).toNatClampNeg) (xs (nI (4 * j) + 2).toNatClampNeg) (xs (nI (4 * j) + 3).toNatClampNeg)).1.toInt64) hx hb dL_law_297 rfl ?_
    refine W.lcmp hx hb dL_law_298 ?_
    refine lv_if_eq (tgt := 304) hx hb dL_law_299 (by decide) (fun _ => ?_) (fun hn => absurd ((lg_cmp_eq _ _).mpr (by show vp_updL u.2.2 0 r.toInt64 0 = _; rw [pk_uLs, hF.2.1])) hn)
    refine lv_goto (tgt := 624) hx hb dL_law_304 (by decide) ?_
    exact cont _ _ _ _ _ (σ, (kM_set u.2.1 (xs (nI (4 * j) + 1).toNatClampNeg) (xs (nI (4 * j) + 2).toNatClampNeg) (xs (nI (4 * j) + 3).toNatClampNeg)).2, (vp_updL u.2.2 0 r.toInt64)) (by omega) (by omega) hF.2.2 (lv_sub hl [2, 3, 4, 5, 6] rfl) hw
set_option maxRecDepth 100000 in
set_option maxHeartbeats 4000000 in
theorem law_register {Rel : XS → MS → Prop} (P : Pure Rel) {p : Program} {e : Env} {s : State} {m : MethodId} {below : List Frame} {meth : Method} {c : Code} (l : Launch) (hst : l.stackTraces = false) {b L : Nat} {xs : Nat → Int32} (hL : L ≤ 2048) (C : CallFix p m c bL_law 7 s #[Value.ref b] wAll RL) (hX : va_X b L xs s s.heap) (hbl : b < s.heap.size) (hzn : tz nsE (gN s.heap.size) s s.heap) (hzi : tz iaE (gN s.heap.size) s s.heap) (D : va_G) (h qm qr g qb qg qw qo : Nat) (cA cL : ClassId) {Q : State → Prop} {j : Nat} (hj : 4 * j + 4 ≤ L)
    (cont : ∀ (ls : Array Slot) (H : Heap) (locs : List Loc) (cells slots : Nat) (u : GS), cells ≤ 8 + (j + 1) → slots ≤ 5434 + 6 * (j + 1) → Rel u.1 u.2.1 → lv_has ls 7 [(0, .ref b), (1, .ref h), (2, .ref g), (3, .ref qo), (4, .int (nI (4 * j)))] → gH D h qm qr g qb qg qw qo cA cL s u H locs → W p l e room_1 s m #[Value.ref b] below meth c H locs cells slots Q (F0 m 624 ls []))
    {ls : Array Slot} {H : Heap} {locs : List Loc} {cells slots : Nat} {u : GS} (hc : cells ≤ 8 + j) (hs : slots ≤ 5434 + 6 * j) (hr : Rel u.1 u.2.1) (hl : lv_has ls 7 [(0, .ref b), (1, .ref h), (2, .ref g), (3, .ref qo), (4, .int (nI (4 * j)))]) (hw : gH D h qm qr g qb qg qw qo cA cL s u H locs) : W p l e room_1 s m #[Value.ref b] below meth c H locs cells slots Q (F0 m 307 ls []) := by
  have hx := C.1
  have hb := C.2.1
  have hbA : ¬ gN s.heap.size b := Nat.not_le.mpr hbl
  refine lv_aload_n hx hb dL_law_307 rfl (lv_at hl 1 rfl) ?_
  refine lv_aload_n hx hb dL_law_308 rfl (lv_at hl 0 rfl) ?_
  refine lv_iload hx hb dL_law_309 (lv_at hl 4 rfl) ?_
  refine lv_iconst (v := 1) hx hb dL_law_311 (by decide) ?_
  refine lv_iadd hx hb dL_law_312 ?_
  refine va_sld hx hb hX hbl hbA hw.2.2.1 (law_in1 hL hj) dL_law_313 ?_
  refine lv_aload_n hx hb dL_law_314 rfl (lv_at hl 0 rfl) ?_
  refine lv_iload hx hb dL_law_315 (lv_at hl 4 rfl) ?_
  refine lv_iconst (v := 2) hx hb dL_law_317 (by decide) ?_
  refine lv_iadd hx hb dL_law_318 ?_
  refine va_sld hx hb hX hbl hbA hw.2.2.1 (law_in2 hL hj) dL_law_319 ?_
  refine lv_aload_n hx hb dL_law_320 rfl (lv_at hl 3 rfl) ?_
  refine g_calliL C (cL_register l D h qm qr qo cA cL hst (u.1, u.2.2) (xs (nI (4 * j) + 1).toNatClampNeg) (xs (nI (4 * j) + 2).toNatClampNeg)) (qG_register C.2.2.2.2 ⟨Nat.le_of_ble_eq_true rfl, Nat.le_of_ble_eq_true rfl⟩) hw hzn rfl hl.1 rfl (Nat.le_of_ble_eq_true rfl) dL_law_321 ⟨by show cells + 1 ≤ 1040; omega, by show slots + 6 ≤ 13674; omega⟩ (fun H locs hw => ?_)
  have hF := P.2.2.2.2.2.2.2.1 u.1 u.2.1 (xs (nI (4 * j) + 1).toNatClampNeg) (xs (nI (4 * j) + 2).toNatClampNeg) hr
  rcases hK : kX_register u.1 (xs (nI (4 * j) + 1).toNatClampNeg) (xs (nI (4 * j) + 2).toNatClampNeg) with _ | ⟨r, σ⟩
  · rw [show kX_register (u.1, u.2.2).1 (xs (nI (4 * j) + 1).toNatClampNeg) (xs (nI (4 * j) + 2).toNatClampNeg) = none from hK] at hw
    rw [hK] at hF
    have hw : gH D h qm qr g qb qg qw qo cA cL s (u.1, u.2.1, u.2.2) H locs := hw
    refine lv_istore (x := 1) (lv' := [(5, .int 1), (0, .ref b), (1, .ref h), (2, .ref g), (3, .ref qo), (4, .int (nI (4 * j)))]) hx hb dL_law_324 hl (by decide) rfl (fun ls hl => ?_)
    refine lv_aload_n hx hb dL_law_326 rfl (lv_at hl 3 rfl) ?_
    refine lv_aload_n hx hb dL_law_327 rfl (lv_at hl 1 rfl) ?_
    refine lv_iload hx hb dL_law_328 (lv_at hl 5 rfl) ?_
    refine lv_iconst (v := 1) hx hb dL_law_330 (by decide) ?_
    refine lv_iadd hx hb dL_law_331 ?_
    refine va_sld hx hb hX hbl hbA hw.2.2.1 (law_in1 hL hj) dL_law_332 ?_
    refine lv_aload_n hx hb dL_law_333 rfl (lv_at hl 1 rfl) ?_
    refine lv_iload hx hb dL_law_334 (lv_at hl 5 rfl) ?_
    refine lv_iconst (v := 2) hx hb dL_law_336 (by decide) ?_
    refine lv_iadd hx hb dL_law_337 ?_
    refine va_sld hx hb hX hbl hbA hw.2.2.1 (law_in2 hL hj) dL_law_338 ?_
    refine g_calliM (u := (u.1, u.2.1, u.2.2)) (cells := cells + 1) (slots := slots + 6) C (cM_register l D g qb qg qw cA u.2.1 (xs (nI (4 * j) + 1).toNatClampNeg) (xs (nI (4 * j) + 2).toNatClampNeg)) (qGM_register C.2.2.2.2 ⟨Nat.le_of_ble_eq_true rfl, Nat.le_of_ble_eq_true rfl⟩) hw rfl hl.1 rfl (Nat.le_of_ble_eq_true rfl) dL_law_339 ⟨by show cells + 1 ≤ 1040; omega, by show slots + 6 ≤ 13674; omega⟩ (fun H locs hw => ?_)
    refine lv_istore (lv' := [(6, .int (kM_register u.2.1 (xs (nI (4 * j) + 1).toNatClampNeg) (xs (nI (4 * j) + 2).toNatClampNeg)).1), (5, .int 1), (0, .ref b), (1, .ref h), (2, .ref g), (3, .ref qo), (4, .int (nI (4 * j)))]) hx hb dL_law_342 hl (by decide) rfl (fun ls hl => ?_)
    refine lv_aload_n hx hb dL_law_344 rfl (lv_at hl 4 rfl) ?_
    refine g_calliM (u := (u.1, (kM_register u.2.1 (xs (nI (4 * j) + 1).toNatClampNeg) (xs (nI (4 * j) + 2).toNatClampNeg)).2, u.2.2)) (cells := cells + 1) (slots := slots + 6) C (cM_thrown l D g qb qg qw cA (kM_register u.2.1 (xs (nI (4 * j) + 1).toNatClampNeg) (xs (nI (4 * j) + 2).toNatClampNeg)).2) (qGM_thrown C.2.2.2.2 ⟨Nat.le_of_ble_eq_true rfl, Nat.le_of_ble_eq_true rfl⟩) hw rfl hl.1 rfl (Nat.le_of_ble_eq_true rfl) dL_law_345 ⟨by show cells + 1 ≤ 1040; omega, by show slots + 6 ≤ 13674; omega⟩ (fun H locs hw => ?_)
    refine lv_iload hx hb dL_law_348 (lv_at hl 1 rfl) ?_
    refine lv_icmp_eq (tgt := 355) hx hb dL_law_350 (by decide) (fun _ => ?_) (fun hn => absurd (show kM_thrown (kM_register u.2.1 (xs (nI (4 * j) + 1).toNatClampNeg) (xs (nI (4 * j) + 2).toNatClampNeg)).2 = 1 from hF.1) hn)
    refine lv_iload hx hb dL_law_355 (lv_at hl 1 rfl) ?_
    refine lv_if_ne (tgt := 372) hx hb dL_law_357 (by decide) (fun _ => ?_) (fun hn => absurd hn (by decide))
    refine lv_goto (tgt := 624) hx hb dL_law_372 (by decide) ?_
    exact cont _ _ _ _ _ (u.1, (kM_register u.2.1 (xs (nI (4 * j) + 1).toNatClampNeg) (xs (nI (4 * j) + 2).toNatClampNeg)).2, u.2.2) (by omega) (by omega) hF.2 (lv_sub hl [2, 3, 4, 5, 6] rfl) hw
  · rw [show kX_register (u.1, u.2.2).1 (xs (nI (4 * j) + 1).toNatClampNeg) (xs (nI (4 * j) + 2).toNatClampNeg) = some (r, σ) from hK] at hw
    rw [hK] at hF
    have hw : gH D h qm qr g qb qg qw qo cA cL s (σ, u.2.1, (vp_updL u.2.2 0 r.toInt64)) H locs := hw
    refine lv_istore (x := 0) (lv' := [(5, .int 0), (0, .ref b), (1, .ref h), (2, .ref g), (3, .ref qo), (4, .int (nI (4 * j)))]) hx hb dL_law_324 hl (by decide) rfl (fun ls hl => ?_)
    refine lv_aload_n hx hb dL_law_326 rfl (lv_at hl 3 rfl) ?_
    refine lv_aload_n hx hb dL_law_327 rfl (lv_at hl 1 rfl) ?_
    refine lv_iload hx hb dL_law_328 (lv_at hl 5 rfl) ?_
    refine lv_iconst (v := 1) hx hb dL_law_330 (by decide) ?_
    refine lv_iadd hx hb dL_law_331 ?_
    refine va_sld hx hb hX hbl hbA hw.2.2.1 (law_in1 hL hj) dL_law_332 ?_
    refine lv_aload_n hx hb dL_law_333 rfl (lv_at hl 1 rfl) ?_
    refine lv_iload hx hb dL_law_334 (lv_at hl 5 rfl) ?_
    refine lv_iconst (v := 2) hx hb dL_law_336 (by decide) ?_
    refine lv_iadd hx hb dL_law_337 ?_
    refine va_sld hx hb hX hbl hbA hw.2.2.1 (law_in2 hL hj) dL_law_338 ?_
    refine g_calliM (u := (σ, u.2.1, (vp_updL u.2.2 0 r.toInt64))) (cells := cells + 1) (slots := slots + 6) C (cM_register l D g qb qg qw cA u.2.1 (xs (nI (4 * j) + 1).toNatClampNeg) (xs (nI (4 * j) + 2).toNatClampNeg)) (qGM_register C.2.2.2.2 ⟨Nat.le_of_ble_eq_true rfl, Nat.le_of_ble_eq_true rfl⟩) hw rfl hl.1 rfl (Nat.le_of_ble_eq_true rfl) dL_law_339 ⟨by show cells + 1 ≤ 1040; omega, by show slots + 6 ≤ 13674; omega⟩ (fun H locs hw => ?_)
    refine lv_istore (lv' := [(6, .int (kM_register u.2.1 (xs (nI (4 * j) + 1).toNatClampNeg) (xs (nI (4 * j) + 2).toNatClampNeg)).1), (5, .int 0), (0, .ref b), (1, .ref h), (2, .ref g), (3, .ref qo), (4, .int (nI (4 * j)))]) hx hb dL_law_342 hl (by decide) rfl (fun ls hl => ?_)
    refine lv_aload_n hx hb dL_law_344 rfl (lv_at hl 4 rfl) ?_
    refine g_calliM (u := (σ, (kM_register u.2.1 (xs (nI (4 * j) + 1).toNatClampNeg) (xs (nI (4 * j) + 2).toNatClampNeg)).2, (vp_updL u.2.2 0 r.toInt64))) (cells := cells + 1) (slots := slots + 6) C (cM_thrown l D g qb qg qw cA (kM_register u.2.1 (xs (nI (4 * j) + 1).toNatClampNeg) (xs (nI (4 * j) + 2).toNatClampNeg)).2) (qGM_thrown C.2.2.2.2 ⟨Nat.le_of_ble_eq_true rfl, Nat.le_of_ble_eq_true rfl⟩) hw rfl hl.1 rfl (Nat.le_of_ble_eq_true rfl) dL_law_345 ⟨by show cells + 1 ≤ 1040; omega, by show slots + 6 ≤ 13674; omega⟩ (fun H locs hw => ?_)
    refine lv_iload hx hb dL_law_348 (lv_at hl 1 rfl) ?_
    refine lv_icmp_eq (tgt := 355) hx hb dL_law_350 (by decide) (fun _ => ?_) (fun hn => absurd (show kM_thrown (kM_register u.2.1 (xs (nI (4 * j) + 1).toNatClampNeg) (xs (nI (4 * j) + 2).toNatClampNeg)).2 = 0 from hF.1) hn)
    refine lv_iload hx hb dL_law_355 (lv_at hl 1 rfl) ?_
    refine lv_if_ne (tgt := 372) hx hb dL_law_357 (by decide) (fun hn => absurd rfl hn) (fun _ => ?_)
    refine lv_aload_n hx hb dL_law_360 rfl (lv_at hl 5 rfl) ?_
    refine lv_iconst (v := 0) hx hb dL_law_361 (by decide) ?_
    refine va_lald hx hb hw.2.2.2 hw.1 7 1 rfl rfl (by unfold vp_in; decide) dL_law_362 ?_
    refine lv_iload hx hb dL_law_363 (lv_at hl 0 rfl) ?_
    refine lv_i2l (v := (kM_register u.2.1 (xs (nI (4 * j) + 1).toNatClampNeg) (xs (nI (4 * j) + 2).toNatClampNeg)).1.toInt64) hx hb dL_law_365 rfl ?_
    refine W.lcmp hx hb dL_law_366 ?_
    refine lv_if_eq (tgt := 372) hx hb dL_law_367 (by decide) (fun _ => ?_) (fun hn => absurd ((lg_cmp_eq _ _).mpr (by show vp_updL u.2.2 0 r.toInt64 0 = _; rw [pk_uLs, hF.2.1])) hn)
    refine lv_goto (tgt := 624) hx hb dL_law_372 (by decide) ?_
    exact cont _ _ _ _ _ (σ, (kM_register u.2.1 (xs (nI (4 * j) + 1).toNatClampNeg) (xs (nI (4 * j) + 2).toNatClampNeg)).2, (vp_updL u.2.2 0 r.toInt64)) (by omega) (by omega) hF.2.2 (lv_sub hl [2, 3, 4, 5, 6] rfl) hw
set_option maxRecDepth 100000 in
set_option maxHeartbeats 4000000 in
theorem law_control {Rel : XS → MS → Prop} (P : Pure Rel) {p : Program} {e : Env} {s : State} {m : MethodId} {below : List Frame} {meth : Method} {c : Code} (l : Launch) (hst : l.stackTraces = false) {b L : Nat} {xs : Nat → Int32} (hL : L ≤ 2048) (C : CallFix p m c bL_law 7 s #[Value.ref b] wAll RL) (hX : va_X b L xs s s.heap) (hbl : b < s.heap.size) (hzn : tz nsE (gN s.heap.size) s s.heap) (hzi : tz iaE (gN s.heap.size) s s.heap) (D : va_G) (h qm qr g qb qg qw qo : Nat) (cA cL : ClassId) {Q : State → Prop} {j : Nat} (hj : 4 * j + 4 ≤ L)
    (cont : ∀ (ls : Array Slot) (H : Heap) (locs : List Loc) (cells slots : Nat) (u : GS), cells ≤ 8 + (j + 1) → slots ≤ 5434 + 6 * (j + 1) → Rel u.1 u.2.1 → lv_has ls 7 [(0, .ref b), (1, .ref h), (2, .ref g), (3, .ref qo), (4, .int (nI (4 * j)))] → gH D h qm qr g qb qg qw qo cA cL s u H locs → W p l e room_1 s m #[Value.ref b] below meth c H locs cells slots Q (F0 m 624 ls []))
    {ls : Array Slot} {H : Heap} {locs : List Loc} {cells slots : Nat} {u : GS} (hc : cells ≤ 8 + j) (hs : slots ≤ 5434 + 6 * j) (hr : Rel u.1 u.2.1) (hl : lv_has ls 7 [(0, .ref b), (1, .ref h), (2, .ref g), (3, .ref qo), (4, .int (nI (4 * j)))]) (hw : gH D h qm qr g qb qg qw qo cA cL s u H locs) : W p l e room_1 s m #[Value.ref b] below meth c H locs cells slots Q (F0 m 375 ls []) := by
  have hx := C.1
  have hb := C.2.1
  have hbA : ¬ gN s.heap.size b := Nat.not_le.mpr hbl
  refine lv_aload_n hx hb dL_law_375 rfl (lv_at hl 1 rfl) ?_
  refine lv_aload_n hx hb dL_law_376 rfl (lv_at hl 0 rfl) ?_
  refine lv_iload hx hb dL_law_377 (lv_at hl 4 rfl) ?_
  refine lv_iconst (v := 1) hx hb dL_law_379 (by decide) ?_
  refine lv_iadd hx hb dL_law_380 ?_
  refine va_sld hx hb hX hbl hbA hw.2.2.1 (law_in1 hL hj) dL_law_381 ?_
  refine lv_aload_n hx hb dL_law_382 rfl (lv_at hl 0 rfl) ?_
  refine lv_iload hx hb dL_law_383 (lv_at hl 4 rfl) ?_
  refine lv_iconst (v := 2) hx hb dL_law_385 (by decide) ?_
  refine lv_iadd hx hb dL_law_386 ?_
  refine va_sld hx hb hX hbl hbA hw.2.2.1 (law_in2 hL hj) dL_law_387 ?_
  refine lv_aload_n hx hb dL_law_388 rfl (lv_at hl 3 rfl) ?_
  refine g_calliL C (cL_control l D h qm qr qo cA cL hst (u.1, u.2.2) (xs (nI (4 * j) + 1).toNatClampNeg) (xs (nI (4 * j) + 2).toNatClampNeg)) (qG_control C.2.2.2.2 ⟨Nat.le_of_ble_eq_true rfl, Nat.le_of_ble_eq_true rfl⟩) hw hzn rfl hl.1 rfl (Nat.le_of_ble_eq_true rfl) dL_law_389 ⟨by show cells + 1 ≤ 1040; omega, by show slots + 6 ≤ 13674; omega⟩ (fun H locs hw => ?_)
  have hF := P.2.2.2.2.2.2.2.2.1 u.1 u.2.1 (xs (nI (4 * j) + 1).toNatClampNeg) (xs (nI (4 * j) + 2).toNatClampNeg) hr
  rcases hK : kX_control u.1 (xs (nI (4 * j) + 1).toNatClampNeg) (xs (nI (4 * j) + 2).toNatClampNeg) with _ | ⟨r, σ⟩
  · rw [show kX_control (u.1, u.2.2).1 (xs (nI (4 * j) + 1).toNatClampNeg) (xs (nI (4 * j) + 2).toNatClampNeg) = none from hK] at hw
    rw [hK] at hF
    have hw : gH D h qm qr g qb qg qw qo cA cL s (u.1, u.2.1, u.2.2) H locs := hw
    refine lv_istore (x := 1) (lv' := [(5, .int 1), (0, .ref b), (1, .ref h), (2, .ref g), (3, .ref qo), (4, .int (nI (4 * j)))]) hx hb dL_law_392 hl (by decide) rfl (fun ls hl => ?_)
    refine lv_aload_n hx hb dL_law_394 rfl (lv_at hl 3 rfl) ?_
    refine lv_aload_n hx hb dL_law_395 rfl (lv_at hl 1 rfl) ?_
    refine lv_iload hx hb dL_law_396 (lv_at hl 5 rfl) ?_
    refine lv_iconst (v := 1) hx hb dL_law_398 (by decide) ?_
    refine lv_iadd hx hb dL_law_399 ?_
    refine va_sld hx hb hX hbl hbA hw.2.2.1 (law_in1 hL hj) dL_law_400 ?_
    refine lv_aload_n hx hb dL_law_401 rfl (lv_at hl 1 rfl) ?_
    refine lv_iload hx hb dL_law_402 (lv_at hl 5 rfl) ?_
    refine lv_iconst (v := 2) hx hb dL_law_404 (by decide) ?_
    refine lv_iadd hx hb dL_law_405 ?_
    refine va_sld hx hb hX hbl hbA hw.2.2.1 (law_in2 hL hj) dL_law_406 ?_
    refine g_calliM (u := (u.1, u.2.1, u.2.2)) (cells := cells + 1) (slots := slots + 6) C (cM_control l D g qb qg qw cA u.2.1 (xs (nI (4 * j) + 1).toNatClampNeg) (xs (nI (4 * j) + 2).toNatClampNeg)) (qGM_control C.2.2.2.2 ⟨Nat.le_of_ble_eq_true rfl, Nat.le_of_ble_eq_true rfl⟩) hw rfl hl.1 rfl (Nat.le_of_ble_eq_true rfl) dL_law_407 ⟨by show cells + 1 ≤ 1040; omega, by show slots + 6 ≤ 13674; omega⟩ (fun H locs hw => ?_)
    refine lv_istore (lv' := [(6, .int (kM_control u.2.1 (xs (nI (4 * j) + 1).toNatClampNeg) (xs (nI (4 * j) + 2).toNatClampNeg)).1), (5, .int 1), (0, .ref b), (1, .ref h), (2, .ref g), (3, .ref qo), (4, .int (nI (4 * j)))]) hx hb dL_law_410 hl (by decide) rfl (fun ls hl => ?_)
    refine lv_aload_n hx hb dL_law_412 rfl (lv_at hl 4 rfl) ?_
    refine g_calliM (u := (u.1, (kM_control u.2.1 (xs (nI (4 * j) + 1).toNatClampNeg) (xs (nI (4 * j) + 2).toNatClampNeg)).2, u.2.2)) (cells := cells + 1) (slots := slots + 6) C (cM_thrown l D g qb qg qw cA (kM_control u.2.1 (xs (nI (4 * j) + 1).toNatClampNeg) (xs (nI (4 * j) + 2).toNatClampNeg)).2) (qGM_thrown C.2.2.2.2 ⟨Nat.le_of_ble_eq_true rfl, Nat.le_of_ble_eq_true rfl⟩) hw rfl hl.1 rfl (Nat.le_of_ble_eq_true rfl) dL_law_413 ⟨by show cells + 1 ≤ 1040; omega, by show slots + 6 ≤ 13674; omega⟩ (fun H locs hw => ?_)
    refine lv_iload hx hb dL_law_416 (lv_at hl 1 rfl) ?_
    refine lv_icmp_eq (tgt := 423) hx hb dL_law_418 (by decide) (fun _ => ?_) (fun hn => absurd (show kM_thrown (kM_control u.2.1 (xs (nI (4 * j) + 1).toNatClampNeg) (xs (nI (4 * j) + 2).toNatClampNeg)).2 = 1 from hF.1) hn)
    refine lv_iload hx hb dL_law_423 (lv_at hl 1 rfl) ?_
    refine lv_if_ne (tgt := 440) hx hb dL_law_425 (by decide) (fun _ => ?_) (fun hn => absurd hn (by decide))
    refine lv_goto (tgt := 624) hx hb dL_law_440 (by decide) ?_
    exact cont _ _ _ _ _ (u.1, (kM_control u.2.1 (xs (nI (4 * j) + 1).toNatClampNeg) (xs (nI (4 * j) + 2).toNatClampNeg)).2, u.2.2) (by omega) (by omega) hF.2 (lv_sub hl [2, 3, 4, 5, 6] rfl) hw
  · rw [show kX_control (u.1, u.2.2).1 (xs (nI (4 * j) + 1).toNatClampNeg) (xs (nI (4 * j) + 2).toNatClampNeg) = some (r, σ) from hK] at hw
    rw [hK] at hF
    have hw : gH D h qm qr g qb qg qw qo cA cL s (σ, u.2.1, (vp_updL u.2.2 0 r.toInt64)) H locs := hw
    refine lv_istore (x := 0) (lv' := [(5, .int 0), (0, .ref b), (1, .ref h), (2, .ref g), (3, .ref qo), (4, .int (nI (4 * j)))]) hx hb dL_law_392 hl (by decide) rfl (fun ls hl => ?_)
    refine lv_aload_n hx hb dL_law_394 rfl (lv_at hl 3 rfl) ?_
    refine lv_aload_n hx hb dL_law_395 rfl (lv_at hl 1 rfl) ?_
    refine lv_iload hx hb dL_law_396 (lv_at hl 5 rfl) ?_
    refine lv_iconst (v := 1) hx hb dL_law_398 (by decide) ?_
    refine lv_iadd hx hb dL_law_399 ?_
    refine va_sld hx hb hX hbl hbA hw.2.2.1 (law_in1 hL hj) dL_law_400 ?_
    refine lv_aload_n hx hb dL_law_401 rfl (lv_at hl 1 rfl) ?_
    refine lv_iload hx hb dL_law_402 (lv_at hl 5 rfl) ?_
    refine lv_iconst (v := 2) hx hb dL_law_404 (by decide) ?_
    refine lv_iadd hx hb dL_law_405 ?_
    refine va_sld hx hb hX hbl hbA hw.2.2.1 (law_in2 hL hj) dL_law_406 ?_
    refine g_calliM (u := (σ, u.2.1, (vp_updL u.2.2 0 r.toInt64))) (cells := cells + 1) (slots := slots + 6) C (cM_control l D g qb qg qw cA u.2.1 (xs (nI (4 * j) + 1).toNatClampNeg) (xs (nI (4 * j) + 2).toNatClampNeg)) (qGM_control C.2.2.2.2 ⟨Nat.le_of_ble_eq_true rfl, Nat.le_of_ble_eq_true rfl⟩) hw rfl hl.1 rfl (Nat.le_of_ble_eq_true rfl) dL_law_407 ⟨by show cells + 1 ≤ 1040; omega, by show slots + 6 ≤ 13674; omega⟩ (fun H locs hw => ?_)
    refine lv_istore (lv' := [(6, .int (kM_control u.2.1 (xs (nI (4 * j) + 1).toNatClampNeg) (xs (nI (4 * j) + 2).toNatClampNeg)).1), (5, .int 0), (0, .ref b), (1, .ref h), (2, .ref g), (3, .ref qo), (4, .int (nI (4 * j)))]) hx hb dL_law_410 hl (by decide) rfl (fun ls hl => ?_)
    refine lv_aload_n hx hb dL_law_412 rfl (lv_at hl 4 rfl) ?_
    refine g_calliM (u := (σ, (kM_control u.2.1 (xs (nI (4 * j) + 1).toNatClampNeg) (xs (nI (4 * j) + 2).toNatClampNeg)).2, (vp_updL u.2.2 0 r.toInt64))) (cells := cells + 1) (slots := slots + 6) C (cM_thrown l D g qb qg qw cA (kM_control u.2.1 (xs (nI (4 * j) + 1).toNatClampNeg) (xs (nI (4 * j) + 2).toNatClampNeg)).2) (qGM_thrown C.2.2.2.2 ⟨Nat.le_of_ble_eq_true rfl, Nat.le_of_ble_eq_true rfl⟩) hw rfl hl.1 rfl (Nat.le_of_ble_eq_true rfl) dL_law_413 ⟨by show cells + 1 ≤ 1040; omega, by show slots + 6 ≤ 13674; omega⟩ (fun H locs hw => ?_)
    refine lv_iload hx hb dL_law_416 (lv_at hl 1 rfl) ?_
    refine lv_icmp_eq (tgt := 423) hx hb dL_law_418 (by decide) (fun _ => ?_) (fun hn => absurd (show kM_thrown (kM_control u.2.1 (xs (nI (4 * j) + 1).toNatClampNeg) (xs (nI (4 * j) + 2).toNatClampNeg)).2 = 0 from hF.1) hn)
    refine lv_iload hx hb dL_law_423 (lv_at hl 1 rfl) ?_
    refine lv_if_ne (tgt := 440) hx hb dL_law_425 (by decide) (fun hn => absurd rfl hn) (fun _ => ?_)
    refine lv_aload_n hx hb dL_law_428 rfl (lv_at hl 5 rfl) ?_
    refine lv_iconst (v := 0) hx hb dL_law_429 (by decide) ?_
    refine va_lald hx hb hw.2.2.2 hw.1 7 1 rfl rfl (by unfold vp_in; decide) dL_law_430 ?_
    refine lv_iload hx hb dL_law_431 (lv_at hl 0 rfl) ?_
    refine lv_i2l (v := (kM_control u.2.1 (xs (nI (4 * j) + 1).toNatClampNeg) (xs (nI (4 * j) + 2).toNatClampNeg)).1.toInt64) hx hb dL_law_433 rfl ?_
    refine W.lcmp hx hb dL_law_434 ?_
    refine lv_if_eq (tgt := 440) hx hb dL_law_435 (by decide) (fun _ => ?_) (fun hn => absurd ((lg_cmp_eq _ _).mpr (by show vp_updL u.2.2 0 r.toInt64 0 = _; rw [pk_uLs, hF.2.1])) hn)
    refine lv_goto (tgt := 624) hx hb dL_law_440 (by decide) ?_
    exact cont _ _ _ _ _ (σ, (kM_control u.2.1 (xs (nI (4 * j) + 1).toNatClampNeg) (xs (nI (4 * j) + 2).toNatClampNeg)).2, (vp_updL u.2.2 0 r.toInt64)) (by omega) (by omega) hF.2.2 (lv_sub hl [2, 3, 4, 5, 6] rfl) hw
set_option maxRecDepth 100000 in
set_option maxHeartbeats 4000000 in
theorem law_request {Rel : XS → MS → Prop} (P : Pure Rel) {p : Program} {e : Env} {s : State} {m : MethodId} {below : List Frame} {meth : Method} {c : Code} (l : Launch) (hst : l.stackTraces = false) {b L : Nat} {xs : Nat → Int32} (hL : L ≤ 2048) (C : CallFix p m c bL_law 7 s #[Value.ref b] wAll RL) (hX : va_X b L xs s s.heap) (hbl : b < s.heap.size) (hzn : tz nsE (gN s.heap.size) s s.heap) (hzi : tz iaE (gN s.heap.size) s s.heap) (D : va_G) (h qm qr g qb qg qw qo : Nat) (cA cL : ClassId) {Q : State → Prop} {j : Nat} (hj : 4 * j + 4 ≤ L)
    (cont : ∀ (ls : Array Slot) (H : Heap) (locs : List Loc) (cells slots : Nat) (u : GS), cells ≤ 8 + (j + 1) → slots ≤ 5434 + 6 * (j + 1) → Rel u.1 u.2.1 → lv_has ls 7 [(0, .ref b), (1, .ref h), (2, .ref g), (3, .ref qo), (4, .int (nI (4 * j)))] → gH D h qm qr g qb qg qw qo cA cL s u H locs → W p l e room_1 s m #[Value.ref b] below meth c H locs cells slots Q (F0 m 624 ls []))
    {ls : Array Slot} {H : Heap} {locs : List Loc} {cells slots : Nat} {u : GS} (hc : cells ≤ 8 + j) (hs : slots ≤ 5434 + 6 * j) (hr : Rel u.1 u.2.1) (hl : lv_has ls 7 [(0, .ref b), (1, .ref h), (2, .ref g), (3, .ref qo), (4, .int (nI (4 * j)))]) (hw : gH D h qm qr g qb qg qw qo cA cL s u H locs) : W p l e room_1 s m #[Value.ref b] below meth c H locs cells slots Q (F0 m 443 ls []) := by
  have hx := C.1
  have hb := C.2.1
  have hbA : ¬ gN s.heap.size b := Nat.not_le.mpr hbl
  refine lv_aload_n hx hb dL_law_443 rfl (lv_at hl 1 rfl) ?_
  refine lv_aload_n hx hb dL_law_444 rfl (lv_at hl 0 rfl) ?_
  refine lv_iload hx hb dL_law_445 (lv_at hl 4 rfl) ?_
  refine lv_iconst (v := 1) hx hb dL_law_447 (by decide) ?_
  refine lv_iadd hx hb dL_law_448 ?_
  refine va_sld hx hb hX hbl hbA hw.2.2.1 (law_in1 hL hj) dL_law_449 ?_
  refine lv_aload_n hx hb dL_law_450 rfl (lv_at hl 3 rfl) ?_
  refine g_calliL C (cL_request l D h qm qr qo cA cL hst (u.1, u.2.2) (xs (nI (4 * j) + 1).toNatClampNeg)) (qG_request C.2.2.2.2 ⟨Nat.le_of_ble_eq_true rfl, Nat.le_of_ble_eq_true rfl⟩) hw hzi rfl hl.1 rfl (Nat.le_of_ble_eq_true rfl) dL_law_451 ⟨by show cells + 1 ≤ 1040; omega, by show slots + 6 ≤ 13674; omega⟩ (fun H locs hw => ?_)
  have hF := P.2.2.2.2.2.2.2.2.2.1 u.1 u.2.1 (xs (nI (4 * j) + 1).toNatClampNeg) hr
  rcases hK : kX_request u.1 (xs (nI (4 * j) + 1).toNatClampNeg) with _ | ⟨r, σ⟩
  · rw [show kX_request (u.1, u.2.2).1 (xs (nI (4 * j) + 1).toNatClampNeg) = none from hK] at hw
    rw [hK] at hF
    have hw : gH D h qm qr g qb qg qw qo cA cL s (u.1, u.2.1, u.2.2) H locs := hw
    refine lv_istore (x := 1) (lv' := [(5, .int 1), (0, .ref b), (1, .ref h), (2, .ref g), (3, .ref qo), (4, .int (nI (4 * j)))]) hx hb dL_law_454 hl (by decide) rfl (fun ls hl => ?_)
    refine lv_aload_n hx hb dL_law_456 rfl (lv_at hl 3 rfl) ?_
    refine lv_aload_n hx hb dL_law_457 rfl (lv_at hl 1 rfl) ?_
    refine lv_iload hx hb dL_law_458 (lv_at hl 5 rfl) ?_
    refine lv_iconst (v := 1) hx hb dL_law_460 (by decide) ?_
    refine lv_iadd hx hb dL_law_461 ?_
    refine va_sld hx hb hX hbl hbA hw.2.2.1 (law_in1 hL hj) dL_law_462 ?_
    refine g_calliM (u := (u.1, u.2.1, u.2.2)) (cells := cells + 1) (slots := slots + 6) C (cM_request l D g qb qg qw cA u.2.1 (xs (nI (4 * j) + 1).toNatClampNeg)) (qGM_request C.2.2.2.2 ⟨Nat.le_of_ble_eq_true rfl, Nat.le_of_ble_eq_true rfl⟩) hw rfl hl.1 rfl (Nat.le_of_ble_eq_true rfl) dL_law_463 ⟨by show cells + 1 ≤ 1040; omega, by show slots + 6 ≤ 13674; omega⟩ (fun H locs hw => ?_)
    refine lv_istore (lv' := [(6, .int (kM_request u.2.1 (xs (nI (4 * j) + 1).toNatClampNeg)).1), (5, .int 1), (0, .ref b), (1, .ref h), (2, .ref g), (3, .ref qo), (4, .int (nI (4 * j)))]) hx hb dL_law_466 hl (by decide) rfl (fun ls hl => ?_)
    refine lv_aload_n hx hb dL_law_468 rfl (lv_at hl 4 rfl) ?_
    refine g_calliM (u := (u.1, (kM_request u.2.1 (xs (nI (4 * j) + 1).toNatClampNeg)).2, u.2.2)) (cells := cells + 1) (slots := slots + 6) C (cM_thrown l D g qb qg qw cA (kM_request u.2.1 (xs (nI (4 * j) + 1).toNatClampNeg)).2) (qGM_thrown C.2.2.2.2 ⟨Nat.le_of_ble_eq_true rfl, Nat.le_of_ble_eq_true rfl⟩) hw rfl hl.1 rfl (Nat.le_of_ble_eq_true rfl) dL_law_469 ⟨by show cells + 1 ≤ 1040; omega, by show slots + 6 ≤ 13674; omega⟩ (fun H locs hw => ?_)
    refine lv_iload hx hb dL_law_472 (lv_at hl 1 rfl) ?_
    refine lv_icmp_eq (tgt := 479) hx hb dL_law_474 (by decide) (fun _ => ?_) (fun hn => absurd (show kM_thrown (kM_request u.2.1 (xs (nI (4 * j) + 1).toNatClampNeg)).2 = 1 from hF.1) hn)
    refine lv_iload hx hb dL_law_479 (lv_at hl 1 rfl) ?_
    refine lv_if_ne (tgt := 496) hx hb dL_law_481 (by decide) (fun _ => ?_) (fun hn => absurd hn (by decide))
    refine lv_goto (tgt := 624) hx hb dL_law_496 (by decide) ?_
    exact cont _ _ _ _ _ (u.1, (kM_request u.2.1 (xs (nI (4 * j) + 1).toNatClampNeg)).2, u.2.2) (by omega) (by omega) hF.2 (lv_sub hl [2, 3, 4, 5, 6] rfl) hw
  · rw [show kX_request (u.1, u.2.2).1 (xs (nI (4 * j) + 1).toNatClampNeg) = some (r, σ) from hK] at hw
    rw [hK] at hF
    have hw : gH D h qm qr g qb qg qw qo cA cL s (σ, u.2.1, (vp_updL u.2.2 0 r.toInt64)) H locs := hw
    refine lv_istore (x := 0) (lv' := [(5, .int 0), (0, .ref b), (1, .ref h), (2, .ref g), (3, .ref qo), (4, .int (nI (4 * j)))]) hx hb dL_law_454 hl (by decide) rfl (fun ls hl => ?_)
    refine lv_aload_n hx hb dL_law_456 rfl (lv_at hl 3 rfl) ?_
    refine lv_aload_n hx hb dL_law_457 rfl (lv_at hl 1 rfl) ?_
    refine lv_iload hx hb dL_law_458 (lv_at hl 5 rfl) ?_
    refine lv_iconst (v := 1) hx hb dL_law_460 (by decide) ?_
    refine lv_iadd hx hb dL_law_461 ?_
    refine va_sld hx hb hX hbl hbA hw.2.2.1 (law_in1 hL hj) dL_law_462 ?_
    refine g_calliM (u := (σ, u.2.1, (vp_updL u.2.2 0 r.toInt64))) (cells := cells + 1) (slots := slots + 6) C (cM_request l D g qb qg qw cA u.2.1 (xs (nI (4 * j) + 1).toNatClampNeg)) (qGM_request C.2.2.2.2 ⟨Nat.le_of_ble_eq_true rfl, Nat.le_of_ble_eq_true rfl⟩) hw rfl hl.1 rfl (Nat.le_of_ble_eq_true rfl) dL_law_463 ⟨by show cells + 1 ≤ 1040; omega, by show slots + 6 ≤ 13674; omega⟩ (fun H locs hw => ?_)
    refine lv_istore (lv' := [(6, .int (kM_request u.2.1 (xs (nI (4 * j) + 1).toNatClampNeg)).1), (5, .int 0), (0, .ref b), (1, .ref h), (2, .ref g), (3, .ref qo), (4, .int (nI (4 * j)))]) hx hb dL_law_466 hl (by decide) rfl (fun ls hl => ?_)
    refine lv_aload_n hx hb dL_law_468 rfl (lv_at hl 4 rfl) ?_
    refine g_calliM (u := (σ, (kM_request u.2.1 (xs (nI (4 * j) + 1).toNatClampNeg)).2, (vp_updL u.2.2 0 r.toInt64))) (cells := cells + 1) (slots := slots + 6) C (cM_thrown l D g qb qg qw cA (kM_request u.2.1 (xs (nI (4 * j) + 1).toNatClampNeg)).2) (qGM_thrown C.2.2.2.2 ⟨Nat.le_of_ble_eq_true rfl, Nat.le_of_ble_eq_true rfl⟩) hw rfl hl.1 rfl (Nat.le_of_ble_eq_true rfl) dL_law_469 ⟨by show cells + 1 ≤ 1040; omega, by show slots + 6 ≤ 13674; omega⟩ (fun H locs hw => ?_)
    refine lv_iload hx hb dL_law_472 (lv_at hl 1 rfl) ?_
    refine lv_icmp_eq (tgt := 479) hx hb dL_law_474 (by decide) (fun _ => ?_) (fun hn => absurd (show kM_thrown (kM_request u.2.1 (xs (nI (4 * j) + 1).toNatClampNeg)).2 = 0 from hF.1) hn)
    refine lv_iload hx hb dL_law_479 (lv_at hl 1 rfl) ?_
    refine lv_if_ne (tgt := 496) hx hb dL_law_481 (by decide) (fun hn => absurd rfl hn) (fun _ => ?_)
    refine lv_aload_n hx hb dL_law_484 rfl (lv_at hl 5 rfl) ?_
    refine lv_iconst (v := 0) hx hb dL_law_485 (by decide) ?_
    refine va_lald hx hb hw.2.2.2 hw.1 7 1 rfl rfl (by unfold vp_in; decide) dL_law_486 ?_
    refine lv_iload hx hb dL_law_487 (lv_at hl 0 rfl) ?_
    refine lv_i2l (v := (kM_request u.2.1 (xs (nI (4 * j) + 1).toNatClampNeg)).1.toInt64) hx hb dL_law_489 rfl ?_
    refine W.lcmp hx hb dL_law_490 ?_
    refine lv_if_eq (tgt := 496) hx hb dL_law_491 (by decide) (fun _ => ?_) (fun hn => absurd ((lg_cmp_eq _ _).mpr (by show vp_updL u.2.2 0 r.toInt64 0 = _; rw [pk_uLs, hF.2.1])) hn)
    refine lv_goto (tgt := 624) hx hb dL_law_496 (by decide) ?_
    exact cont _ _ _ _ _ (σ, (kM_request u.2.1 (xs (nI (4 * j) + 1).toNatClampNeg)).2, (vp_updL u.2.2 0 r.toInt64)) (by omega) (by omega) hF.2.2 (lv_sub hl [2, 3, 4, 5, 6] rfl) hw
set_option maxRecDepth 100000 in
set_option maxHeartbeats 4000000 in
theorem law_run {Rel : XS → MS → Prop} (P : Pure Rel) {p : Program} {e : Env} {s : State} {m : MethodId} {below : List Frame} {meth : Method} {c : Code} (l : Launch) (hst : l.stackTraces = false) {b L : Nat} {xs : Nat → Int32} (hL : L ≤ 2048) (C : CallFix p m c bL_law 7 s #[Value.ref b] wAll RL) (hX : va_X b L xs s s.heap) (hbl : b < s.heap.size) (hzn : tz nsE (gN s.heap.size) s s.heap) (hzi : tz iaE (gN s.heap.size) s s.heap) (D : va_G) (h qm qr g qb qg qw qo : Nat) (cA cL : ClassId) {Q : State → Prop} {j : Nat} (hj : 4 * j + 4 ≤ L)
    (cont : ∀ (ls : Array Slot) (H : Heap) (locs : List Loc) (cells slots : Nat) (u : GS), cells ≤ 8 + (j + 1) → slots ≤ 5434 + 6 * (j + 1) → Rel u.1 u.2.1 → lv_has ls 7 [(0, .ref b), (1, .ref h), (2, .ref g), (3, .ref qo), (4, .int (nI (4 * j)))] → gH D h qm qr g qb qg qw qo cA cL s u H locs → W p l e room_1 s m #[Value.ref b] below meth c H locs cells slots Q (F0 m 624 ls []))
    {ls : Array Slot} {H : Heap} {locs : List Loc} {cells slots : Nat} {u : GS} (hc : cells ≤ 8 + j) (hs : slots ≤ 5434 + 6 * j) (hr : Rel u.1 u.2.1) (hl : lv_has ls 7 [(0, .ref b), (1, .ref h), (2, .ref g), (3, .ref qo), (4, .int (nI (4 * j)))]) (hw : gH D h qm qr g qb qg qw qo cA cL s u H locs) : W p l e room_1 s m #[Value.ref b] below meth c H locs cells slots Q (F0 m 512 ls []) := by
  have hx := C.1
  have hb := C.2.1
  have hbA : ¬ gN s.heap.size b := Nat.not_le.mpr hbl
  refine lv_aload_n hx hb dL_law_512 rfl (lv_at hl 1 rfl) ?_
  refine lv_aload_n hx hb dL_law_513 rfl (lv_at hl 0 rfl) ?_
  refine lv_iload hx hb dL_law_514 (lv_at hl 4 rfl) ?_
  refine lv_iconst (v := 1) hx hb dL_law_516 (by decide) ?_
  refine lv_iadd hx hb dL_law_517 ?_
  refine va_sld hx hb hX hbl hbA hw.2.2.1 (law_in1 hL hj) dL_law_518 ?_
  refine lv_aload_n hx hb dL_law_519 rfl (lv_at hl 3 rfl) ?_
  refine g_calliL C (cL_run l D h qm qr qo cA cL hst (u.1, u.2.2) (xs (nI (4 * j) + 1).toNatClampNeg)) (qG_run C.2.2.2.2 ⟨Nat.le_of_ble_eq_true rfl, Nat.le_of_ble_eq_true rfl⟩) hw hzi rfl hl.1 rfl (Nat.le_of_ble_eq_true rfl) dL_law_520 ⟨by show cells + 1 ≤ 1040; omega, by show slots + 6 ≤ 13674; omega⟩ (fun H locs hw => ?_)
  have hF := P.2.2.2.2.2.2.2.2.2.2.1 u.1 u.2.1 (xs (nI (4 * j) + 1).toNatClampNeg) hr
  rcases hK : kX_run u.1 (xs (nI (4 * j) + 1).toNatClampNeg) with _ | ⟨r, σ⟩
  · rw [show kX_run (u.1, u.2.2).1 (xs (nI (4 * j) + 1).toNatClampNeg) = none from hK] at hw
    rw [hK] at hF
    have hw : gH D h qm qr g qb qg qw qo cA cL s (u.1, u.2.1, u.2.2) H locs := hw
    refine lv_istore (x := 1) (lv' := [(5, .int 1), (0, .ref b), (1, .ref h), (2, .ref g), (3, .ref qo), (4, .int (nI (4 * j)))]) hx hb dL_law_523 hl (by decide) rfl (fun ls hl => ?_)
    refine lv_aload_n hx hb dL_law_525 rfl (lv_at hl 3 rfl) ?_
    refine lv_aload_n hx hb dL_law_526 rfl (lv_at hl 1 rfl) ?_
    refine lv_iload hx hb dL_law_527 (lv_at hl 5 rfl) ?_
    refine lv_iconst (v := 1) hx hb dL_law_529 (by decide) ?_
    refine lv_iadd hx hb dL_law_530 ?_
    refine va_sld hx hb hX hbl hbA hw.2.2.1 (law_in1 hL hj) dL_law_531 ?_
    refine g_calliM (u := (u.1, u.2.1, u.2.2)) (cells := cells + 1) (slots := slots + 6) C (cM_run l D g qb qg qw cA u.2.1 (xs (nI (4 * j) + 1).toNatClampNeg) (P.1 _ _ hr)) (qGM_run C.2.2.2.2 ⟨Nat.le_of_ble_eq_true rfl, Nat.le_of_ble_eq_true rfl⟩) hw rfl hl.1 rfl (Nat.le_of_ble_eq_true rfl) dL_law_532 ⟨by show cells + 1 ≤ 1040; omega, by show slots + 6 ≤ 13674; omega⟩ (fun H locs hw => ?_)
    refine lv_istore (lv' := [(6, .int (kM_run u.2.1 (xs (nI (4 * j) + 1).toNatClampNeg)).1), (5, .int 1), (0, .ref b), (1, .ref h), (2, .ref g), (3, .ref qo), (4, .int (nI (4 * j)))]) hx hb dL_law_535 hl (by decide) rfl (fun ls hl => ?_)
    refine lv_aload_n hx hb dL_law_537 rfl (lv_at hl 4 rfl) ?_
    refine g_calliM (u := (u.1, (kM_run u.2.1 (xs (nI (4 * j) + 1).toNatClampNeg)).2, u.2.2)) (cells := cells + 1) (slots := slots + 6) C (cM_thrown l D g qb qg qw cA (kM_run u.2.1 (xs (nI (4 * j) + 1).toNatClampNeg)).2) (qGM_thrown C.2.2.2.2 ⟨Nat.le_of_ble_eq_true rfl, Nat.le_of_ble_eq_true rfl⟩) hw rfl hl.1 rfl (Nat.le_of_ble_eq_true rfl) dL_law_538 ⟨by show cells + 1 ≤ 1040; omega, by show slots + 6 ≤ 13674; omega⟩ (fun H locs hw => ?_)
    refine lv_iload hx hb dL_law_541 (lv_at hl 1 rfl) ?_
    refine lv_icmp_eq (tgt := 548) hx hb dL_law_543 (by decide) (fun _ => ?_) (fun hn => absurd (show kM_thrown (kM_run u.2.1 (xs (nI (4 * j) + 1).toNatClampNeg)).2 = 1 from hF.1) hn)
    refine lv_iload hx hb dL_law_548 (lv_at hl 1 rfl) ?_
    refine lv_if_ne (tgt := 565) hx hb dL_law_550 (by decide) (fun _ => ?_) (fun hn => absurd hn (by decide))
    refine lv_goto (tgt := 624) hx hb dL_law_565 (by decide) ?_
    exact cont _ _ _ _ _ (u.1, (kM_run u.2.1 (xs (nI (4 * j) + 1).toNatClampNeg)).2, u.2.2) (by omega) (by omega) hF.2 (lv_sub hl [2, 3, 4, 5, 6] rfl) hw
  · rw [show kX_run (u.1, u.2.2).1 (xs (nI (4 * j) + 1).toNatClampNeg) = some (r, σ) from hK] at hw
    rw [hK] at hF
    have hw : gH D h qm qr g qb qg qw qo cA cL s (σ, u.2.1, (vp_updL u.2.2 0 r.toInt64)) H locs := hw
    refine lv_istore (x := 0) (lv' := [(5, .int 0), (0, .ref b), (1, .ref h), (2, .ref g), (3, .ref qo), (4, .int (nI (4 * j)))]) hx hb dL_law_523 hl (by decide) rfl (fun ls hl => ?_)
    refine lv_aload_n hx hb dL_law_525 rfl (lv_at hl 3 rfl) ?_
    refine lv_aload_n hx hb dL_law_526 rfl (lv_at hl 1 rfl) ?_
    refine lv_iload hx hb dL_law_527 (lv_at hl 5 rfl) ?_
    refine lv_iconst (v := 1) hx hb dL_law_529 (by decide) ?_
    refine lv_iadd hx hb dL_law_530 ?_
    refine va_sld hx hb hX hbl hbA hw.2.2.1 (law_in1 hL hj) dL_law_531 ?_
    refine g_calliM (u := (σ, u.2.1, (vp_updL u.2.2 0 r.toInt64))) (cells := cells + 1) (slots := slots + 6) C (cM_run l D g qb qg qw cA u.2.1 (xs (nI (4 * j) + 1).toNatClampNeg) (P.1 _ _ hr)) (qGM_run C.2.2.2.2 ⟨Nat.le_of_ble_eq_true rfl, Nat.le_of_ble_eq_true rfl⟩) hw rfl hl.1 rfl (Nat.le_of_ble_eq_true rfl) dL_law_532 ⟨by show cells + 1 ≤ 1040; omega, by show slots + 6 ≤ 13674; omega⟩ (fun H locs hw => ?_)
    refine lv_istore (lv' := [(6, .int (kM_run u.2.1 (xs (nI (4 * j) + 1).toNatClampNeg)).1), (5, .int 0), (0, .ref b), (1, .ref h), (2, .ref g), (3, .ref qo), (4, .int (nI (4 * j)))]) hx hb dL_law_535 hl (by decide) rfl (fun ls hl => ?_)
    refine lv_aload_n hx hb dL_law_537 rfl (lv_at hl 4 rfl) ?_
    refine g_calliM (u := (σ, (kM_run u.2.1 (xs (nI (4 * j) + 1).toNatClampNeg)).2, (vp_updL u.2.2 0 r.toInt64))) (cells := cells + 1) (slots := slots + 6) C (cM_thrown l D g qb qg qw cA (kM_run u.2.1 (xs (nI (4 * j) + 1).toNatClampNeg)).2) (qGM_thrown C.2.2.2.2 ⟨Nat.le_of_ble_eq_true rfl, Nat.le_of_ble_eq_true rfl⟩) hw rfl hl.1 rfl (Nat.le_of_ble_eq_true rfl) dL_law_538 ⟨by show cells + 1 ≤ 1040; omega, by show slots + 6 ≤ 13674; omega⟩ (fun H locs hw => ?_)
    refine lv_iload hx hb dL_law_541 (lv_at hl 1 rfl) ?_
    refine lv_icmp_eq (tgt := 548) hx hb dL_law_543 (by decide) (fun _ => ?_) (fun hn => absurd (show kM_thrown (kM_run u.2.1 (xs (nI (4 * j) + 1).toNatClampNeg)).2 = 0 from hF.1) hn)
    refine lv_iload hx hb dL_law_548 (lv_at hl 1 rfl) ?_
    refine lv_if_ne (tgt := 565) hx hb dL_law_550 (by decide) (fun hn => absurd rfl hn) (fun _ => ?_)
    refine lv_aload_n hx hb dL_law_553 rfl (lv_at hl 5 rfl) ?_
    refine lv_iconst (v := 0) hx hb dL_law_554 (by decide) ?_
    refine va_lald hx hb hw.2.2.2 hw.1 7 1 rfl rfl (by unfold vp_in; decide) dL_law_555 ?_
    refine lv_iload hx hb dL_law_556 (lv_at hl 0 rfl) ?_
    refine lv_i2l (v := (kM_run u.2.1 (xs (nI (4 * j) + 1).toNatClampNeg)).1.toInt64) hx hb dL_law_558 rfl ?_
    refine W.lcmp hx hb dL_law_559 ?_
    refine lv_if_eq (tgt := 565) hx hb dL_law_560 (by decide) (fun _ => ?_) (fun hn => absurd ((lg_cmp_eq _ _).mpr (by show vp_updL u.2.2 0 r.toInt64 0 = _; rw [pk_uLs, hF.2.1])) hn)
    refine lv_goto (tgt := 624) hx hb dL_law_565 (by decide) ?_
    exact cont _ _ _ _ _ (σ, (kM_run u.2.1 (xs (nI (4 * j) + 1).toNatClampNeg)).2, (vp_updL u.2.2 0 r.toInt64)) (by omega) (by omega) hF.2.2 (lv_sub hl [2, 3, 4, 5, 6] rfl) hw
set_option maxRecDepth 100000 in
set_option maxHeartbeats 4000000 in
theorem law_look {Rel : XS → MS → Prop} (P : Pure Rel) {p : Program} {e : Env} {s : State} {m : MethodId} {below : List Frame} {meth : Method} {c : Code} (l : Launch) (hst : l.stackTraces = false) {b L : Nat} {xs : Nat → Int32} (hL : L ≤ 2048) (C : CallFix p m c bL_law 7 s #[Value.ref b] wAll RL) (hX : va_X b L xs s s.heap) (hbl : b < s.heap.size) (hzn : tz nsE (gN s.heap.size) s s.heap) (hzi : tz iaE (gN s.heap.size) s s.heap) (D : va_G) (h qm qr g qb qg qw qo : Nat) (cA cL : ClassId) {Q : State → Prop} {j : Nat} (hj : 4 * j + 4 ≤ L)
    (cont : ∀ (ls : Array Slot) (H : Heap) (locs : List Loc) (cells slots : Nat) (u : GS), cells ≤ 8 + (j + 1) → slots ≤ 5434 + 6 * (j + 1) → Rel u.1 u.2.1 → lv_has ls 7 [(0, .ref b), (1, .ref h), (2, .ref g), (3, .ref qo), (4, .int (nI (4 * j)))] → gH D h qm qr g qb qg qw qo cA cL s u H locs → W p l e room_1 s m #[Value.ref b] below meth c H locs cells slots Q (F0 m 624 ls []))
    {ls : Array Slot} {H : Heap} {locs : List Loc} {cells slots : Nat} {u : GS} (hc : cells ≤ 8 + j) (hs : slots ≤ 5434 + 6 * j) (hr : Rel u.1 u.2.1) (hl : lv_has ls 7 [(0, .ref b), (1, .ref h), (2, .ref g), (3, .ref qo), (4, .int (nI (4 * j)))]) (hw : gH D h qm qr g qb qg qw qo cA cL s u H locs) : W p l e room_1 s m #[Value.ref b] below meth c H locs cells slots Q (F0 m 568 ls []) := by
  have hx := C.1
  have hb := C.2.1
  have hbA : ¬ gN s.heap.size b := Nat.not_le.mpr hbl
  refine lv_aload_n hx hb dL_law_568 rfl (lv_at hl 1 rfl) ?_
  refine lv_aload_n hx hb dL_law_569 rfl (lv_at hl 0 rfl) ?_
  refine lv_iload hx hb dL_law_570 (lv_at hl 4 rfl) ?_
  refine lv_iconst (v := 1) hx hb dL_law_572 (by decide) ?_
  refine lv_iadd hx hb dL_law_573 ?_
  refine va_sld hx hb hX hbl hbA hw.2.2.1 (law_in1 hL hj) dL_law_574 ?_
  refine lv_aload_n hx hb dL_law_575 rfl (lv_at hl 3 rfl) ?_
  refine g_calliL C (cL_look l D h qm qr qo cA cL hst (u.1, u.2.2) (xs (nI (4 * j) + 1).toNatClampNeg)) (qG_look C.2.2.2.2 ⟨Nat.le_of_ble_eq_true rfl, Nat.le_of_ble_eq_true rfl⟩) hw hzn rfl hl.1 rfl (Nat.le_of_ble_eq_true rfl) dL_law_576 ⟨by show cells + 1 ≤ 1040; omega, by show slots + 6 ≤ 13674; omega⟩ (fun H locs hw => ?_)
  have hF := P.2.2.2.2.2.2.2.2.2.2.2 u.1 u.2.1 (xs (nI (4 * j) + 1).toNatClampNeg) hr
  rcases hK : kX_look u.1 (xs (nI (4 * j) + 1).toNatClampNeg) with _ | ⟨r, σ⟩
  · rw [show kX_look (u.1, u.2.2).1 (xs (nI (4 * j) + 1).toNatClampNeg) = none from hK] at hw
    rw [hK] at hF
    have hw : gH D h qm qr g qb qg qw qo cA cL s (u.1, u.2.1, u.2.2) H locs := hw
    refine lv_istore (x := 1) (lv' := [(5, .int 1), (0, .ref b), (1, .ref h), (2, .ref g), (3, .ref qo), (4, .int (nI (4 * j)))]) hx hb dL_law_579 hl (by decide) rfl (fun ls hl => ?_)
    refine lv_aload_n hx hb dL_law_581 rfl (lv_at hl 3 rfl) ?_
    refine lv_aload_n hx hb dL_law_582 rfl (lv_at hl 1 rfl) ?_
    refine lv_iload hx hb dL_law_583 (lv_at hl 5 rfl) ?_
    refine lv_iconst (v := 1) hx hb dL_law_585 (by decide) ?_
    refine lv_iadd hx hb dL_law_586 ?_
    refine va_sld hx hb hX hbl hbA hw.2.2.1 (law_in1 hL hj) dL_law_587 ?_
    refine g_calliM (u := (u.1, u.2.1, u.2.2)) (cells := cells + 1) (slots := slots + 6) C (cM_look l D g qb qg qw cA u.2.1 (xs (nI (4 * j) + 1).toNatClampNeg)) (qGM_look C.2.2.2.2 ⟨Nat.le_of_ble_eq_true rfl, Nat.le_of_ble_eq_true rfl⟩) hw rfl hl.1 rfl (Nat.le_of_ble_eq_true rfl) dL_law_588 ⟨by show cells + 1 ≤ 1040; omega, by show slots + 6 ≤ 13674; omega⟩ (fun H locs hw => ?_)
    refine lv_istore (lv' := [(6, .int (kM_look u.2.1 (xs (nI (4 * j) + 1).toNatClampNeg)).1), (5, .int 1), (0, .ref b), (1, .ref h), (2, .ref g), (3, .ref qo), (4, .int (nI (4 * j)))]) hx hb dL_law_591 hl (by decide) rfl (fun ls hl => ?_)
    refine lv_aload_n hx hb dL_law_593 rfl (lv_at hl 4 rfl) ?_
    refine g_calliM (u := (u.1, (kM_look u.2.1 (xs (nI (4 * j) + 1).toNatClampNeg)).2, u.2.2)) (cells := cells + 1) (slots := slots + 6) C (cM_thrown l D g qb qg qw cA (kM_look u.2.1 (xs (nI (4 * j) + 1).toNatClampNeg)).2) (qGM_thrown C.2.2.2.2 ⟨Nat.le_of_ble_eq_true rfl, Nat.le_of_ble_eq_true rfl⟩) hw rfl hl.1 rfl (Nat.le_of_ble_eq_true rfl) dL_law_594 ⟨by show cells + 1 ≤ 1040; omega, by show slots + 6 ≤ 13674; omega⟩ (fun H locs hw => ?_)
    refine lv_iload hx hb dL_law_597 (lv_at hl 1 rfl) ?_
    refine lv_icmp_eq (tgt := 604) hx hb dL_law_599 (by decide) (fun _ => ?_) (fun hn => absurd (show kM_thrown (kM_look u.2.1 (xs (nI (4 * j) + 1).toNatClampNeg)).2 = 1 from hF.1) hn)
    refine lv_iload hx hb dL_law_604 (lv_at hl 1 rfl) ?_
    refine lv_if_ne (tgt := 621) hx hb dL_law_606 (by decide) (fun _ => ?_) (fun hn => absurd hn (by decide))
    refine lv_goto (tgt := 624) hx hb dL_law_621 (by decide) ?_
    exact cont _ _ _ _ _ (u.1, (kM_look u.2.1 (xs (nI (4 * j) + 1).toNatClampNeg)).2, u.2.2) (by omega) (by omega) hF.2 (lv_sub hl [2, 3, 4, 5, 6] rfl) hw
  · rw [show kX_look (u.1, u.2.2).1 (xs (nI (4 * j) + 1).toNatClampNeg) = some (r, σ) from hK] at hw
    rw [hK] at hF
    have hw : gH D h qm qr g qb qg qw qo cA cL s (σ, u.2.1, (vp_updL u.2.2 0 r.toInt64)) H locs := hw
    refine lv_istore (x := 0) (lv' := [(5, .int 0), (0, .ref b), (1, .ref h), (2, .ref g), (3, .ref qo), (4, .int (nI (4 * j)))]) hx hb dL_law_579 hl (by decide) rfl (fun ls hl => ?_)
    refine lv_aload_n hx hb dL_law_581 rfl (lv_at hl 3 rfl) ?_
    refine lv_aload_n hx hb dL_law_582 rfl (lv_at hl 1 rfl) ?_
    refine lv_iload hx hb dL_law_583 (lv_at hl 5 rfl) ?_
    refine lv_iconst (v := 1) hx hb dL_law_585 (by decide) ?_
    refine lv_iadd hx hb dL_law_586 ?_
    refine va_sld hx hb hX hbl hbA hw.2.2.1 (law_in1 hL hj) dL_law_587 ?_
    refine g_calliM (u := (σ, u.2.1, (vp_updL u.2.2 0 r.toInt64))) (cells := cells + 1) (slots := slots + 6) C (cM_look l D g qb qg qw cA u.2.1 (xs (nI (4 * j) + 1).toNatClampNeg)) (qGM_look C.2.2.2.2 ⟨Nat.le_of_ble_eq_true rfl, Nat.le_of_ble_eq_true rfl⟩) hw rfl hl.1 rfl (Nat.le_of_ble_eq_true rfl) dL_law_588 ⟨by show cells + 1 ≤ 1040; omega, by show slots + 6 ≤ 13674; omega⟩ (fun H locs hw => ?_)
    refine lv_istore (lv' := [(6, .int (kM_look u.2.1 (xs (nI (4 * j) + 1).toNatClampNeg)).1), (5, .int 0), (0, .ref b), (1, .ref h), (2, .ref g), (3, .ref qo), (4, .int (nI (4 * j)))]) hx hb dL_law_591 hl (by decide) rfl (fun ls hl => ?_)
    refine lv_aload_n hx hb dL_law_593 rfl (lv_at hl 4 rfl) ?_
    refine g_calliM (u := (σ, (kM_look u.2.1 (xs (nI (4 * j) + 1).toNatClampNeg)).2, (vp_updL u.2.2 0 r.toInt64))) (cells := cells + 1) (slots := slots + 6) C (cM_thrown l D g qb qg qw cA (kM_look u.2.1 (xs (nI (4 * j) + 1).toNatClampNeg)).2) (qGM_thrown C.2.2.2.2 ⟨Nat.le_of_ble_eq_true rfl, Nat.le_of_ble_eq_true rfl⟩) hw rfl hl.1 rfl (Nat.le_of_ble_eq_true rfl) dL_law_594 ⟨by show cells + 1 ≤ 1040; omega, by show slots + 6 ≤ 13674; omega⟩ (fun H locs hw => ?_)
    refine lv_iload hx hb dL_law_597 (lv_at hl 1 rfl) ?_
    refine lv_icmp_eq (tgt := 604) hx hb dL_law_599 (by decide) (fun _ => ?_) (fun hn => absurd (show kM_thrown (kM_look u.2.1 (xs (nI (4 * j) + 1).toNatClampNeg)).2 = 0 from hF.1) hn)
    refine lv_iload hx hb dL_law_604 (lv_at hl 1 rfl) ?_
    refine lv_if_ne (tgt := 621) hx hb dL_law_606 (by decide) (fun hn => absurd rfl hn) (fun _ => ?_)
    refine lv_aload_n hx hb dL_law_609 rfl (lv_at hl 5 rfl) ?_
    refine lv_iconst (v := 0) hx hb dL_law_610 (by decide) ?_
    refine va_lald hx hb hw.2.2.2 hw.1 7 1 rfl rfl (by unfold vp_in; decide) dL_law_611 ?_
    refine lv_iload hx hb dL_law_612 (lv_at hl 0 rfl) ?_
    refine lv_i2l (v := (kM_look u.2.1 (xs (nI (4 * j) + 1).toNatClampNeg)).1.toInt64) hx hb dL_law_614 rfl ?_
    refine W.lcmp hx hb dL_law_615 ?_
    refine lv_if_eq (tgt := 621) hx hb dL_law_616 (by decide) (fun _ => ?_) (fun hn => absurd ((lg_cmp_eq _ _).mpr (by show vp_updL u.2.2 0 r.toInt64 0 = _; rw [pk_uLs, hF.2.1])) hn)
    refine lv_goto (tgt := 624) hx hb dL_law_621 (by decide) ?_
    exact cont _ _ _ _ _ (σ, (kM_look u.2.1 (xs (nI (4 * j) + 1).toNatClampNeg)).2, (vp_updL u.2.2 0 r.toInt64)) (by omega) (by omega) hF.2.2 (lv_sub hl [2, 3, 4, 5, 6] rfl) hw
