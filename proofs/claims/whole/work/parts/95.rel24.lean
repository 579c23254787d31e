/-! the operations, all of them -/
theorem operation_rel : ∀ σ τ c, Dec σ τ c (kX_kindOf c) → sameR (kX_performOperation σ c (kX_kindOf c)) (kM_oneStep_c239 τ 2) := by
  intro σ τ c D
  obtain ⟨j, hj, e⟩ := vp_in_of (kind_in c) (by decide)
  rw [e] at D ⊢
  unfold kX_performOperation
  by_cases h32 : 32 ≤ nI j
  · rw [if_pos h32]
    have un := fun z => tr_unknown D.2.2.2.1 z
    have kn := (by decide +kernel : ∀ j, j < 64 → 32 ≤ nI j → nI j = 37 ∨ nI j = 38 ∨ nI j = 39 ∨ nI j = 41 ∨ nI j = 42 ∨ nI j = 43 ∨ nI j = 49 ∨ nI j = 50 ∨ nI j = 51 ∨ nI j = 56 ∨ nI j = 57 ∨ nI j = 58 ∨ nI j = 60 ∨ nI j = 61 ∨ knownK (nI j) = false) j hj h32
    generalize nI j = k at *
    by_cases e1 : k = 37
    · rw [if_pos e1, pr_eta]; exact shift_rel D (Or.inl e1)
    rw [if_neg e1]
    by_cases e2 : k = 38
    · rw [if_pos e2, pr_eta]; exact shift_rel D (Or.inr (Or.inl e2))
    rw [if_neg e2]
    by_cases e3 : k = 39
    · rw [if_pos e3, pr_eta]; exact shift_rel D (Or.inr (Or.inr e3))
    rw [if_neg e3]
    by_cases e4 : k = 41
    · rw [if_pos e4, pr_eta]; exact reading_rel D (Or.inl e4)
    rw [if_neg e4]
    by_cases e5 : k = 42
    · rw [if_pos e5, pr_eta]; exact reading_rel D (Or.inr (Or.inl e5))
    rw [if_neg e5]
    by_cases e6 : k = 43
    · rw [if_pos e6, pr_eta]; exact reading_rel D (Or.inr (Or.inr e6))
    rw [if_neg e6]
    by_cases e7 : k = 49
    · rw [if_pos e7, pr_eta]; exact writing_rel D (Or.inl e7)
    rw [if_neg e7]
    by_cases e8 : k = 50
    · rw [if_pos e8, pr_eta]; exact writing_rel D (Or.inr (Or.inl e8))
    rw [if_neg e8]
    by_cases e9 : k = 51
    · rw [if_pos e9, pr_eta]; exact writing_rel D (Or.inr (Or.inr e9))
    rw [if_neg e9]
    by_cases e10 : k = 56
    · rw [if_pos e10, pr_eta]; subst e10; exact jump_rel D
    rw [if_neg e10]
    by_cases e11 : k = 57
    · rw [if_pos e11, pr_eta]; subst e11; exact return_rel D
    rw [if_neg e11]
    by_cases e12 : k = 58
    · rw [if_pos e12, pr_eta]; subst e12; exact soft_rel D
    rw [if_neg e12]
    by_cases e13 : k = 60
    · rw [if_pos e13, pr_eta]; subst e13; exact turn60_rel D
    rw [if_neg e13]
    by_cases e14 : k = 61
    · rw [if_pos e14, pr_eta]; subst e14; exact turn61_rel D
    rw [if_neg e14]
    have z : knownK k = false := by
      rcases kn with q | q | q | q | q | q | q | q | q | q | q | q | q | q | q
      all_goals first | exact q | exact absurd q (by assumption)
    rw [pr_eta, c239_tr (un z) (by decide)]; exact rel_trap D.1 v2t
  · rw [if_neg h32]
    have hj2 : j < 32 := (by decide +kernel : ∀ j, j < 64 → ¬ 32 ≤ nI j → j < 32) j hj h32
    rw [pr_eta]; exact arith_rel D hj2
