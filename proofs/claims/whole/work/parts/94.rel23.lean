/-! arithmetic, as the step does it -/
theorem okA1 : ∀ j, j < 32 → ((nI j &&& 15 ≤ 8 ∨ nI j &&& 15 = 12) → opK (nI j &&& 15)) := by decide +kernel
theorem okA2 : ∀ j, j < 32 → ((nI j &&& 15 ≤ 8 ∨ nI j &&& 15 = 12) → knownK (nI j) = true ∧ kM_isWork (nI j) = true ∧ nI j ≤ 36) := by decide +kernel
theorem okA3 : ∀ j, j < 32 → (¬ (nI j &&& 15 ≤ 8 ∨ nI j &&& 15 = 12) → knownK (nI j) = false) := by decide +kernel
theorem okA4 : ∀ j, j < 32 → (kM_isControl (nI j) = false ∧ (nI j < 16 ↔ nI j = nI j &&& 15)) := by decide +kernel
theorem okA5 : ∀ j, j < 32 → (nI j < 16 ∨ (¬ 32 ≤ nI j ∧ nI j - 16 = nI j &&& 15)) := by decide +kernel
theorem okA6 : ∀ j, j < 32 → ((nI j &&& 15 < 8 ↔ nI j &&& 15 ≤ 7)) := by decide +kernel
theorem okA7 : ∀ j, j < 32 → (¬ nI j = 57 ∧ ¬ nI j = 49 ∧ ¬ nI j = 60 ∧ ¬ nI j = 61 ∧ ¬ nI j = 56 ∧ ¬ nI j = 58) := by decide +kernel
theorem pr_eta {α β : Type} (x : α × β) : (x.1, x.2) = x := rfl
theorem work_eq {τ : MS} {k : Int32} (h27 : τ.1 27 = k) (a : k < 16 ↔ k = k &&& 15) (b : k < 16 ∨ (¬ 32 ≤ k ∧ k - 16 = k &&& 15)) : kM_work τ = kM_work_c32 τ (k &&& 15) := by
  unfold kM_work kM_work_c28
  rw [h27]
  by_cases e : k < 16
  · rw [if_pos e, ← a.mp e]
  · obtain ⟨b1, b2⟩ := b.resolve_left e
    rw [if_neg e, if_neg b1, b2]
theorem arith_rel {σ : XS} {τ : MS} {c : Int32} {j : Nat} (D : Dec σ τ c (nI j)) (hj : j < 32) : sameR (kX_performArithmetic σ c (nI j)) (kM_oneStep_c239 τ 2) := by
  have a0 := okA1 j hj
  have a1 := okA2 j hj
  have a2 := okA3 j hj
  obtain ⟨ck, a3⟩ := okA4 j hj
  have a4 := okA5 j hj
  have a5 := okA6 j hj
  obtain ⟨n57, n49, n60, n61, n56, n58⟩ := okA7 j hj
  generalize nI j = k at *
  have D' := D
  obtain ⟨h, h23, h24, h27, h25, h26⟩ := D
  have bad : ¬ (k &&& 15 ≤ 8 ∨ k &&& 15 = 12) → sameR (kX_trap σ 2) (kM_oneStep_c239 τ 2) := fun z => by
    rw [c239_tr (tr_unknown h27 (a2 z)) (by decide)]; exact rel_trap h v2t
  have good : (k &&& 15 ≤ 8 ∨ k &&& 15 = 12) → sameR (kX_performArithmetic_c23 σ c k (k &&& 15)) (kM_oneStep_c239 τ 2) := fun z => by
    have b1 := a0 z
    obtain ⟨b2, b3, b4⟩ := a1 z
    have tr : kM_trouble τ 2 = 0 := by
      rw [tr_known h27 b2]
      exact to_work h27 n57 n49 ck n60 n61 n56 n58
    have act : kM_act (mI τ 28 (τ.1 17 + 4)) 2 = kM_work (mI τ 28 (τ.1 17 + 4)) := by
      have e : kM_act (mI τ 28 (τ.1 17 + 4)) 2 = if bI (kM_isWork (τ.1 27)) = 0 then (if bI (kM_isControl (τ.1 27)) = 0 then kM_go (mI τ 28 (τ.1 17 + 4)) (τ.1 25 + τ.1 26) else kM_controls (mI τ 28 (τ.1 17 + 4))) else (if τ.1 27 ≤ 36 then kM_work (mI τ 28 (τ.1 17 + 4)) else kM_shift (mI τ 28 (τ.1 17 + 4))) := rfl
      rw [e, h27, b3, if_neg (show ¬ bI true = 0 by decide), if_pos b4]
    rw [c239_ok2 tr (by rw [h27]; exact n57), act, work_eq (τ := mI τ 28 (τ.1 17 + 4)) h27 a3 a4]
    unfold kX_performArithmetic_c23 kX_performArithmetic_c56 kM_work_c32 kM_work_c50
    rw [has_carry h.1]
    by_cases e : k &&& 15 < 8
    · rw [if_pos e, if_pos (a5.mp e)]
      exact arith_fin D' false b1 a3
    · rw [if_neg e, if_neg (fun z => e (a5.mpr z))]
      show sameR _ (kM_oneStep_c298 (if bI (τ.2.1 9) = 0 then _ else _))
      by_cases g : bI (τ.2.1 9) = 0
      · rw [if_pos g, if_pos g]; exact arith_fin D' false b1 a3
      · rw [if_neg g, if_neg g]; exact arith_fin D' true b1 a3
  unfold kX_performArithmetic
  by_cases e1 : k &&& 15 ≤ 8
  · rw [if_pos e1]; exact good (Or.inl e1)
  · rw [if_neg e1]
    by_cases e2 : k &&& 15 = 12
    · rw [if_pos e2]; exact good (Or.inr e2)
    · rw [if_neg e2, pr_eta]; exact bad (fun z => z.elim e1 e2)
