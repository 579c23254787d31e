/-! what give and store leave as it was -/
theorem m_give1 (τ : MS) (w r v : Int32) : (kM_give τ w r v).1 = τ.1 := by
  unfold kM_give
  repeat' split
  all_goals first | rfl | (simp only [mW, mG]; done)
theorem m_storeL1 (f : Nat) : ∀ (τ : MS) (a n v k : Int32), (kM_store_c3 f τ a n v k).1 = τ.1 := by
  induction f with
  | zero => intros; rfl
  | succ f ih =>
    intro τ a n v k
    unfold kM_store_c3
    split
    · rfl
    · rw [ih]; rfl
theorem m_store1 (τ : MS) (a n v : Int32) : (kM_store τ a n v).1 = τ.1 := m_storeL1 _ _ _ _ _ _
theorem mok_give {τ : MS} {w r v : Int32} (h : mOK τ) : mOK (kM_give τ w r v) := by
  unfold mOK; rw [m_give1]; exact h
theorem mok_store {τ : MS} {a n v : Int32} (h : mOK τ) : mOK (kM_store τ a n v) := by
  unfold mOK; rw [m_store1]; exact h
