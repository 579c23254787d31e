/-! bounds of the class's array accesses -/
theorem x_slot_in {w r : Int32} (hw : vp_in w 8) (hr : vp_in r 32) : vp_in (kX_slot w r) 136 := by
  obtain ⟨i, hi, rfl⟩ := vp_in_of hw (by decide)
  obtain ⟨j, hj, rfl⟩ := vp_in_of hr (by decide)
  exact (by decide +kernel : ∀ i, i < 8 → ∀ j, j < 32 → ¬ (kX_slot (nI i) (nI j) < 0 ∨ 136 ≤ (kX_slot (nI i) (nI j)).toNatClampNeg)) i hi j hj
theorem x_and31 (x : Int32) : vp_in (x &&& 31) 32 := pk_andIn x 5 (by decide) (by decide)
theorem x_win (σ : XS) : vp_in (kX_window σ) 8 := pk_andIn (σ.1 2) 3 (by decide) (by decide)
theorem x_numD (c : Int32) : vp_in (kX_numberOfD c) 32 := x_and31 _
theorem x_l15 : vp_in 15 32 := by unfold vp_in; decide
theorem x_l17 : vp_in 17 32 := by unfold vp_in; decide
theorem x_l18 : vp_in 18 32 := by unfold vp_in; decide
theorem x_word_in {a : Int32} (h : vp_in a 4096) : vp_in (uS a 2) 1024 := by
  obtain ⟨j, hj, rfl⟩ := vp_in_of h (by decide)
  have e : uS (nI j) 2 = nI (j / 2 ^ 2) := pk_ushrN (by omega) 2 2 (by decide)
  rw [e]
  exact vp_in_nI (by omega) (by decide)
theorem x_mem_in {a : Int32} (h : ¬ bI (kX_isInMemory a) = 0) : vp_in a 4096 := by
  unfold kX_isInMemory at h
  by_cases h1 : a < 0
  · rw [if_pos h1] at h; exact absurd rfl h
  · rw [if_neg h1] at h
    by_cases h2 : (4096 : Int32) ≤ a
    · rw [if_pos h2] at h; exact absurd rfl h
    · rcases pk_ix a (n := 4096) (by decide) with q | q | ⟨j, hj, rfl⟩
      · exact absurd q h1
      · exact absurd q h2
      · exact vp_in_nI hj (by decide)
theorem x_wm {a : Int32} (h : ¬ bI (kX_isWordOfMemory a) = 0) : vp_in a 4096 ∧ a &&& 3 = 0 := by
  unfold kX_isWordOfMemory at h
  by_cases h1 : bI (kX_isInMemory a) = 0
  · rw [if_pos h1] at h; exact absurd rfl h
  · rw [if_neg h1] at h
    by_cases h2 : a &&& 3 = 0
    · exact ⟨x_mem_in h1, h2⟩
    · rw [if_neg h2] at h; exact absurd rfl h
theorem x_wm_in {a : Int32} (h : ¬ bI (kX_isWordOfMemory a) = 0) : vp_in (uS a 2) 1024 := x_word_in (x_wm h).1
theorem x_d1 {d : Int32} (hd : vp_in d 32) (h : d &&& 1 = 0) : vp_in (d + 1) 32 := by
  obtain ⟨j, hj, rfl⟩ := vp_in_of hd (by decide)
  exact (by decide +kernel : ∀ j, j < 32 → nI j &&& 1 = 0 → ¬ (nI j + 1 < 0 ∨ 32 ≤ (nI j + 1).toNatClampNeg)) j hj h
theorem x_a4 {a n : Int32} (ha : vp_in a 4096) (h : a &&& (n - 1) = 0) (hn : n = 8) : vp_in (a + 4) 4096 := by
  subst hn
  obtain ⟨j, hj, rfl⟩ := vp_in_of ha (by decide)
  have e : nI j &&& (8 - 1) = nI (j % 2 ^ 3) := pk_andN (by omega) 3 (by decide)
  rw [e, ← nI_0, nI_eq (by omega) (by omega)] at h
  have e4 : nI j + 4 = nI (j + 4) := nI_add j 4
  rw [e4]
  exact vp_in_nI (by omega) (by decide)
theorem x_reg_in {w r : Int32} (h : ¬ bI (kX_isRegister w r) = 0) : vp_in w 8 ∧ vp_in r 32 := by
  unfold kX_isRegister at h
  by_cases h1 : w < 0
  · rw [if_pos h1] at h; exact absurd rfl h
  · rw [if_neg h1] at h
    by_cases h2 : (8 : Int32) ≤ w
    · rw [if_pos h2] at h; exact absurd rfl h
    · rw [if_neg h2] at h
      by_cases h3 : r < 0
      · rw [if_pos h3] at h; exact absurd rfl h
      · rw [if_neg h3] at h
        by_cases h4 : (32 : Int32) ≤ r
        · rw [if_pos h4] at h; exact absurd rfl h
        · rcases pk_ix w (n := 8) (by decide) with q | q | ⟨j, hj, rfl⟩
          · exact absurd q h1
          · exact absurd q h2
          · rcases pk_ix r (n := 32) (by decide) with q | q | ⟨k, hk, rfl⟩
            · exact absurd q h3
            · exact absurd q h4
            · exact ⟨vp_in_nI hj (by decide), vp_in_nI hk (by decide)⟩
