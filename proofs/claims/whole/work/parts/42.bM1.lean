/-! what the reference's methods need of its state: the window and the register's number in range; places of the memory -/
def mOK (τ : MS) : Prop := vp_in (τ.1 4) 8 ∧ vp_in (τ.1 24) 32
def lM (a n : Int32) : Prop := 0 ≤ a.toInt ∧ 0 ≤ n.toInt ∧ a.toInt + n.toInt ≤ 4096
theorem m_slot_in {w r : Int32} (hw : vp_in w 8) (hr : vp_in r 32) (h : (8 : Int32) ≤ r) : vp_in (kM_slot w r) 128 := by
  obtain ⟨i, hi, rfl⟩ := vp_in_of hw (by decide)
  obtain ⟨j, hj, rfl⟩ := vp_in_of hr (by decide)
  exact (by decide +kernel : ∀ i, i < 8 → ∀ j, j < 32 → (8 : Int32) ≤ nI j → ¬ (kM_slot (nI i) (nI j) < 0 ∨ 128 ≤ (kM_slot (nI i) (nI j)).toNatClampNeg)) i hi j hj h
theorem m_slot_in2 {w r : Int32} (hw : vp_in w 8) (hr : vp_in r 32) (h : ¬ r ≤ 7) : vp_in (kM_slot w r) 128 := by
  refine m_slot_in hw hr ?_
  rw [Int32.le_iff_toInt_le] at h ⊢
  have : (7 : Int32).toInt = 7 := by decide
  have : (8 : Int32).toInt = 8 := by decide
  omega
theorem m_glob {r : Int32} (h : ¬ (8 : Int32) ≤ r) (hr : vp_in r 32) : vp_in r 8 := by
  rw [vp_in_iff] at hr ⊢
  rw [Int32.le_iff_toInt_le] at h
  have : (8 : Int32).toInt = 8 := by decide
  omega
theorem m_glob2 {r : Int32} (h : r ≤ 7) (hr : vp_in r 32) : vp_in r 8 := by
  rw [vp_in_iff] at hr ⊢
  rw [Int32.le_iff_toInt_le] at h
  have : (7 : Int32).toInt = 7 := by decide
  omega
theorem m_one {k n : Int32} (hk : 0 ≤ k.toInt) (h : ¬ n ≤ k) : (k + Int32.ofInt 1).toInt = k.toInt + 1 := by
  rw [Int32.le_iff_toInt_le] at h
  have h2 : n.toInt ≤ 2147483647 := Int32.toInt_le n
  have e : (Int32.ofInt 1).toInt = 1 := by decide
  rw [Int32.toInt_add, e]
  exact Int.bmod_eq_of_le (by omega) (by omega)
theorem m_inc {k n : Int32} (hk : 0 ≤ k.toInt) (h : ¬ n ≤ k) : 0 ≤ (k + Int32.ofInt 1).toInt := by
  rw [m_one hk h]; omega
theorem m_dec {k n : Int32} {f : Nat} (hk : 0 ≤ k.toInt) (h : ¬ n ≤ k) (hf : (n.toInt - k.toInt).toNat < f + 1) : (n.toInt - (k + Int32.ofInt 1).toInt).toNat < f := by
  rw [m_one hk h]
  rw [Int32.le_iff_toInt_le] at h
  omega
theorem m_lt {k n : Int32} {N : Nat} (hk : 0 ≤ k.toInt) (h : ¬ n ≤ k) (hn : n.toInt = N) : vp_in k N := by
  rw [vp_in_iff]
  rw [Int32.le_iff_toInt_le] at h
  omega
theorem m_byte {a n k : Int32} (h : lM a n) (hk : 0 ≤ k.toInt) (hn : ¬ n ≤ k) : vp_in (a + k) 4096 := by
  obtain ⟨h1, h2, h3⟩ := h
  rw [Int32.le_iff_toInt_le] at hn
  rw [vp_in_iff, Int32.toInt_add, Int.bmod_eq_of_le (by omega) (by omega)]
  omega
theorem m_inmem {a n : Int32} (hn : 0 ≤ n.toInt) (hn2 : n.toInt ≤ 4096) (h : ¬ bI (kM_inMemory a n) = 0) : lM a n := by
  unfold kM_inMemory at h
  by_cases h1 : a < 0
  · rw [if_pos h1] at h; exact absurd rfl h
  · rw [if_neg h1] at h
    by_cases h2 : 4096 - n < a
    · rw [if_pos h2] at h; exact absurd rfl h
    · rw [Int32.lt_iff_toInt_lt] at h1 h2
      have e0 : (0 : Int32).toInt = 0 := by decide
      have e : (4096 : Int32).toInt = 4096 := by decide
      rw [Int32.toInt_sub, e, Int.bmod_eq_of_le (by omega) (by omega)] at h2
      exact ⟨by omega, hn, by omega⟩
theorem m_inmem4 {a : Int32} (h : ¬ bI (kM_inMemory a 4) = 0) : lM a 4 := m_inmem (by decide) (by decide) h
theorem m_isWord {a : Int32} (h : ¬ bI (kM_isWord a) = 0) : lM a 4 := by
  unfold kM_isWord at h
  by_cases h1 : bI (kM_inMemory a 4) = 0
  · rw [if_pos h1] at h; exact absurd rfl h
  · exact m_inmem4 h1
theorem m_goesV (τ : MS) (b : Bool) : (kM_goes τ b).1 = b := by cases b <;> rfl
theorem m_goes4 {τ : MS} {a : Int32} : ¬ bI (kM_goes τ (kM_isWord a)).1 = 0 → lM a 4 := fun h => m_isWord (by rw [m_goesV] at h; exact h)
theorem m_reg_in {w r : Int32} (h : ¬ bI (kM_isRegister w r) = 0) : vp_in w 8 ∧ vp_in r 32 := by
  unfold kM_isRegister at h
  by_cases h1 : w < 0
  · rw [if_pos h1] at h; exact absurd rfl h
  · rw [if_neg h1] at h
    by_cases h2 : (8 : Int32) ≤ w
    · rw [if_pos h2] at h; exact absurd rfl h
    · rw [if_neg h2] at h
      by_cases h3 : r < 0
      · rw [if_pos h3] at h; exact absurd rfl h
      · rw [if_neg h3] at h
        by_cases h4 : (32 : Int32) ≤ r
        · rw [if_pos h4] at h; exact absurd rfl h
        · rcases pk_ix w (n := 8) (by decide) with q | q | ⟨j, hj, rfl⟩
          · exact absurd q h1
          · exact absurd q h2
          · rcases pk_ix r (n := 32) (by decide) with q | q | ⟨k, hk, rfl⟩
            · exact absurd q h3
            · exact absurd q h4
            · exact ⟨vp_in_nI hj (by decide), vp_in_nI hk (by decide)⟩
theorem m_goesR {τ : MS} {w r : Int32} : ¬ bI (kM_goes τ (kM_isRegister w r)).1 = 0 → vp_in w 8 ∧ vp_in r 32 := fun h => m_reg_in (by rw [m_goesV] at h; exact h)
theorem m_rem8 {w : Int32} {k : Nat} (hk : k < 8) (h : vp_in w 8) : vp_in ((w + nI k) - (w + nI k) / 8 * 8) 8 := by
  obtain ⟨i, hi, rfl⟩ := vp_in_of h (by decide)
  exact (by decide +kernel : ∀ k, k < 8 → ∀ i, i < 8 → ¬ ((nI i + nI k) - (nI i + nI k) / 8 * 8 < 0 ∨ 8 ≤ ((nI i + nI k) - (nI i + nI k) / 8 * 8).toNatClampNeg)) k hk i hi
theorem mok_rem7 {τ : MS} (h : mOK τ) : mOK (mI τ 4 (((τ.1 4) + 7) - ((τ.1 4) + 7) / 8 * 8)) := ⟨m_rem8 (k := 7) (by decide) h.1, h.2⟩
theorem mok_rem1 {τ : MS} (h : mOK τ) : mOK (mI τ 4 (((τ.1 4) + 1) - ((τ.1 4) + 1) / 8 * 8)) := ⟨m_rem8 (k := 1) (by decide) h.1, h.2⟩
theorem mok_d {τ : MS} {x : Int32} (h : mOK τ) : mOK (mI τ 24 (x &&& 31)) := ⟨h.1, pk_andIn x 5 (by decide) (by decide)⟩
theorem m_l8a {a : Int32} (h : lM a 8) : lM a 4 := by
  obtain ⟨h1, -, h3⟩ := h
  have e : (8 : Int32).toInt = 8 := by decide
  have e4 : (4 : Int32).toInt = 4 := by decide
  exact ⟨h1, by omega, by omega⟩
theorem m_l8b {a : Int32} (h : lM a 8) : lM (a + 4) 4 := by
  obtain ⟨h1, -, h3⟩ := h
  have e : (8 : Int32).toInt = 8 := by decide
  have e4 : (4 : Int32).toInt = 4 := by decide
  refine ⟨?_, by omega, ?_⟩ <;> rw [Int32.toInt_add, e4, Int.bmod_eq_of_le (by omega) (by omega)] <;> omega
theorem m_mv {o k n a : Int32} (h : o = k) (hm : kM_moved k = n) (hat : lM a (kM_moved o)) : lM a n := by
  rw [h, hm] at hat
  exact hat
