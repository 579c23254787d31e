/-! the relation between the class's state and the reference's -/
def stB (τ : MS) (i : Nat) : Bool := match i with
  | 0 => bt (τ.1 4) 0
  | 1 => bt (τ.1 4) 1
  | 2 => bt (τ.1 4) 2
  | 5 => τ.2.1 5
  | 6 => τ.2.1 6
  | 7 => τ.2.1 7
  | 8 => bt (τ.1 8) 0
  | 9 => bt (τ.1 8) 1
  | 10 => bt (τ.1 8) 2
  | 11 => bt (τ.1 8) 3
  | 20 => τ.2.1 9
  | 21 => τ.2.1 10
  | 22 => τ.2.1 11
  | 23 => τ.2.1 12
  | _ => false
def rS (σ : XS) (τ : MS) : Prop := (∀ i, i < 32 → bt (σ.1 2) i = stB τ i) ∧ mOK τ ∧ vp_in (τ.1 8) 16
def rT (σ : XS) (τ : MS) : Prop := σ.1 4 = kM_table τ ∧ (∀ i, i < 12 → bt (τ.1 14) i = false) ∧ vp_in (τ.1 15) 256
def rI (σ : XS) (τ : MS) : Prop := σ.1 3 = τ.1 13 ∧ (σ.1 5 = τ.1 16 ∧ σ.1 5 &&& 3 = 0) ∧ (σ.1 6 = τ.1 17 ∧ σ.1 6 &&& 3 = 0) ∧ (σ.1 7 = τ.1 20 ∧ vp_in (τ.1 20) 16) ∧ σ.1 8 = τ.1 21 ∧ σ.1 9 = τ.1 22 ∧ σ.2.1 10 = τ.2.1 18 ∧ σ.2.1 11 = τ.2.1 19
def rR (σ : XS) (τ : MS) : Prop := (∀ j, j < 8 → σ.2.2.2 j = τ.2.2.2.1 j) ∧ ∀ j, j < 128 → σ.2.2.2 (8 + j) = τ.2.2.2.2 j
def rM (σ : XS) (τ : MS) : Prop := ∀ i, i < 1024 → ∀ j, j < 4 → τ.2.2.1 (4 * i + j) = uS (σ.2.2.1 i) (nI (24 - 8 * j)) &&& 255
def Rel (σ : XS) (τ : MS) : Prop := rS σ τ ∧ rT σ τ ∧ rI σ τ ∧ rR σ τ ∧ rM σ τ
theorem rel_ok {σ : XS} {τ : MS} (h : Rel σ τ) : mOK τ := h.1.2.1
theorem rel_thrown {σ : XS} {τ : MS} {x : Int32} (h : Rel σ τ) : Rel σ (mI τ 0 x) := ⟨⟨h.1.1, h.1.2.1, h.1.2.2⟩, ⟨h.2.1.1, h.2.1.2.1, h.2.1.2.2⟩, h.2.2.1, h.2.2.2.1, h.2.2.2.2⟩
theorem goes_t (τ : MS) : kM_goes τ true = (true, mI τ 0 0) := rfl
theorem goes_f (τ : MS) : kM_goes τ false = (false, mI τ 0 1) := rfl
theorem sameWord (a : Int32) : kX_isWordOfMemory a = kM_isWord a := by
  unfold kX_isWordOfMemory kM_isWord kX_isInMemory kM_inMemory
  by_cases h1 : a < 0
  · rw [if_pos h1, if_pos h1]; rfl
  · rw [if_neg h1, if_neg h1]
    by_cases h2 : (4096 : Int32) ≤ a
    · rw [if_pos h2]
      have h3 : (4096 : Int32) - 4 < a := by
        rw [Int32.lt_iff_toInt_lt]
        rw [Int32.le_iff_toInt_le] at h2
        have e1 : (4096 : Int32).toInt = 4096 := by decide
        have e2 : ((4096 : Int32) - 4).toInt = 4092 := by decide
        omega
      rw [if_pos h3]; rfl
    · rw [if_neg h2]
      rcases pk_ix a (n := 4096) (by decide) with q | q | ⟨j, hj, rfl⟩
      · exact absurd q h1
      · exact absurd q h2
      · have e3 : nI j &&& 3 = nI (j % 2 ^ 2) := pk_andN (by omega) 2 (by decide)
        have e4 : nI j - nI j / 4 * 4 = nI (j % 4) := pk_rem (d := 4) (by omega) (by decide) (by decide)
        by_cases h3 : (4096 : Int32) - 4 < nI j
        · rw [if_pos h3]
          have hj2 : 4092 < j := by
            rw [Int32.lt_iff_toInt_lt, nI_toInt (by omega)] at h3
            have e2 : ((4096 : Int32) - 4).toInt = 4092 := by decide
            omega
          have h4 : ¬ nI j &&& 3 = 0 := by
            rw [e3, ← nI_0, nI_eq (by omega) (by omega)]
            omega
          show (if bI true = 0 then false else if nI j &&& 3 = 0 then true else false) = (if bI false = 0 then false else _)
          rw [if_neg h4]; rfl
        · rw [if_neg h3]
          show (if nI j &&& 3 = 0 then true else false) = (if nI j - nI j / 4 * 4 = 0 then true else false)
          rw [e3, e4]
theorem sameReg (w r : Int32) : kX_isRegister w r = kM_isRegister w r := rfl
theorem face_request (σ : XS) (τ : MS) (a : Int32) (h : Rel σ τ) : faceOK Rel (kX_request σ a) σ (kM_request τ a) := by
  have no : faceOK Rel none σ (kM_request_c15 τ a) := ⟨rfl, rel_thrown h⟩
  unfold kX_request kM_request
  by_cases h1 : a < 0
  · rw [if_pos h1, if_pos h1]; exact no
  · rw [if_neg h1, if_neg h1]
    by_cases h2 : a ≤ (15 : Int32)
    · have h3 : ¬ (15 : Int32) < a := by
        rw [Int32.lt_iff_toInt_lt]; rw [Int32.le_iff_toInt_le] at h2; omega
      rw [if_pos h2, if_neg h3]
      have hin : vp_in a 16 := by
        rw [vp_in_iff]
        rw [Int32.lt_iff_toInt_lt] at h1
        rw [Int32.le_iff_toInt_le] at h2
        have e0 : (0 : Int32).toInt = 0 := by decide
        have e1 : (15 : Int32).toInt = 15 := by decide
        omega
      exact ⟨rfl, h.2.2.1.2.2.2.1.1, ⟨h.1.1, h.1.2.1, h.1.2.2⟩, ⟨h.2.1.1, h.2.1.2.1, h.2.1.2.2⟩, ⟨h.2.2.1.1, h.2.2.1.2.1, h.2.2.1.2.2.1, ⟨rfl, hin⟩, h.2.2.1.2.2.2.2⟩, h.2.2.2.1, h.2.2.2.2⟩
    · have h3 : (15 : Int32) < a := by
        rw [Int32.lt_iff_toInt_lt]; rw [Int32.le_iff_toInt_le] at h2; omega
      rw [if_neg h2, if_pos h3]; exact no
