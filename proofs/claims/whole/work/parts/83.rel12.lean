/-! transfers: sizes and places -/
theorem kind_in (c : Int32) : vp_in (kX_kindOf c) 64 := pk_andIn _ 6 (by decide) (by decide)
theorem moved_eq {k : Int32} (hk : vp_in k 64) : kX_sizeMoved k = kM_moved k := by
  obtain ⟨j, hj, rfl⟩ := vp_in_of hk (by decide)
  exact (by decide +kernel : ∀ j, j < 64 → kX_sizeMoved (nI j) = kM_moved (nI j)) j hj
theorem in_hi {a : Int32} {z : Nat} (hz : z ≤ 8) (h1 : ¬ a < 0) (h2 : (4096 : Int32) ≤ a) (h0 : 0 < z) : (4096 : Int32) - nI z < a := by
  rw [Int32.lt_iff_toInt_lt]
  rw [Int32.le_iff_toInt_le] at h2
  have e1 : (4096 : Int32).toInt = 4096 := by decide
  have e2 : ∀ z, z ≤ 8 → ((4096 : Int32) - nI z).toInt = 4096 - (z : Int) := by decide +kernel
  rw [e2 z hz]; omega
theorem in_lo {n z : Nat} (hz : z ≤ 8) (hn : n + z ≤ 4096) : ¬ (4096 : Int32) - nI z < nI n := by
  rw [Int32.lt_iff_toInt_lt, nI_toInt (by omega)]
  have e2 : ∀ z, z ≤ 8 → ((4096 : Int32) - nI z).toInt = 4096 - (z : Int) := by decide +kernel
  rw [e2 z hz]; omega
theorem al_n {n z : Nat} (hn : n < 4096) (hz : z = 1 ∨ z = 2 ∨ z = 4 ∨ z = 8) : nI n &&& (nI z - 1) = nI (n % z) := by
  rcases hz with rfl | rfl | rfl | rfl
  · rw [show nI 1 - 1 = (0 : Int32) from rfl, Nat.mod_one]
    refine b_ext (fun i hi => ?_)
    rw [b_and, b_0, Bool.and_false, nI_0, b_0]
  · rw [show nI 2 - 1 = (1 : Int32) from rfl]; exact pk_andN (by omega) 1 (by decide)
  · rw [show nI 4 - 1 = (3 : Int32) from rfl]; exact pk_andN (by omega) 2 (by decide)
  · rw [show nI 8 - 1 = (7 : Int32) from rfl]; exact pk_andN (by omega) 3 (by decide)
theorem mem_in {a : Int32} {z : Nat} (hz : z = 1 ∨ z = 2 ∨ z = 4 ∨ z = 8) (ha : a &&& (nI z - 1) = 0) : kX_isInMemory a = kM_inMemory a (nI z) ∧ (kX_isInMemory a = true → ∃ n, n + z ≤ 4096 ∧ n % z = 0 ∧ a = nI n) := by
  unfold kX_isInMemory kM_inMemory
  by_cases h1 : a < 0
  · rw [if_pos h1, if_pos h1]; exact ⟨rfl, fun q => by cases q⟩
  · rw [if_neg h1, if_neg h1]
    by_cases h2 : (4096 : Int32) ≤ a
    · rw [if_pos h2, if_pos (in_hi (by omega) h1 h2 (by omega))]; exact ⟨rfl, fun q => by cases q⟩
    · rw [if_neg h2]
      rcases pk_ix a (n := 4096) (by decide) with q | q | ⟨n, hn, rfl⟩
      · exact absurd q h1
      · exact absurd q h2
      · rw [al_n hn hz, ← nI_0, nI_eq (Nat.lt_of_le_of_lt (Nat.mod_le n z) (by omega)) (by omega)] at ha
        have hl : n + z ≤ 4096 := by rcases hz with rfl | rfl | rfl | rfl <;> omega
        rw [if_neg (in_lo (by omega) hl)]
        exact ⟨rfl, fun _ => ⟨n, hl, ha, rfl⟩⟩
theorem store_ints3 : ∀ (f : Nat) (τ : MS) (a n v k : Int32), (kM_store_c3 f τ a n v k).1 = τ.1 := by
  intro f
  induction f with
  | zero => intro τ a n v k; rfl
  | succ f ih =>
    intro τ a n v k
    rw [kM_store_c3]
    split
    · rfl
    · rw [ih]; rfl
theorem store_ints (τ : MS) (a n v : Int32) : (kM_store τ a n v).1 = τ.1 := store_ints3 _ _ _ _ _ _
theorem give_ints (τ : MS) (w r v : Int32) : (kM_give τ w r v).1 = τ.1 := (give_keeps τ w r v).1
theorem memory_ints (τ : MS) (a : Int32) : (kM_memory τ a).1 = τ.1 := by
  unfold kM_memory kM_memory_c33 kM_memory_c81 kM_memory_c144 kM_memory_c190 kM_memory_c236 kM_memory_c279 kM_memory_c301
  repeat' split
  all_goals simp only [store_ints, give_ints]
theorem sign_eq (v : Int32) {z : Nat} (hz : z = 1 ∨ z = 2 ∨ z = 4) : kX_withSign v (nI z) = kM_signed v (8 * nI z) := rfl
