/-! the reference keeps its window and its register's number in range; when there is no trouble the memory's place is in it -/
theorem mok_win {τ : MS} {x : Int32} (h : mOK τ) (hx : vp_in x 8) : mOK (mI τ 4 x) := ⟨hx, h.2⟩
theorem mok_I {τ : MS} {k : Nat} {x : Int32} (h4 : 4 ≠ k) (h24 : 24 ≠ k) (h : mOK τ) : mOK (mI τ k x) := by
  show vp_in (upd τ.1 k x 4) 8 ∧ vp_in (upd τ.1 k x 24) 32
  rw [pk_un h4, pk_un h24]
  exact h
theorem mok_mB {τ : MS} {k : Nat} {b : Bool} (h : mOK τ) : mOK (mB τ k b) := h
theorem mok_mY {τ : MS} {k : Nat} {b : Int32} (h : mOK τ) : mOK (mY τ k b) := h
theorem mok_mG {τ : MS} {k : Nat} {b : Int32} (h : mOK τ) : mOK (mG τ k b) := h
theorem mok_mW {τ : MS} {k : Nat} {b : Int32} (h : mOK τ) : mOK (mW τ k b) := h
theorem mok_ite {c : Prop} [Decidable c] {a b : MS} (ha : mOK a) (hb : mOK b) : mOK (if c then a else b) := by
  split
  · exact ha
  · exact hb
theorem mok_iteP {α : Type} {c : Prop} [Decidable c] {a b : α × MS} (ha : mOK a.2) (hb : mOK b.2) : mOK (if c then a else b).2 := by
  split
  · exact ha
  · exact hb
theorem m_movedR (o : Int32) : 0 ≤ (kM_moved o).toInt ∧ (kM_moved o).toInt ≤ 4096 := by
  unfold kM_moved
  repeat' split
  all_goals decide
theorem m_c67 {τ : MS} {v : Int32} (h : kM_trouble_c67 τ v ≤ 0) : lM v (kM_moved (τ.1 27)) := by
  unfold kM_trouble_c67 at h
  by_cases h1 : (v &&& (kM_moved (τ.1 27) - 1)) = 0
  · rw [if_pos h1] at h
    by_cases h2 : bI (kM_inMemory v (kM_moved (τ.1 27))) = 0
    · rw [if_pos h2] at h; exact absurd h (by decide)
    · exact m_inmem (m_movedR _).1 (m_movedR _).2 h2
  · rw [if_neg h1] at h; exact absurd h (by decide)
theorem m_d1 {d : Int32} (hd : vp_in d 32) (h : ¬ d - d / 2 * 2 = 1) : vp_in (d + 1) 32 := by
  obtain ⟨j, hj, rfl⟩ := vp_in_of hd (by decide)
  exact (by decide +kernel : ∀ j, j < 32 → ¬ nI j - nI j / 2 * 2 = 1 → ¬ (nI j + 1 < 0 ∨ 32 ≤ (nI j + 1).toNatClampNeg)) j hj h
theorem m_c55 {τ : MS} {v : Int32} (hok : mOK τ) (h : kM_trouble_c55 τ v ≤ 0) : lM v (kM_moved (τ.1 27)) ∧ vp_in (τ.1 24 + 1) 32 := by
  unfold kM_trouble_c55 at h
  by_cases h1 : (τ.1 24) - (τ.1 24) / 2 * 2 = 1
  · rw [if_pos h1] at h; exact absurd h (by decide)
  · rw [if_neg h1] at h; exact ⟨m_c67 h, m_d1 hok.2 h1⟩
theorem m_trouble {τ : MS} {k : Int32} (hok : mOK τ) (h : kM_trouble τ k ≤ 0) : k = 3 → lM (τ.1 25 + τ.1 26) (kM_moved (τ.1 27)) ∧ ((τ.1 27 = 3 ∨ τ.1 27 = 7) → vp_in (τ.1 24 + 1) 32) := by
  intro hk
  subst hk
  unfold kM_trouble at h
  by_cases h1 : bI (kM_isKnown τ 3) = 0
  · rw [if_pos h1] at h; exact absurd h (by decide)
  · rw [if_neg h1, if_neg (by decide), if_pos (by decide)] at h
    by_cases h2 : τ.1 27 = 3
    · rw [if_pos h2] at h
      exact ⟨(m_c55 hok h).1, fun _ => (m_c55 hok h).2⟩
    · rw [if_neg h2] at h
      by_cases h3 : τ.1 27 = 7
      · rw [if_pos h3] at h
        exact ⟨(m_c55 hok h).1, fun _ => (m_c55 hok h).2⟩
      · rw [if_neg h3] at h
        exact ⟨m_c67 h, fun q => absurd q (by simp [h2, h3])⟩

theorem mok_setStatus_c148 {τ : MS} {s0 : Bool} (h : mOK τ) : mOK (kM_setStatus_c148 τ s0) := by
  unfold kM_setStatus_c148
  exact (mok_mB (h))
theorem mok_setStatus_c132 {τ : MS} {v1 : Int32} (h : mOK τ) : mOK (kM_setStatus_c132 τ v1) := by
  unfold kM_setStatus_c132
  exact (mok_ite (mok_setStatus_c148 (h)) (mok_setStatus_c148 (h)))
theorem mok_setStatus_c129 {τ : MS} {v1 : Int32} {s0 : Bool} (h : mOK τ) : mOK (kM_setStatus_c129 τ v1 s0) := by
  unfold kM_setStatus_c129
  exact (mok_setStatus_c132 ((mok_mB (h))))
theorem mok_setStatus_c113 {τ : MS} {v1 : Int32} (h : mOK τ) : mOK (kM_setStatus_c113 τ v1) := by
  unfold kM_setStatus_c113
  exact (mok_ite (mok_setStatus_c129 (h)) (mok_setStatus_c129 (h)))
theorem mok_setStatus_c110 {τ : MS} {v1 : Int32} {s0 : Bool} (h : mOK τ) : mOK (kM_setStatus_c110 τ v1 s0) := by
  unfold kM_setStatus_c110
  exact (mok_setStatus_c113 ((mok_mB (h))))
theorem mok_setStatus_c94 {τ : MS} {v1 : Int32} (h : mOK τ) : mOK (kM_setStatus_c94 τ v1) := by
  unfold kM_setStatus_c94
  exact (mok_ite (mok_setStatus_c110 (h)) (mok_setStatus_c110 (h)))
theorem mok_setStatus_c91 {τ : MS} {v1 : Int32} {s0 : Bool} (h : mOK τ) : mOK (kM_setStatus_c91 τ v1 s0) := by
  unfold kM_setStatus_c91
  exact (mok_setStatus_c94 ((mok_mB (h))))
theorem mok_setStatus_c75 {τ : MS} {v1 : Int32} (h : mOK τ) : mOK (kM_setStatus_c75 τ v1) := by
  unfold kM_setStatus_c75
  exact (mok_ite (mok_setStatus_c91 (h)) (mok_setStatus_c91 (h)))
theorem mok_setStatus_c64 {τ : MS} {v1 : Int32} (h : mOK τ) : mOK (kM_setStatus_c64 τ v1) := by
  unfold kM_setStatus_c64
  exact (mok_setStatus_c75 ((mok_I (by decide) (by decide) (h))))
theorem mok_setStatus_c61 {τ : MS} {v1 : Int32} {s0 : Bool} (h : mOK τ) : mOK (kM_setStatus_c61 τ v1 s0) := by
  unfold kM_setStatus_c61
  exact (mok_setStatus_c64 ((mok_mB (h))))
theorem mok_setStatus_c45 {τ : MS} {v1 : Int32} (h : mOK τ) : mOK (kM_setStatus_c45 τ v1) := by
  unfold kM_setStatus_c45
  exact (mok_ite (mok_setStatus_c61 (h)) (mok_setStatus_c61 (h)))
theorem mok_setStatus_c42 {τ : MS} {v1 : Int32} {s0 : Bool} (h : mOK τ) : mOK (kM_setStatus_c42 τ v1 s0) := by
  unfold kM_setStatus_c42
  exact (mok_setStatus_c45 ((mok_mB (h))))
theorem mok_setStatus_c26 {τ : MS} {v1 : Int32} (h : mOK τ) : mOK (kM_setStatus_c26 τ v1) := by
  unfold kM_setStatus_c26
  exact (mok_ite (mok_setStatus_c42 (h)) (mok_setStatus_c42 (h)))
theorem mok_setStatus_c23 {τ : MS} {v1 : Int32} {s0 : Bool} (h : mOK τ) : mOK (kM_setStatus_c23 τ v1 s0) := by
  unfold kM_setStatus_c23
  exact (mok_setStatus_c26 ((mok_mB (h))))
theorem mok_setStatus_c8 {τ : MS} {v1 : Int32} (h : mOK τ) : mOK (kM_setStatus_c8 τ v1) := by
  unfold kM_setStatus_c8
  exact (mok_ite (mok_setStatus_c23 (h)) (mok_setStatus_c23 (h)))
theorem mok_setStatus {τ : MS} {a1 : Int32} (h : mOK τ) : mOK (kM_setStatus τ a1) := by
  unfold kM_setStatus
  exact (mok_setStatus_c8 ((mok_win (h) (pk_andIn _ 3 (by decide) (by decide)))))
theorem mok_flags_c31 {τ : MS} {v3 : Bool} (h : mOK τ) : mOK (kM_flags_c31 τ v3) := by
  unfold kM_flags_c31
  exact (mok_mB (h))
theorem mok_flags_c26 {τ : MS} {v2 : Bool} {v3 : Bool} (h : mOK τ) : mOK (kM_flags_c26 τ v2 v3) := by
  unfold kM_flags_c26
  exact (mok_flags_c31 ((mok_mB (h))))
theorem mok_flags_c23 {τ : MS} {v2 : Bool} {v3 : Bool} {s0 : Bool} (h : mOK τ) : mOK (kM_flags_c23 τ v2 v3 s0) := by
  unfold kM_flags_c23
  exact (mok_flags_c26 ((mok_mB (h))))
theorem mok_flags_c13 {τ : MS} {v1 : Int32} {v2 : Bool} {v3 : Bool} (h : mOK τ) : mOK (kM_flags_c13 τ v1 v2 v3) := by
  unfold kM_flags_c13
  exact (mok_ite (mok_flags_c23 (h)) (mok_flags_c23 (h)))
theorem mok_flags_c10 {τ : MS} {v1 : Int32} {v2 : Bool} {v3 : Bool} {s0 : Bool} (h : mOK τ) : mOK (kM_flags_c10 τ v1 v2 v3 s0) := by
  unfold kM_flags_c10
  exact (mok_flags_c13 ((mok_mB (h))))
theorem mok_flags {τ : MS} {a1 : Int32} {a2 : Bool} {a3 : Bool} (h : mOK τ) : mOK (kM_flags τ a1 a2 a3) := by
  unfold kM_flags
  exact (mok_ite (mok_flags_c10 (h)) (mok_flags_c10 (h)))
theorem mok_shift_c59 {τ : MS} {s0 : Int32} {s1 : Int32} {s2 : Int32} (h : mOK τ) : mOK (kM_shift_c59 τ s0 s1 s2) := by
  unfold kM_shift_c59
  exact (mok_give (h))
theorem mok_shift {τ : MS}  (h : mOK τ) : mOK (kM_shift τ ) := by
  unfold kM_shift
  exact (mok_ite (mok_shift_c59 (h)) (mok_ite (mok_shift_c59 (h)) (mok_shift_c59 (h))))
theorem mok_controls_c64 {τ : MS} {s0 : Int32} {s1 : Int32} {s2 : Int32} (h : mOK τ) : mOK (kM_controls_c64 τ s0 s1 s2) := by
  unfold kM_controls_c64
  exact (mok_give (h))
theorem mok_controls {τ : MS}  (h : mOK τ) : mOK (kM_controls τ ) := by
  unfold kM_controls
  exact (mok_ite (mok_ite (mok_setStatus (h)) (mok_ite (mok_I (by decide) (by decide) (h)) (mok_I (by decide) (by decide) (h)))) (mok_ite (mok_controls_c64 (h)) (mok_ite (mok_controls_c64 (h)) (mok_controls_c64 (h)))))
theorem mok_work_c308 {τ : MS} {v5 : Bool} {s0 : Bool} {s1 : Int32} (h : mOK τ) : mOK (kM_work_c308 τ v5 s0 s1) := by
  unfold kM_work_c308
  exact (mok_flags (h))
theorem mok_work_c284 {τ : MS} {v1 : Int32} {v3 : Int64} {v5 : Bool} {v6 : Int32} (h : mOK τ) : mOK (kM_work_c284 τ v1 v3 v5 v6) := by
  unfold kM_work_c284
  exact (mok_ite h (mok_ite (mok_work_c308 (h)) (mok_work_c308 (h))))
theorem mok_work_c270 {τ : MS} {v1 : Int32} {v3 : Int64} {v5 : Bool} {v6 : Int32} (h : mOK τ) : mOK (kM_work_c270 τ v1 v3 v5 v6) := by
  unfold kM_work_c270
  exact (mok_work_c284 ((mok_give (h))))
theorem mok_work_c264 {τ : MS} {v1 : Int32} {v5 : Bool} {s0 : Int32} (h : mOK τ) : mOK (kM_work_c264 τ v1 v5 s0) := by
  unfold kM_work_c264
  exact (mok_work_c270 (h))
theorem mok_work_c221 {τ : MS} {v1 : Int32} {v5 : Bool} {s0 : Int32} (h : mOK τ) : mOK (kM_work_c221 τ v1 v5 s0) := by
  unfold kM_work_c221
  exact (mok_ite (mok_work_c264 (h)) (mok_ite (mok_work_c264 (h)) (mok_work_c264 (h))))
theorem mok_work_c185 {τ : MS} {v1 : Int32} {v2 : Bool} {v3 : Int64} {s0 : Bool} (h : mOK τ) : mOK (kM_work_c185 τ v1 v2 v3 s0) := by
  unfold kM_work_c185
  exact (mok_work_c270 (h))
theorem mok_work_c144 {τ : MS} {v1 : Int32} {v2 : Bool} (h : mOK τ) : mOK (kM_work_c144 τ v1 v2) := by
  unfold kM_work_c144
  exact (mok_ite (mok_work_c185 (h)) (mok_work_c185 (h)))
theorem mok_work_c115 {τ : MS} {v1 : Int32} {v2 : Bool} {v3 : Int64} {s0 : Bool} (h : mOK τ) : mOK (kM_work_c115 τ v1 v2 v3 s0) := by
  unfold kM_work_c115
  exact (mok_work_c270 (h))
theorem mok_work_c70 {τ : MS} {v1 : Int32} {v2 : Bool} (h : mOK τ) : mOK (kM_work_c70 τ v1 v2) := by
  unfold kM_work_c70
  exact (mok_ite (mok_work_c115 (h)) (mok_work_c115 (h)))
theorem mok_work_c51 {τ : MS} {v1 : Int32} {s0 : Bool} (h : mOK τ) : mOK (kM_work_c51 τ v1 s0) := by
  unfold kM_work_c51
  exact (mok_ite (mok_work_c70 (h)) (mok_ite (mok_work_c70 (h)) (mok_ite (mok_work_c144 (h)) (mok_ite (mok_work_c144 (h)) (mok_ite (mok_work_c221 (h)) (mok_work_c221 (h)))))))
theorem mok_work_c50 {τ : MS} {v1 : Int32} (h : mOK τ) : mOK (kM_work_c50 τ v1) := by
  unfold kM_work_c50
  exact (mok_work_c51 (h))
theorem mok_work_c32 {τ : MS} {s0 : Int32} (h : mOK τ) : mOK (kM_work_c32 τ s0) := by
  unfold kM_work_c32
  exact (mok_ite (mok_work_c50 (h)) (mok_ite (mok_work_c50 (h)) (mok_work_c51 (h))))
theorem mok_work_c28 {τ : MS}  (h : mOK τ) : mOK (kM_work_c28 τ ) := by
  unfold kM_work_c28
  exact (mok_work_c32 (h))
theorem mok_work {τ : MS}  (h : mOK τ) : mOK (kM_work τ ) := by
  unfold kM_work
  exact (mok_ite (mok_work_c28 (h)) (mok_ite (mok_work_c28 (h)) (mok_work_c32 (h))))
theorem mok_simple_c144 {τ : MS} {s0 : Bool} (h : mOK τ) : mOK (kM_simple_c144 τ s0) := by
  unfold kM_simple_c144
  exact (mok_mB (h))
theorem mok_simple_c143 {τ : MS}  (h : mOK τ) : mOK (kM_simple_c143 τ ) := by
  unfold kM_simple_c143
  exact (mok_simple_c144 (h))
theorem mok_simple_c126 {τ : MS}  (h : mOK τ) : mOK (kM_simple_c126 τ ) := by
  unfold kM_simple_c126
  exact (mok_ite (mok_simple_c144 (h)) (mok_simple_c143 (h)))
theorem mok_simple_c115 {τ : MS} {v2 : Int32} {v3 : Bool} (h : mOK τ) : mOK (kM_simple_c115 τ v2 v3) := by
  unfold kM_simple_c115
  exact (mok_ite (mok_simple_c126 (h)) (mok_ite (mok_simple_c126 (h)) (mok_simple_c143 (h))))
theorem mok_simple_c112 {τ : MS} {v2 : Int32} {v3 : Bool} {s0 : Int32} (h : mOK τ) : mOK (kM_simple_c112 τ v2 v3 s0) := by
  unfold kM_simple_c112
  exact (mok_simple_c115 ((mok_I (by decide) (by decide) (h))))
theorem mok_simple_c19 {τ : MS}  (h : mOK τ) : mOK (kM_simple_c19 τ ) := by
  unfold kM_simple_c19
  exact (mok_I (by decide) (by decide) (h))
theorem mok_simple {τ : MS} {a1 : Int32} (h : mOK τ) : mOK (kM_simple τ a1) := by
  unfold kM_simple
  exact (mok_ite (mok_simple_c19 ((mok_give (h)))) (mok_ite (mok_give (h)) (mok_ite (mok_simple_c112 (h)) (mok_simple_c112 (h)))))
theorem mok_go_c134 {τ : MS}  (h : mOK τ) : mOK (kM_go_c134 τ ) := by
  unfold kM_go_c134
  exact (mok_mB (h))
theorem mok_go_c129 {τ : MS}  (h : mOK τ) : mOK (kM_go_c129 τ ) := by
  unfold kM_go_c129
  exact (mok_go_c134 ((mok_mB (h))))
theorem mok_go_c116 {τ : MS}  (h : mOK τ) : mOK (kM_go_c116 τ ) := by
  unfold kM_go_c116
  exact (mok_go_c129 ((mok_win (h) (m_rem8 (k := 1) (by decide) (h).1))))
theorem mok_go_c86 {τ : MS} {v1 : Int32} (h : mOK τ) : mOK (kM_go_c86 τ v1) := by
  unfold kM_go_c86
  exact (mok_give (h))
theorem mok_go_c51 {τ : MS} {v1 : Int32} (h : mOK τ) : mOK (kM_go_c51 τ v1) := by
  unfold kM_go_c51
  exact (mok_ite (mok_go_c86 ((mok_win (h) (m_rem8 (k := 7) (by decide) (h).1)))) (mok_go_c86 ((mok_win (h) (m_rem8 (k := 1) (by decide) (h).1)))))
theorem mok_go_c25 {τ : MS} {v1 : Int32} (h : mOK τ) : mOK (kM_go_c25 τ v1) := by
  unfold kM_go_c25
  exact (mok_I (by decide) (by decide) (h))
theorem mok_go {τ : MS} {a1 : Int32} (h : mOK τ) : mOK (kM_go τ a1) := by
  unfold kM_go
  exact (mok_ite (mok_go_c25 ((mok_give (h)))) (mok_ite (mok_go_c51 (h)) (mok_ite (mok_go_c51 (h)) (mok_ite (mok_go_c116 ((mok_I (by decide) (by decide) (h)))) h))))
theorem mok_memory_c301 {τ : MS} {s0 : Int32} {s1 : Int32} {s2 : Int32} (h : mOK τ) : mOK (kM_memory_c301 τ s0 s1 s2) := by
  unfold kM_memory_c301
  exact (mok_give (h))
theorem mok_memory_c279 {τ : MS} {v1 : Int32} {v2 : Int32} {s0 : Int32} {s1 : Int32} (h : mOK τ) : mOK (kM_memory_c279 τ v1 v2 s0 s1) := by
  unfold kM_memory_c279
  exact (mok_memory_c301 (h))
theorem mok_memory_c236 {τ : MS} {v3 : Int32} (h : mOK τ) : mOK (kM_memory_c236 τ v3) := by
  unfold kM_memory_c236
  exact (mok_give (h))
theorem mok_memory_c190 {τ : MS} {v1 : Int32} (h : mOK τ) : mOK (kM_memory_c190 τ v1) := by
  unfold kM_memory_c190
  exact (mok_store (h))
theorem mok_memory_c144 {τ : MS} {v4 : Int32} (h : mOK τ) : mOK (kM_memory_c144 τ v4) := by
  unfold kM_memory_c144
  exact (mok_give (h))
theorem mok_memory_c81 {τ : MS} {v1 : Int32} (h : mOK τ) : mOK (kM_memory_c81 τ v1) := by
  unfold kM_memory_c81
  exact (mok_store (h))
theorem mok_memory_c33 {τ : MS} {v1 : Int32} {v2 : Int32} (h : mOK τ) : mOK (kM_memory_c33 τ v1 v2) := by
  unfold kM_memory_c33
  exact (mok_store (h))
theorem mok_memory {τ : MS} {a1 : Int32} (h : mOK τ) : mOK (kM_memory τ a1) := by
  unfold kM_memory
  exact (mok_ite (mok_memory_c33 (h)) (mok_ite (mok_memory_c33 (h)) (mok_ite (mok_memory_c33 (h)) (mok_ite (mok_memory_c81 ((mok_store (h)))) (mok_ite (mok_memory_c144 ((mok_give (h)))) (mok_ite (mok_memory_c190 ((mok_give (h)))) (mok_ite (mok_memory_c236 ((mok_store (h)))) (mok_ite (mok_memory_c279 (h)) (mok_ite (mok_memory_c279 (h)) (mok_memory_c301 (h)))))))))))
theorem mok_trap_c97 {τ : MS} {v1 : Int32} (h : mOK τ) : mOK (kM_trap_c97 τ v1).2 := by
  unfold kM_trap_c97
  exact (show mOK (mI τ 17 ((τ.1 16) + (4 : Int32))) from (mok_I (by decide) (by decide) (h)))
theorem mok_trap_c89 {τ : MS} {v1 : Int32} (h : mOK τ) : mOK (kM_trap_c89 τ v1).2 := by
  unfold kM_trap_c89
  exact (mok_trap_c97 ((mok_I (by decide) (by decide) (h))))
theorem mok_trap_c84 {τ : MS} {v1 : Int32} (h : mOK τ) : mOK (kM_trap_c84 τ v1).2 := by
  unfold kM_trap_c84
  exact (mok_trap_c89 ((mok_I (by decide) (by decide) (h))))
theorem mok_trap_c70 {τ : MS} {v1 : Int32} (h : mOK τ) : mOK (kM_trap_c70 τ v1).2 := by
  unfold kM_trap_c70
  exact (mok_trap_c84 ((mok_give (h))))
theorem mok_trap_c56 {τ : MS} {v1 : Int32} (h : mOK τ) : mOK (kM_trap_c56 τ v1).2 := by
  unfold kM_trap_c56
  exact (mok_trap_c70 ((mok_give (h))))
theorem mok_trap_c42 {τ : MS} {v1 : Int32} (h : mOK τ) : mOK (kM_trap_c42 τ v1).2 := by
  unfold kM_trap_c42
  exact (mok_trap_c56 ((mok_win (h) (m_rem8 (k := 7) (by decide) (h).1))))
theorem mok_trap_c37 {τ : MS} {v1 : Int32} (h : mOK τ) : mOK (kM_trap_c37 τ v1).2 := by
  unfold kM_trap_c37
  exact (mok_trap_c42 ((mok_mB (h))))
theorem mok_trap_c29 {τ : MS} {v1 : Int32} (h : mOK τ) : mOK (kM_trap_c29 τ v1).2 := by
  unfold kM_trap_c29
  exact (mok_trap_c37 ((mok_mB (h))))
theorem mok_trap_c10 {τ : MS} {v1 : Int32} (h : mOK τ) : mOK (kM_trap_c10 τ v1).2 := by
  unfold kM_trap_c10
  exact (mok_iteP (show mOK (mB τ 19 true) from (mok_mB (h))) (mok_trap_c29 ((mok_mB (h)))))
theorem mok_trap {τ : MS} {a1 : Int32} (h : mOK τ) : mOK (kM_trap τ a1).2 := by
  unfold kM_trap
  exact (mok_trap_c10 ((mok_I (by decide) (by decide) (h))))
theorem mok_act {τ : MS} {a1 : Int32} (h : mOK τ) : mOK (kM_act τ a1) := by
  unfold kM_act
  exact (mok_ite (mok_ite (mok_memory (h)) (mok_ite (mok_ite (mok_go (h)) (mok_controls (h))) (mok_ite (mok_work (h)) (mok_shift (h))))) (mok_simple (h)))
theorem mok_goes_c10 {τ : MS} {v1 : Bool} {s0 : Bool} (h : mOK τ) : mOK (kM_goes_c10 τ v1 s0).2 := by
  unfold kM_goes_c10
  exact (show mOK (mI τ 0 (bI s0)) from (mok_I (by decide) (by decide) (h)))
theorem mok_goes {τ : MS} {a1 : Bool} (h : mOK τ) : mOK (kM_goes τ a1).2 := by
  unfold kM_goes
  exact (mok_iteP (mok_goes_c10 (h)) (mok_goes_c10 (h)))
