/-! a step leaves field 0 as it was -/
def Z0 (x : Int32) (τ : MS) : Prop := τ.1 0 = x
theorem z0_I {x : Int32} {τ : MS} {k : Nat} {v : Int32} (hk : 0 ≠ k) (h : Z0 x τ) : Z0 x (mI τ k v) := by
  show upd τ.1 k v 0 = x
  rw [pk_un hk]; exact h
theorem z0_mB {x : Int32} {τ : MS} {k : Nat} {b : Bool} (h : Z0 x τ) : Z0 x (mB τ k b) := h
theorem z0_mY {x : Int32} {τ : MS} {k : Nat} {b : Int32} (h : Z0 x τ) : Z0 x (mY τ k b) := h
theorem z0_mG {x : Int32} {τ : MS} {k : Nat} {b : Int32} (h : Z0 x τ) : Z0 x (mG τ k b) := h
theorem z0_mW {x : Int32} {τ : MS} {k : Nat} {b : Int32} (h : Z0 x τ) : Z0 x (mW τ k b) := h
theorem z0_ite {x : Int32} {c : Prop} [Decidable c] {a b : MS} (ha : Z0 x a) (hb : Z0 x b) : Z0 x (if c then a else b) := by
  split
  · exact ha
  · exact hb
theorem z0_iteP {x : Int32} {α : Type} {c : Prop} [Decidable c] {a b : α × MS} (ha : Z0 x a.2) (hb : Z0 x b.2) : Z0 x (if c then a else b).2 := by
  split
  · exact ha
  · exact hb
theorem z0_give {x : Int32} {τ : MS} {w r v : Int32} (h : Z0 x τ) : Z0 x (kM_give τ w r v) := by
  unfold Z0; rw [(give_keeps τ w r v).1]; exact h
theorem z0_store_c3 {x : Int32} : ∀ (f : Nat) {τ : MS} {a n v k : Int32}, Z0 x τ → Z0 x (kM_store_c3 f τ a n v k) := by
  intro f
  induction f with
  | zero => intro τ a n v k h; exact h
  | succ f ih =>
    intro τ a n v k h
    rw [kM_store_c3]
    split
    · exact h
    · exact ih (z0_mY h)
theorem z0_store {x : Int32} {τ : MS} {a n v : Int32} (h : Z0 x τ) : Z0 x (kM_store τ a n v) := z0_store_c3 _ h
theorem z0_setStatus_c148 {x : Int32} {τ : MS} {s0 : Bool} (h : Z0 x τ) : Z0 x (kM_setStatus_c148 τ s0) := by
  unfold kM_setStatus_c148
  exact (z0_mB (h))
theorem z0_setStatus_c132 {x : Int32} {τ : MS} {v1 : Int32} (h : Z0 x τ) : Z0 x (kM_setStatus_c132 τ v1) := by
  unfold kM_setStatus_c132
  exact (z0_ite (z0_setStatus_c148 (h)) (z0_setStatus_c148 (h)))
theorem z0_setStatus_c129 {x : Int32} {τ : MS} {v1 : Int32} {s0 : Bool} (h : Z0 x τ) : Z0 x (kM_setStatus_c129 τ v1 s0) := by
  unfold kM_setStatus_c129
  exact (z0_setStatus_c132 ((z0_mB (h))))
theorem z0_setStatus_c113 {x : Int32} {τ : MS} {v1 : Int32} (h : Z0 x τ) : Z0 x (kM_setStatus_c113 τ v1) := by
  unfold kM_setStatus_c113
  exact (z0_ite (z0_setStatus_c129 (h)) (z0_setStatus_c129 (h)))
theorem z0_setStatus_c110 {x : Int32} {τ : MS} {v1 : Int32} {s0 : Bool} (h : Z0 x τ) : Z0 x (kM_setStatus_c110 τ v1 s0) := by
  unfold kM_setStatus_c110
  exact (z0_setStatus_c113 ((z0_mB (h))))
theorem z0_setStatus_c94 {x : Int32} {τ : MS} {v1 : Int32} (h : Z0 x τ) : Z0 x (kM_setStatus_c94 τ v1) := by
  unfold kM_setStatus_c94
  exact (z0_ite (z0_setStatus_c110 (h)) (z0_setStatus_c110 (h)))
theorem z0_setStatus_c91 {x : Int32} {τ : MS} {v1 : Int32} {s0 : Bool} (h : Z0 x τ) : Z0 x (kM_setStatus_c91 τ v1 s0) := by
  unfold kM_setStatus_c91
  exact (z0_setStatus_c94 ((z0_mB (h))))
theorem z0_setStatus_c75 {x : Int32} {τ : MS} {v1 : Int32} (h : Z0 x τ) : Z0 x (kM_setStatus_c75 τ v1) := by
  unfold kM_setStatus_c75
  exact (z0_ite (z0_setStatus_c91 (h)) (z0_setStatus_c91 (h)))
theorem z0_setStatus_c64 {x : Int32} {τ : MS} {v1 : Int32} (h : Z0 x τ) : Z0 x (kM_setStatus_c64 τ v1) := by
  unfold kM_setStatus_c64
  exact (z0_setStatus_c75 ((z0_I (by decide) (h))))
theorem z0_setStatus_c61 {x : Int32} {τ : MS} {v1 : Int32} {s0 : Bool} (h : Z0 x τ) : Z0 x (kM_setStatus_c61 τ v1 s0) := by
  unfold kM_setStatus_c61
  exact (z0_setStatus_c64 ((z0_mB (h))))
theorem z0_setStatus_c45 {x : Int32} {τ : MS} {v1 : Int32} (h : Z0 x τ) : Z0 x (kM_setStatus_c45 τ v1) := by
  unfold kM_setStatus_c45
  exact (z0_ite (z0_setStatus_c61 (h)) (z0_setStatus_c61 (h)))
theorem z0_setStatus_c42 {x : Int32} {τ : MS} {v1 : Int32} {s0 : Bool} (h : Z0 x τ) : Z0 x (kM_setStatus_c42 τ v1 s0) := by
  unfold kM_setStatus_c42
  exact (z0_setStatus_c45 ((z0_mB (h))))
theorem z0_setStatus_c26 {x : Int32} {τ : MS} {v1 : Int32} (h : Z0 x τ) : Z0 x (kM_setStatus_c26 τ v1) := by
  unfold kM_setStatus_c26
  exact (z0_ite (z0_setStatus_c42 (h)) (z0_setStatus_c42 (h)))
theorem z0_setStatus_c23 {x : Int32} {τ : MS} {v1 : Int32} {s0 : Bool} (h : Z0 x τ) : Z0 x (kM_setStatus_c23 τ v1 s0) := by
  unfold kM_setStatus_c23
  exact (z0_setStatus_c26 ((z0_mB (h))))
theorem z0_setStatus_c8 {x : Int32} {τ : MS} {v1 : Int32} (h : Z0 x τ) : Z0 x (kM_setStatus_c8 τ v1) := by
  unfold kM_setStatus_c8
  exact (z0_ite (z0_setStatus_c23 (h)) (z0_setStatus_c23 (h)))
theorem z0_setStatus {x : Int32} {τ : MS} {a1 : Int32} (h : Z0 x τ) : Z0 x (kM_setStatus τ a1) := by
  unfold kM_setStatus
  exact (z0_setStatus_c8 ((z0_I (by decide) (h))))
theorem z0_flags_c31 {x : Int32} {τ : MS} {v3 : Bool} (h : Z0 x τ) : Z0 x (kM_flags_c31 τ v3) := by
  unfold kM_flags_c31
  exact (z0_mB (h))
theorem z0_flags_c26 {x : Int32} {τ : MS} {v2 : Bool} {v3 : Bool} (h : Z0 x τ) : Z0 x (kM_flags_c26 τ v2 v3) := by
  unfold kM_flags_c26
  exact (z0_flags_c31 ((z0_mB (h))))
theorem z0_flags_c23 {x : Int32} {τ : MS} {v2 : Bool} {v3 : Bool} {s0 : Bool} (h : Z0 x τ) : Z0 x (kM_flags_c23 τ v2 v3 s0) := by
  unfold kM_flags_c23
  exact (z0_flags_c26 ((z0_mB (h))))
theorem z0_flags_c13 {x : Int32} {τ : MS} {v1 : Int32} {v2 : Bool} {v3 : Bool} (h : Z0 x τ) : Z0 x (kM_flags_c13 τ v1 v2 v3) := by
  unfold kM_flags_c13
  exact (z0_ite (z0_flags_c23 (h)) (z0_flags_c23 (h)))
theorem z0_flags_c10 {x : Int32} {τ : MS} {v1 : Int32} {v2 : Bool} {v3 : Bool} {s0 : Bool} (h : Z0 x τ) : Z0 x (kM_flags_c10 τ v1 v2 v3 s0) := by
  unfold kM_flags_c10
  exact (z0_flags_c13 ((z0_mB (h))))
theorem z0_flags {x : Int32} {τ : MS} {a1 : Int32} {a2 : Bool} {a3 : Bool} (h : Z0 x τ) : Z0 x (kM_flags τ a1 a2 a3) := by
  unfold kM_flags
  exact (z0_ite (z0_flags_c10 (h)) (z0_flags_c10 (h)))
theorem z0_shift_c59 {x : Int32} {τ : MS} {s0 : Int32} {s1 : Int32} {s2 : Int32} (h : Z0 x τ) : Z0 x (kM_shift_c59 τ s0 s1 s2) := by
  unfold kM_shift_c59
  exact (z0_give (h))
theorem z0_shift {x : Int32} {τ : MS}  (h : Z0 x τ) : Z0 x (kM_shift τ ) := by
  unfold kM_shift
  exact (z0_ite (z0_shift_c59 (h)) (z0_ite (z0_shift_c59 (h)) (z0_shift_c59 (h))))
theorem z0_controls_c64 {x : Int32} {τ : MS} {s0 : Int32} {s1 : Int32} {s2 : Int32} (h : Z0 x τ) : Z0 x (kM_controls_c64 τ s0 s1 s2) := by
  unfold kM_controls_c64
  exact (z0_give (h))
theorem z0_controls {x : Int32} {τ : MS}  (h : Z0 x τ) : Z0 x (kM_controls τ ) := by
  unfold kM_controls
  exact (z0_ite (z0_ite (z0_setStatus (h)) (z0_ite (z0_I (by decide) (h)) (z0_I (by decide) (h)))) (z0_ite (z0_controls_c64 (h)) (z0_ite (z0_controls_c64 (h)) (z0_controls_c64 (h)))))
theorem z0_work_c308 {x : Int32} {τ : MS} {v5 : Bool} {s0 : Bool} {s1 : Int32} (h : Z0 x τ) : Z0 x (kM_work_c308 τ v5 s0 s1) := by
  unfold kM_work_c308
  exact (z0_flags (h))
theorem z0_work_c284 {x : Int32} {τ : MS} {v1 : Int32} {v3 : Int64} {v5 : Bool} {v6 : Int32} (h : Z0 x τ) : Z0 x (kM_work_c284 τ v1 v3 v5 v6) := by
  unfold kM_work_c284
  exact (z0_ite h (z0_ite (z0_work_c308 (h)) (z0_work_c308 (h))))
theorem z0_work_c270 {x : Int32} {τ : MS} {v1 : Int32} {v3 : Int64} {v5 : Bool} {v6 : Int32} (h : Z0 x τ) : Z0 x (kM_work_c270 τ v1 v3 v5 v6) := by
  unfold kM_work_c270
  exact (z0_work_c284 ((z0_give (h))))
theorem z0_work_c264 {x : Int32} {τ : MS} {v1 : Int32} {v5 : Bool} {s0 : Int32} (h : Z0 x τ) : Z0 x (kM_work_c264 τ v1 v5 s0) := by
  unfold kM_work_c264
  exact (z0_work_c270 (h))
theorem z0_work_c221 {x : Int32} {τ : MS} {v1 : Int32} {v5 : Bool} {s0 : Int32} (h : Z0 x τ) : Z0 x (kM_work_c221 τ v1 v5 s0) := by
  unfold kM_work_c221
  exact (z0_ite (z0_work_c264 (h)) (z0_ite (z0_work_c264 (h)) (z0_work_c264 (h))))
theorem z0_work_c185 {x : Int32} {τ : MS} {v1 : Int32} {v2 : Bool} {v3 : Int64} {s0 : Bool} (h : Z0 x τ) : Z0 x (kM_work_c185 τ v1 v2 v3 s0) := by
  unfold kM_work_c185
  exact (z0_work_c270 (h))
theorem z0_work_c144 {x : Int32} {τ : MS} {v1 : Int32} {v2 : Bool} (h : Z0 x τ) : Z0 x (kM_work_c144 τ v1 v2) := by
  unfold kM_work_c144
  exact (z0_ite (z0_work_c185 (h)) (z0_work_c185 (h)))
theorem z0_work_c115 {x : Int32} {τ : MS} {v1 : Int32} {v2 : Bool} {v3 : Int64} {s0 : Bool} (h : Z0 x τ) : Z0 x (kM_work_c115 τ v1 v2 v3 s0) := by
  unfold kM_work_c115
  exact (z0_work_c270 (h))
theorem z0_work_c70 {x : Int32} {τ : MS} {v1 : Int32} {v2 : Bool} (h : Z0 x τ) : Z0 x (kM_work_c70 τ v1 v2) := by
  unfold kM_work_c70
  exact (z0_ite (z0_work_c115 (h)) (z0_work_c115 (h)))
theorem z0_work_c51 {x : Int32} {τ : MS} {v1 : Int32} {s0 : Bool} (h : Z0 x τ) : Z0 x (kM_work_c51 τ v1 s0) := by
  unfold kM_work_c51
  exact (z0_ite (z0_work_c70 (h)) (z0_ite (z0_work_c70 (h)) (z0_ite (z0_work_c144 (h)) (z0_ite (z0_work_c144 (h)) (z0_ite (z0_work_c221 (h)) (z0_work_c221 (h)))))))
theorem z0_work_c50 {x : Int32} {τ : MS} {v1 : Int32} (h : Z0 x τ) : Z0 x (kM_work_c50 τ v1) := by
  unfold kM_work_c50
  exact (z0_work_c51 (h))
theorem z0_work_c32 {x : Int32} {τ : MS} {s0 : Int32} (h : Z0 x τ) : Z0 x (kM_work_c32 τ s0) := by
  unfold kM_work_c32
  exact (z0_ite (z0_work_c50 (h)) (z0_ite (z0_work_c50 (h)) (z0_work_c51 (h))))
theorem z0_work_c28 {x : Int32} {τ : MS}  (h : Z0 x τ) : Z0 x (kM_work_c28 τ ) := by
  unfold kM_work_c28
  exact (z0_work_c32 (h))
theorem z0_work {x : Int32} {τ : MS}  (h : Z0 x τ) : Z0 x (kM_work τ ) := by
  unfold kM_work
  exact (z0_ite (z0_work_c28 (h)) (z0_ite (z0_work_c28 (h)) (z0_work_c32 (h))))
theorem z0_simple_c144 {x : Int32} {τ : MS} {s0 : Bool} (h : Z0 x τ) : Z0 x (kM_simple_c144 τ s0) := by
  unfold kM_simple_c144
  exact (z0_mB (h))
theorem z0_simple_c143 {x : Int32} {τ : MS}  (h : Z0 x τ) : Z0 x (kM_simple_c143 τ ) := by
  unfold kM_simple_c143
  exact (z0_simple_c144 (h))
theorem z0_simple_c126 {x : Int32} {τ : MS}  (h : Z0 x τ) : Z0 x (kM_simple_c126 τ ) := by
  unfold kM_simple_c126
  exact (z0_ite (z0_simple_c144 (h)) (z0_simple_c143 (h)))
theorem z0_simple_c115 {x : Int32} {τ : MS} {v2 : Int32} {v3 : Bool} (h : Z0 x τ) : Z0 x (kM_simple_c115 τ v2 v3) := by
  unfold kM_simple_c115
  exact (z0_ite (z0_simple_c126 (h)) (z0_ite (z0_simple_c126 (h)) (z0_simple_c143 (h))))
theorem z0_simple_c112 {x : Int32} {τ : MS} {v2 : Int32} {v3 : Bool} {s0 : Int32} (h : Z0 x τ) : Z0 x (kM_simple_c112 τ v2 v3 s0) := by
  unfold kM_simple_c112
  exact (z0_simple_c115 ((z0_I (by decide) (h))))
theorem z0_simple_c19 {x : Int32} {τ : MS}  (h : Z0 x τ) : Z0 x (kM_simple_c19 τ ) := by
  unfold kM_simple_c19
  exact (z0_I (by decide) (h))
theorem z0_simple {x : Int32} {τ : MS} {a1 : Int32} (h : Z0 x τ) : Z0 x (kM_simple τ a1) := by
  unfold kM_simple
  exact (z0_ite (z0_simple_c19 ((z0_give (h)))) (z0_ite (z0_give (h)) (z0_ite (z0_simple_c112 (h)) (z0_simple_c112 (h)))))
theorem z0_go_c134 {x : Int32} {τ : MS}  (h : Z0 x τ) : Z0 x (kM_go_c134 τ ) := by
  unfold kM_go_c134
  exact (z0_mB (h))
theorem z0_go_c129 {x : Int32} {τ : MS}  (h : Z0 x τ) : Z0 x (kM_go_c129 τ ) := by
  unfold kM_go_c129
  exact (z0_go_c134 ((z0_mB (h))))
theorem z0_go_c116 {x : Int32} {τ : MS}  (h : Z0 x τ) : Z0 x (kM_go_c116 τ ) := by
  unfold kM_go_c116
  exact (z0_go_c129 ((z0_I (by decide) (h))))
theorem z0_go_c86 {x : Int32} {τ : MS} {v1 : Int32} (h : Z0 x τ) : Z0 x (kM_go_c86 τ v1) := by
  unfold kM_go_c86
  exact (z0_give (h))
theorem z0_go_c51 {x : Int32} {τ : MS} {v1 : Int32} (h : Z0 x τ) : Z0 x (kM_go_c51 τ v1) := by
  unfold kM_go_c51
  exact (z0_ite (z0_go_c86 ((z0_I (by decide) (h)))) (z0_go_c86 ((z0_I (by decide) (h)))))
theorem z0_go_c25 {x : Int32} {τ : MS} {v1 : Int32} (h : Z0 x τ) : Z0 x (kM_go_c25 τ v1) := by
  unfold kM_go_c25
  exact (z0_I (by decide) (h))
theorem z0_go {x : Int32} {τ : MS} {a1 : Int32} (h : Z0 x τ) : Z0 x (kM_go τ a1) := by
  unfold kM_go
  exact (z0_ite (z0_go_c25 ((z0_give (h)))) (z0_ite (z0_go_c51 (h)) (z0_ite (z0_go_c51 (h)) (z0_ite (z0_go_c116 ((z0_I (by decide) (h)))) h))))
theorem z0_memory_c301 {x : Int32} {τ : MS} {s0 : Int32} {s1 : Int32} {s2 : Int32} (h : Z0 x τ) : Z0 x (kM_memory_c301 τ s0 s1 s2) := by
  unfold kM_memory_c301
  exact (z0_give (h))
theorem z0_memory_c279 {x : Int32} {τ : MS} {v1 : Int32} {v2 : Int32} {s0 : Int32} {s1 : Int32} (h : Z0 x τ) : Z0 x (kM_memory_c279 τ v1 v2 s0 s1) := by
  unfold kM_memory_c279
  exact (z0_memory_c301 (h))
theorem z0_memory_c236 {x : Int32} {τ : MS} {v3 : Int32} (h : Z0 x τ) : Z0 x (kM_memory_c236 τ v3) := by
  unfold kM_memory_c236
  exact (z0_give (h))
theorem z0_memory_c190 {x : Int32} {τ : MS} {v1 : Int32} (h : Z0 x τ) : Z0 x (kM_memory_c190 τ v1) := by
  unfold kM_memory_c190
  exact (z0_store (h))
theorem z0_memory_c144 {x : Int32} {τ : MS} {v4 : Int32} (h : Z0 x τ) : Z0 x (kM_memory_c144 τ v4) := by
  unfold kM_memory_c144
  exact (z0_give (h))
theorem z0_memory_c81 {x : Int32} {τ : MS} {v1 : Int32} (h : Z0 x τ) : Z0 x (kM_memory_c81 τ v1) := by
  unfold kM_memory_c81
  exact (z0_store (h))
theorem z0_memory_c33 {x : Int32} {τ : MS} {v1 : Int32} {v2 : Int32} (h : Z0 x τ) : Z0 x (kM_memory_c33 τ v1 v2) := by
  unfold kM_memory_c33
  exact (z0_store (h))
theorem z0_memory {x : Int32} {τ : MS} {a1 : Int32} (h : Z0 x τ) : Z0 x (kM_memory τ a1) := by
  unfold kM_memory
  exact (z0_ite (z0_memory_c33 (h)) (z0_ite (z0_memory_c33 (h)) (z0_ite (z0_memory_c33 (h)) (z0_ite (z0_memory_c81 ((z0_store (h)))) (z0_ite (z0_memory_c144 ((z0_give (h)))) (z0_ite (z0_memory_c190 ((z0_give (h)))) (z0_ite (z0_memory_c236 ((z0_store (h)))) (z0_ite (z0_memory_c279 (h)) (z0_ite (z0_memory_c279 (h)) (z0_memory_c301 (h)))))))))))
theorem z0_trap_c97 {x : Int32} {τ : MS} {v1 : Int32} (h : Z0 x τ) : Z0 x (kM_trap_c97 τ v1).2 := by
  unfold kM_trap_c97
  exact (show Z0 x (mI τ 17 ((τ.1 16) + (4 : Int32))) from (z0_I (by decide) (h)))
theorem z0_trap_c89 {x : Int32} {τ : MS} {v1 : Int32} (h : Z0 x τ) : Z0 x (kM_trap_c89 τ v1).2 := by
  unfold kM_trap_c89
  exact (z0_trap_c97 ((z0_I (by decide) (h))))
theorem z0_trap_c84 {x : Int32} {τ : MS} {v1 : Int32} (h : Z0 x τ) : Z0 x (kM_trap_c84 τ v1).2 := by
  unfold kM_trap_c84
  exact (z0_trap_c89 ((z0_I (by decide) (h))))
theorem z0_trap_c70 {x : Int32} {τ : MS} {v1 : Int32} (h : Z0 x τ) : Z0 x (kM_trap_c70 τ v1).2 := by
  unfold kM_trap_c70
  exact (z0_trap_c84 ((z0_give (h))))
theorem z0_trap_c56 {x : Int32} {τ : MS} {v1 : Int32} (h : Z0 x τ) : Z0 x (kM_trap_c56 τ v1).2 := by
  unfold kM_trap_c56
  exact (z0_trap_c70 ((z0_give (h))))
theorem z0_trap_c42 {x : Int32} {τ : MS} {v1 : Int32} (h : Z0 x τ) : Z0 x (kM_trap_c42 τ v1).2 := by
  unfold kM_trap_c42
  exact (z0_trap_c56 ((z0_I (by decide) (h))))
theorem z0_trap_c37 {x : Int32} {τ : MS} {v1 : Int32} (h : Z0 x τ) : Z0 x (kM_trap_c37 τ v1).2 := by
  unfold kM_trap_c37
  exact (z0_trap_c42 ((z0_mB (h))))
theorem z0_trap_c29 {x : Int32} {τ : MS} {v1 : Int32} (h : Z0 x τ) : Z0 x (kM_trap_c29 τ v1).2 := by
  unfold kM_trap_c29
  exact (z0_trap_c37 ((z0_mB (h))))
theorem z0_trap_c10 {x : Int32} {τ : MS} {v1 : Int32} (h : Z0 x τ) : Z0 x (kM_trap_c10 τ v1).2 := by
  unfold kM_trap_c10
  exact (z0_iteP (show Z0 x (mB τ 19 true) from (z0_mB (h))) (z0_trap_c29 ((z0_mB (h)))))
theorem z0_trap {x : Int32} {τ : MS} {a1 : Int32} (h : Z0 x τ) : Z0 x (kM_trap τ a1).2 := by
  unfold kM_trap
  exact (z0_trap_c10 ((z0_I (by decide) (h))))
theorem z0_act {x : Int32} {τ : MS} {a1 : Int32} (h : Z0 x τ) : Z0 x (kM_act τ a1) := by
  unfold kM_act
  exact (z0_ite (z0_ite (z0_memory (h)) (z0_ite (z0_ite (z0_go (h)) (z0_controls (h))) (z0_ite (z0_work (h)) (z0_shift (h))))) (z0_simple (h)))
theorem z0_oneStep_c306 {x : Int32} {τ : MS}  (h : Z0 x τ) : Z0 x (kM_oneStep_c306 τ ).2 := by
  unfold kM_oneStep_c306
  exact (show Z0 x (mI τ 17 (τ.1 28)) from (z0_I (by decide) (h)))
theorem z0_oneStep_c298 {x : Int32} {τ : MS}  (h : Z0 x τ) : Z0 x (kM_oneStep_c298 τ ).2 := by
  unfold kM_oneStep_c298
  exact (z0_oneStep_c306 ((z0_I (by decide) (h))))
theorem z0_oneStep_c293 {x : Int32} {τ : MS} {v1 : Int32} (h : Z0 x τ) : Z0 x (kM_oneStep_c293 τ v1).2 := by
  unfold kM_oneStep_c293
  exact (z0_oneStep_c298 ((z0_act (h))))
theorem z0_oneStep_c283 {x : Int32} {τ : MS} {v1 : Int32} (h : Z0 x τ) : Z0 x (kM_oneStep_c283 τ v1).2 := by
  unfold kM_oneStep_c283
  exact (z0_oneStep_c293 ((z0_I (by decide) (h))))
theorem z0_oneStep_c239 {x : Int32} {τ : MS} {v1 : Int32} (h : Z0 x τ) : Z0 x (kM_oneStep_c239 τ v1).2 := by
  unfold kM_oneStep_c239
  exact (z0_iteP (z0_iteP (z0_iteP (z0_iteP (z0_oneStep_c283 (h)) (show Z0 x (mB τ 19 true) from (z0_mB (h)))) (z0_oneStep_c283 (h))) (z0_oneStep_c283 (h))) (show Z0 x ((kM_trap τ (kM_trouble τ v1)).2) from (z0_trap (h))))
theorem z0_oneStep_c236 {x : Int32} {τ : MS} {v1 : Int32} {s0 : Int32} (h : Z0 x τ) : Z0 x (kM_oneStep_c236 τ v1 s0).2 := by
  unfold kM_oneStep_c236
  exact (z0_oneStep_c239 ((z0_I (by decide) (h))))
theorem z0_oneStep_c195 {x : Int32} {τ : MS} {v1 : Int32} (h : Z0 x τ) : Z0 x (kM_oneStep_c195 τ v1).2 := by
  unfold kM_oneStep_c195
  exact (z0_iteP (z0_oneStep_c236 (h)) (z0_oneStep_c236 (h)))
theorem z0_oneStep_c173 {x : Int32} {τ : MS} {v1 : Int32} (h : Z0 x τ) : Z0 x (kM_oneStep_c173 τ v1).2 := by
  unfold kM_oneStep_c173
  exact (z0_oneStep_c195 ((z0_I (by decide) (h))))
theorem z0_oneStep_c170 {x : Int32} {τ : MS} {v1 : Int32} {s0 : Int32} (h : Z0 x τ) : Z0 x (kM_oneStep_c170 τ v1 s0).2 := by
  unfold kM_oneStep_c170
  exact (z0_oneStep_c173 ((z0_I (by decide) (h))))
theorem z0_oneStep_c142 {x : Int32} {τ : MS} {v1 : Int32} (h : Z0 x τ) : Z0 x (kM_oneStep_c142 τ v1).2 := by
  unfold kM_oneStep_c142
  exact (z0_iteP (z0_oneStep_c170 (h)) (z0_oneStep_c170 (h)))
theorem z0_oneStep_c120 {x : Int32} {τ : MS}  (h : Z0 x τ) : Z0 x (kM_oneStep_c120 τ ).2 := by
  unfold kM_oneStep_c120
  exact (z0_oneStep_c142 ((z0_I (by decide) (h))))
theorem z0_oneStep_c90 {x : Int32} {τ : MS}  (h : Z0 x τ) : Z0 x (kM_oneStep_c90 τ ).2 := by
  unfold kM_oneStep_c90
  exact (z0_iteP (show Z0 x ((kM_trap τ (1 : Int32)).2) from (z0_trap (h))) (z0_oneStep_c120 ((z0_I (by decide) (h)))))
theorem z0_oneStep_c78 {x : Int32} {τ : MS}  (h : Z0 x τ) : Z0 x (kM_oneStep_c78 τ ).2 := by
  unfold kM_oneStep_c78
  exact (show Z0 x ((kM_trap τ ((16 : Int32) + (τ.1 20))).2) from (z0_trap (h)))
theorem z0_oneStep_c39 {x : Int32} {τ : MS}  (h : Z0 x τ) : Z0 x (kM_oneStep_c39 τ ).2 := by
  unfold kM_oneStep_c39
  exact (show Z0 x (mI τ 17 ((τ.1 17) + (4 : Int32))) from (z0_I (by decide) (h)))
theorem z0_oneStep_c31 {x : Int32} {τ : MS}  (h : Z0 x τ) : Z0 x (kM_oneStep_c31 τ ).2 := by
  unfold kM_oneStep_c31
  exact (z0_oneStep_c39 ((z0_I (by decide) (h))))
theorem z0_oneStep_c19 {x : Int32} {τ : MS}  (h : Z0 x τ) : Z0 x (kM_oneStep_c19 τ ).2 := by
  unfold kM_oneStep_c19
  exact (z0_iteP (z0_iteP (z0_oneStep_c90 (h)) (z0_iteP (z0_oneStep_c78 (h)) (z0_iteP (z0_oneStep_c90 (h)) (z0_oneStep_c78 (h))))) (z0_oneStep_c31 ((z0_mB (h)))))
theorem z0_oneStep {x : Int32} {τ : MS}  (h : Z0 x τ) : Z0 x (kM_oneStep τ ).2 := by
  unfold kM_oneStep
  exact (z0_iteP (z0_oneStep_c19 ((z0_I (by decide) (h)))) (show Z0 x τ from h))
