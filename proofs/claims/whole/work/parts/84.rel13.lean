/-! one part moved -/
theorem write_store (σ : XS) (d v a z x : Int32) : kX_write (kX_store σ a z x) d v = kX_store (kX_write σ d v) a z x := by
  unfold kX_write
  by_cases e : d = 0
  · rw [if_pos e, if_pos e]
  · rw [if_neg e, if_neg e]; rfl
theorem move_rel {σ : XS} {τ : MS} (h : Rel σ τ) {k d : Int32} {n z : Nat} (hk : τ.1 27 = k) (hd : τ.1 24 = d) (hdv : vp_in d 32) (hm : kM_moved k = nI z) (hz : z = 1 ∨ z = 2 ∨ z = 4) (hn : n + z ≤ 4096) (ha : n % z = 0) : Rel (kX_moveOne σ k d (nI n) (nI z)) (kM_memory τ (nI n)) := by
  have n4 : n % 4 + z ≤ 4 := by rcases hz with rfl | rfl | rfl <;> omega
  have hn' : n < 4096 := by omega
  have L := same_load h.2.2.2.2 hn' hz n4
  have R := read_eq h hdv
  have st := rel_store h (kM_get τ (τ.1 4) d) hn' hz n4
  have wr := fun v => write_rel h hdv v
  unfold kX_moveOne kM_memory kM_memory_c33 kM_memory_c279 kM_memory_c301
  rw [hk, hd, hm, L, R]
  by_cases k4 : k = 4
  · rw [if_pos k4, if_pos k4]; exact st
  rw [if_neg k4, if_neg k4]
  by_cases k5 : k = 5
  · rw [if_pos k5, if_pos k5]; exact st
  rw [if_neg k5, if_neg k5]
  by_cases k6 : k = 6
  · rw [if_pos k6, if_pos k6]; exact st
  rw [if_neg k6, if_neg k6]
  have k7 : ¬ k = 7 := fun e => by
    rw [e] at hm
    have q : nI 8 = nI z := hm
    rw [nI_eq (by decide) (by omega)] at q; omega
  have k3 : ¬ k = 3 := fun e => by
    rw [e] at hm
    have q : nI 8 = nI z := hm
    rw [nI_eq (by decide) (by omega)] at q; omega
  rw [if_neg k7, if_neg k3]
  by_cases k9 : k = 9
  · rw [if_pos k9, if_neg (by rw [k9]; decide), if_neg (by rw [k9]; decide), if_pos k9]; exact wr _
  rw [if_neg k9]
  by_cases k10 : k = 10
  · rw [if_pos k10, if_neg (by rw [k10]; decide), if_neg (by rw [k10]; decide), if_neg k9, if_pos k10]; exact wr _
  rw [if_neg k10]
  by_cases k13 : k = 13
  · rw [if_pos k13, if_pos k13]
    have z1 : z = 1 := by
      rw [k13] at hm
      have q : nI 1 = nI z := hm
      rw [nI_eq (by decide) (by omega)] at q; omega
    subst z1
    show Rel (kX_write (kX_store σ (nI n) (nI 1) 255) d (kM_load τ (nI n) (nI 1))) (kM_store (kM_give τ (τ.1 4) d (kM_load τ (nI n) (nI 1))) (nI n) (nI 1) 255)
    rw [write_store]
    exact rel_store (wr _) 255 hn' hz n4
  rw [if_neg k13, if_neg k13]
  by_cases k15 : k = 15
  · rw [if_pos k15, if_pos k15]
    have z4 : z = 4 := by
      rw [k15] at hm
      have q : nI 4 = nI z := hm
      rw [nI_eq (by decide) (by omega)] at q; omega
    subst z4
    have w := write_rel st hdv (kM_load τ (nI n) (nI 4))
    unfold kM_memory_c236
    have e : (kM_store τ (nI n) 4 (kM_get τ (τ.1 4) d)).1 24 = d := by rw [store_ints]; exact hd
    rw [e]
    exact w
  rw [if_neg k15, if_neg k15, if_neg k9, if_neg k10]
  exact wr _
