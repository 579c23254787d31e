/-! two words moved -/
theorem two_rel {σ : XS} {τ : MS} (h : Rel σ τ) {k d : Int32} {n : Nat} (hk : τ.1 27 = k) (hd : τ.1 24 = d) (hdv : vp_in d 32) (hdv1 : vp_in (d + 1) 32) (k37 : k = 3 ∨ k = 7) (hn : n + 8 ≤ 4096) (ha : n % 8 = 0) : Rel (kX_moveTwoWords σ k d (nI n)) (kM_memory τ (nI n)) := by
  have z4 : (4 : Nat) = 1 ∨ (4 : Nat) = 2 ∨ (4 : Nat) = 4 := by simp
  have L0 := same_load h.2.2.2.2 (n := n) (by omega) z4 (by omega)
  have L4 := same_load h.2.2.2.2 (n := n + 4) (by omega) z4 (by omega)
  rw [← nI_add] at L4
  rcases k37 with e | e
  · have a1 : kX_moveTwoWords σ k d (nI n) = kX_write (kX_write σ d (kX_load σ (nI n) (nI 4))) (d + 1) (kX_load (kX_write σ d (kX_load σ (nI n) (nI 4))) (nI n + nI 4) (nI 4)) := if_pos e
    have a2 : kM_memory τ (nI n) = kM_memory_c144 (kM_give τ (τ.1 4) (τ.1 24) (kM_load τ (nI n) (nI 4))) (kM_load τ (nI n + nI 4) (nI 4)) := by
      unfold kM_memory
      rw [hk, if_neg (by rw [e]; decide), if_neg (by rw [e]; decide), if_neg (by rw [e]; decide), if_neg (by rw [e]; decide), if_pos e]; rfl
    have a3 : kX_load (kX_write σ d (kX_load σ (nI n) (nI 4))) (nI n + nI 4) (nI 4) = kX_load σ (nI n + nI 4) (nI 4) := by
      unfold kX_load kX_write
      rw [(put_keeps σ (d = 0) _ _).2.2]
    rw [a1, a2, a3, L0, L4, hd]
    have w := write_rel h hdv (kM_load τ (nI n) (nI 4))
    unfold kM_memory_c144
    have g : (kM_give τ (τ.1 4) d (kM_load τ (nI n) (nI 4))).1 24 = d := by rw [give_ints]; exact hd
    rw [g]
    exact write_rel w hdv1 _
  · have a1 : kX_moveTwoWords σ k d (nI n) = kX_store (kX_store σ (nI n) (nI 4) (kX_read σ d)) (nI n + nI 4) (nI 4) (kX_read (kX_store σ (nI n) (nI 4) (kX_read σ d)) (d + 1)) := if_neg (by rw [e]; decide)
    have a2 : kM_memory τ (nI n) = kM_memory_c81 (kM_store τ (nI n) (nI 4) (kM_get τ (τ.1 4) (τ.1 24))) (nI n) := by
      unfold kM_memory
      rw [hk, if_neg (by rw [e]; decide), if_neg (by rw [e]; decide), if_neg (by rw [e]; decide), if_pos e]; rfl
    rw [a1, a2, hd, read_eq h hdv]
    have st := rel_store h (kM_get τ (τ.1 4) d) (n := n) (by omega) z4 (by omega)
    rw [read_eq st hdv1]
    unfold kM_memory_c81
    have g : (kM_store τ (nI n) (nI 4) (kM_get τ (τ.1 4) d)).1 24 = d := by rw [store_ints]; exact hd
    rw [g]
    have q := rel_store st (kM_get (kM_store τ (nI n) (nI 4) (kM_get τ (τ.1 4) d)) ((kM_store τ (nI n) (nI 4) (kM_get τ (τ.1 4) d)).1 4) (d + 1)) (n := n + 4) (by omega) z4 (by omega)
    rw [← nI_add] at q
    exact q
