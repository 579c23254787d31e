/-! the trap -/
theorem rel_tick {σ : XS} {τ : MS} (h : Rel σ τ) : Rel (xI σ 9 (σ.1 9 + 1)) (mI τ 22 (τ.1 22 + 1)) := by
  obtain ⟨⟨s1, s2, s3⟩, ⟨t1, t2, t3⟩, ⟨i1, i2, i3, i4, i5, i6, i7, i8⟩, r, m⟩ := h
  have i6' : σ.1 9 + 1 = τ.1 22 + 1 := by rw [i6]
  exact ⟨⟨s1, s2, s3⟩, ⟨t1, t2, t3⟩, ⟨i1, i2, i3, i4, i5, i6', i7, i8⟩, r, m⟩
theorem c_m4096 : ∀ i, i < 32 → bt (-4096) i = decide (12 ≤ i) := by decide +kernel
theorem bt_shl4 (x : Int32) {i : Nat} (hi : i < 32) : bt (x <<< ((4 : Int32) &&& 31)) i = (decide (4 ≤ i) && bt x (i - 4)) := b_shl 4 (by decide) x hi
theorem tab_base {σ : XS} {τ : MS} (h : rT σ τ) : σ.1 4 &&& (-4096) = τ.1 14 := by
  refine b_ext (fun i hi => ?_)
  rw [b_and, c_m4096 i hi, h.1]
  unfold kM_table
  rw [b_or, bt_shl4 _ hi]
  by_cases q : 12 ≤ i
  · rw [bt_lt (n := 8) h.2.2 (by decide) (show 8 ≤ i - 4 by omega), Bool.and_false, Bool.or_false, decide_eq_true q, Bool.and_true]
  · rw [decide_eq_false q, Bool.and_false, h.2.1 i (by omega)]
theorem tab_al {σ : XS} {τ : MS} (h : rT σ τ) (t : Int32) : ((τ.1 14) ||| (t <<< ((4 : Int32) &&& 31))) &&& 3 = 0 := by
  refine b_ext (fun i hi => ?_)
  rw [b_and, b_0, b_or, bt_shl4 _ hi, (by decide +kernel : ∀ i, i < 32 → bt 3 i = decide (i < 2)) i hi]
  by_cases q : i < 2
  · rw [h.2.1 i (by omega), decide_eq_false (show ¬ 4 ≤ i by omega)]; rfl
  · rw [decide_eq_false q, Bool.and_false]
theorem trap_table {σ : XS} {τ : MS} (h : Rel σ τ) {t : Int32} (ht : vp_in t 256) : sameR (kX_trap_c87 σ t) (kM_trap_c84 τ t) := by
  have hb := tab_base h.2.1
  have ha := tab_al h.2.1 t
  obtain ⟨⟨s1, s2, s3⟩, ⟨t1, t2, t3⟩, ⟨i1, i2, i3, i4, i5, i6, i7, i8⟩, r, m⟩ := h
  unfold kX_trap_c87
  rw [hb]
  exact ⟨rfl, ⟨s1, s2, s3⟩, ⟨rfl, t2, ht⟩, ⟨i1, ⟨rfl, ha⟩, ⟨rfl, al_4 ha⟩, i4, i5, i6, i7, i8⟩, r, m⟩
theorem v17 : vp_in (17 : Int32) 32 := (vp_in_nI (by decide) (by decide) : vp_in (nI 17) 32)
theorem v18 : vp_in (18 : Int32) 32 := (vp_in_nI (by decide) (by decide) : vp_in (nI 18) 32)
theorem v15 : vp_in (15 : Int32) 32 := (vp_in_nI (by decide) (by decide) : vp_in (nI 15) 32)
theorem trap_saves {σ : XS} {τ : MS} (h : Rel σ τ) {t : Int32} (ht : vp_in t 256) : sameR (kX_trap_c67 σ t) (kM_trap_c56 τ t) := by
  unfold kX_trap_c67 kM_trap_c56
  rw [h.2.2.1.2.1.1]
  have h2 := write_rel h v17 (τ.1 16)
  generalize kX_write σ 17 (τ.1 16) = σ2 at h2 ⊢
  generalize kM_give τ (τ.1 4) 17 (τ.1 16) = τ2 at h2 ⊢
  unfold kX_trap_c77 kM_trap_c70
  rw [h2.2.2.1.2.2.1.1]
  exact trap_table (write_rel h2 v18 (τ2.1 17)) ht
theorem trap_status {σ : XS} {τ : MS} (h : Rel σ τ) {t : Int32} (ht : vp_in t 256) (s : Int32) (hs : ∀ i, i < 32 → bt s i = (τ.2.1 7 && decide (i = 6))) : sameR (kX_trap_c40 σ t s) (kM_trap_c29 (mB τ 5 false) t) := by
  unfold kX_trap_c40
  generalize hy : ((((σ.1 2) &&& (-97)) ||| 128) ||| s) = y
  have hw : kX_window (xI σ 2 y) = τ.1 4 := by
    rw [← win_eq h.1]
    show y &&& 7 = σ.1 2 &&& 7
    refine b_ext (fun i hi => ?_)
    rw [← hy, b_and, b_and, b_or, b_or, b_and, c_7 i hi, hs i hi, c_m97 i hi, c_128 i hi]
    by_cases q : i < 3
    · rw [decide_eq_false (show ¬ i = 5 by omega), decide_eq_false (show ¬ i = 6 by omega), decide_eq_false (show ¬ i = 7 by omega)]; simp
    · rw [decide_eq_false q, Bool.and_false, Bool.and_false]
  have hb : kX_windowBeside (xI σ 2 y) (-1) = wP (τ.1 4) := by
    unfold kX_windowBeside; rw [hw]; exact (wP_eq h.1.2.1.1).1
  unfold kX_trap_c58
  rw [hb]
  have q := trap_bits h.1 s (wP (τ.1 4)) (τ.2.1 7) hs (wP_in h.1.2.1.1)
  rw [hy] at q
  obtain ⟨-, ⟨t1, t2, t3⟩, ⟨i1, i2, i3, i4, i5, i6, i7, i8⟩, r, m⟩ := h
  have h2 : Rel (kX_turnTo (xI σ 2 y) (wP (τ.1 4))) (mI (mB (mB (mB τ 5 false) 6 (τ.2.1 7)) 7 true) 4 (wP (τ.1 4))) := ⟨⟨q.1, q.2.1, q.2.2⟩, ⟨t1, t2, t3⟩, ⟨i1, i2, i3, i4, i5, i6, i7, i8⟩, r, m⟩
  exact trap_saves h2 ht
theorem rel_trap {σ : XS} {τ : MS} (h : Rel σ τ) {t : Int32} (ht : vp_in t 256) : sameR (kX_trap σ t) (kM_trap τ t) := by
  have h1 := rel_tick h
  unfold kX_trap kM_trap
  generalize xI σ 9 (σ.1 9 + 1) = σ1 at h1 ⊢
  generalize mI τ 22 (τ.1 22 + 1) = τ1 at h1 ⊢
  unfold kX_trap_c10 kM_trap_c10
  rw [has_traps h1.1, has_kernel h1.1]
  by_cases e : bI (τ1.2.1 5) = 0
  · rw [if_pos e, if_pos e]
    exact ⟨rfl, halt_rel h1⟩
  · rw [if_neg e, if_neg e]
    by_cases k : bI (τ1.2.1 7) = 0
    · rw [if_pos k]
      refine trap_status h1 ht 0 (fun i hi => ?_)
      rw [(bI_f _).mp k, b_0]; rfl
    · rw [if_neg k]
      refine trap_status h1 ht 64 (fun i hi => ?_)
      have : τ1.2.1 7 = true := by
        cases hb : τ1.2.1 7
        · rw [hb] at k; exact absurd rfl k
        · rfl
      rw [this, c_64 i hi]; rfl
