/-! the step: its parts -/
def sameR (K : Int32 × XS) (M : Int32 × MS) : Prop := K.1 = M.1 ∧ Rel K.2 M.2
theorem has_bit {σ : XS} {τ : MS} (h : rS σ τ) {k : Nat} (hk : k < 32) : kX_has σ (nI (2 ^ k)) = stB τ k := by
  unfold kX_has
  have q := and_bit (σ.1 2) hk
  rw [h.1 k hk] at q
  cases hb : stB τ k
  · rw [if_pos (q.mpr hb)]
  · rw [if_neg (fun e => by rw [q.mp e] at hb; cases hb)]
theorem has_traps {σ : XS} {τ : MS} (h : rS σ τ) : kX_has σ 32 = τ.2.1 5 := has_bit h (k := 5) (by decide)
theorem has_before {σ : XS} {τ : MS} (h : rS σ τ) : kX_has σ 64 = τ.2.1 6 := has_bit h (k := 6) (by decide)
theorem has_kernel {σ : XS} {τ : MS} (h : rS σ τ) : kX_has σ 128 = τ.2.1 7 := has_bit h (k := 7) (by decide)
theorem has_carry {σ : XS} {τ : MS} (h : rS σ τ) : kX_has σ 1048576 = τ.2.1 9 := has_bit h (k := 20) (by decide)
theorem has_over {σ : XS} {τ : MS} (h : rS σ τ) : kX_has σ 2097152 = τ.2.1 10 := has_bit h (k := 21) (by decide)
theorem has_zero {σ : XS} {τ : MS} (h : rS σ τ) : kX_has σ 4194304 = τ.2.1 11 := has_bit h (k := 22) (by decide)
theorem has_neg {σ : XS} {τ : MS} (h : rS σ τ) : kX_has σ 8388608 = τ.2.1 12 := has_bit h (k := 23) (by decide)
theorem c_7 : ∀ i, i < 32 → bt 7 i = decide (i < 3) := by decide +kernel
theorem c_15 : ∀ i, i < 32 → bt 15 i = decide (i < 4) := by decide +kernel
theorem c_m32 : ∀ i, i < 32 → bt (-32) i = decide (5 ≤ i) := by decide +kernel
theorem c_m97 : ∀ i, i < 32 → bt (-97) i = (!decide (i = 5) && !decide (i = 6)) := by decide +kernel
theorem c_m129 : ∀ i, i < 32 → bt (-129) i = !decide (i = 7) := by decide +kernel
theorem c_128 : ∀ i, i < 32 → bt 128 i = decide (i = 7) := by decide +kernel
theorem c_64 : ∀ i, i < 32 → bt 64 i = decide (i = 6) := by decide +kernel
theorem c_32 : ∀ i, i < 32 → bt 32 i = decide (i = 5) := by decide +kernel
theorem win_eq {σ : XS} {τ : MS} (h : rS σ τ) : kX_window σ = τ.1 4 := by
  unfold kX_window
  refine b_ext (fun i hi => ?_)
  rw [b_and, c_7 i hi, h.1 i hi]
  by_cases q : i < 3
  · rw [decide_eq_true q, Bool.and_true]
    rcases i with _ | _ | _ | i
    · rfl
    · rfl
    · rfl
    · omega
  · rw [decide_eq_false q, Bool.and_false]
    exact (bt_lt (n := 3) h.2.1.1 (by decide) (by omega)).symm
theorem level_eq {σ : XS} {τ : MS} (h : rS σ τ) : uS (σ.1 2) 8 &&& 15 = τ.1 8 := by
  refine b_ext (fun i hi => ?_)
  have e : bt (uS (σ.1 2) (8 : Int32)) i = bt (σ.1 2) (8 + i) := bt_uS _ (n := 8) (by decide) i
  rw [b_and, c_15 i hi, e]
  by_cases q : i < 4
  · rw [decide_eq_true q, Bool.and_true, h.1 _ (by omega)]
    rcases i with _ | _ | _ | _ | i
    · rfl
    · rfl
    · rfl
    · rfl
    · omega
  · rw [decide_eq_false q, Bool.and_false]
    exact (bt_lt (n := 4) h.2.2 (by decide) (by omega)).symm
def wN (w : Int32) : Int32 := (w + 1) - (w + 1) / 8 * 8
def wP (w : Int32) : Int32 := (w + 7) - (w + 7) / 8 * 8
theorem wN_eq {w : Int32} (hw : vp_in w 8) : (w + 1) &&& 7 = wN w ∧ ∃ j, j < 8 ∧ wN w = nI j := by
  obtain ⟨i, hi, rfl⟩ := vp_in_of hw (by decide)
  exact (by decide +kernel : ∀ i, i < 8 → (nI i + 1) &&& 7 = wN (nI i) ∧ ∃ j, j < 8 ∧ wN (nI i) = nI j) i hi
theorem wP_eq {w : Int32} (hw : vp_in w 8) : (w + (-1)) &&& 7 = wP w ∧ ∃ j, j < 8 ∧ wP w = nI j := by
  obtain ⟨i, hi, rfl⟩ := vp_in_of hw (by decide)
  exact (by decide +kernel : ∀ i, i < 8 → (nI i + (-1)) &&& 7 = wP (nI i) ∧ ∃ j, j < 8 ∧ wP (nI i) = nI j) i hi
theorem wN_in {w : Int32} (hw : vp_in w 8) : vp_in (wN w) 8 := by
  obtain ⟨j, hj, e⟩ := (wN_eq hw).2
  rw [e]; exact vp_in_nI hj (by decide)
theorem wP_in {w : Int32} (hw : vp_in w 8) : vp_in (wP w) 8 := by
  obtain ⟨j, hj, e⟩ := (wP_eq hw).2
  rw [e]; exact vp_in_nI hj (by decide)
theorem beside_n {σ : XS} {τ : MS} (h : rS σ τ) : kX_windowBeside σ 1 = wN (τ.1 4) := by
  unfold kX_windowBeside; rw [win_eq h]; exact (wN_eq h.2.1.1).1
theorem beside_p {σ : XS} {τ : MS} (h : rS σ τ) : kX_windowBeside σ (-1) = wP (τ.1 4) := by
  unfold kX_windowBeside; rw [win_eq h]; exact (wP_eq h.2.1.1).1
theorem read_eq {σ : XS} {τ : MS} (h : Rel σ τ) {r : Int32} (hr : vp_in r 32) : kX_read σ r = kM_get τ (τ.1 4) r := by
  unfold kX_read; rw [win_eq h.1]; exact reg_get h.2.2.2.1 h.1.2.1.1 hr
theorem write_rel {σ : XS} {τ : MS} (h : Rel σ τ) {r : Int32} (hr : vp_in r 32) (v : Int32) : Rel (kX_write σ r v) (kM_give τ (τ.1 4) r v) := by
  unfold kX_write; rw [win_eq h.1]; exact rel_give h h.1.2.1.1 hr
theorem al_iff (z : Int32) : z &&& 3 = 0 ↔ z.toBitVec.toNat % 4 = 0 := by
  rw [← Int32.toBitVec_inj, ← BitVec.toNat_inj, Int32.toBitVec_and, BitVec.toNat_and]
  have e : z.toBitVec.toNat &&& 3 = z.toBitVec.toNat % 4 := Nat.and_two_pow_sub_one_eq_mod _ 2
  show z.toBitVec.toNat &&& 3 = 0 ↔ _
  rw [e]
theorem al_add {x y : Int32} (hx : x &&& 3 = 0) (hy : y &&& 3 = 0) : (x + y) &&& 3 = 0 := by
  rw [al_iff] at hx hy ⊢
  rw [Int32.toBitVec_add, BitVec.toNat_add]
  omega
theorem al_4 {x : Int32} (hx : x &&& 3 = 0) : (x + 4) &&& 3 = 0 := al_add hx z4_3
theorem al_shl (x : Int32) : (x <<< ((2 : Int32) &&& 31)) &&& 3 = 0 := by
  refine b_ext (fun i hi => ?_)
  have e : bt (x <<< ((2 : Int32) &&& 31)) i = (decide (2 ≤ i) && bt x (i - 2)) := b_shl 2 (by decide) x hi
  rw [b_and, e, b_0, (by decide +kernel : ∀ i, i < 32 → bt 3 i = decide (i < 2)) i hi]
  by_cases q : i < 2
  · rw [decide_eq_false (show ¬ 2 ≤ i by omega)]; rfl
  · rw [decide_eq_false q, Bool.and_false]
theorem goTo_rel {σ : XS} {τ : MS} (h : Rel σ τ) {t : Int32} (ht : t &&& 3 = 0) : Rel (kX_goTo σ t).2 (mI (mI τ 16 (τ.1 17)) 17 t) := by
  obtain ⟨⟨s1, s2, s3⟩, ⟨t1, t2, t3⟩, ⟨i1, i2, i3, i4, i5, i6, i7, i8⟩, r, m⟩ := h
  exact ⟨⟨s1, s2, s3⟩, ⟨t1, t2, t3⟩, ⟨i1, i3, ⟨rfl, ht⟩, i4, i5, i6, i7, i8⟩, r, m⟩
theorem goOn_rel {σ : XS} {τ : MS} (h : Rel σ τ) : Rel (kX_goOn σ).2 (mI (mI τ 16 (τ.1 17)) 17 (τ.1 17 + 4)) := by
  have e : σ.1 6 = τ.1 17 := h.2.2.1.2.2.1.1
  have q := goTo_rel h (t := σ.1 6 + 4) (al_4 h.2.2.1.2.2.1.2)
  unfold kX_goOn
  rw [e] at q ⊢
  exact q
theorem halt_rel {σ : XS} {τ : MS} (h : Rel σ τ) : Rel (xB σ 11 true) (mB τ 19 true) := by
  obtain ⟨⟨s1, s2, s3⟩, ⟨t1, t2, t3⟩, ⟨i1, i2, i3, i4, i5, i6, i7, i8⟩, r, m⟩ := h
  exact ⟨⟨s1, s2, s3⟩, ⟨t1, t2, t3⟩, ⟨i1, i2, i3, i4, i5, i6, i7, rfl⟩, r, m⟩
theorem bI_f (b : Bool) : bI b = 0 ↔ b = false := by cases b <;> decide
/-- the trap's status word -/
theorem trap_bits {σ : XS} {τ : MS} (h : rS σ τ) (s w : Int32) (b : Bool) (hs : ∀ i, i < 32 → bt s i = (b && decide (i = 6))) (hw : vp_in w 8) : rS (xI σ 2 ((((((σ.1 2) &&& (-97)) ||| 128) ||| s) &&& (-32)) ||| (w &&& 7))) (mI (mB (mB (mB τ 5 false) 6 b) 7 true) 4 w) := by
  refine ⟨fun i hi => ?_, ⟨hw, h.2.1.2⟩, h.2.2⟩
  show bt ((((((σ.1 2) &&& (-97)) ||| 128) ||| s) &&& (-32)) ||| (w &&& 7)) i = _
  rw [b_or, b_and, b_or, b_or, b_and, b_and, h.1 i hi, hs i hi, c_m97 i hi, c_128 i hi, c_m32 i hi, c_7 i hi]
  have v : ∀ j, 3 ≤ j → bt w j = false := fun j hj => bt_lt (n := 3) hw (by decide) hj
  rcases i with _ | _ | _ | _ | _ | _ | _ | _ | _ | _ | _ | _ | _ | _ | _ | _ | _ | _ | _ | _ | _ | _ | _ | _ | _ | _ | _ | _ | _ | _ | _ | _ | i
  all_goals first | omega | (simp [stB, mI, mB, upd, va_up]; done)
