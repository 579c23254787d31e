/-! jump, program trap, turns -/
theorem to_go {τ : MS} {k s : Int32} (h : τ.1 27 = k) (h57 : ¬ k = 57) (h49 : ¬ k = 49) (hc : kM_isControl k = false) : kM_troubleOf τ s = if k = 60 then kM_troubleOf_c115 τ s (wP (τ.1 4)) else kM_troubleOf_c115 τ s (wN (τ.1 4)) := by
  have e : kM_troubleOf_c48 τ s false = if k = 60 then kM_troubleOf_c115 τ s (wP (τ.1 4)) else kM_troubleOf_c115 τ s (wN (τ.1 4)) := by
    unfold kM_troubleOf_c48 kM_troubleOf_c61 kM_troubleOf_c78
    rw [h, hc, if_pos (show bI false = 0 from rfl), if_pos (show bI false = 0 from rfl), if_pos (show bI false = 0 from rfl)]
    rfl
  unfold kM_troubleOf kM_troubleOf_c20 kM_troubleOf_c21
  rw [h, if_neg h57, if_neg h49]; exact e
theorem act_go {τ : MS} {k : Int32} (h27 : τ.1 27 = k) (hw : kM_isWork k = false) (hc : kM_isControl k = false) : kM_act τ 2 = kM_go τ (τ.1 25 + τ.1 26) := by
  have e : kM_act τ 2 = if bI (kM_isWork (τ.1 27)) = 0 then (if bI (kM_isControl (τ.1 27)) = 0 then kM_go τ (τ.1 25 + τ.1 26) else kM_controls τ) else (if τ.1 27 ≤ 36 then kM_work τ else kM_shift τ) := rfl
  rw [e, h27, hw, hc]; rfl
theorem jump_rel {σ : XS} {τ : MS} {c : Int32} (D : Dec σ τ c 56) : sameR (kX_performJump σ c) (kM_oneStep_c239 τ 2) := by
  obtain ⟨h, h23, h24, h27, h25, h26⟩ := D
  have p5 : σ.1 5 = τ.1 16 := h.2.2.1.2.1.1
  have tr : kM_trouble τ 2 = if ((τ.1 25 + τ.1 26) &&& 3) = 0 then 0 else 7 := by
    rw [tr_known h27 (by decide), to_go h27 (by decide) (by decide) (by decide), if_neg (by decide)]
    unfold kM_troubleOf_c115 kM_troubleOf_c162 kM_troubleOf_c180
    rw [h27]; rfl
  unfold kX_performJump
  rw [← h25, ← h26]
  by_cases e : ((τ.1 25 + τ.1 26) &&& 3) = 0
  · rw [if_pos e] at tr ⊢
    rw [c239_ok2 tr (by rw [h27]; decide), act_go (τ := mI τ 28 (τ.1 17 + 4)) h27 (by decide) (by decide)]
    have g : kM_go (mI τ 28 (τ.1 17 + 4)) (τ.1 25 + τ.1 26) = mI (kM_give (mI τ 28 (τ.1 17 + 4)) (τ.1 4) (τ.1 24) (τ.1 16)) 28 (τ.1 25 + τ.1 26) := if_pos h27
    show sameR _ (kM_oneStep_c298 (kM_go (mI τ 28 (τ.1 17 + 4)) (τ.1 25 + τ.1 26)))
    rw [g, h24, p5]
    exact fin_to (rel_28 (write_rel (rel_28 h _) (num_in c) _) _) rfl e
  · rw [if_neg e] at tr ⊢
    rw [c239_tr tr (by decide)]; exact rel_trap h v7t
theorem soft_in (s : Int32) : ¬ (128 + (s &&& 127)) ≤ 0 ∧ vp_in (128 + (s &&& 127)) 256 := by
  obtain ⟨j, hj, e⟩ := pk_andE s (m := 127) 7 (by decide)
  rw [e]
  have q := (by decide +kernel : ∀ j, j < 128 → 128 + nI j = nI (128 + j) ∧ ¬ nI (128 + j) ≤ 0) j (by omega)
  rw [q.1]
  exact ⟨q.2, vp_in_nI (by omega) (by decide)⟩
theorem soft_rel {σ : XS} {τ : MS} {c : Int32} (D : Dec σ τ c 58) : sameR (kX_performTrap σ c) (kM_oneStep_c239 τ 2) := by
  obtain ⟨h, h23, h24, h27, h25, h26⟩ := D
  have tr : kM_trouble τ 2 = if bI (kM_holds τ (kX_conditionOf c)) = 0 then 0 else 128 + ((τ.1 25 + τ.1 26) &&& 127) := by
    rw [tr_known h27 (by decide), to_go h27 (by decide) (by decide) (by decide), if_neg (by decide)]
    unfold kM_troubleOf_c115 kM_troubleOf_c162 kM_troubleOf_c180
    rw [h27, if_neg (by decide), if_neg (by decide), if_neg (by decide), if_pos rfl, h23, ← d_cond]
  unfold kX_performTrap
  rw [← h25, ← h26, holds_eq h.1 (cond_in c)]
  by_cases e : bI (kM_holds τ (kX_conditionOf c)) = 0
  · rw [if_pos e] at tr ⊢
    rw [c239_ok2 tr (by rw [h27]; decide), act_go (τ := mI τ 28 (τ.1 17 + 4)) h27 (by decide) (by decide)]
    have g : kM_go (mI τ 28 (τ.1 17 + 4)) (τ.1 25 + τ.1 26) = mI τ 28 (τ.1 17 + 4) := by
      unfold kM_go
      rw [show (mI τ 28 (τ.1 17 + 4)).1 27 = 58 from h27]; rfl
    show sameR _ (kM_oneStep_c298 (kM_go (mI τ 28 (τ.1 17 + 4)) (τ.1 25 + τ.1 26)))
    rw [g]
    exact fin_on (rel_28 h _) rfl
  · rw [if_neg e] at tr ⊢
    rw [c239_tr tr (soft_in _).1]; exact rel_trap h (soft_in _).2
theorem and1 (x : Int32) : x &&& 1 = 0 ↔ ¬ x &&& 1 = 1 := by
  obtain ⟨j, hj, e⟩ := pk_andE x (m := 1) 1 (by decide)
  rw [e]
  exact (by decide +kernel : ∀ j, j < 2 → (nI j = 0 ↔ ¬ nI j = 1)) j (by omega)
theorem inval_eq {σ : XS} {τ : MS} (h : Rel σ τ) {w : Int32} (hw : vp_in w 8) : bI (kX_isInvalid σ w) = 0 ↔ ¬ ((τ.1 13 >>> (w &&& 31)) &&& 1) = 1 := by
  obtain ⟨j, hj, rfl⟩ := vp_in_of hw (by decide)
  have e : uS (σ.1 3) (nI j) &&& 1 = σ.1 3 >>> (nI j &&& 31) &&& 1 := us_eq (σ.1 3) (n := j) (k := 1) (by omega) (show ¬ 32 < j + 0 + 1 by omega)
  unfold kX_isInvalid
  rw [e, h.2.2.1.1, ← and1]
  by_cases q : (τ.1 13 >>> (nI j &&& 31)) &&& 1 = 0
  · rw [if_pos q]; exact ⟨fun _ => q, fun _ => rfl⟩
  · rw [if_neg q]; exact ⟨fun z => absurd z (by decide), fun z => absurd z q⟩
theorem turn_bits {σ : XS} {τ : MS} (h : rS σ τ) {w : Int32} (hw : vp_in w 8) : rS (xI σ 2 ((σ.1 2 &&& (-32)) ||| (w &&& 7))) (mI τ 4 w) := by
  refine ⟨fun i hi => ?_, ⟨hw, h.2.1.2⟩, h.2.2⟩
  show bt ((σ.1 2 &&& (-32)) ||| (w &&& 7)) i = _
  rw [b_or, b_and, b_and, h.1 i hi, c_m32 i hi, c_7 i hi]
  have v : ∀ j, 3 ≤ j → bt w j = false := fun j hj => bt_lt (n := 3) hw (by decide) hj
  rcases i with _ | _ | _ | _ | _ | _ | _ | _ | _ | _ | _ | _ | _ | _ | _ | _ | _ | _ | _ | _ | _ | _ | _ | _ | _ | _ | _ | _ | _ | _ | _ | _ | i
  all_goals first | omega | (simp [stB, mI, upd, va_up]; done)
theorem rel_turn {σ : XS} {τ : MS} (h : Rel σ τ) {w : Int32} (hw : vp_in w 8) : Rel (kX_turnTo σ w) (mI τ 4 w) := by
  have s := turn_bits h.1 hw
  obtain ⟨-, ⟨t1, t2, t3⟩, ⟨i1, i2, i3, i4, i5, i6, i7, i8⟩, r, m⟩ := h
  exact ⟨⟨s.1, s.2.1, s.2.2⟩, ⟨t1, t2, t3⟩, ⟨i1, i2, i3, i4, i5, i6, i7, i8⟩, r, m⟩
theorem turn_rel0 {σ : XS} {τ : MS} {c k w t : Int32} (D : Dec σ τ c k) (hw : vp_in w 8) (ht : vp_in t 256) (t0 : ¬ t ≤ 0) (n57 : ¬ k = 57) (wk : kM_isWork k = false) (ck : kM_isControl k = false) (tr : kM_trouble τ 2 = if ((τ.1 13 >>> (w &&& 31)) &&& 1) = 1 then t else 0)
    (g : kM_go (mI τ 28 (τ.1 17 + 4)) (τ.1 25 + τ.1 26) = kM_go_c86 (mI (mI τ 28 (τ.1 17 + 4)) 4 w) (τ.1 25 + τ.1 26)) : sameR (kX_performTurn σ c w t) (kM_oneStep_c239 τ 2) := by
  obtain ⟨h, h23, h24, h27, h25, h26⟩ := D
  unfold kX_performTurn
  rw [← h25, ← h26]
  by_cases e : ((τ.1 13 >>> (w &&& 31)) &&& 1) = 1
  · rw [if_pos e] at tr
    rw [if_neg (fun z => (inval_eq h hw).mp z e), c239_tr tr t0]
    exact rel_trap h ht
  · rw [if_neg e] at tr
    rw [if_pos ((inval_eq h hw).mpr e), c239_ok2 tr (by rw [h27]; exact n57), act_go (τ := mI τ 28 (τ.1 17 + 4)) h27 wk ck]
    show sameR _ (kM_oneStep_c298 (kM_go (mI τ 28 (τ.1 17 + 4)) (τ.1 25 + τ.1 26)))
    rw [g]
    unfold kM_go_c86
    show sameR _ (kM_oneStep_c298 (kM_give (mI (mI τ 28 (τ.1 17 + 4)) 4 w) ((mI (mI τ 28 (τ.1 17 + 4)) 4 w).1 4) (τ.1 24) (τ.1 25 + τ.1 26)))
    rw [h24]
    exact fin_on (write_rel (rel_turn (rel_28 h _) hw) (num_in c) _) (by rw [give_ints]; rfl)
theorem v5t : vp_in (5 : Int32) 256 := (vp_in_nI (by decide) (by decide) : vp_in (nI 5) 256)
theorem v6t : vp_in (6 : Int32) 256 := (vp_in_nI (by decide) (by decide) : vp_in (nI 6) 256)
theorem turn60_rel {σ : XS} {τ : MS} {c : Int32} (D : Dec σ τ c 60) : sameR (kX_performTurn σ c (kX_windowBeside σ (-1)) 5) (kM_oneStep_c239 τ 2) := by
  rw [beside_p D.1.1]
  have h27 := D.2.2.2.1
  refine turn_rel0 D (wP_in D.1.1.2.1.1) v5t (by decide) (by decide) (by decide) (by decide) ?_ ?_
  · rw [tr_known h27 (by decide), to_go h27 (by decide) (by decide) (by decide), if_pos rfl]
    unfold kM_troubleOf_c115 kM_troubleOf_c134 kM_troubleOf_c162 kM_troubleOf_c180
    rw [h27]; rfl
  · unfold kM_go kM_go_c51
    rw [show (mI τ 28 (τ.1 17 + 4)).1 27 = 60 from h27, if_neg (by decide), if_pos rfl, if_pos rfl]; rfl
theorem turn61_rel {σ : XS} {τ : MS} {c : Int32} (D : Dec σ τ c 61) : sameR (kX_performTurn σ c (kX_windowBeside σ 1) 6) (kM_oneStep_c239 τ 2) := by
  rw [beside_n D.1.1]
  have h27 := D.2.2.2.1
  refine turn_rel0 D (wN_in D.1.1.2.1.1) v6t (by decide) (by decide) (by decide) (by decide) ?_ ?_
  · rw [tr_known h27 (by decide), to_go h27 (by decide) (by decide) (by decide), if_neg (by decide)]
    unfold kM_troubleOf_c115 kM_troubleOf_c134 kM_troubleOf_c162 kM_troubleOf_c180
    rw [h27]; rfl
  · unfold kM_go kM_go_c51
    rw [show (mI τ 28 (τ.1 17 + 4)).1 27 = 61 from h27, if_neg (by decide), if_neg (by decide), if_pos rfl, if_neg (by decide)]; rfl
