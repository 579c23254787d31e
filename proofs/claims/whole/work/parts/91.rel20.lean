/-! the return -/
theorem ret_bits {σ : XS} {τ : MS} (h : rS σ τ) (s w : Int32) (b : Bool) (hs : ∀ i, i < 32 → bt s i = (b && decide (i = 7))) (hw : vp_in w 8) : rS (xI σ 2 ((((((σ.1 2) &&& (-129)) ||| s) ||| 32) &&& (-32)) ||| (w &&& 7))) (mB (mB (mI τ 4 w) 5 true) 7 b) := by
  refine ⟨fun i hi => ?_, ⟨hw, h.2.1.2⟩, h.2.2⟩
  show bt ((((((σ.1 2) &&& (-129)) ||| s) ||| 32) &&& (-32)) ||| (w &&& 7)) i = _
  rw [b_or, b_and, b_or, b_or, b_and, b_and, h.1 i hi, hs i hi, c_m129 i hi, c_32 i hi, c_m32 i hi, c_7 i hi]
  have v : ∀ j, 3 ≤ j → bt w j = false := fun j hj => bt_lt (n := 3) hw (by decide) hj
  rcases i with _ | _ | _ | _ | _ | _ | _ | _ | _ | _ | _ | _ | _ | _ | _ | _ | _ | _ | _ | _ | _ | _ | _ | _ | _ | _ | _ | _ | _ | _ | _ | _ | i
  all_goals first | omega | (simp [stB, mI, mB, upd, va_up]; done)
theorem rel_ret {σ : XS} {τ : MS} (h : Rel σ τ) (s w : Int32) (b : Bool) (hs : ∀ i, i < 32 → bt s i = (b && decide (i = 7))) (hw : vp_in w 8) : Rel (kX_turnTo (xI σ 2 (((σ.1 2 &&& (-129)) ||| s) ||| 32)) w) (mB (mB (mI τ 4 w) 5 true) 7 b) := by
  have q := ret_bits h.1 s w b hs hw
  obtain ⟨-, ⟨t1, t2, t3⟩, ⟨i1, i2, i3, i4, i5, i6, i7, i8⟩, r, m⟩ := h
  exact ⟨⟨q.1, q.2.1, q.2.2⟩, ⟨t1, t2, t3⟩, ⟨i1, i2, i3, i4, i5, i6, i7, i8⟩, r, m⟩
theorem tr_57 {τ : MS} (h : τ.1 27 = 57) : kM_trouble τ 2 = if bI (τ.2.1 5) = 0 then 0 else if bI (τ.2.1 7) = 0 then 3 else 2 := by
  rw [tr_known h (by decide)]
  have c : kM_isControl 57 = false := by decide
  unfold kM_troubleOf kM_troubleOf_c20 kM_troubleOf_c21 kM_troubleOf_c48 kM_troubleOf_c61 kM_troubleOf_c78 kM_troubleOf_c115 kM_troubleOf_c162 kM_troubleOf_c180
  rw [h, c, if_pos rfl]
  rfl
theorem c239_57 {τ : MS} (h : kM_trouble τ 2 = 0) (hk : τ.1 27 = 57) : kM_oneStep_c239 τ 2 = if bI (kM_fails τ) = 0 then kM_oneStep_c298 (kM_act (mI τ 28 (τ.1 17 + 4)) 2) else (2, mB τ 19 true) := by
  unfold kM_oneStep_c239
  rw [h, if_pos (by decide), if_pos rfl, if_pos hk]; rfl
theorem return_rel {σ : XS} {τ : MS} {c : Int32} (D : Dec σ τ c 57) : sameR (kX_performReturn σ c) (kM_oneStep_c239 τ 2) := by
  obtain ⟨h, h23, h24, h27, h25, h26⟩ := D
  have tr := tr_57 h27
  unfold kX_performReturn
  rw [has_traps h.1, has_kernel h.1, has_before h.1, beside_n h.1, ← h25, ← h26]
  by_cases e5 : bI (τ.2.1 5) = 0
  · rw [if_pos e5] at tr ⊢
    rw [c239_57 tr h27]
    have no : sameR (kX_performReturn_c71 σ) (2, mB τ 19 true) := ⟨rfl, halt_rel h⟩
    have fl : kM_fails τ = if bI (τ.2.1 7) = 0 then true else if ((τ.1 13 >>> (wN (τ.1 4) &&& 31)) &&& 1) = 1 then true else if ((τ.1 25 + τ.1 26) &&& 3) = 0 then false else true := rfl
    rw [fl]
    by_cases e7 : bI (τ.2.1 7) = 0
    · rw [if_pos e7, if_pos e7]; exact no
    · rw [if_neg e7, if_neg e7]
      by_cases ei : ((τ.1 13 >>> (wN (τ.1 4) &&& 31)) &&& 1) = 1
      · rw [if_neg (fun z => (inval_eq h (wN_in h.1.2.1.1)).mp z ei), if_pos ei]; exact no
      · rw [if_pos ((inval_eq h (wN_in h.1.2.1.1)).mpr ei), if_neg ei]
        by_cases ea : ((τ.1 25 + τ.1 26) &&& 3) = 0
        · rw [if_pos ea, if_pos ea, if_pos (show bI false = 0 from rfl), act_go (τ := mI τ 28 (τ.1 17 + 4)) h27 (by decide) (by decide)]
          have g : kM_go (mI τ 28 (τ.1 17 + 4)) (τ.1 25 + τ.1 26) = mB (mB (mI (mI (mI τ 28 (τ.1 17 + 4)) 28 (τ.1 25 + τ.1 26)) 4 (wN (τ.1 4))) 5 true) 7 (τ.2.1 6) := by
            unfold kM_go
            rw [show (mI τ 28 (τ.1 17 + 4)).1 27 = 57 from h27]; rfl
          show sameR _ (kM_oneStep_c298 (kM_go (mI τ 28 (τ.1 17 + 4)) (τ.1 25 + τ.1 26)))
          rw [g]
          have hR := rel_28 (rel_28 h (τ.1 17 + 4)) (τ.1 25 + τ.1 26)
          by_cases e6 : bI (τ.2.1 6) = 0
          · rw [if_pos e6]
            refine fin_to (rel_ret hR 0 _ _ (fun i hi => ?_) (wN_in h.1.2.1.1)) rfl ea
            rw [(bI_f _).mp e6, b_0]; rfl
          · rw [if_neg e6]
            have t6 : τ.2.1 6 = true := by
              cases hb : τ.2.1 6
              · rw [hb] at e6; exact absurd rfl e6
              · rfl
            refine fin_to (rel_ret hR 128 _ _ (fun i hi => ?_) (wN_in h.1.2.1.1)) rfl ea
            rw [t6, c_128 i hi]; rfl
        · rw [if_neg ea, if_neg ea]; exact no
  · rw [if_neg e5] at tr ⊢
    by_cases e7 : bI (τ.2.1 7) = 0
    · rw [if_pos e7] at tr ⊢
      rw [c239_tr tr (by decide)]; exact rel_trap h v3t
    · rw [if_neg e7] at tr ⊢
      rw [c239_tr tr (by decide)]; exact rel_trap h v2t
