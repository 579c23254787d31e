/-! arithmetic -/
abbrev opK (o : Int32) : Prop := o = 0 ∨ o = 1 ∨ o = 2 ∨ o = 3 ∨ o = 4 ∨ o = 5 ∨ o = 6 ∨ o = 7 ∨ o = 8 ∨ o = 12
def fB (E : Int64) (C : Bool) (r f : Int32) : Prop := ∀ i, i < 32 → bt f i = ((C && decide (i = 20)) || ((!decide (lg_cmp E r.toInt64 = 0)) && decide (i = 21)))
theorem f_add (a b : Int32) (q : Bool) : fB ((a.toInt64 + b.toInt64) + (bI q).toInt64) (!decide (lg_cmp ((kM_plain a + kM_plain b) + (bI q).toInt64) 4294967295 ≤ 0)) ((a + b) + bI q) (kX_flagsOfCarrying_c47 a b (bI q) true) := by
  intro i hi
  have t1 : kX_total true a.toInt64 (b.toInt64 + (bI q).toInt64) = a.toInt64 + (b.toInt64 + (bI q).toInt64) := rfl
  have t2 : kX_total true (kX_unsigned a) (kX_unsigned b + (bI q).toInt64) = kX_unsigned a + (kX_unsigned b + (bI q).toInt64) := rfl
  unfold kX_flagsOfCarrying_c47 kX_flagsOfCarrying_c95 kX_flagsOfCarrying_c115
  rw [t1, t2, lo_add, ex_add]
  have k := carry_add a b q
  by_cases e : lg_cmp ((a.toInt64 + b.toInt64) + (bI q).toInt64) ((a + b) + bI q).toInt64 = 0
  · rw [if_pos e, decide_eq_true e]
    by_cases g : lg_cmp ((kM_plain a + kM_plain b) + (bI q).toInt64) 4294967295 ≤ 0
    · rw [if_pos (k.mpr g), decide_eq_true g, b_or, b_0]; rfl
    · rw [if_neg (fun z => g (k.mp z)), decide_eq_false g, b_or, b_0, c_20 i hi]; simp
  · rw [if_neg e, decide_eq_false e]
    by_cases g : lg_cmp ((kM_plain a + kM_plain b) + (bI q).toInt64) 4294967295 ≤ 0
    · rw [if_pos (k.mpr g), decide_eq_true g, b_or, b_0, c_21 i hi]; simp
    · rw [if_neg (fun z => g (k.mp z)), decide_eq_false g, b_or, c_20 i hi, c_21 i hi]; simp [Bool.or_comm]
theorem f_sub (a b : Int32) (q : Bool) : fB ((a.toInt64 - b.toInt64) - (bI q).toInt64) (!decide (0 ≤ lg_cmp (kM_plain a) (kM_plain b + (bI q).toInt64))) ((a - b) - bI q) (kX_flagsOfCarrying_c47 a b (bI q) false) := by
  intro i hi
  have t1 : kX_total false a.toInt64 (b.toInt64 + (bI q).toInt64) = a.toInt64 - (b.toInt64 + (bI q).toInt64) := rfl
  have t2 : kX_total false (kX_unsigned a) (kX_unsigned b + (bI q).toInt64) = kX_unsigned a - (kX_unsigned b + (bI q).toInt64) := rfl
  unfold kX_flagsOfCarrying_c47 kX_flagsOfCarrying_c95 kX_flagsOfCarrying_c115
  rw [t1, t2, lo_sub, ex_sub]
  have k := carry_sub a b q
  by_cases e : lg_cmp ((a.toInt64 - b.toInt64) - (bI q).toInt64) ((a - b) - bI q).toInt64 = 0
  · rw [if_pos e, decide_eq_true e]
    by_cases g : 0 ≤ lg_cmp (kM_plain a) (kM_plain b + (bI q).toInt64)
    · rw [if_pos (k.mpr g), decide_eq_true g, b_or, b_0]; rfl
    · rw [if_neg (fun z => g (k.mp z)), decide_eq_false g, b_or, b_0, c_20 i hi]; simp
  · rw [if_neg e, decide_eq_false e]
    by_cases g : 0 ≤ lg_cmp (kM_plain a) (kM_plain b + (bI q).toInt64)
    · rw [if_pos (k.mpr g), decide_eq_true g, b_or, b_0, c_21 i hi]; simp
    · rw [if_neg (fun z => g (k.mp z)), decide_eq_false g, b_or, c_20 i hi, c_21 i hi]; simp [Bool.or_comm]
theorem f_none (r : Int32) : fB r.toInt64 false r 0 := by
  intro i hi
  rw [decide_eq_true ((lg_cmp_eq _ _).mpr rfl), b_0]; rfl
theorem w_add (τ : MS) (o : Int32) (q : Bool) : kM_work_c70 τ o q = kM_work_c270 τ o ((((τ.1 25).toInt64) + ((τ.1 26).toInt64)) + ((bI q).toInt64)) (!decide (lg_cmp ((kM_plain (τ.1 25) + kM_plain (τ.1 26)) + (bI q).toInt64) 4294967295 ≤ 0)) (((τ.1 25) + (τ.1 26)) + (bI q)) := by
  unfold kM_work_c70 kM_work_c115
  by_cases g : lg_cmp ((kM_plain (τ.1 25) + kM_plain (τ.1 26)) + (bI q).toInt64) 4294967295 ≤ 0
  · rw [if_pos g, decide_eq_true g]; rfl
  · rw [if_neg g, decide_eq_false g]; rfl
theorem w_sub (τ : MS) (o : Int32) (q : Bool) : kM_work_c144 τ o q = kM_work_c270 τ o ((((τ.1 25).toInt64) - ((τ.1 26).toInt64)) - ((bI q).toInt64)) (!decide (0 ≤ lg_cmp (kM_plain (τ.1 25)) (kM_plain (τ.1 26) + (bI q).toInt64))) (((τ.1 25) - (τ.1 26)) - (bI q)) := by
  unfold kM_work_c144 kM_work_c185
  by_cases g : 0 ≤ lg_cmp (kM_plain (τ.1 25)) (kM_plain (τ.1 26) + (bI q).toInt64)
  · rw [if_pos g, decide_eq_true g]; rfl
  · rw [if_neg g, decide_eq_false g]; rfl
theorem work_form (τ : MS) {o : Int32} (q : Bool) (ho : opK o) : ∃ E C, kM_work_c51 τ o q = kM_work_c270 τ o E C (kX_resultOf o (τ.1 25) (τ.1 26) (bI q)) ∧ fB E C (kX_resultOf o (τ.1 25) (τ.1 26) (bI q)) (kX_flagsOfCarrying o (τ.1 25) (τ.1 26) (bI q)) := by
  rcases ho with rfl | rfl | rfl | rfl | rfl | rfl | rfl | rfl | rfl | rfl
  · exact ⟨_, _, w_add τ 0 q, f_add _ _ q⟩
  · exact ⟨_, _, rfl, f_none _⟩
  · exact ⟨_, _, rfl, f_none _⟩
  · exact ⟨_, _, rfl, f_none _⟩
  · exact ⟨_, _, w_sub τ 4 q, f_sub _ _ q⟩
  · exact ⟨_, _, rfl, f_none _⟩
  · exact ⟨_, _, rfl, f_none _⟩
  · exact ⟨_, _, rfl, f_none _⟩
  · exact ⟨_, _, w_add τ 8 q, f_add _ _ q⟩
  · exact ⟨_, _, w_sub τ 12 q, f_sub _ _ q⟩
theorem w_270 {τ : MS} {k : Int32} (h27 : τ.1 27 = k) (o : Int32) (E : Int64) (C : Bool) (r : Int32) : kM_work_c270 τ o E C r = if k = o then kM_give τ (τ.1 4) (τ.1 24) r else kM_flags (kM_give τ (τ.1 4) (τ.1 24) r) r (!decide (lg_cmp E r.toInt64 = 0)) C := by
  unfold kM_work_c270 kM_work_c284 kM_work_c308
  rw [give_ints, h27]
  by_cases e : k = o
  · rw [if_pos e, if_pos e]
  · rw [if_neg e, if_neg e]
    by_cases g : lg_cmp E r.toInt64 = 0
    · rw [if_pos g, decide_eq_true g]; rfl
    · rw [if_neg g, decide_eq_false g]; rfl
theorem flags_ints (τ : MS) (r : Int32) (v c : Bool) : (kM_flags τ r v c).1 = τ.1 := by rw [flags_eq]; rfl
theorem arith_fin {σ : XS} {τ : MS} {c k o : Int32} (D : Dec σ τ c k) (q : Bool) (ho : opK o) (hk : k < 16 ↔ k = o) : sameR (kX_performArithmetic_c57 σ c k o (kX_valueOfA σ c) (kX_valueOfB σ c) q) (kM_oneStep_c298 (kM_work_c51 (mI τ 28 (τ.1 17 + 4)) o q)) := by
  obtain ⟨h, h23, h24, h27, h25, h26⟩ := D
  have hR := rel_28 h (τ.1 17 + 4)
  obtain ⟨E, C, e1, e2⟩ := work_form (mI τ 28 (τ.1 17 + 4)) q ho
  rw [e1, w_270 (τ := mI τ 28 (τ.1 17 + 4)) h27]
  rw [show (mI τ 28 (τ.1 17 + 4)).1 25 = kX_valueOfA σ c from h25, show (mI τ 28 (τ.1 17 + 4)).1 26 = kX_valueOfB σ c from h26] at e2 ⊢
  rw [show (mI τ 28 (τ.1 17 + 4)).1 24 = kX_numberOfD c from h24]
  unfold kX_performArithmetic_c57 kX_performArithmetic_c109 kX_performArithmetic_c119
  generalize kX_resultOf o (kX_valueOfA σ c) (kX_valueOfB σ c) (bI q) = r at e2 ⊢
  generalize kX_flagsOfCarrying o (kX_valueOfA σ c) (kX_valueOfB σ c) (bI q) = f at e2 ⊢
  by_cases e : k = o
  · rw [if_pos e, if_pos (hk.mpr e)]
    exact fin_on (write_rel hR (num_in c) r) (by rw [give_ints]; rfl)
  · rw [if_neg e, if_neg (fun z => e (hk.mp z)), ← give_flags]
    have h2 := rel_flags hR r f (!decide (lg_cmp E r.toInt64 = 0)) C e2
    have h3 := write_rel h2 (num_in c) r
    have w4 : (kM_flags (mI τ 28 (τ.1 17 + 4)) r (!decide (lg_cmp E r.toInt64 = 0)) C).1 4 = (mI τ 28 (τ.1 17 + 4)).1 4 := by rw [flags_ints]
    rw [w4] at h3
    exact fin_on h3 (by rw [give_ints, flags_ints]; rfl)
theorem okA : ∀ j, j < 32 → ((nI j &&& 15 ≤ 8 ∨ nI j &&& 15 = 12) → opK (nI j &&& 15) ∧ knownK (nI j) = true ∧ kM_isWork (nI j) = true ∧ nI j ≤ 36) ∧ (¬ (nI j &&& 15 ≤ 8 ∨ nI j &&& 15 = 12) → knownK (nI j) = false) ∧ kM_isControl (nI j) = false ∧ (nI j < 16 ↔ nI j = nI j &&& 15) ∧ (nI j < 16 ∨ (¬ 32 ≤ nI j ∧ nI j - 16 = nI j &&& 15)) ∧ (nI j &&& 15 < 8 ↔ nI j &&& 15 ≤ 7) ∧ ¬ nI j = 57 ∧ ¬ nI j = 49 ∧ ¬ nI j = 60 ∧ ¬ nI j = 61 ∧ ¬ nI j = 56 ∧ ¬ nI j = 58 := by decide +kernel
theorem work_eq {τ : MS} {k : Int32} (h27 : τ.1 27 = k) (a : k < 16 ↔ k = k &&& 15) (b : k < 16 ∨ (¬ 32 ≤ k ∧ k - 16 = k &&& 15)) : kM_work τ = kM_work_c32 τ (k &&& 15) := by
  unfold kM_work kM_work_c28
  rw [h27]
  by_cases e : k < 16
  · rw [if_pos e, ← a.mp e]
  · obtain ⟨b1, b2⟩ := b.resolve_left e
    rw [if_neg e, if_neg b1, b2]
theorem arith_rel {σ : XS} {τ : MS} {c : Int32} {j : Nat} (D : Dec σ τ c (nI j)) (hj : j < 32) : sameR (kX_performArithmetic σ c (nI j)) (kM_oneStep_c239 τ 2) := by
  obtain ⟨a1, a2, ck, a3, a4, a5, n57, n49, n60, n61, n56, n58⟩ := okA j hj
  generalize nI j = k at *
  have D' := D
  obtain ⟨h, h23, h24, h27, h25, h26⟩ := D
  have bad : ¬ (k &&& 15 ≤ 8 ∨ k &&& 15 = 12) → sameR (kX_trap σ 2) (kM_oneStep_c239 τ 2) := fun z => by
    rw [c239_tr (tr_unknown h27 (a2 z)) (by decide)]; exact rel_trap h v2t
  have good : (k &&& 15 ≤ 8 ∨ k &&& 15 = 12) → sameR (kX_performArithmetic_c23 σ c k (k &&& 15)) (kM_oneStep_c239 τ 2) := fun z => by
    obtain ⟨b1, b2, b3, b4⟩ := a1 z
    have tr : kM_trouble τ 2 = 0 := by
      rw [tr_known h27 b2]
      exact to_work h27 n57 n49 ck n60 n61 n56 n58
    have act : kM_act (mI τ 28 (τ.1 17 + 4)) 2 = kM_work (mI τ 28 (τ.1 17 + 4)) := by
      have e : kM_act (mI τ 28 (τ.1 17 + 4)) 2 = if bI (kM_isWork (τ.1 27)) = 0 then (if bI (kM_isControl (τ.1 27)) = 0 then kM_go (mI τ 28 (τ.1 17 + 4)) (τ.1 25 + τ.1 26) else kM_controls (mI τ 28 (τ.1 17 + 4))) else (if τ.1 27 ≤ 36 then kM_work (mI τ 28 (τ.1 17 + 4)) else kM_shift (mI τ 28 (τ.1 17 + 4))) := rfl
      rw [e, h27, b3, if_neg (show ¬ bI true = 0 by decide), if_pos b4]
    rw [c239_ok2 tr (by rw [h27]; exact n57), act, work_eq (τ := mI τ 28 (τ.1 17 + 4)) h27 a3 a4]
    unfold kX_performArithmetic_c23 kX_performArithmetic_c56 kM_work_c32 kM_work_c50
    rw [has_carry h.1]
    by_cases e : k &&& 15 < 8
    · rw [if_pos e, if_pos (a5.mp e)]
      exact arith_fin D' false b1 a3
    · rw [if_neg e, if_neg (fun z => e (a5.mpr z))]
      show sameR _ (kM_oneStep_c298 (if bI (τ.2.1 9) = 0 then _ else _))
      by_cases g : bI (τ.2.1 9) = 0
      · rw [if_pos g, if_pos g]; exact arith_fin D' false b1 a3
      · rw [if_neg g, if_neg g]; exact arith_fin D' true b1 a3
  unfold kX_performArithmetic
  by_cases e1 : k &&& 15 ≤ 8
  · rw [if_pos e1]; exact good (Or.inl e1)
  · rw [if_neg e1]
    by_cases e2 : k &&& 15 = 12
    · rw [if_pos e2]; exact good (Or.inr e2)
    · rw [if_neg e2]; exact bad (fun z => z.elim e1 e2)
/-! the operations, all of them -/
theorem operation_rel : ∀ σ τ c, Dec σ τ c (kX_kindOf c) → sameR (kX_performOperation σ c (kX_kindOf c)) (kM_oneStep_c239 τ 2) := by
  intro σ τ c D
  obtain ⟨j, hj, e⟩ := vp_in_of (kind_in c) (by decide)
  rw [e] at D ⊢
  unfold kX_performOperation
  by_cases h32 : 32 ≤ nI j
  · rw [if_pos h32]
    have un := fun z => tr_unknown D.2.2.2.1 z
    have kn := (by decide +kernel : ∀ j, j < 64 → 32 ≤ nI j → nI j = 37 ∨ nI j = 38 ∨ nI j = 39 ∨ nI j = 41 ∨ nI j = 42 ∨ nI j = 43 ∨ nI j = 49 ∨ nI j = 50 ∨ nI j = 51 ∨ nI j = 56 ∨ nI j = 57 ∨ nI j = 58 ∨ nI j = 60 ∨ nI j = 61 ∨ knownK (nI j) = false) j hj h32
    generalize nI j = k at *
    by_cases e1 : k = 37
    · rw [if_pos e1]; exact shift_rel D (Or.inl e1)
    rw [if_neg e1]
    by_cases e2 : k = 38
    · rw [if_pos e2]; exact shift_rel D (Or.inr (Or.inl e2))
    rw [if_neg e2]
    by_cases e3 : k = 39
    · rw [if_pos e3]; exact shift_rel D (Or.inr (Or.inr e3))
    rw [if_neg e3]
    by_cases e4 : k = 41
    · rw [if_pos e4]; exact reading_rel D (Or.inl e4)
    rw [if_neg e4]
    by_cases e5 : k = 42
    · rw [if_pos e5]; exact reading_rel D (Or.inr (Or.inl e5))
    rw [if_neg e5]
    by_cases e6 : k = 43
    · rw [if_pos e6]; exact reading_rel D (Or.inr (Or.inr e6))
    rw [if_neg e6]
    by_cases e7 : k = 49
    · rw [if_pos e7]; exact writing_rel D (Or.inl e7)
    rw [if_neg e7]
    by_cases e8 : k = 50
    · rw [if_pos e8]; exact writing_rel D (Or.inr (Or.inl e8))
    rw [if_neg e8]
    by_cases e9 : k = 51
    · rw [if_pos e9]; exact writing_rel D (Or.inr (Or.inr e9))
    rw [if_neg e9]
    by_cases e10 : k = 56
    · rw [if_pos e10]; subst e10; exact jump_rel D
    rw [if_neg e10]
    by_cases e11 : k = 57
    · rw [if_pos e11]; subst e11; exact return_rel D
    rw [if_neg e11]
    by_cases e12 : k = 58
    · rw [if_pos e12]; subst e12; exact soft_rel D
    rw [if_neg e12]
    by_cases e13 : k = 60
    · rw [if_pos e13]; subst e13; exact turn60_rel D
    rw [if_neg e13]
    by_cases e14 : k = 61
    · rw [if_pos e14]; subst e14; exact turn61_rel D
    rw [if_neg e14]
    have z : knownK k = false := by
      rcases kn with q | q | q | q | q | q | q | q | q | q | q | q | q | q | q
      all_goals first | exact q | exact absurd q (by assumption)
    rw [c239_tr (un z) (by decide)]; exact rel_trap D.1 v2t
  · rw [if_neg h32]
    have hj2 : j < 32 := (by decide +kernel : ∀ j, j < 64 → ¬ 32 ≤ nI j → j < 32) j hj h32
    exact arith_rel D hj2
