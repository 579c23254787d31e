/-! arithmetic -/
abbrev opK (o : Int32) : Prop := o = 0 ∨ o = 1 ∨ o = 2 ∨ o = 3 ∨ o = 4 ∨ o = 5 ∨ o = 6 ∨ o = 7 ∨ o = 8 ∨ o = 12
def fB (E : Int64) (C : Bool) (r f : Int32) : Prop := ∀ i, i < 32 → bt f i = ((C && decide (i = 20)) || ((!decide (lg_cmp E r.toInt64 = 0)) && decide (i = 21)))
theorem f_add (a b : Int32) (q : Bool) : fB ((a.toInt64 + b.toInt64) + (bI q).toInt64) (!decide (lg_cmp ((kM_plain a + kM_plain b) + (bI q).toInt64) 4294967295 ≤ 0)) ((a + b) + bI q) (kX_flagsOfCarrying_c47 a b (bI q) true) := by
  intro i hi
  have t1 : kX_total true a.toInt64 (b.toInt64 + (bI q).toInt64) = a.toInt64 + (b.toInt64 + (bI q).toInt64) := rfl
  have t2 : kX_total true (kX_unsigned a) (kX_unsigned b + (bI q).toInt64) = kX_unsigned a + (kX_unsigned b + (bI q).toInt64) := rfl
  unfold kX_flagsOfCarrying_c47 kX_flagsOfCarrying_c95 kX_flagsOfCarrying_c115
  rw [t1, t2, lo_add, ex_add]
  have k := carry_add a b q
  by_cases e : lg_cmp ((a.toInt64 + b.toInt64) + (bI q).toInt64) ((a + b) + bI q).toInt64 = 0
  · rw [if_pos e, decide_eq_true e]
    by_cases g : lg_cmp ((kM_plain a + kM_plain b) + (bI q).toInt64) 4294967295 ≤ 0
    · rw [if_pos (k.mpr g), decide_eq_true g, b_or, b_0]; rfl
    · rw [if_neg (fun z => g (k.mp z)), decide_eq_false g, b_or, b_0, c_20 i hi]; simp
  · rw [if_neg e, decide_eq_false e]
    by_cases g : lg_cmp ((kM_plain a + kM_plain b) + (bI q).toInt64) 4294967295 ≤ 0
    · rw [if_pos (k.mpr g), decide_eq_true g, b_or, b_0, c_21 i hi]; simp
    · rw [if_neg (fun z => g (k.mp z)), decide_eq_false g, b_or, c_20 i hi, c_21 i hi]; simp [Bool.or_comm]
theorem f_sub (a b : Int32) (q : Bool) : fB ((a.toInt64 - b.toInt64) - (bI q).toInt64) (!decide (0 ≤ lg_cmp (kM_plain a) (kM_plain b + (bI q).toInt64))) ((a - b) - bI q) (kX_flagsOfCarrying_c47 a b (bI q) false) := by
  intro i hi
  have t1 : kX_total false a.toInt64 (b.toInt64 + (bI q).toInt64) = a.toInt64 - (b.toInt64 + (bI q).toInt64) := rfl
  have t2 : kX_total false (kX_unsigned a) (kX_unsigned b + (bI q).toInt64) = kX_unsigned a - (kX_unsigned b + (bI q).toInt64) := rfl
  unfold kX_flagsOfCarrying_c47 kX_flagsOfCarrying_c95 kX_flagsOfCarrying_c115
  rw [t1, t2, lo_sub, ex_sub]
  have k := carry_sub a b q
  by_cases e : lg_cmp ((a.toInt64 - b.toInt64) - (bI q).toInt64) ((a - b) - bI q).toInt64 = 0
  · rw [if_pos e, decide_eq_true e]
    by_cases g : 0 ≤ lg_cmp (kM_plain a) (kM_plain b + (bI q).toInt64)
    · rw [if_pos (k.mpr g), decide_eq_true g, b_or, b_0]; rfl
    · rw [if_neg (fun z => g (k.mp z)), decide_eq_false g, b_or, b_0, c_20 i hi]; simp
  · rw [if_neg e, decide_eq_false e]
    by_cases g : 0 ≤ lg_cmp (kM_plain a) (kM_plain b + (bI q).toInt64)
    · rw [if_pos (k.mpr g), decide_eq_true g, b_or, b_0, c_21 i hi]; simp
    · rw [if_neg (fun z => g (k.mp z)), decide_eq_false g, b_or, c_20 i hi, c_21 i hi]; simp [Bool.or_comm]
theorem f_none (r : Int32) : fB r.toInt64 false r 0 := by
  intro i hi
  rw [decide_eq_true ((lg_cmp_eq _ _).mpr rfl), b_0]; rfl
theorem w_add (τ : MS) (o : Int32) (q : Bool) : kM_work_c70 τ o q = kM_work_c270 τ o ((((τ.1 25).toInt64) + ((τ.1 26).toInt64)) + ((bI q).toInt64)) (!decide (lg_cmp ((kM_plain (τ.1 25) + kM_plain (τ.1 26)) + (bI q).toInt64) 4294967295 ≤ 0)) (((τ.1 25) + (τ.1 26)) + (bI q)) := by
  unfold kM_work_c70 kM_work_c115
  by_cases g : lg_cmp ((kM_plain (τ.1 25) + kM_plain (τ.1 26)) + (bI q).toInt64) 4294967295 ≤ 0
  · rw [if_pos g, decide_eq_true g]; rfl
  · rw [if_neg g, decide_eq_false g]; rfl
theorem w_sub (τ : MS) (o : Int32) (q : Bool) : kM_work_c144 τ o q = kM_work_c270 τ o ((((τ.1 25).toInt64) - ((τ.1 26).toInt64)) - ((bI q).toInt64)) (!decide (0 ≤ lg_cmp (kM_plain (τ.1 25)) (kM_plain (τ.1 26) + (bI q).toInt64))) (((τ.1 25) - (τ.1 26)) - (bI q)) := by
  unfold kM_work_c144 kM_work_c185
  by_cases g : 0 ≤ lg_cmp (kM_plain (τ.1 25)) (kM_plain (τ.1 26) + (bI q).toInt64)
  · rw [if_pos g, decide_eq_true g]; rfl
  · rw [if_neg g, decide_eq_false g]; rfl
theorem res_0 (a b c : Int32) : kX_resultOf 0 a b c = (a + b) + c := by
  unfold kX_resultOf
  repeat (first | rw [if_neg (by decide)] | rw [if_pos rfl] | rw [if_pos (by decide)])
theorem flc_0 (a b c : Int32) : kX_flagsOfCarrying 0 a b c = kX_flagsOfCarrying_c47 a b c true := by
  unfold kX_flagsOfCarrying kX_flagsOfCarrying_c10 kX_flagsOfCarrying_c15 kX_flagsOfCarrying_c28 kX_flagsOfCarrying_c33
  repeat (first | rw [if_neg (by decide)] | rw [if_pos rfl] | rw [if_pos (by decide)])
theorem wk_0 (τ : MS) (q : Bool) : kM_work_c51 τ 0 q = kM_work_c70 τ 0 q := by
  unfold kM_work_c51
  repeat (first | rw [if_neg (by decide)] | rw [if_pos (by decide)])
theorem res_1 (a b c : Int32) : kX_resultOf 1 a b c = a &&& b := by
  unfold kX_resultOf
  repeat (first | rw [if_neg (by decide)] | rw [if_pos rfl] | rw [if_pos (by decide)])
theorem flc_1 (a b c : Int32) : kX_flagsOfCarrying 1 a b c = 0 := by
  unfold kX_flagsOfCarrying kX_flagsOfCarrying_c10 kX_flagsOfCarrying_c15 kX_flagsOfCarrying_c28 kX_flagsOfCarrying_c33
  repeat (first | rw [if_neg (by decide)] | rw [if_pos rfl] | rw [if_pos (by decide)])
theorem wk_1 (τ : MS) (q : Bool) : kM_work_c51 τ 1 q = kM_work_c270 τ 1 ((τ.1 25) &&& (τ.1 26)).toInt64 false ((τ.1 25) &&& (τ.1 26)) := by
  unfold kM_work_c51 kM_work_c221 kM_work_c264
  repeat (first | rw [if_neg (by decide)] | rw [if_pos (by decide)])
theorem res_2 (a b c : Int32) : kX_resultOf 2 a b c = a ||| b := by
  unfold kX_resultOf
  repeat (first | rw [if_neg (by decide)] | rw [if_pos rfl] | rw [if_pos (by decide)])
theorem flc_2 (a b c : Int32) : kX_flagsOfCarrying 2 a b c = 0 := by
  unfold kX_flagsOfCarrying kX_flagsOfCarrying_c10 kX_flagsOfCarrying_c15 kX_flagsOfCarrying_c28 kX_flagsOfCarrying_c33
  repeat (first | rw [if_neg (by decide)] | rw [if_pos rfl] | rw [if_pos (by decide)])
theorem wk_2 (τ : MS) (q : Bool) : kM_work_c51 τ 2 q = kM_work_c270 τ 2 ((τ.1 25) ||| (τ.1 26)).toInt64 false ((τ.1 25) ||| (τ.1 26)) := by
  unfold kM_work_c51 kM_work_c221 kM_work_c264
  repeat (first | rw [if_neg (by decide)] | rw [if_pos (by decide)])
theorem res_3 (a b c : Int32) : kX_resultOf 3 a b c = a ^^^ b := by
  unfold kX_resultOf
  repeat (first | rw [if_neg (by decide)] | rw [if_pos rfl] | rw [if_pos (by decide)])
theorem flc_3 (a b c : Int32) : kX_flagsOfCarrying 3 a b c = 0 := by
  unfold kX_flagsOfCarrying kX_flagsOfCarrying_c10 kX_flagsOfCarrying_c15 kX_flagsOfCarrying_c28 kX_flagsOfCarrying_c33
  repeat (first | rw [if_neg (by decide)] | rw [if_pos rfl] | rw [if_pos (by decide)])
theorem wk_3 (τ : MS) (q : Bool) : kM_work_c51 τ 3 q = kM_work_c270 τ 3 ((τ.1 25) ^^^ (τ.1 26)).toInt64 false ((τ.1 25) ^^^ (τ.1 26)) := by
  unfold kM_work_c51 kM_work_c221 kM_work_c264
  repeat (first | rw [if_neg (by decide)] | rw [if_pos (by decide)])
theorem res_4 (a b c : Int32) : kX_resultOf 4 a b c = (a - b) - c := by
  unfold kX_resultOf
  repeat (first | rw [if_neg (by decide)] | rw [if_pos rfl] | rw [if_pos (by decide)])
theorem flc_4 (a b c : Int32) : kX_flagsOfCarrying 4 a b c = kX_flagsOfCarrying_c47 a b c false := by
  unfold kX_flagsOfCarrying kX_flagsOfCarrying_c10 kX_flagsOfCarrying_c15 kX_flagsOfCarrying_c28 kX_flagsOfCarrying_c33
  repeat (first | rw [if_neg (by decide)] | rw [if_pos rfl] | rw [if_pos (by decide)])
theorem wk_4 (τ : MS) (q : Bool) : kM_work_c51 τ 4 q = kM_work_c144 τ 4 q := by
  unfold kM_work_c51
  repeat (first | rw [if_neg (by decide)] | rw [if_pos (by decide)])
theorem res_5 (a b c : Int32) : kX_resultOf 5 a b c = a &&& (b ^^^ (-1)) := by
  unfold kX_resultOf
  repeat (first | rw [if_neg (by decide)] | rw [if_pos rfl] | rw [if_pos (by decide)])
theorem flc_5 (a b c : Int32) : kX_flagsOfCarrying 5 a b c = 0 := by
  unfold kX_flagsOfCarrying kX_flagsOfCarrying_c10 kX_flagsOfCarrying_c15 kX_flagsOfCarrying_c28 kX_flagsOfCarrying_c33
  repeat (first | rw [if_neg (by decide)] | rw [if_pos rfl] | rw [if_pos (by decide)])
theorem wk_5 (τ : MS) (q : Bool) : kM_work_c51 τ 5 q = kM_work_c270 τ 5 ((τ.1 25) &&& ((τ.1 26) ^^^ (-1))).toInt64 false ((τ.1 25) &&& ((τ.1 26) ^^^ (-1))) := by
  unfold kM_work_c51 kM_work_c221 kM_work_c264
  repeat (first | rw [if_neg (by decide)] | rw [if_pos (by decide)])
theorem res_6 (a b c : Int32) : kX_resultOf 6 a b c = a ||| (b ^^^ (-1)) := by
  unfold kX_resultOf
  repeat (first | rw [if_neg (by decide)] | rw [if_pos rfl] | rw [if_pos (by decide)])
theorem flc_6 (a b c : Int32) : kX_flagsOfCarrying 6 a b c = 0 := by
  unfold kX_flagsOfCarrying kX_flagsOfCarrying_c10 kX_flagsOfCarrying_c15 kX_flagsOfCarrying_c28 kX_flagsOfCarrying_c33
  repeat (first | rw [if_neg (by decide)] | rw [if_pos rfl] | rw [if_pos (by decide)])
theorem wk_6 (τ : MS) (q : Bool) : kM_work_c51 τ 6 q = kM_work_c270 τ 6 ((τ.1 25) ||| ((τ.1 26) ^^^ (-1))).toInt64 false ((τ.1 25) ||| ((τ.1 26) ^^^ (-1))) := by
  unfold kM_work_c51 kM_work_c221 kM_work_c264
  repeat (first | rw [if_neg (by decide)] | rw [if_pos (by decide)])
theorem res_7 (a b c : Int32) : kX_resultOf 7 a b c = a ^^^ (b ^^^ (-1)) := by
  unfold kX_resultOf
  repeat (first | rw [if_neg (by decide)] | rw [if_pos rfl] | rw [if_pos (by decide)])
theorem flc_7 (a b c : Int32) : kX_flagsOfCarrying 7 a b c = 0 := by
  unfold kX_flagsOfCarrying kX_flagsOfCarrying_c10 kX_flagsOfCarrying_c15 kX_flagsOfCarrying_c28 kX_flagsOfCarrying_c33
  repeat (first | rw [if_neg (by decide)] | rw [if_pos rfl] | rw [if_pos (by decide)])
theorem wk_7 (τ : MS) (q : Bool) : kM_work_c51 τ 7 q = kM_work_c270 τ 7 ((τ.1 25) ^^^ ((τ.1 26) ^^^ (-1))).toInt64 false ((τ.1 25) ^^^ ((τ.1 26) ^^^ (-1))) := by
  unfold kM_work_c51 kM_work_c221 kM_work_c264
  repeat (first | rw [if_neg (by decide)] | rw [if_pos (by decide)])
theorem res_8 (a b c : Int32) : kX_resultOf 8 a b c = (a + b) + c := by
  unfold kX_resultOf
  repeat (first | rw [if_neg (by decide)] | rw [if_pos rfl] | rw [if_pos (by decide)])
theorem flc_8 (a b c : Int32) : kX_flagsOfCarrying 8 a b c = kX_flagsOfCarrying_c47 a b c true := by
  unfold kX_flagsOfCarrying kX_flagsOfCarrying_c10 kX_flagsOfCarrying_c15 kX_flagsOfCarrying_c28 kX_flagsOfCarrying_c33
  repeat (first | rw [if_neg (by decide)] | rw [if_pos rfl] | rw [if_pos (by decide)])
theorem wk_8 (τ : MS) (q : Bool) : kM_work_c51 τ 8 q = kM_work_c70 τ 8 q := by
  unfold kM_work_c51
  repeat (first | rw [if_neg (by decide)] | rw [if_pos (by decide)])
theorem res_12 (a b c : Int32) : kX_resultOf 12 a b c = (a - b) - c := by
  unfold kX_resultOf
  repeat (first | rw [if_neg (by decide)] | rw [if_pos rfl] | rw [if_pos (by decide)])
theorem flc_12 (a b c : Int32) : kX_flagsOfCarrying 12 a b c = kX_flagsOfCarrying_c47 a b c false := by
  unfold kX_flagsOfCarrying kX_flagsOfCarrying_c10 kX_flagsOfCarrying_c15 kX_flagsOfCarrying_c28 kX_flagsOfCarrying_c33
  repeat (first | rw [if_neg (by decide)] | rw [if_pos rfl] | rw [if_pos (by decide)])
theorem wk_12 (τ : MS) (q : Bool) : kM_work_c51 τ 12 q = kM_work_c144 τ 12 q := by
  unfold kM_work_c51
  repeat (first | rw [if_neg (by decide)] | rw [if_pos (by decide)])
theorem work_form (τ : MS) {o : Int32} (q : Bool) (ho : opK o) : ∃ E C, kM_work_c51 τ o q = kM_work_c270 τ o E C (kX_resultOf o (τ.1 25) (τ.1 26) (bI q)) ∧ fB E C (kX_resultOf o (τ.1 25) (τ.1 26) (bI q)) (kX_flagsOfCarrying o (τ.1 25) (τ.1 26) (bI q)) := by
  rcases ho with rfl | rfl | rfl | rfl | rfl | rfl | rfl | rfl | rfl | rfl
  · rw [wk_0, res_0, flc_0]; exact ⟨_, _, w_add τ 0 q, f_add _ _ q⟩
  · rw [wk_1, res_1, flc_1]; exact ⟨_, _, rfl, f_none _⟩
  · rw [wk_2, res_2, flc_2]; exact ⟨_, _, rfl, f_none _⟩
  · rw [wk_3, res_3, flc_3]; exact ⟨_, _, rfl, f_none _⟩
  · rw [wk_4, res_4, flc_4]; exact ⟨_, _, w_sub τ 4 q, f_sub _ _ q⟩
  · rw [wk_5, res_5, flc_5]; exact ⟨_, _, rfl, f_none _⟩
  · rw [wk_6, res_6, flc_6]; exact ⟨_, _, rfl, f_none _⟩
  · rw [wk_7, res_7, flc_7]; exact ⟨_, _, rfl, f_none _⟩
  · rw [wk_8, res_8, flc_8]; exact ⟨_, _, w_add τ 8 q, f_add _ _ q⟩
  · rw [wk_12, res_12, flc_12]; exact ⟨_, _, w_sub τ 12 q, f_sub _ _ q⟩
theorem w_270 {τ : MS} {k : Int32} (h27 : τ.1 27 = k) (o : Int32) (E : Int64) (C : Bool) (r : Int32) : kM_work_c270 τ o E C r = if k = o then kM_give τ (τ.1 4) (τ.1 24) r else kM_flags (kM_give τ (τ.1 4) (τ.1 24) r) r (!decide (lg_cmp E r.toInt64 = 0)) C := by
  unfold kM_work_c270 kM_work_c284 kM_work_c308
  rw [give_ints, h27]
  by_cases e : k = o
  · rw [if_pos e, if_pos e]
  · rw [if_neg e, if_neg e]
    by_cases g : lg_cmp E r.toInt64 = 0
    · rw [if_pos g, decide_eq_true g]; rfl
    · rw [if_neg g, decide_eq_false g]; rfl
theorem flags_ints (τ : MS) (r : Int32) (v c : Bool) : (kM_flags τ r v c).1 = τ.1 := by rw [flags_eq]; rfl
theorem arith_fin {σ : XS} {τ : MS} {c k o : Int32} (D : Dec σ τ c k) (q : Bool) (ho : opK o) (hk : k < 16 ↔ k = o) : sameR (kX_performArithmetic_c57 σ c k o (kX_valueOfA σ c) (kX_valueOfB σ c) q) (kM_oneStep_c298 (kM_work_c51 (mI τ 28 (τ.1 17 + 4)) o q)) := by
  obtain ⟨h, h23, h24, h27, h25, h26⟩ := D
  have hR := rel_28 h (τ.1 17 + 4)
  obtain ⟨E, C, e1, e2⟩ := work_form (mI τ 28 (τ.1 17 + 4)) q ho
  rw [e1, w_270 (τ := mI τ 28 (τ.1 17 + 4)) h27]
  rw [show (mI τ 28 (τ.1 17 + 4)).1 25 = kX_valueOfA σ c from h25, show (mI τ 28 (τ.1 17 + 4)).1 26 = kX_valueOfB σ c from h26] at e2 ⊢
  rw [show (mI τ 28 (τ.1 17 + 4)).1 24 = kX_numberOfD c from h24]
  unfold kX_performArithmetic_c57 kX_performArithmetic_c109 kX_performArithmetic_c119
  generalize kX_resultOf o (kX_valueOfA σ c) (kX_valueOfB σ c) (bI q) = r at e2 ⊢
  generalize kX_flagsOfCarrying o (kX_valueOfA σ c) (kX_valueOfB σ c) (bI q) = f at e2 ⊢
  by_cases e : k = o
  · rw [if_pos e, if_pos (hk.mpr e)]
    exact fin_on (write_rel hR (num_in c) r) (by rw [give_ints]; rfl)
  · rw [if_neg e, if_neg (fun z => e (hk.mp z)), ← give_flags]
    have h2 := rel_flags hR r f (!decide (lg_cmp E r.toInt64 = 0)) C e2
    have h3 := write_rel h2 (num_in c) r
    have w4 : (kM_flags (mI τ 28 (τ.1 17 + 4)) r (!decide (lg_cmp E r.toInt64 = 0)) C).1 4 = (mI τ 28 (τ.1 17 + 4)).1 4 := by rw [flags_ints]
    rw [w4] at h3
    exact fin_on h3 (by rw [give_ints, flags_ints]; rfl)
