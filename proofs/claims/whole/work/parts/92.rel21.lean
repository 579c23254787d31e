/-! long sums: overflow and carry -/
theorem un_toInt (x : Int32) : (kX_unsigned x).toInt = x.toInt % 4294967296 := by
  unfold kX_unsigned
  have e1 : (x.toInt64 &&& 4294967295).toBitVec.toNat = x.toInt64.toBitVec.toNat % 2 ^ 32 := by
    rw [Int64.toBitVec_and, BitVec.toNat_and]
    exact Nat.and_two_pow_sub_one_eq_mod _ 32
  have e2 : x.toInt64.toInt = x.toInt := Int32.toInt_toInt64 x
  have e3 : x.toInt64.toInt = x.toInt64.toBitVec.toInt := rfl
  have e4 : (x.toInt64 &&& 4294967295).toInt = (x.toInt64 &&& 4294967295).toBitVec.toInt := rfl
  rw [BitVec.toInt_eq_toNat_cond] at e3 e4
  split at e3 <;> split at e4 <;> omega
theorem pl_toInt (x : Int32) : (kM_plain x).toInt = x.toInt % 4294967296 := un_toInt x
theorem un_low (U : Int64) : (kX_unsigned U.toInt32).toInt = U.toInt % 4294967296 := by
  rw [un_toInt, Int64.toInt_toInt32]
  exact Int.bmod_emod
theorem i64_add {x y : Int64} (h1 : -9223372036854775808 ≤ x.toInt + y.toInt) (h2 : x.toInt + y.toInt < 9223372036854775808) : (x + y).toInt = x.toInt + y.toInt := by
  rw [Int64.toInt_add]
  exact Int.bmod_eq_of_le (by omega) (by omega)
theorem i64_sub {x y : Int64} (h1 : -9223372036854775808 ≤ x.toInt - y.toInt) (h2 : x.toInt - y.toInt < 9223372036854775808) : (x - y).toInt = x.toInt - y.toInt := by
  rw [Int64.toInt_sub]
  exact Int.bmod_eq_of_le (by omega) (by omega)
theorem ex_add (a b c : Int32) : a.toInt64 + (b.toInt64 + c.toInt64) = (a.toInt64 + b.toInt64) + c.toInt64 := (Int64.add_assoc _ _ _).symm
theorem ex_sub (a b c : Int32) : a.toInt64 - (b.toInt64 + c.toInt64) = (a.toInt64 - b.toInt64) - c.toInt64 := by grind
theorem lo_add (a b c : Int32) : (a.toInt64 + (b.toInt64 + c.toInt64)).toInt32 = (a + b) + c := by
  rw [Int64.toInt32_add, Int64.toInt32_add, Int32.toInt32_toInt64, Int32.toInt32_toInt64, Int32.toInt32_toInt64, Int32.add_assoc]
theorem lo_sub (a b c : Int32) : (a.toInt64 - (b.toInt64 + c.toInt64)).toInt32 = (a - b) - c := by
  rw [Int64.toInt32_sub, Int64.toInt32_add, Int32.toInt32_toInt64, Int32.toInt32_toInt64, Int32.toInt32_toInt64]
  grind
theorem bI_in (b : Bool) : (bI b).toInt64.toInt = 0 ∨ (bI b).toInt64.toInt = 1 := by cases b <;> decide
theorem carry_add (a b : Int32) (q : Bool) : (lg_cmp (kX_unsigned a + (kX_unsigned b + (bI q).toInt64)) (kX_unsigned (kX_unsigned a + (kX_unsigned b + (bI q).toInt64)).toInt32) = 0) ↔ lg_cmp ((kM_plain a + kM_plain b) + (bI q).toInt64) 4294967295 ≤ 0 := by
  have ha := un_toInt a
  have hb := un_toInt b
  have hc := bI_in q
  have s1 : (kX_unsigned b + (bI q).toInt64).toInt = b.toInt % 4294967296 + (bI q).toInt64.toInt := by
    rw [i64_add (by omega) (by omega), hb]
  have s2 : (kX_unsigned a + (kX_unsigned b + (bI q).toInt64)).toInt = a.toInt % 4294967296 + (b.toInt % 4294967296 + (bI q).toInt64.toInt) := by
    rw [i64_add (by omega) (by omega), ha, s1]
  have e : (kM_plain a + kM_plain b) + (bI q).toInt64 = kX_unsigned a + (kX_unsigned b + (bI q).toInt64) := Int64.add_assoc _ _ _
  have m : (4294967295 : Int64).toInt = 4294967295 := by decide
  rw [e, lg_cmp_eq, lg_cmp_le, Int64.le_iff_toInt_le, ← Int64.toInt_inj, un_low, s2, m]
  omega
theorem carry_sub (a b : Int32) (q : Bool) : (lg_cmp (kX_unsigned a - (kX_unsigned b + (bI q).toInt64)) (kX_unsigned (kX_unsigned a - (kX_unsigned b + (bI q).toInt64)).toInt32) = 0) ↔ 0 ≤ lg_cmp (kM_plain a) (kM_plain b + (bI q).toInt64) := by
  have ha := un_toInt a
  have hb := un_toInt b
  have hc := bI_in q
  have s1 : (kX_unsigned b + (bI q).toInt64).toInt = b.toInt % 4294967296 + (bI q).toInt64.toInt := by
    rw [i64_add (by omega) (by omega), hb]
  have s2 : (kX_unsigned a - (kX_unsigned b + (bI q).toInt64)).toInt = a.toInt % 4294967296 - (b.toInt % 4294967296 + (bI q).toInt64.toInt) := by
    rw [i64_sub (by omega) (by omega), ha, s1]
  have e : (kM_plain b + (bI q).toInt64).toInt = b.toInt % 4294967296 + (bI q).toInt64.toInt := s1
  rw [lg_cmp_eq, lg_cmp_ge, Int64.le_iff_toInt_le, ← Int64.toInt_inj, un_low, s2, e, pl_toInt]
  omega
/-! the flags -/
theorem c_fl : ∀ i, i < 32 → bt (-15728641) i = !(decide (20 ≤ i) && decide (i < 24)) := by decide +kernel
theorem c_20 : ∀ i, i < 32 → bt 1048576 i = decide (i = 20) := by decide +kernel
theorem c_21 : ∀ i, i < 32 → bt 2097152 i = decide (i = 21) := by decide +kernel
theorem c_22 : ∀ i, i < 32 → bt 4194304 i = decide (i = 22) := by decide +kernel
theorem c_23 : ∀ i, i < 32 → bt 8388608 i = decide (i = 23) := by decide +kernel
theorem res_bits (r : Int32) {i : Nat} (hi : i < 32) : bt (kX_flagsOfResult r) i = ((decide (r = 0) && decide (i = 22)) || (!decide (0 ≤ r) && decide (i = 23))) := by
  unfold kX_flagsOfResult
  by_cases h : r = 0
  · subst h; rw [if_pos rfl, c_22 i hi]; simp
  · rw [if_neg h]
    by_cases g : 0 ≤ r
    · rw [if_pos g, b_0]; simp [h, g]
    · rw [if_neg g, c_23 i hi]; simp [h, g]
theorem flags_eq (τ : MS) (r : Int32) (v c : Bool) : kM_flags τ r v c = mB (mB (mB (mB τ 12 (!decide (0 ≤ r))) 11 (decide (r = 0))) 10 v) 9 c := by
  unfold kM_flags kM_flags_c10 kM_flags_c13
  by_cases g : 0 ≤ r
  · rw [if_pos g]
    by_cases h : r = 0
    · rw [if_pos h]; simp only [decide_eq_true g, decide_eq_true h]; rfl
    · rw [if_neg h]; simp only [decide_eq_true g, decide_eq_false h]; rfl
  · rw [if_neg g]
    by_cases h : r = 0
    · rw [if_pos h]; simp only [decide_eq_false g, decide_eq_true h]; rfl
    · rw [if_neg h]; simp only [decide_eq_false g, decide_eq_false h]; rfl
theorem flag_bits {σ : XS} {τ : MS} (h : rS σ τ) (r f : Int32) (v c : Bool) (hf : ∀ i, i < 32 → bt f i = ((c && decide (i = 20)) || (v && decide (i = 21)))) : rS (xI σ 2 ((σ.1 2 &&& (-15728641)) ||| (kX_flagsOfResult r ||| f))) (kM_flags τ r v c) := by
  rw [flags_eq]
  refine ⟨fun i hi => ?_, h.2.1, h.2.2⟩
  show bt ((σ.1 2 &&& (-15728641)) ||| (kX_flagsOfResult r ||| f)) i = _
  rw [b_or, b_and, b_or, h.1 i hi, c_fl i hi, res_bits r hi, hf i hi]
  generalize decide (r = 0) = z
  generalize decide (0 ≤ r) = p
  rcases i with _ | _ | _ | _ | _ | _ | _ | _ | _ | _ | _ | _ | _ | _ | _ | _ | _ | _ | _ | _ | _ | _ | _ | _ | _ | _ | _ | _ | _ | _ | _ | _ | i
  all_goals first | omega | (simp [stB, mB, upd, va_up]; done)
theorem rel_flags {σ : XS} {τ : MS} (h : Rel σ τ) (r f : Int32) (v c : Bool) (hf : ∀ i, i < 32 → bt f i = ((c && decide (i = 20)) || (v && decide (i = 21)))) : Rel (xI σ 2 ((σ.1 2 &&& (-15728641)) ||| (kX_flagsOfResult r ||| f))) (kM_flags τ r v c) := by
  have s := flag_bits h.1 r f v c hf
  rw [flags_eq] at s ⊢
  obtain ⟨-, ⟨t1, t2, t3⟩, ⟨i1, i2, i3, i4, i5, i6, i7, i8⟩, r, m⟩ := h
  exact ⟨⟨s.1, s.2.1, s.2.2⟩, ⟨t1, t2, t3⟩, ⟨i1, i2, i3, i4, i5, i6, i7, i8⟩, r, m⟩
theorem give_mB (τ : MS) (k : Nat) (b : Bool) (w d v : Int32) : kM_give (mB τ k b) w d v = mB (kM_give τ w d v) k b := by
  unfold kM_give
  split
  · split <;> rfl
  · rfl
theorem give_flags (τ : MS) (r w d x : Int32) (v c : Bool) : kM_give (kM_flags τ r v c) w d x = kM_flags (kM_give τ w d x) r v c := by
  rw [flags_eq, flags_eq, give_mB, give_mB, give_mB, give_mB]
