/-! the status word, its setting; look and control -/
theorem bt_one {k i : Nat} (hk : k < 32) (hi : i < 32) : bt ((1 : Int32) <<< (nI k &&& 31)) i = decide (i = k) := by
  rw [b_shl k hk _ hi, show (1 : Int32) = nI (2 ^ 0) from rfl]
  by_cases h : k ≤ i
  · rw [bt_pow (by omega)]
    by_cases e : i = k
    · subst e; simp
    · simp [e, h]; omega
  · have e : i ≠ k := by omega
    simp [h, e]
theorem bt_bit (b : Bool) {k i : Nat} (hk : k < 32) (hi : i < 32) : bt (kM_bit b (nI k)) i = (b && decide (i = k)) := by
  unfold kM_bit
  cases b
  · rw [if_pos (show bI false = 0 from rfl), b_0]; rfl
  · rw [if_neg (by decide), bt_one hk hi]; rfl
theorem bt_status {τ : MS} (hok : mOK τ) (h8 : vp_in (τ.1 8) 16) : ∀ i, i < 32 → bt (kM_status τ) i = stB τ i := by
  intro i hi
  have e : bt (kM_status τ) i = (((((((((bt (τ.1 4) i) || (τ.2.1 5 && decide (i = 5))) || (τ.2.1 6 && decide (i = 6))) || (τ.2.1 7 && decide (i = 7))) || (decide (8 ≤ i) && bt (τ.1 8) (i - 8))) || (τ.2.1 9 && decide (i = 20))) || (τ.2.1 10 && decide (i = 21))) || (τ.2.1 11 && decide (i = 22))) || (τ.2.1 12 && decide (i = 23))) := by
    unfold kM_status
    rw [b_or, b_or, b_or, b_or, b_or, b_or, b_or, b_or, b_shl8 _ hi]
    rw [show (5 : Int32) = nI 5 from rfl, show (6 : Int32) = nI 6 from rfl, show (7 : Int32) = nI 7 from rfl, show (20 : Int32) = nI 20 from rfl, show (21 : Int32) = nI 21 from rfl, show (22 : Int32) = nI 22 from rfl, show (23 : Int32) = nI 23 from rfl]
    rw [bt_bit _ (by decide) hi, bt_bit _ (by decide) hi, bt_bit _ (by decide) hi, bt_bit _ (by decide) hi, bt_bit _ (by decide) hi, bt_bit _ (by decide) hi, bt_bit _ (by decide) hi]
  rw [e]
  have w : ∀ j, 3 ≤ j → bt (τ.1 4) j = false := fun j hj => bt_lt (n := 3) hok.1 (by decide) hj
  have v : ∀ j, 4 ≤ j → bt (τ.1 8) j = false := fun j hj => bt_lt (n := 4) h8 (by decide) hj
  rcases i with _ | _ | _ | _ | _ | _ | _ | _ | _ | _ | _ | _ | _ | _ | _ | _ | _ | _ | _ | _ | _ | _ | _ | _ | _ | _ | _ | _ | _ | _ | _ | _ | i
  all_goals first | omega | (simp [stB, w, v]; done)
theorem rel_status {σ : XS} {τ : MS} (h : Rel σ τ) : σ.1 2 = kM_status τ := b_ext (fun i hi => by rw [h.1.1 i hi, bt_status h.1.2.1 h.1.2.2 i hi])
theorem shown_seen {σ : XS} {τ : MS} (h : Rel σ τ) (a : Int32) : kX_shown σ a = kM_seen τ a := by
  obtain ⟨i1, ⟨i2, -⟩, ⟨i3, -⟩, ⟨i4, -⟩, i5, i6, i7, i8⟩ := h.2.2.1
  unfold kX_shown kM_seen
  rw [rel_status h, i1, h.2.1.1, i2, i3, i7, i8, i5, i6, i4]
theorem face_look (σ : XS) (τ : MS) (a : Int32) (h : Rel σ τ) : faceOK Rel (kX_look σ a) σ (kM_look τ a) := by
  have no : faceOK Rel none σ (kM_look_c15 τ a) := ⟨rfl, rel_thrown h⟩
  unfold kX_look kM_look
  by_cases h1 : a < 0
  · rw [if_pos h1, if_pos h1]; exact no
  · rw [if_neg h1, if_neg h1]
    by_cases h2 : a ≤ (9 : Int32)
    · have h3 : ¬ (9 : Int32) < a := by
        rw [Int32.lt_iff_toInt_lt]; rw [Int32.le_iff_toInt_le] at h2; omega
      rw [if_pos h2, if_neg h3]
      have h' : Rel σ (mI τ 0 0) := rel_thrown h
      exact ⟨rfl, shown_seen h' a, h'⟩
    · have h3 : (9 : Int32) < a := by
        rw [Int32.lt_iff_toInt_lt]; rw [Int32.le_iff_toInt_le] at h2; omega
      rw [if_neg h2, if_pos h3]; exact no
theorem sh1 (v : Int32) {k : Nat} (hk : k < 32) : ((v >>> (nI k &&& 31)) &&& 1) = 1 ↔ bt v k = true := by
  have e : bt (v >>> (nI k &&& 31)) 0 = bt v k := by rw [b_sshr k hk v (by decide), if_pos (by omega), Nat.add_zero]
  rw [← e]
  generalize v >>> (nI k &&& 31) = x
  have h0 := and_bit x (k := 0) (by decide)
  rw [show nI (2 ^ 0) = (1 : Int32) from rfl] at h0
  obtain ⟨j, hj, ej⟩ := pk_andE x (m := 1) 1 (by decide)
  rw [ej] at h0 ⊢
  rw [← nI_0, nI_eq (by omega) (by omega)] at h0
  rw [show (1 : Int32) = nI 1 from rfl, nI_eq (by omega) (by omega)]
  cases hb : bt x 0
  · rw [hb] at h0; have := h0.mpr rfl; constructor
    · intro q; omega
    · intro q; cases q
  · rw [hb] at h0
    constructor
    · intro _; rfl
    · intro _
      have : ¬ j = 0 := fun q => by have := h0.mp q; cases this
      omega
theorem ite_b {c : Prop} [Decidable c] {b : Bool} {α : Type} (h : c ↔ b = true) (f : Bool → α) : (if c then f true else f false) = f b := by
  cases b
  · rw [if_neg (fun q => by have := h.mp q; cases this)]
  · rw [if_pos (h.mpr rfl)]
theorem sh1' (v : Int32) : (((v >>> ((5 : Int32) &&& 31)) &&& 1) = 1 ↔ bt v 5 = true) ∧ (((v >>> ((6 : Int32) &&& 31)) &&& 1) = 1 ↔ bt v 6 = true) ∧ (((v >>> ((7 : Int32) &&& 31)) &&& 1) = 1 ↔ bt v 7 = true) ∧ (((v >>> ((20 : Int32) &&& 31)) &&& 1) = 1 ↔ bt v 20 = true) ∧ (((v >>> ((21 : Int32) &&& 31)) &&& 1) = 1 ↔ bt v 21 = true) ∧ (((v >>> ((22 : Int32) &&& 31)) &&& 1) = 1 ↔ bt v 22 = true) ∧ (((v >>> ((23 : Int32) &&& 31)) &&& 1) = 1 ↔ bt v 23 = true) := ⟨sh1 v (k := 5) (by decide), sh1 v (k := 6) (by decide), sh1 v (k := 7) (by decide), sh1 v (k := 20) (by decide), sh1 v (k := 21) (by decide), sh1 v (k := 22) (by decide), sh1 v (k := 23) (by decide)⟩
theorem setStatus_eq (τ : MS) (v : Int32) : kM_setStatus τ v = mB (mB (mB (mB (mI (mB (mB (mB (mI τ 4 (v &&& 7)) 5 (bt v 5)) 6 (bt v 6)) 7 (bt v 7)) 8 ((v >>> ((8 : Int32) &&& 31)) &&& 15)) 9 (bt v 20)) 10 (bt v 21)) 11 (bt v 22)) 12 (bt v 23) := by
  obtain ⟨s5, s6, s7, s20, s21, s22, s23⟩ := sh1' v
  refine (ite_b s5 (fun b => kM_setStatus_c23 (mI τ 4 (v &&& 7)) v b)).trans ?_
  refine (ite_b s6 (fun b => kM_setStatus_c42 (mB (mI τ 4 (v &&& 7)) 5 (bt v 5)) v b)).trans ?_
  refine (ite_b s7 (fun b => kM_setStatus_c61 (mB (mB (mI τ 4 (v &&& 7)) 5 (bt v 5)) 6 (bt v 6)) v b)).trans ?_
  refine (ite_b s20 (fun b => kM_setStatus_c91 (mI (mB (mB (mB (mI τ 4 (v &&& 7)) 5 (bt v 5)) 6 (bt v 6)) 7 (bt v 7)) 8 ((v >>> ((8 : Int32) &&& 31)) &&& 15)) v b)).trans ?_
  refine (ite_b s21 (fun b => kM_setStatus_c110 (mB (mI (mB (mB (mB (mI τ 4 (v &&& 7)) 5 (bt v 5)) 6 (bt v 6)) 7 (bt v 7)) 8 ((v >>> ((8 : Int32) &&& 31)) &&& 15)) 9 (bt v 20)) v b)).trans ?_
  refine (ite_b s22 (fun b => kM_setStatus_c129 (mB (mB (mI (mB (mB (mB (mI τ 4 (v &&& 7)) 5 (bt v 5)) 6 (bt v 6)) 7 (bt v 7)) 8 ((v >>> ((8 : Int32) &&& 31)) &&& 15)) 9 (bt v 20)) 10 (bt v 21)) v b)).trans ?_
  exact ite_b s23 (fun b => kM_setStatus_c148 (mB (mB (mB (mI (mB (mB (mB (mI τ 4 (v &&& 7)) 5 (bt v 5)) 6 (bt v 6)) 7 (bt v 7)) 8 ((v >>> ((8 : Int32) &&& 31)) &&& 15)) 9 (bt v 20)) 10 (bt v 21)) 11 (bt v 22)) b)
def stM (i : Nat) : Bool := decide (i < 3 ∨ (5 ≤ i ∧ i < 12) ∨ (20 ≤ i ∧ i < 24))
theorem stB_set (τ : MS) (v : Int32) : ∀ i, i < 32 → stB (kM_setStatus τ v) i = (bt v i && stM i) := by
  intro i hi
  rw [setStatus_eq]
  have e7 : ∀ j, j < 3 → bt (v &&& 7) j = bt v j := fun j hj => by
    rw [b_and, (by decide +kernel : ∀ j, j < 3 → bt 7 j = true) j hj, Bool.and_true]
  have e8 : ∀ j, j < 4 → bt ((v >>> ((8 : Int32) &&& 31)) &&& 15) j = bt v (8 + j) := fun j hj => by
    rw [b_and, (by decide +kernel : ∀ j, j < 4 → bt 15 j = true) j hj, Bool.and_true, b_sshr8 v (by omega), if_pos (by omega)]
  rcases i with _ | _ | _ | _ | _ | _ | _ | _ | _ | _ | _ | _ | _ | _ | _ | _ | _ | _ | _ | _ | _ | _ | _ | _ | _ | _ | _ | _ | _ | _ | _ | _ | i
  all_goals first
    | omega
    | (show bt (v &&& 7) _ = _; rw [e7 _ (by decide)]; simp [stM]; done)
    | (show bt ((v >>> ((8 : Int32) &&& 31)) &&& 15) _ = _; rw [e8 _ (by decide)]; simp [stM]; done)
    | (show bt v _ = _; simp [stM]; done)
    | (show false = _; simp [stM]; done)
theorem rS_set {σ : XS} {τ : MS} {v x : Int32} (hx : ∀ i, i < 32 → bt x i = (bt v i && stM i)) (hok : mOK τ) : rS (xI σ 2 x) (kM_setStatus τ v) := by
  refine ⟨fun i hi => ?_, mok_setStatus hok, ?_⟩
  · rw [stB_set τ v i hi]; exact hx i hi
  · rw [setStatus_eq]; exact pk_andIn _ 4 (by decide) (by decide)
