/-! registers: read and written alike -/
theorem slot_hi {w r : Int32} (hw : vp_in w 8) (hr : vp_in r 32) (h8 : (8 : Int32) ≤ r) : (kX_slot w r).toNatClampNeg = 8 + (kM_slot w r).toNatClampNeg ∧ (kM_slot w r).toNatClampNeg < 128 := by
  obtain ⟨i, hi, rfl⟩ := vp_in_of hw (by decide)
  obtain ⟨j, hj, rfl⟩ := vp_in_of hr (by decide)
  exact (by decide +kernel : ∀ i, i < 8 → ∀ j, j < 32 → (8 : Int32) ≤ nI j → (kX_slot (nI i) (nI j)).toNatClampNeg = 8 + (kM_slot (nI i) (nI j)).toNatClampNeg ∧ (kM_slot (nI i) (nI j)).toNatClampNeg < 128) i hi j hj h8
theorem slot_lo {w r : Int32} (hr : vp_in r 32) (h8 : ¬ (8 : Int32) ≤ r) : kX_slot w r = r ∧ r.toNatClampNeg < 8 := by
  refine ⟨by unfold kX_slot; rw [if_neg h8], ?_⟩
  obtain ⟨j, hj, rfl⟩ := vp_in_of hr (by decide)
  rw [show (8 : Int32) = nI 8 from rfl, nI_leI (by decide) (by omega)] at h8
  rw [nI_clamp (by omega)]
  omega
theorem reg_get {σ : XS} {τ : MS} {w r : Int32} (h : rR σ τ) (hw : vp_in w 8) (hr : vp_in r 32) : σ.2.2.2 (kX_slot w r).toNatClampNeg = kM_get τ w r := by
  unfold kM_get
  by_cases h8 : (8 : Int32) ≤ r
  · rw [if_pos h8, (slot_hi hw hr h8).1]
    exact h.2 _ (slot_hi hw hr h8).2
  · rw [if_neg h8, (slot_lo (w := w) hr h8).1]
    exact h.1 _ (slot_lo (w := w) hr h8).2
theorem reg_give {σ : XS} {τ : MS} {w r v : Int32} (h : rR σ τ) (hw : vp_in w 8) (hr : vp_in r 32) : rR (if r = 0 then σ else xR σ (kX_slot w r).toNatClampNeg v) (kM_give τ w r v) := by
  unfold kM_give
  obtain ⟨j, hj, rfl⟩ := vp_in_of hr (by decide)
  have h7 : nI j ≤ 7 ↔ j ≤ 7 := nI_leI (by omega) (by decide)
  have h0 : nI j ≤ 0 ↔ j ≤ 0 := nI_leI (by omega) (by decide)
  have hz : nI j = 0 ↔ j = 0 := nI_eq (by omega) (by decide)
  by_cases e7 : j ≤ 7
  · rw [if_pos (h7.mpr e7)]
    by_cases e0 : j = 0
    · subst e0
      rw [if_pos (h0.mpr (by omega)), if_pos (hz.mpr rfl)]
      exact h
    · rw [if_neg (fun q : nI j ≤ 0 => e0 (by have := h0.mp q; omega)), if_neg (fun q : nI j = 0 => e0 (hz.mp q))]
      have h8 : ¬ (8 : Int32) ≤ nI j := by rw [show (8 : Int32) = nI 8 from rfl, nI_leI (by decide) (by omega)]; omega
      rw [(slot_lo (w := w) hr h8).1, nI_clamp (by omega)]
      refine ⟨fun k hk => ?_, fun k hk => ?_⟩
      · show upd σ.2.2.2 j v k = upd τ.2.2.2.1 j v k
        by_cases e : k = j
        · subst e; rw [pk_us, pk_us]
        · rw [pk_un e, pk_un e]; exact h.1 k hk
      · show upd σ.2.2.2 j v (8 + k) = τ.2.2.2.2 k
        rw [pk_un (by omega)]; exact h.2 k hk
  · rw [if_neg (fun q : nI j ≤ 7 => e7 (h7.mp q)), if_neg (fun q : nI j = 0 => e7 (by have := hz.mp q; omega))]
    have h8 : (8 : Int32) ≤ nI j := by rw [show (8 : Int32) = nI 8 from rfl, nI_leI (by decide) (by omega)]; omega
    obtain ⟨s1, s2⟩ := slot_hi hw hr h8
    rw [s1]
    generalize (kM_slot w (nI j)).toNatClampNeg = t at s2
    refine ⟨fun k hk => ?_, fun k hk => ?_⟩
    · show upd σ.2.2.2 (8 + t) v k = τ.2.2.2.1 k
      rw [pk_un (by omega)]; exact h.1 k hk
    · show upd σ.2.2.2 (8 + t) v (8 + k) = upd τ.2.2.2.2 t v k
      by_cases e : k = t
      · subst e; rw [pk_us, pk_us]
      · rw [pk_un (by omega), pk_un e]; exact h.2 k hk
/-- give touches the registers alone -/
theorem give_keeps (τ : MS) (w r v : Int32) : (kM_give τ w r v).1 = τ.1 ∧ (kM_give τ w r v).2.1 = τ.2.1 ∧ (kM_give τ w r v).2.2.1 = τ.2.2.1 := by
  unfold kM_give
  repeat' split
  all_goals exact ⟨rfl, rfl, rfl⟩
theorem put_keeps (σ : XS) (c : Prop) [Decidable c] (k : Nat) (v : Int32) : (if c then σ else xR σ k v).1 = σ.1 ∧ (if c then σ else xR σ k v).2.1 = σ.2.1 ∧ (if c then σ else xR σ k v).2.2.1 = σ.2.2.1 := by
  split <;> exact ⟨rfl, rfl, rfl⟩
theorem stB_eq {τ τ' : MS} (h1 : τ'.1 = τ.1) (h2 : τ'.2.1 = τ.2.1) (i : Nat) : stB τ' i = stB τ i := by
  unfold stB; rw [h1, h2]
theorem tab_eq {τ τ' : MS} (h1 : τ'.1 = τ.1) : kM_table τ' = kM_table τ := by
  unfold kM_table; rw [h1]
theorem rel_frame {σ σ' : XS} {τ τ' : MS} (h : Rel σ τ) (a1 : σ'.1 = σ.1) (a2 : σ'.2.1 = σ.2.1) (b1 : τ'.1 = τ.1) (b2 : τ'.2.1 = τ.2.1) (hr : rR σ' τ') (hm : rM σ' τ') : Rel σ' τ' := by
  obtain ⟨⟨s1, s2, s3⟩, ⟨t1, t2, t3⟩, i, -, -⟩ := h
  refine ⟨⟨fun k hk => by rw [a1, stB_eq b1 b2]; exact s1 k hk, by unfold mOK; rw [b1]; exact s2, by rw [b1]; exact s3⟩, ⟨by rw [a1, tab_eq b1]; exact t1, by rw [b1]; exact t2, by rw [b1]; exact t3⟩, ?_, hr, hm⟩
  unfold rI; rw [a1, a2, b1, b2]; exact i
theorem rel_give {σ : XS} {τ : MS} {w r v : Int32} (h : Rel σ τ) (hw : vp_in w 8) (hr : vp_in r 32) : Rel (if r = 0 then σ else xR σ (kX_slot w r).toNatClampNeg v) (kM_give τ w r v) := by
  obtain ⟨g1, g2, g3⟩ := give_keeps τ w r v
  obtain ⟨p1, p2, p3⟩ := put_keeps σ (r = 0) (kX_slot w r).toNatClampNeg v
  exact rel_frame h p1 p2 g1 g2 (reg_give h.2.2.2.1 hw hr) (by unfold rM; rw [p3, g3]; exact h.2.2.2.2)
theorem face_set (σ : XS) (τ : MS) (a b v : Int32) (h : Rel σ τ) : faceOK Rel (kX_set σ a b v) σ (kM_set τ a b v) := by
  unfold kX_set kM_set
  rw [sameReg]
  by_cases e : bI (kM_isRegister a b) = 0
  · rw [if_pos e]
    have e2 : kM_isRegister a b = false := by
      cases hb : kM_isRegister a b
      · rfl
      · rw [hb] at e; exact absurd e (by decide)
    rw [e2]
    exact ⟨rfl, rel_thrown h⟩
  · rw [if_neg e]
    obtain ⟨hw, hr⟩ := m_reg_in e
    have e2 : kM_isRegister a b = true := by
      cases hb : kM_isRegister a b
      · rw [hb] at e; exact absurd rfl e
      · rfl
    rw [e2]
    have h' : Rel σ (mI τ 0 0) := rel_thrown h
    have hg : Rel (if b = 0 then σ else xR σ (kX_slot a b).toNatClampNeg v) (kM_give (mI τ 0 0) a b v) := rel_give h' hw hr
    have ht : (kM_give (mI τ 0 0) a b v).1 0 = 0 := by rw [(give_keeps _ _ _ _).1]; rfl
    have hv : σ.2.2.2 (kX_slot a b).toNatClampNeg = kM_get (mI τ 0 0) a b := reg_get h'.2.2.2.1 hw hr
    by_cases b0 : b = 0
    · rw [if_pos b0]
      rw [if_pos b0] at hg
      exact ⟨ht, hv, hg⟩
    · rw [if_neg b0]
      rw [if_neg b0] at hg
      exact ⟨ht, hv, hg⟩
theorem face_register (σ : XS) (τ : MS) (a b : Int32) (h : Rel σ τ) : faceOK Rel (kX_register σ a b) σ (kM_register τ a b) := by
  unfold kX_register kM_register
  rw [sameReg]
  by_cases e : bI (kM_isRegister a b) = 0
  · rw [if_pos e]
    have e2 : kM_isRegister a b = false := by
      cases hb : kM_isRegister a b
      · rfl
      · rw [hb] at e; exact absurd e (by decide)
    rw [e2]
    exact ⟨rfl, rel_thrown h⟩
  · rw [if_neg e]
    obtain ⟨hw, hr⟩ := m_reg_in e
    have e2 : kM_isRegister a b = true := by
      cases hb : kM_isRegister a b
      · rw [hb] at e; exact absurd rfl e
      · rfl
    rw [e2]
    have h' : Rel σ (mI τ 0 0) := rel_thrown h
    exact ⟨rfl, reg_get h'.2.2.2.1 hw hr, h'⟩
