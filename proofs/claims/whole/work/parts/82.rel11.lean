/-! the run -/
theorem run_rel (P : PerfOK) (σ0 : XS) : ∀ (f : Nat) (σ : XS) (τ : MS) (v1 v2 v3 : Int32), Rel σ τ → Z0 0 τ → 0 ≤ v3.toInt → (v1.toInt - v3.toInt).toNat < f → faceOK Rel (kX_run_c23 f σ v1 v2 v3) σ0 (kM_run_c29 f τ v1 v2 v3) := by
  intro f
  induction f with
  | zero => intro σ τ v1 v2 v3 h z hk hf; exact absurd hf (Nat.not_lt_zero _)
  | succ f ih =>
    intro σ τ v1 v2 v3 h z hk hf
    rw [kX_run_c23, kM_run_c29]
    by_cases c : v1 ≤ v3
    · rw [if_pos c, if_pos c]; exact ⟨z, rfl, h⟩
    · rw [if_neg c, if_neg c]
      have i8 : σ.2.1 11 = τ.2.1 19 := h.2.2.1.2.2.2.2.2.2.2
      rw [i8]
      by_cases d : bI (τ.2.1 19) = 0
      · rw [if_pos d, if_pos d]
        obtain ⟨e1, e2⟩ := advance_rel P h
        have z2 : Z0 0 (kM_oneStep τ).2 := z0_oneStep z
        have hk2 := m_inc hk c
        have hf2 := m_dec hk c hf
        rw [e1]
        by_cases g : (kM_oneStep τ).1 < 100
        · rw [if_pos g, if_pos g]; exact ih _ _ _ _ _ e2 z2 hk2 hf2
        · rw [if_neg g, if_neg g]; exact ih _ _ _ _ _ e2 z2 hk2 hf2
      · rw [if_neg d, if_neg d]; exact ⟨z, rfl, h⟩
theorem face_run (P : PerfOK) (σ : XS) (τ : MS) (a : Int32) (h : Rel σ τ) : faceOK Rel (kX_run σ a) σ (kM_run τ a) := by
  have no : faceOK Rel none σ (kM_run_c16 τ a) := ⟨rfl, rel_thrown h⟩
  unfold kX_run kM_run
  by_cases h1 : a < 0
  · rw [if_pos h1, if_pos h1]; exact no
  · rw [if_neg h1, if_neg h1]
    by_cases h2 : a ≤ (5000 : Int32)
    · have h3 : ¬ (5000 : Int32) < a := by
        rw [Int32.lt_iff_toInt_lt]; rw [Int32.le_iff_toInt_le] at h2; omega
      rw [if_pos h2, if_neg h3]
      exact run_rel P σ _ σ (mI τ 0 0) a 0 0 (rel_thrown h) rfl (by decide) (Nat.lt_succ_self _)
    · have h3 : (5000 : Int32) < a := by
        rw [Int32.lt_iff_toInt_lt]; rw [Int32.le_iff_toInt_le] at h2; omega
      rw [if_neg h2, if_pos h3]; exact no
theorem pure_of (P : PerfOK) : Pure Rel := ⟨fun _ _ h => rel_ok h, rel_init, rel_reset, step_rel P, face_put, face_word, face_set, face_register, face_control, face_request, face_run P, face_look⟩
/-- performing, out of the two that are left -/
theorem perf_of (O : ∀ σ τ c, Dec σ τ c (kX_kindOf c) → sameR (kX_performOperation σ c (kX_kindOf c)) (kM_oneStep_c239 τ 2)) (T : ∀ σ τ c, Dec σ τ c (kX_kindOf c) → sameR (kX_performTransfer σ c (kX_kindOf c)) (kM_oneStep_c239 τ 3)) : PerfOK := by
  intro σ τ c h
  have hv : ∃ j, j < 4 ∧ uS c 30 = nI j := by
    have e : uS c 30 = uS c 30 &&& 3 := by
      refine b_ext (fun i hi => ?_)
      have q : bt (uS c (30 : Int32)) i = bt c (30 + i) := bt_uS c (n := 30) (by decide) i
      rw [b_and, q, (by decide +kernel : ∀ i, i < 32 → bt 3 i = decide (i < 2)) i hi]
      by_cases g : i < 2
      · rw [decide_eq_true g, Bool.and_true]
      · rw [b_big (by omega), Bool.false_and]
    obtain ⟨j, hj, ej⟩ := pk_andE (uS c 30) (m := 3) 2 (by decide)
    exact ⟨j, by omega, e.trans ej⟩
  obtain ⟨j, hj, ej⟩ := hv
  unfold kX_perform
  show sameR _ (kM_oneStep_c142 (mI (mI τ 23 c) 24 ((c >>> ((25 : Int32) &&& 31)) &&& 31)) (uS c 30))
  rw [ej]
  unfold kM_oneStep_c142
  rcases (show j = 0 ∨ j = 1 ∨ j = 2 ∨ j = 3 by omega) with rfl | rfl | rfl | rfl
  · rw [if_pos (show nI 0 = (0 : Int32) from rfl), if_pos (show nI 0 = (0 : Int32) from rfl)]
    obtain ⟨τ', d, e⟩ := dec_step h c (nI 0) (uS c 22 &&& 7)
    have e' := (congrArg (kM_oneStep_c170 (mI (mI τ 23 c) 24 ((c >>> ((25 : Int32) &&& 31)) &&& 31)) (nI 0)) (d_short c)).symm.trans e
    refine Eq.mpr (congrArg (sameR _) e') ?_
    exact short_rel d
  · rw [if_neg (show ¬ nI 1 = (0 : Int32) by decide), if_neg (show ¬ nI 1 = (0 : Int32) by decide)]
    rw [if_pos (show nI 1 = (1 : Int32) from rfl)]
    obtain ⟨τ', d, e⟩ := dec_step h c (nI 1) (kX_kindOf c)
    have e' := (congrArg (kM_oneStep_c170 (mI (mI τ 23 c) 24 ((c >>> ((25 : Int32) &&& 31)) &&& 31)) (nI 1)) (d_kind c)).symm.trans e
    refine Eq.mpr (congrArg (sameR _) e') ?_
    exact call_rel d
  · rw [if_neg (show ¬ nI 2 = (0 : Int32) by decide), if_neg (show ¬ nI 2 = (0 : Int32) by decide)]
    rw [if_neg (show ¬ nI 2 = (1 : Int32) by decide)]
    rw [if_pos (show nI 2 = (2 : Int32) from rfl)]
    obtain ⟨τ', d, e⟩ := dec_step h c (nI 2) (kX_kindOf c)
    have e' := (congrArg (kM_oneStep_c170 (mI (mI τ 23 c) 24 ((c >>> ((25 : Int32) &&& 31)) &&& 31)) (nI 2)) (d_kind c)).symm.trans e
    refine Eq.mpr (congrArg (sameR _) e') ?_
    exact O σ τ' c d
  · rw [if_neg (show ¬ nI 3 = (0 : Int32) by decide), if_neg (show ¬ nI 3 = (0 : Int32) by decide)]
    rw [if_neg (show ¬ nI 3 = (1 : Int32) by decide)]
    rw [if_neg (show ¬ nI 3 = (2 : Int32) by decide)]
    obtain ⟨τ', d, e⟩ := dec_step h c (nI 3) (kX_kindOf c)
    have e' := (congrArg (kM_oneStep_c170 (mI (mI τ 23 c) 24 ((c >>> ((25 : Int32) &&& 31)) &&& 31)) (nI 3)) (d_kind c)).symm.trans e
    refine Eq.mpr (congrArg (sameR _) e') ?_
    exact T σ τ' c d
