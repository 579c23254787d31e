/-! control, reset and the beginning -/
theorem stM_word (v : Int32) : ∀ i, i < 32 → bt (((v &&& 15732735) &&& (-32)) ||| (v &&& 7)) i = (bt v i && stM i) := by
  intro i hi
  rw [b_or, b_and, b_and, b_and]
  have e : ∀ i, i < 32 → ((bt 15732735 i && bt (-32) i) || bt 7 i) = stM i := by decide +kernel
  rw [← e i hi]
  cases bt v i <;> simp
theorem tab_word (v : Int32) : v &&& (-16) = (v &&& (-4096)) ||| (((v >>> ((4 : Int32) &&& 31)) &&& 255) <<< ((4 : Int32) &&& 31)) := by
  refine b_ext (fun i hi => ?_)
  have s : bt (((v >>> ((4 : Int32) &&& 31)) &&& 255) <<< ((4 : Int32) &&& 31)) i = (decide (4 ≤ i) && bt ((v >>> ((4 : Int32) &&& 31)) &&& 255) (i - 4)) := b_shl 4 (by decide) _ hi
  rw [b_or, b_and, b_and, s, b_and, b_255]
  by_cases h : 4 ≤ i
  · have r : bt (v >>> ((4 : Int32) &&& 31)) (i - 4) = bt v i := by
      have q := b_sshr 4 (by decide) v (i := i - 4) (by omega)
      rw [if_pos (by omega), show 4 + (i - 4) = i by omega] at q
      exact q
    rw [r]
    have e : ∀ i, i < 32 → 4 ≤ i → bt (-16) i = (bt (-4096) i || decide (i - 4 < 8)) := by decide +kernel
    rw [e i hi h]
    cases bt v i <;> simp [h]
  · have e : ∀ i, i < 32 → ¬ 4 ≤ i → bt (-16) i = false ∧ bt (-4096) i = false := by decide +kernel
    rw [(e i hi h).1, (e i hi h).2]; simp [h]
theorem low12 (v : Int32) : ∀ i, i < 12 → bt (v &&& (-4096)) i = false := by
  intro i hi
  rw [b_and, (by decide +kernel : ∀ i, i < 12 → bt (-4096) i = false) i hi, Bool.and_false]
theorem low2 (v : Int32) : (v &&& (-4)) &&& 3 = 0 := by
  refine b_ext (fun i hi => ?_)
  rw [b_and, b_and, b_0]
  have e : ∀ i, i < 32 → (bt (-4) i && bt 3 i) = false := by decide +kernel
  rw [Bool.and_assoc, e i hi, Bool.and_false]
theorem rel_control0 {σ : XS} {τ : MS} (v : Int32) (h : Rel σ τ) : Rel (xB (xB (xI (xI σ 2 (v &&& 15732735)) 2 (((v &&& 15732735) &&& (-32)) ||| (v &&& 7))) 10 false) 11 false) (mB (mB (kM_setStatus τ v) 18 false) 19 false) := by
  have s := rS_set (σ := σ) (stM_word v) h.1.2.1
  rw [setStatus_eq] at s ⊢
  obtain ⟨i1, i2, i3, i4, i5, i6, i7, i8⟩ := h.2.2.1
  exact ⟨⟨s.1, s.2.1, s.2.2⟩, ⟨h.2.1.1, h.2.1.2.1, h.2.1.2.2⟩, ⟨i1, i2, i3, i4, i5, i6, rfl, rfl⟩, h.2.2.2.1, h.2.2.2.2⟩
theorem face_control (σ : XS) (τ : MS) (a v : Int32) (h : Rel σ τ) : faceOK Rel (kX_control σ a v) σ (kM_control τ a v) := by
  have no : faceOK Rel none σ (kM_control_c14 τ a v) := ⟨rfl, rel_thrown h⟩
  unfold kX_control kM_control
  by_cases h1 : a < 0
  · rw [if_pos h1, if_pos h1]; exact no
  · rw [if_neg h1, if_neg h1]
    by_cases h2 : a ≤ (4 : Int32)
    · have h3 : ¬ (4 : Int32) < a := by
        rw [Int32.lt_iff_toInt_lt]; rw [Int32.le_iff_toInt_le] at h2; omega
      rw [if_pos h2, if_neg h3]
      have h' : Rel σ (mI τ 0 0) := rel_thrown h
      have sh := shown_seen h' a
      obtain ⟨i1, i2, i3, i4, i5, i6, i7, i8⟩ := h'.2.2.1
      obtain ⟨⟨s1, s2, s3⟩, ⟨t1, t2, t3⟩, -, r, m⟩ := h'
      show faceOK Rel (kX_control_c29 (kX_change σ a v) (kX_shown σ a)) σ (kM_control_c18 (mI τ 0 0) a v true)
      unfold kX_change kM_control_c18
      rw [if_neg (show ¬ bI true = 0 by decide), sh]
      by_cases a0 : a = 0
      · rw [if_pos a0, if_pos a0]
        have q := rel_control0 v (rel_thrown (x := 0) h)
        refine ⟨?_, rfl, q⟩
        show (kM_setStatus (mI τ 0 0) v).1 0 = 0
        rw [setStatus_eq]; rfl
      · rw [if_neg a0, if_neg a0]
        by_cases a1 : a = 1
        · rw [if_pos a1, if_pos a1]
          exact ⟨rfl, rfl, ⟨s1, s2, s3⟩, ⟨t1, t2, t3⟩, ⟨rfl, i2, i3, i4, i5, i6, rfl, rfl⟩, r, m⟩
        · rw [if_neg a1, if_neg a1]
          by_cases a2 : a = 2
          · rw [if_pos a2, if_pos a2]
            exact ⟨rfl, rfl, ⟨s1, s2, s3⟩, ⟨tab_word v, low12 v, pk_andIn _ 8 (by decide) (by decide)⟩, ⟨i1, i2, i3, i4, i5, i6, rfl, rfl⟩, r, m⟩
          · rw [if_neg a2, if_neg a2]
            by_cases a3 : a = 3
            · rw [if_pos a3, if_pos a3]
              exact ⟨rfl, rfl, ⟨s1, s2, s3⟩, ⟨t1, t2, t3⟩, ⟨i1, ⟨rfl, low2 v⟩, i3, i4, i5, i6, rfl, rfl⟩, r, m⟩
            · rw [if_neg a3, if_neg a3]
              exact ⟨rfl, rfl, ⟨s1, s2, s3⟩, ⟨t1, t2, t3⟩, ⟨i1, i2, ⟨rfl, low2 v⟩, i4, i5, i6, rfl, rfl⟩, r, m⟩
    · have h3 : (4 : Int32) < a := by
        rw [Int32.lt_iff_toInt_lt]; rw [Int32.le_iff_toInt_le] at h2; omega
      rw [if_neg h2, if_pos h3]; exact no
theorem fillL_at (v : Int32) : ∀ (n k : Nat) (f : Nat → Int32), k + n = 136 → (∀ j, j < k → f j = v) → ∀ j, j < 136 → fillL (n + 1) f v (nI 136) (nI k) j = v := by
  intro n
  induction n with
  | zero =>
    intro k f hk hf j hj
    have e : k = 136 := by omega
    subst e
    rw [fillL, if_pos (by decide)]
    exact hf j hj
  | succ n ih =>
    intro k f hk hf j hj
    rw [fillL, if_neg (fun q => by rw [nI_leI (by omega) (by omega)] at q; omega), nI_clamp (by omega), show nI k + Int32.ofInt 1 = nI (k + 1) from nI_add k 1]
    refine ih (k + 1) _ (by omega) (fun j hj => ?_) j hj
    by_cases e : j = k
    · subst e; rw [pk_us]
    · rw [pk_un e]; exact hf j (by omega)
theorem fill_at (f : Nat → Int32) (v : Int32) : ∀ j, j < 136 → fillL (((nI 136).toInt - (0 : Int32).toInt).toNat + 1) f v (nI 136) 0 j = v := fillL_at v 136 0 f rfl (fun j hj => by omega)
def rFin (τ : MS) : MS := (mI (mI (mI (mB (mB (mI (mI (mI (mI (mI (kM_setStatus τ (128 : Int32)) 13 (0 : Int32)) 14 (0 : Int32)) 15 (0 : Int32)) 16 (0 : Int32)) 17 (4 : Int32)) 18 false) 19 false) 20 (0 : Int32)) 21 (0 : Int32)) 22 (0 : Int32))
theorem reset_c28 : ∀ (n k : Nat) (τ : MS), k + n = 128 → (∀ j, j < k → τ.2.2.2.2 j = 0) → ∃ V : Nat → Int32, (∀ j, j < 128 → V j = 0) ∧ kM_reset_c28 (n + 1) τ (nI k) = rFin (τ.1, τ.2.1, τ.2.2.1, τ.2.2.2.1, V) := by
  intro n
  induction n with
  | zero =>
    intro k τ hk hf
    have e : k = 128 := by omega
    subst e
    exact ⟨τ.2.2.2.2, hf, by rw [kM_reset_c28, if_pos (by decide)]; rfl⟩
  | succ n ih =>
    intro k τ hk hf
    rw [kM_reset_c28, if_neg (fun q => by rw [show (128 : Int32) = nI 128 from rfl, nI_leI (by omega) (by omega)] at q; omega), nI_clamp (by omega), show nI k + Int32.ofInt 1 = nI (k + 1) from nI_add k 1]
    refine ih (k + 1) (mW τ k 0) (by omega) (fun j hj => ?_)
    show upd τ.2.2.2.2 k 0 j = 0
    by_cases e : j = k
    · subst e; rw [pk_us]
    · rw [pk_un e]; exact hf j (by omega)
theorem reset_c7 : ∀ (n k : Nat) (τ : MS), k + n = 8 → (∀ j, j < k → τ.2.2.2.1 j = 0) → ∃ U V : Nat → Int32, (∀ j, j < 8 → U j = 0) ∧ (∀ j, j < 128 → V j = 0) ∧ kM_reset_c7 (n + 1) τ (nI k) = rFin (τ.1, τ.2.1, τ.2.2.1, U, V) := by
  intro n
  induction n with
  | zero =>
    intro k τ hk hf
    have e : k = 8 := by omega
    subst e
    obtain ⟨V, hV, eV⟩ := reset_c28 128 0 τ rfl (fun j hj => by omega)
    exact ⟨τ.2.2.2.1, V, hf, hV, by rw [kM_reset_c7, if_pos (by decide)]; exact eV⟩
  | succ n ih =>
    intro k τ hk hf
    rw [kM_reset_c7, if_neg (fun q => by rw [show (8 : Int32) = nI 8 from rfl, nI_leI (by omega) (by omega)] at q; omega), nI_clamp (by omega), show nI k + Int32.ofInt 1 = nI (k + 1) from nI_add k 1]
    refine ih (k + 1) (mG τ k 0) (by omega) (fun j hj => ?_)
    show upd τ.2.2.2.1 k 0 j = 0
    by_cases e : j = k
    · subst e; rw [pk_us]
    · rw [pk_un e]; exact hf j (by omega)
theorem tab_0 : (0 : Int32) = (0 ||| ((0 : Int32) <<< ((4 : Int32) &&& 31))) := by decide
theorem v0_256 : vp_in (0 : Int32) 256 := (vp_in_nI (by decide) (by decide) : vp_in (nI 0) 256)
theorem v0_16 : vp_in (0 : Int32) 16 := (vp_in_nI (by decide) (by decide) : vp_in (nI 0) 16)
theorem v0_8 : vp_in (0 : Int32) 8 := (vp_in_nI (by decide) (by decide) : vp_in (nI 0) 8)
theorem v0_32 : vp_in (0 : Int32) 32 := (vp_in_nI (by decide) (by decide) : vp_in (nI 0) 32)
theorem z0_3 : (0 : Int32) &&& 3 = 0 := by decide
theorem z4_3 : (4 : Int32) &&& 3 = 0 := by decide
theorem xFill_at (σ : XS) : ∀ j, j < 136 → (xFill σ 0).2.2.2 j = 0 := by
  intro j hj
  have e : (xFill σ 0).2.2.2 = fillL (((nI 136).toInt - (0 : Int32).toInt).toNat + 1) σ.2.2.2 0 (nI 136) 0 := by simp only [xFill]
  rw [e]
  generalize hn : (((nI 136).toInt - (0 : Int32).toInt).toNat + 1) = n
  rw [← hn]
  exact fill_at _ 0 j hj
theorem begin_ints (σ : XS) : (kX_begin σ).1 = upd (upd (upd (upd (upd (upd (upd (upd σ.1 2 128) 3 0) 4 0) 5 0) 6 4) 7 0) 8 0) 9 0 := rfl
theorem begin_bools (σ : XS) : (kX_begin σ).2.1 10 = false ∧ (kX_begin σ).2.1 11 = false := ⟨rfl, rfl⟩
theorem begin_mem (σ : XS) : (kX_begin σ).2.2.1 = σ.2.2.1 := by simp only [kX_begin, kX_begin_c8, kX_begin_c15, kX_begin_c20, kX_begin_c25, kX_begin_c30, kX_begin_c35, kX_begin_c40, kX_begin_c45, kX_begin_c50, kX_begin_c55, xI, xB, xFill]
theorem begin_regs (σ : XS) : (kX_begin σ).2.2.2 = (xFill σ 0).2.2.2 := by simp only [kX_begin, kX_begin_c8, kX_begin_c15, kX_begin_c20, kX_begin_c25, kX_begin_c30, kX_begin_c35, kX_begin_c40, kX_begin_c45, kX_begin_c50, kX_begin_c55, xI, xB, xFill]
theorem rel_begin {σ : XS} {τ : MS} (s1 : ∀ i, i < 32 → bt 128 i = stB τ i) (s2 : mOK τ) (s3 : vp_in (τ.1 8) 16) (t1 : τ.1 14 = 0) (t2 : τ.1 15 = 0) (i1 : τ.1 13 = 0) (i2 : τ.1 16 = 0) (i3 : τ.1 17 = 4) (i4 : τ.1 20 = 0) (i5 : τ.1 21 = 0) (i6 : τ.1 22 = 0) (i7 : τ.2.1 18 = false) (i8 : τ.2.1 19 = false) (g : ∀ j, j < 8 → τ.2.2.2.1 j = 0) (w : ∀ j, j < 128 → τ.2.2.2.2 j = 0) (m : rM σ τ) : Rel (kX_begin σ) τ := by
  refine ⟨⟨?_, s2, s3⟩, ⟨?_, ?_, ?_⟩, ?_, ⟨fun j hj => ?_, fun j hj => ?_⟩, ?_⟩
  · rw [begin_ints]; exact s1
  · rw [begin_ints]; unfold kM_table; rw [t1, t2]; exact tab_0
  · intro i _; rw [t1]; exact b_0 i
  · rw [t2]; exact v0_256
  · unfold rI
    rw [begin_ints, (begin_bools σ).1, (begin_bools σ).2, i1, i2, i3, i4, i5, i6, i7, i8]
    exact ⟨rfl, ⟨rfl, z0_3⟩, ⟨rfl, z4_3⟩, ⟨rfl, v0_16⟩, rfl, rfl, rfl, rfl⟩
  · rw [begin_regs, xFill_at σ j (by omega), g j hj]
  · rw [begin_regs, xFill_at σ (8 + j) (by omega), w j hj]
  · unfold rM; rw [begin_mem]; exact m
theorem rel_reset (σ : XS) (τ : MS) (h : Rel σ τ) : Rel (kX_reset σ) (kM_reset τ) := by
  obtain ⟨U, V, hU, hV, e⟩ := reset_c7 8 0 (mI τ 0 0) rfl (fun j hj => by omega)
  have e' : kM_reset τ = rFin ((mI τ 0 0).1, (mI τ 0 0).2.1, (mI τ 0 0).2.2.1, U, V) := e
  rw [e']
  have h' := rel_thrown (x := 0) h
  have s : rS (xI σ 2 128) (kM_setStatus ((mI τ 0 0).1, (mI τ 0 0).2.1, (mI τ 0 0).2.2.1, U, V) 128) := rS_set (by decide +kernel) h'.1.2.1
  unfold rFin kX_reset
  rw [setStatus_eq] at s ⊢
  exact rel_begin s.1 s.2.1 s.2.2 rfl rfl rfl rfl rfl rfl rfl rfl rfl rfl hU hV h'.2.2.2.2
theorem rel_init : Rel x0 m0 := by
  refine rel_begin (σ := x0s) (τ := m0) (by decide +kernel) ⟨v0_8, v0_32⟩ v0_16 rfl rfl rfl rfl rfl rfl rfl rfl rfl rfl (fun _ _ => rfl) (fun _ _ => rfl) (fun i hi j hj => ?_)
  show (0 : Int32) = uS 0 (nI (24 - 8 * j)) &&& 255
  refine b_ext (fun k hk => ?_)
  rw [b_and, bt_uS _ (by omega), b_0, b_0, Bool.false_and]
