/-! decoding; the call -/
theorem rel_28 {σ : XS} {τ : MS} (h : Rel σ τ) (x : Int32) : Rel σ (mI τ 28 x) := ⟨⟨h.1.1, h.1.2.1, h.1.2.2⟩, ⟨h.2.1.1, h.2.1.2.1, h.2.1.2.2⟩, h.2.2.1, h.2.2.2.1, h.2.2.2.2⟩
theorem fin_on {σ : XS} {τ : MS} (h : Rel σ τ) (e : τ.1 28 = τ.1 17 + 4) : sameR (kX_goOn σ) (kM_oneStep_c298 τ) := by
  refine ⟨rfl, ?_⟩
  show Rel _ (mI (mI τ 16 (τ.1 17)) 17 (τ.1 28))
  rw [e]; exact goOn_rel h
theorem fin_to {σ : XS} {τ : MS} (h : Rel σ τ) {t : Int32} (e : τ.1 28 = t) (ht : t &&& 3 = 0) : sameR (kX_goTo σ t) (kM_oneStep_c298 τ) := by
  refine ⟨rfl, ?_⟩
  show Rel _ (mI (mI τ 16 (τ.1 17)) 17 (τ.1 28))
  rw [e]; exact goTo_rel h ht
def Dec (σ : XS) (τ : MS) (c k : Int32) : Prop := Rel σ τ ∧ τ.1 23 = c ∧ τ.1 24 = kX_numberOfD c ∧ τ.1 27 = k ∧ τ.1 25 = kX_valueOfA σ c ∧ τ.1 26 = kX_valueOfB σ c
theorem us_eq (c : Int32) {n k : Nat} (hn : n < 32) (hk : ¬ 32 < n + k.log2 + 1) : uS c (nI n) &&& nI k = c >>> (nI n &&& 31) &&& nI k := (uS_and c hn).resolve_right hk
theorem d_num (c : Int32) : kX_numberOfD c = (c >>> ((25 : Int32) &&& 31)) &&& 31 := us_eq c (n := 25) (k := 31) (by decide) (by decide)
theorem d_cond (c : Int32) : kX_conditionOf c = (c >>> ((25 : Int32) &&& 31)) &&& 15 := us_eq c (n := 25) (k := 15) (by decide) (by decide)
theorem d_kind (c : Int32) : kX_kindOf c = (c >>> ((19 : Int32) &&& 31)) &&& 63 := us_eq c (n := 19) (k := 63) (by decide) (by decide)
theorem d_short (c : Int32) : uS c 22 &&& 7 = (c >>> ((22 : Int32) &&& 31)) &&& 7 := us_eq c (n := 22) (k := 7) (by decide) (by decide)
theorem d_a (c : Int32) : uS c 14 &&& 31 = (c >>> ((14 : Int32) &&& 31)) &&& 31 := us_eq c (n := 14) (k := 31) (by decide) (by decide)
theorem num_in (c : Int32) : vp_in (kX_numberOfD c) 32 := pk_andIn _ 5 (by decide) (by decide)
theorem val_a {σ : XS} {τ : MS} (h : Rel σ τ) (c : Int32) : kX_valueOfA σ c = kM_get τ (τ.1 4) ((c >>> ((14 : Int32) &&& 31)) &&& 31) := by
  unfold kX_valueOfA
  rw [d_a]
  exact read_eq h (pk_andIn _ 5 (by decide) (by decide))
theorem val_b {σ : XS} {τ : MS} (h : Rel σ τ) (c : Int32) : kX_valueOfB σ c = if ((c >>> ((13 : Int32) &&& 31)) &&& 1) = 1 then kM_signed c 13 else kM_get τ (τ.1 4) (c &&& 31) := by
  unfold kX_valueOfB
  have q : (c &&& (8192 : Int32)) = 0 ↔ bt c 13 = false := and_bit c (k := 13) (by decide)
  have p : ((c >>> ((13 : Int32) &&& 31)) &&& 1) = 1 ↔ bt c 13 = true := sh1 c (k := 13) (by decide)
  cases hb : bt c 13
  · rw [if_pos (q.mpr hb), if_neg (fun e => by rw [p.mp e] at hb; cases hb)]
    exact read_eq h (pk_andIn _ 5 (by decide) (by decide))
  · rw [if_neg (fun e => by rw [q.mp e] at hb; cases hb), if_pos (p.mpr hb)]
    rfl
theorem get_mI (τ : MS) (k : Nat) (x w r : Int32) : kM_get (mI τ k x) w r = kM_get τ w r := rfl
theorem dec_rel {σ : XS} {τ : MS} (h : Rel σ τ) (c k : Int32) : Dec σ (mI (mI (mI (mI (mI τ 23 c) 24 ((c >>> ((25 : Int32) &&& 31)) &&& 31)) 27 k) 25 (kM_get τ (τ.1 4) ((c >>> ((14 : Int32) &&& 31)) &&& 31))) 26 (kX_valueOfB σ c)) c k := by
  refine ⟨?_, rfl, (d_num c).symm, rfl, (val_a h c).symm, rfl⟩
  obtain ⟨⟨s1, s2, s3⟩, ⟨t1, t2, t3⟩, i, r, m⟩ := h
  exact ⟨⟨s1, ⟨s2.1, pk_andIn _ 5 (by decide) (by decide)⟩, s3⟩, ⟨t1, t2, t3⟩, i, r, m⟩
theorem dec_step {σ : XS} {τ : MS} (h : Rel σ τ) (c v k : Int32) : ∃ τ', Dec σ τ' c k ∧ kM_oneStep_c170 (mI (mI τ 23 c) 24 ((c >>> ((25 : Int32) &&& 31)) &&& 31)) v k = kM_oneStep_c239 τ' v := by
  refine ⟨_, dec_rel h c k, ?_⟩
  rw [val_b h c]
  show kM_oneStep_c195 (mI (mI (mI (mI τ 23 c) 24 ((c >>> ((25 : Int32) &&& 31)) &&& 31)) 27 k) 25 (kM_get τ (τ.1 4) ((c >>> ((14 : Int32) &&& 31)) &&& 31))) v = _
  unfold kM_oneStep_c195
  show (if ((c >>> ((13 : Int32) &&& 31)) &&& 1) = 1 then _ else _) = _
  by_cases q : ((c >>> ((13 : Int32) &&& 31)) &&& 1) = 1
  · rw [if_pos q, if_pos q]; rfl
  · rw [if_neg q, if_neg q]; rfl
theorem call_rel {σ : XS} {τ : MS} {c k : Int32} (d : Dec σ τ c k) : sameR (kX_performCall σ c) (kM_oneStep_c239 τ 1) := by
  obtain ⟨h, h23, h24, h27, h25, h26⟩ := d
  have e : kM_oneStep_c239 τ 1 = kM_oneStep_c298 (kM_simple_c19 (kM_give (mI τ 28 (τ.1 17 + 4)) (τ.1 4) 15 (τ.1 16))) := rfl
  rw [e]
  have h2 := write_rel (rel_28 h (τ.1 17 + 4)) v15 (σ.1 5)
  have g := (give_keeps (mI τ 28 (τ.1 17 + 4)) (τ.1 4) 15 (τ.1 16)).1
  have p5 : σ.1 5 = τ.1 16 := h.2.2.1.2.1.1
  unfold kX_performCall kX_performCall_c19 kM_simple_c19
  rw [g]
  show sameR _ (kM_oneStep_c298 (mI (kM_give (mI τ 28 (τ.1 17 + 4)) (τ.1 4) 15 (τ.1 16)) 28 (τ.1 16 + (τ.1 23 <<< ((2 : Int32) &&& 31)))))
  rw [h23, ← p5]
  exact fin_to (rel_28 h2 _) rfl (al_add h.2.2.1.2.1.2 (al_shl c))
