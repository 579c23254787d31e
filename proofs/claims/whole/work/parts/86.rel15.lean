/-! transfers -/
theorem moved_cases {k : Int32} (hk : vp_in k 64) : (kM_moved k = nI 0) ∨ (kM_moved k = nI 8 ∧ (k = 3 ∨ k = 7)) ∨ ((kM_moved k = nI 1 ∨ kM_moved k = nI 2 ∨ kM_moved k = nI 4) ∧ ¬ k = 3 ∧ ¬ k = 7) := by
  obtain ⟨j, hj, rfl⟩ := vp_in_of hk (by decide)
  exact (by decide +kernel : ∀ j, j < 64 → (kM_moved (nI j) = nI 0) ∨ (kM_moved (nI j) = nI 8 ∧ (nI j = 3 ∨ nI j = 7)) ∨ ((kM_moved (nI j) = nI 1 ∨ kM_moved (nI j) = nI 2 ∨ kM_moved (nI j) = nI 4) ∧ ¬ nI j = 3 ∧ ¬ nI j = 7)) j hj
theorem odd_eq {d : Int32} (hd : vp_in d 32) : ((d &&& 1) = 0 ↔ ¬ (d - d / 2 * 2) = 1) ∧ ((d &&& 1) = 0 → vp_in (d + 1) 32) := by
  obtain ⟨j, hj, rfl⟩ := vp_in_of hd (by decide)
  refine ⟨(by decide +kernel : ∀ j, j < 32 → ((nI j &&& 1) = 0 ↔ ¬ (nI j - nI j / 2 * 2) = 1)) j hj, fun e => ?_⟩
  have q : j < 31 := by
    rcases Nat.lt_or_ge j 31 with g | g
    · exact g
    · have : j = 31 := by omega
      subst this; exact absurd e (by decide)
  rw [show nI j + 1 = nI (j + 1) from nI_add j 1]
  exact vp_in_nI (by omega) (by decide)
theorem v7t : vp_in (7 : Int32) 256 := (vp_in_nI (by decide) (by decide) : vp_in (nI 7) 256)
theorem v9t : vp_in (9 : Int32) 256 := (vp_in_nI (by decide) (by decide) : vp_in (nI 9) 256)
theorem c34_rel {σ : XS} {τ : MS} {c k : Int32} (D : Dec σ τ c k) {z : Nat} (hm : kM_moved k = nI z) (hz : z = 1 ∨ z = 2 ∨ z = 4 ∨ z = 8) (h8 : z = 8 → (k = 3 ∨ k = 7) ∧ vp_in (kX_numberOfD c + 1) 32) (ht : kM_trouble τ 3 = kM_trouble_c67 τ (τ.1 25 + τ.1 26)) : sameR (kX_performTransfer_c34 σ c k (nI z) (kX_numberOfD c)) (kM_oneStep_c239 τ 3) := by
  obtain ⟨h, h23, h24, h27, h25, h26⟩ := D
  have hd := num_in c
  unfold kM_trouble_c67 at ht
  rw [h27, hm, h25, h26] at ht
  have act : kM_act (mI τ 28 (τ.1 17 + 4)) 3 = kM_memory (mI τ 28 (τ.1 17 + 4)) (kX_valueOfA σ c + kX_valueOfB σ c) := by
    rw [← h25, ← h26]; rfl
  unfold kX_performTransfer_c34
  generalize kX_valueOfA σ c + kX_valueOfB σ c = a at *
  by_cases al : a &&& (nI z - 1) = 0
  · rw [if_pos al] at ht ⊢
    obtain ⟨m1, m2⟩ := mem_in hz al
    rw [← m1] at ht
    by_cases im : bI (kX_isInMemory a) = 0
    · rw [if_pos im] at ht ⊢
      rw [c239_tr ht (by decide)]; exact rel_trap h v9t
    · rw [if_neg im] at ht ⊢
      have im2 : kX_isInMemory a = true := by
        cases hb : kX_isInMemory a
        · rw [hb] at im; exact absurd rfl im
        · rfl
      obtain ⟨n, hn, hna, rfl⟩ := m2 im2
      rw [c239_ok ht (by decide), act]
      have fin : (kM_memory (mI τ 28 (τ.1 17 + 4)) (nI n)).1 28 = (kM_memory (mI τ 28 (τ.1 17 + 4)) (nI n)).1 17 + 4 := by rw [memory_ints]; rfl
      have hR := rel_28 h (τ.1 17 + 4)
      by_cases z8 : z = 8
      · subst z8
        rw [if_pos (show nI 8 = (8 : Int32) from rfl)]
        exact fin_on (two_rel hR h27 h24 hd (h8 rfl).2 (h8 rfl).1 hn hna) fin
      · rw [if_neg (show ¬ nI z = (8 : Int32) by rw [show (8 : Int32) = nI 8 from rfl, nI_eq (by omega) (by decide)]; exact z8)]
        exact fin_on (move_rel hR h27 h24 hd hm (by omega) hn hna) fin
  · rw [if_neg al] at ht ⊢
    rw [c239_tr ht (by decide)]; exact rel_trap h v7t
theorem transfer_rel (σ : XS) (τ : MS) (c : Int32) (D : Dec σ τ c (kX_kindOf c)) : sameR (kX_performTransfer σ c (kX_kindOf c)) (kM_oneStep_c239 τ 3) := by
  have hk := kind_in c
  unfold kX_performTransfer
  rw [moved_eq hk]
  generalize kX_kindOf c = k at *
  have h := D.1
  have h27 : τ.1 27 = k := D.2.2.2.1
  have h24 : τ.1 24 = kX_numberOfD c := D.2.2.1
  have kn : kM_isKnown τ 3 = if (kM_moved k) ≤ 0 then false else true := by rw [← h27]; rfl
  have tr : kM_trouble τ 3 = if bI (kM_isKnown τ 3) = 0 then 2 else if τ.1 27 = 3 then kM_trouble_c55 τ (τ.1 25 + τ.1 26) else if τ.1 27 = 7 then kM_trouble_c55 τ (τ.1 25 + τ.1 26) else kM_trouble_c67 τ (τ.1 25 + τ.1 26) := rfl
  rw [kn, h27] at tr
  rcases moved_cases hk with m | ⟨m, k37⟩ | ⟨m, k3, k7⟩
  · rw [m] at tr ⊢
    rw [if_pos (show nI 0 = (0 : Int32) from rfl)]
    rw [if_pos (show nI 0 ≤ (0 : Int32) by decide), if_pos (show bI false = 0 from rfl)] at tr
    rw [c239_tr tr (by decide)]; exact rel_trap h v2t
  · have tr2 : kM_trouble τ 3 = kM_trouble_c55 τ (τ.1 25 + τ.1 26) := by
      rw [tr, m, if_neg (show ¬ nI 8 ≤ (0 : Int32) by decide), if_neg (show ¬ bI true = 0 by decide)]
      rcases k37 with e | e
      · rw [if_pos e]
      · rw [if_neg (by rw [e]; decide), if_pos e]
    rw [m, if_neg (show ¬ nI 8 = (0 : Int32) by decide), if_pos (show nI 8 = (8 : Int32) from rfl)]
    unfold kM_trouble_c55 at tr2
    rw [h24] at tr2
    obtain ⟨o1, o2⟩ := odd_eq (num_in c)
    by_cases od : kX_numberOfD c &&& 1 = 0
    · rw [if_pos od]
      rw [if_neg (o1.mp od)] at tr2
      exact c34_rel D m (by simp) (fun _ => ⟨k37, o2 od⟩) tr2
    · rw [if_neg od]
      rw [if_pos (Classical.not_not.mp (fun q => od (o1.mpr q)))] at tr2
      rw [c239_tr tr2 (by decide)]; exact rel_trap h v2t
  · have main : ∀ z, (z = 1 ∨ z = 2 ∨ z = 4) → kM_moved k = nI z → sameR (if kM_moved k = 0 then kX_performTransfer_c28 σ else if kM_moved k = 8 then (if kX_numberOfD c &&& 1 = 0 then kX_performTransfer_c34 σ c k (kM_moved k) (kX_numberOfD c) else kX_performTransfer_c28 σ) else kX_performTransfer_c34 σ c k (kM_moved k) (kX_numberOfD c)) (kM_oneStep_c239 τ 3) := by
      intro z hz m
      have z0 : ¬ nI z = (0 : Int32) := by rcases hz with rfl | rfl | rfl <;> decide
      have z8 : ¬ nI z = (8 : Int32) := by rcases hz with rfl | rfl | rfl <;> decide
      have zl : ¬ nI z ≤ (0 : Int32) := by rcases hz with rfl | rfl | rfl <;> decide
      rw [m] at tr ⊢
      rw [if_neg z0, if_neg z8]
      rw [if_neg zl, if_neg (show ¬ bI true = 0 by decide), if_neg k3, if_neg k7] at tr
      exact c34_rel D m (by omega) (fun e => by omega) tr
    rcases m with m | m | m
    · exact main 1 (by simp) m
    · exact main 2 (by simp) m
    · exact main 4 (by simp) m
