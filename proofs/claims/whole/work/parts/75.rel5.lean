/-! memory: words against bytes -/
def isB (b w : Int32) (m : Nat) : Prop := ∀ k, bt b k = (decide (k < 8) && bt w (m + k))
theorem rM_byte {σ : XS} {τ : MS} (h : rM σ τ) {n : Nat} (hn : n < 4096) : isB (τ.2.2.1 n) (σ.2.2.1 (n / 4)) (24 - 8 * (n % 4)) := by
  intro k
  have e : n = 4 * (n / 4) + n % 4 := (Nat.div_add_mod n 4).symm
  have q := h (n / 4) (by omega) (n % 4) (by omega)
  rw [← e] at q
  rw [q, b_and, b_255, bt_uS _ (by omega), Bool.and_comm]
theorem step8 {x b w : Int32} {m : Nat} (hb : isB b w m) {i : Nat} (hi : i < 32) : bt ((x <<< ((8 : Int32) &&& 31)) ||| b) i = if i < 8 then bt w (m + i) else bt x (i - 8) := by
  rw [b_or, b_shl8 _ hi, hb i]
  by_cases h : i < 8
  · rw [if_pos h]; simp [h, Nat.not_le.mpr h]
  · rw [if_neg h]; simp [h, Nat.le_of_not_lt h]
theorem load_1 (τ : MS) (a : Int32) : kM_load τ a 1 = (((0 : Int32) <<< ((8 : Int32) &&& 31)) ||| τ.2.2.1 (a + nI 0).toNatClampNeg) := rfl
theorem load_2 (τ : MS) (a : Int32) : kM_load τ a 2 = (((((0 : Int32) <<< ((8 : Int32) &&& 31)) ||| τ.2.2.1 (a + nI 0).toNatClampNeg) <<< ((8 : Int32) &&& 31)) ||| τ.2.2.1 (a + nI 1).toNatClampNeg) := rfl
theorem load_4 (τ : MS) (a : Int32) : kM_load τ a 4 = (((((((((0 : Int32) <<< ((8 : Int32) &&& 31)) ||| τ.2.2.1 (a + nI 0).toNatClampNeg) <<< ((8 : Int32) &&& 31)) ||| τ.2.2.1 (a + nI 1).toNatClampNeg) <<< ((8 : Int32) &&& 31)) ||| τ.2.2.1 (a + nI 2).toNatClampNeg) <<< ((8 : Int32) &&& 31)) ||| τ.2.2.1 (a + nI 3).toNatClampNeg) := rfl
theorem ad_at {n k : Nat} (h : n + k < 4099) : (nI n + nI k).toNatClampNeg = n + k := by rw [nI_add, nI_clamp (by omega)]
theorem bt_load {σ : XS} {τ : MS} (h : rM σ τ) {n z : Nat} (hn : n < 4096) (hz : z = 1 ∨ z = 2 ∨ z = 4) (ha : n % 4 + z ≤ 4) : ∀ i, i < 32 → bt (kM_load τ (nI n) (nI z)) i = (decide (i < 8 * z) && bt (σ.2.2.1 (n / 4)) (32 - 8 * z - 8 * (n % 4) + i)) := by
  intro i hi
  have B : ∀ k, k < z → isB (τ.2.2.1 (nI n + nI k).toNatClampNeg) (σ.2.2.1 (n / 4)) (24 - 8 * (n % 4) - 8 * k) := by
    intro k hk
    rw [ad_at (by omega)]
    have q := rM_byte h (n := n + k) (by omega)
    rw [show (n + k) / 4 = n / 4 by omega, show (n + k) % 4 = n % 4 + k by omega, show 24 - 8 * (n % 4 + k) = 24 - 8 * (n % 4) - 8 * k by omega] at q
    exact q
  generalize σ.2.2.1 (n / 4) = w at B
  rcases hz with rfl | rfl | rfl
  · rw [show nI 1 = (1 : Int32) from rfl, load_1, step8 (B 0 (by omega)) hi, b_0]
    by_cases q : i < 8
    · rw [if_pos q, decide_eq_true (by omega), Bool.true_and]; congr 1
    · rw [if_neg q, decide_eq_false (by omega), Bool.false_and]
  · rw [show nI 2 = (2 : Int32) from rfl, load_2, step8 (B 1 (by omega)) hi]
    by_cases q : i < 8
    · rw [if_pos q, decide_eq_true (by omega), Bool.true_and]; congr 1; omega
    · rw [if_neg q, step8 (B 0 (by omega)) (by omega), b_0]
      by_cases q2 : i - 8 < 8
      · rw [if_pos q2, decide_eq_true (by omega), Bool.true_and]; congr 1; omega
      · rw [if_neg q2, decide_eq_false (by omega), Bool.false_and]
  · rw [show nI 4 = (4 : Int32) from rfl, load_4, step8 (B 3 (by omega)) hi, decide_eq_true (by omega), Bool.true_and]
    by_cases q : i < 8
    · rw [if_pos q]; congr 1; omega
    · rw [if_neg q, step8 (B 2 (by omega)) (by omega)]
      by_cases q2 : i - 8 < 8
      · rw [if_pos q2]; congr 1; omega
      · rw [if_neg q2, step8 (B 1 (by omega)) (by omega)]
        by_cases q3 : i - 8 - 8 < 8
        · rw [if_pos q3]; congr 1; omega
        · rw [if_neg q3, step8 (B 0 (by omega)) (by omega), if_pos (by omega)]; congr 1; omega
theorem idx_at {n : Nat} (hn : n < 4096) : (uS (nI n) (2 : Int32)).toNatClampNeg = n / 4 := by
  have e : uS (nI n) (nI 2) = nI (n / 4) := by
    refine b_ext (fun i hi => ?_)
    rw [bt_uS _ (by decide), bt_nI _ hi]
    have q : (n / 4).testBit i = n.testBit (2 + i) := by rw [show (4 : Nat) = 2 ^ 2 from rfl, Nat.testBit_div_two_pow, Nat.add_comm]
    rw [q]
    rcases Nat.lt_or_ge (2 + i) 32 with g | g
    · exact bt_nI _ g
    · rw [b_big g]
      exact (Nat.testBit_lt_two_pow (Nat.lt_of_lt_of_le (show n < 2 ^ 12 from hn) (Nat.pow_le_pow_right (by decide) (by omega)))).symm
  rw [show (2 : Int32) = nI 2 from rfl, e, nI_clamp (by omega)]
theorem word_n {a : Int32} (e : kM_isWord a = true) : ∃ n, n < 4096 ∧ n % 4 = 0 ∧ a = nI n := by
  rw [← sameWord] at e
  unfold kX_isWordOfMemory at e
  by_cases h1 : bI (kX_isInMemory a) = 0
  · rw [if_pos h1] at e; cases e
  · rw [if_neg h1] at e
    by_cases h2 : a &&& 3 = 0
    · unfold kX_isInMemory at h1
      rcases pk_ix a (n := 4096) (by decide) with q | q | ⟨j, hj, rfl⟩
      · rw [if_pos q] at h1; exact absurd rfl h1
      · by_cases q0 : a < 0
        · rw [if_pos q0] at h1; exact absurd rfl h1
        · rw [if_neg q0, if_pos (show (4096 : Int32) ≤ a from q)] at h1; exact absurd rfl h1
      · have e3 : nI j &&& 3 = nI (j % 2 ^ 2) := pk_andN (by omega) 2 (by decide)
        rw [e3, ← nI_0, nI_eq (by omega) (by omega)] at h2
        exact ⟨j, hj, h2, rfl⟩
    · rw [if_neg h2] at e; cases e
theorem face_word (σ : XS) (τ : MS) (a : Int32) (h : Rel σ τ) : faceOK Rel (kX_word σ a) σ (kM_word τ a) := by
  unfold kX_word kM_word
  rw [sameWord]
  by_cases e : bI (kM_isWord a) = 0
  · rw [if_pos e]
    have e2 : kM_isWord a = false := by
      cases hb : kM_isWord a
      · rfl
      · rw [hb] at e; exact absurd e (by decide)
    rw [e2]
    exact ⟨rfl, rel_thrown h⟩
  · rw [if_neg e]
    have e2 : kM_isWord a = true := by
      cases hb : kM_isWord a
      · rw [hb] at e; exact absurd rfl e
      · rfl
    rw [e2]
    have h' : Rel σ (mI τ 0 0) := rel_thrown h
    refine ⟨rfl, ?_, h'⟩
    obtain ⟨n, hn, ha, rfl⟩ : ∃ n, n < 4096 ∧ n % 4 = 0 ∧ a = nI n := word_n e2
    show σ.2.2.1 (uS (nI n) 2).toNatClampNeg = kM_load (mI τ 0 0) (nI n) 4
    rw [idx_at hn]
    refine b_ext (fun i hi => ?_)
    have q := bt_load h'.2.2.2.2 hn (z := 4) (by simp) (by omega) i hi
    rw [show nI 4 = (4 : Int32) from rfl] at q
    rw [q, decide_eq_true (by omega), Bool.true_and]
    congr 1; omega
theorem sh_part {n z : Nat} (hn : n < 4096) (hz : z = 1 ∨ z = 2 ∨ z = 4) (ha : n % 4 + z ≤ 4) : kX_shiftOfPart (nI n) (nI z) = nI (32 - 8 * z - 8 * (n % 4)) := by
  unfold kX_shiftOfPart
  have e3 : nI n &&& 3 = nI (n % 2 ^ 2) := pk_andN (by omega) 2 (by decide)
  rw [e3]
  have q : ∀ z, z < 5 → ∀ j, j < 4 → j + z ≤ 4 → (8 : Int32) * ((4 : Int32) - nI z - nI j) = nI (32 - 8 * z - 8 * j) := by decide +kernel
  exact q z (by omega) (n % 4) (by omega) ha
theorem mask_part {z : Nat} (hz : z = 1 ∨ z = 2 ∨ z = 4) (i : Nat) : bt (kX_maskOfPart (nI z)) i = decide (i < 8 * z) := by
  have e : kX_maskOfPart (nI z) = uS (-1) (nI (32 - 8 * z)) := by rcases hz with rfl | rfl | rfl <;> rfl
  rw [e, bt_uS _ (by omega)]
  by_cases h : i < 8 * z
  · rw [b_m1 _ (by omega), decide_eq_true h]
  · rw [b_big (by omega), decide_eq_false h]
theorem same_load {σ : XS} {τ : MS} (h : rM σ τ) {n z : Nat} (hn : n < 4096) (hz : z = 1 ∨ z = 2 ∨ z = 4) (ha : n % 4 + z ≤ 4) : kX_load σ (nI n) (nI z) = kM_load τ (nI n) (nI z) := by
  refine b_ext (fun i hi => ?_)
  rw [bt_load h hn hz ha i hi]
  unfold kX_load
  rw [b_and, mask_part hz, sh_part hn hz ha, idx_at hn, bt_uS _ (by omega), Bool.and_comm]
theorem store_1 (τ : MS) (a v : Int32) : kM_store τ a 1 v = mY τ (a + nI 0).toNatClampNeg ((v >>> (nI 0 &&& 31)) &&& 255) := rfl
theorem store_2 (τ : MS) (a v : Int32) : kM_store τ a 2 v = mY (mY τ (a + nI 0).toNatClampNeg ((v >>> (nI 8 &&& 31)) &&& 255)) (a + nI 1).toNatClampNeg ((v >>> (nI 0 &&& 31)) &&& 255) := rfl
theorem store_4 (τ : MS) (a v : Int32) : kM_store τ a 4 v = mY (mY (mY (mY τ (a + nI 0).toNatClampNeg ((v >>> (nI 24 &&& 31)) &&& 255)) (a + nI 1).toNatClampNeg ((v >>> (nI 16 &&& 31)) &&& 255)) (a + nI 2).toNatClampNeg ((v >>> (nI 8 &&& 31)) &&& 255)) (a + nI 3).toNatClampNeg ((v >>> (nI 0 &&& 31)) &&& 255) := rfl
theorem store_keeps (τ : MS) (a v : Int32) {z : Nat} (hz : z = 1 ∨ z = 2 ∨ z = 4) : (kM_store τ a (nI z) v).1 = τ.1 ∧ (kM_store τ a (nI z) v).2.1 = τ.2.1 ∧ (kM_store τ a (nI z) v).2.2.2 = τ.2.2.2 := by
  rcases hz with rfl | rfl | rfl
  · rw [show nI 1 = (1 : Int32) from rfl, store_1]; exact ⟨rfl, rfl, rfl⟩
  · rw [show nI 2 = (2 : Int32) from rfl, store_2]; exact ⟨rfl, rfl, rfl⟩
  · rw [show nI 4 = (4 : Int32) from rfl, store_4]; exact ⟨rfl, rfl, rfl⟩
theorem upd_at (f : Nat → Int32) (k : Nat) (v : Int32) (x : Nat) : upd f k v x = if x = k then v else f x := by
  by_cases e : x = k
  · subst e; rw [pk_us, if_pos rfl]
  · rw [pk_un e, if_neg e]
theorem store_at (τ : MS) (v : Int32) {n z : Nat} (hn : n < 4096) (hz : z = 1 ∨ z = 2 ∨ z = 4) (x : Nat) : (kM_store τ (nI n) (nI z) v).2.2.1 x = if n ≤ x ∧ x < n + z then (v >>> (nI (8 * (z - 1 - (x - n))) &&& 31)) &&& 255 else τ.2.2.1 x := by
  by_cases c : n ≤ x ∧ x < n + z
  · rw [if_pos c]
    obtain ⟨k, rfl⟩ : ∃ k, x = n + k := ⟨x - n, by omega⟩
    have hk : k < z := by omega
    rw [show n + k - n = k by omega]
    rcases hz with rfl | rfl | rfl
    · have : k = 0 := by omega
      subst this
      rw [show nI 1 = (1 : Int32) from rfl, store_1]
      show upd τ.2.2.1 _ _ _ = _
      rw [ad_at (by omega), pk_us]
    · rw [show nI 2 = (2 : Int32) from rfl, store_2]
      show upd (upd τ.2.2.1 _ _) _ _ _ = _
      rw [ad_at (by omega), ad_at (by omega), upd_at, upd_at]
      rcases (show k = 0 ∨ k = 1 by omega) with rfl | rfl
      · rw [if_neg (by omega), if_pos (by omega)]
      · rw [if_pos (by omega)]
    · rw [show nI 4 = (4 : Int32) from rfl, store_4]
      show upd (upd (upd (upd τ.2.2.1 _ _) _ _) _ _) _ _ _ = _
      rw [ad_at (by omega), ad_at (by omega), ad_at (by omega), ad_at (by omega), upd_at, upd_at, upd_at, upd_at]
      rcases (show k = 0 ∨ k = 1 ∨ k = 2 ∨ k = 3 by omega) with rfl | rfl | rfl | rfl
      · rw [if_neg (by omega), if_neg (by omega), if_neg (by omega), if_pos (by omega)]
      · rw [if_neg (by omega), if_neg (by omega), if_pos (by omega)]
      · rw [if_neg (by omega), if_pos (by omega)]
      · rw [if_pos (by omega)]
  · rw [if_neg c]
    rcases hz with rfl | rfl | rfl
    · rw [show nI 1 = (1 : Int32) from rfl, store_1]
      show upd τ.2.2.1 _ _ _ = _
      rw [ad_at (by omega), upd_at, if_neg (by omega)]
    · rw [show nI 2 = (2 : Int32) from rfl, store_2]
      show upd (upd τ.2.2.1 _ _) _ _ _ = _
      rw [ad_at (by omega), ad_at (by omega), upd_at, upd_at, if_neg (by omega), if_neg (by omega)]
    · rw [show nI 4 = (4 : Int32) from rfl, store_4]
      show upd (upd (upd (upd τ.2.2.1 _ _) _ _) _ _) _ _ _ = _
      rw [ad_at (by omega), ad_at (by omega), ad_at (by omega), ad_at (by omega), upd_at, upd_at, upd_at, upd_at, if_neg (by omega), if_neg (by omega), if_neg (by omega), if_neg (by omega)]
theorem rM_store {σ : XS} {τ : MS} (h : rM σ τ) {v w : Int32} {n z : Nat} (hn : n < 4096) (hz : z = 1 ∨ z = 2 ∨ z = 4) (ha : n % 4 + z ≤ 4) (hw : ∀ i, i < 32 → bt w i = if 32 - 8 * z - 8 * (n % 4) ≤ i ∧ i < 32 - 8 * (n % 4) then bt v (i - (32 - 8 * z - 8 * (n % 4))) else bt (σ.2.2.1 (n / 4)) i) : rM (xM σ (n / 4) w) (kM_store τ (nI n) (nI z) v) := by
  intro i hi j hj
  rw [store_at τ v hn hz]
  show _ = uS (upd σ.2.2.1 (n / 4) w i) (nI (24 - 8 * j)) &&& 255
  by_cases c : i = n / 4
  · rw [upd_at, if_pos c]
    refine b_ext (fun k hk => ?_)
    rw [b_and (uS w _), b_255, bt_uS _ (by omega)]
    by_cases k8 : k < 8
    · rw [decide_eq_true k8, Bool.and_true, hw _ (by omega)]
      by_cases r : n ≤ 4 * i + j ∧ 4 * i + j < n + z
      · rw [if_pos r, if_pos (by omega), b_and, b_255, decide_eq_true k8, Bool.and_true, b_sshr _ (by omega) _ hk, if_pos (by omega)]
        congr 1; omega
      · rw [if_neg r, if_neg (by omega), h i hi j hj, b_and, b_255, decide_eq_true k8, Bool.and_true, bt_uS _ (by omega), c]
    · rw [decide_eq_false k8, Bool.and_false]
      by_cases r : n ≤ 4 * i + j ∧ 4 * i + j < n + z
      · rw [if_pos r, b_and, b_255, decide_eq_false k8, Bool.and_false]
      · rw [if_neg r, h i hi j hj, b_and, b_255, decide_eq_false k8, Bool.and_false]
  · rw [upd_at, if_neg c, if_neg (by omega)]
    exact h i hi j hj
theorem rel_mem {σ : XS} {τ : MS} (h : Rel σ τ) {v w : Int32} {n z : Nat} (hn : n < 4096) (hz : z = 1 ∨ z = 2 ∨ z = 4) (ha : n % 4 + z ≤ 4) (hw : ∀ i, i < 32 → bt w i = if 32 - 8 * z - 8 * (n % 4) ≤ i ∧ i < 32 - 8 * (n % 4) then bt v (i - (32 - 8 * z - 8 * (n % 4))) else bt (σ.2.2.1 (n / 4)) i) : Rel (xM σ (n / 4) w) (kM_store τ (nI n) (nI z) v) := by
  obtain ⟨k1, k2, k3⟩ := store_keeps τ (nI n) v hz
  refine rel_frame h rfl rfl k1 k2 ?_ (rM_store h.2.2.2.2 hn hz ha hw)
  unfold rR; rw [k3]; exact h.2.2.2.1
theorem rel_store {σ : XS} {τ : MS} (h : Rel σ τ) (v : Int32) {n z : Nat} (hn : n < 4096) (hz : z = 1 ∨ z = 2 ∨ z = 4) (ha : n % 4 + z ≤ 4) : Rel (kX_store σ (nI n) (nI z) v) (kM_store τ (nI n) (nI z) v) := by
  unfold kX_store
  rw [idx_at hn, sh_part hn hz ha]
  refine rel_mem h hn hz ha (fun i hi => ?_)
  rw [b_or, b_and, bt_not _ hi, b_shl _ (by omega) _ hi, b_shl _ (by omega) _ hi, b_and, mask_part hz]
  by_cases c : 32 - 8 * z - 8 * (n % 4) ≤ i ∧ i < 32 - 8 * (n % 4)
  · rw [if_pos c, decide_eq_true c.1, decide_eq_true (show i - (32 - 8 * z - 8 * (n % 4)) < 8 * z by omega)]; simp
  · rw [if_neg c]
    by_cases d : 32 - 8 * z - 8 * (n % 4) ≤ i
    · rw [decide_eq_true d, decide_eq_false (show ¬ i - (32 - 8 * z - 8 * (n % 4)) < 8 * z by omega)]; simp
    · rw [decide_eq_false d]; simp
theorem face_put (σ : XS) (τ : MS) (a v : Int32) (h : Rel σ τ) : faceOK Rel (kX_put σ a v) σ (kM_put τ a v) := by
  unfold kX_put kM_put
  rw [sameWord]
  by_cases e : bI (kM_isWord a) = 0
  · rw [if_pos e]
    have e2 : kM_isWord a = false := by
      cases hb : kM_isWord a
      · rfl
      · rw [hb] at e; exact absurd e (by decide)
    rw [e2]
    exact ⟨rfl, rel_thrown h⟩
  · rw [if_neg e]
    have e2 : kM_isWord a = true := by
      cases hb : kM_isWord a
      · rw [hb] at e; exact absurd rfl e
      · rfl
    rw [e2]
    have h' : Rel σ (mI τ 0 0) := rel_thrown h
    obtain ⟨n, hn, ha, rfl⟩ : ∃ n, n < 4096 ∧ n % 4 = 0 ∧ a = nI n := word_n e2
    have hl : σ.2.2.1 (n / 4) = kM_load (mI τ 0 0) (nI n) (nI 4) := by
      refine b_ext (fun i hi => ?_)
      rw [bt_load h'.2.2.2.2 hn (z := 4) (by simp) (by omega) i hi, decide_eq_true (by omega), Bool.true_and]
      congr 1; omega
    have hs : Rel (xM σ (n / 4) v) (kM_store (mI τ 0 0) (nI n) (nI 4) v) := by
      refine rel_mem h' hn (z := 4) (by simp) (by omega) (fun i hi => ?_)
      rw [if_pos (by omega)]; congr 1; omega
    rw [idx_at hn]
    refine ⟨?_, hl, hs⟩
    show (kM_store (mI τ 0 0) (nI n) (nI 4) v).1 0 = 0
    rw [(store_keeps (mI τ 0 0) (nI n) v (z := 4) (by simp)).1]; rfl
