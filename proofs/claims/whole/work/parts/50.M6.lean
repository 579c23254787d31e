/-! contracts of WindowCoreModel: laid by my program -/
def kM_run_c29 : Nat → MS → Int32 → Int32 → Int32 → Int32 × MS
  | 0, τ, v1, v2, v3 => (0, τ)
  | f + 1, τ, v1, v2, v3 =>
    if v1 ≤ v3 then
      (v2, τ)
    else
      if (bI (τ.2.1 19)) = 0 then
        if (kM_oneStep τ).1 < (100 : Int32) then
          kM_run_c29 f ((kM_oneStep τ).2) v1 v2 (v3 + Int32.ofInt 1)
        else
          kM_run_c29 f ((kM_oneStep τ).2) v1 (v2 + (1 : Int32)) (v3 + Int32.ofInt 1)
      else
        (v2, τ)
def kM_run_c20 (τ : MS) (v1 : Int32) (s0 : Bool) : Int32 × MS :=
  if (bI s0) = 0 then
    ((0 : Int32), τ)
  else
    kM_run_c29 ((Int32.toInt v1 - Int32.toInt (0 : Int32)).toNat + 1) τ v1 (0 : Int32) (0 : Int32)
def kM_run_c17 (τ : MS) (v1 : Int32) (s0 : Bool) : Int32 × MS :=
  kM_run_c20 ((kM_goes τ s0).2) v1 ((kM_goes τ s0).1)
def kM_run_c16 (τ : MS) (v1 : Int32) : Int32 × MS :=
  kM_run_c17 τ v1 false
def kM_run (τ : MS) (a1 : Int32) : Int32 × MS :=
  if a1 < 0 then
    kM_run_c16 τ a1
  else
    if (5000 : Int32) < a1 then
      kM_run_c16 τ a1
    else
      kM_run_c17 τ a1 true
set_option maxRecDepth 100000 in
set_option maxHeartbeats 4000000 in
theorem jM_run_c29 (l : Launch) (D : va_G) (g qb qg qw : Nat) (cA : ClassId) {p : Program} {e : Env} {s : State} {m : MethodId} {args : Array Value} {below : List Frame} {meth : Method} {c : Code} (S : CallFix p m c bM_run 4 s args wAll RM) (hR : meth.sig.returnType = (some .int)) (hlk : meth.locks = false) (f : Nat) : ∀ (ls : Array Slot) (H : Heap) (locs : List Loc) (τ : MS) (v1 : Int32) (v2 : Int32) (v3 : Int32) (hok : mOK τ) (hk : 0 ≤ Int32.toInt v3) (hf : (Int32.toInt v1 - Int32.toInt v3).toNat < f) (hl : lv_has ls 4 [(0, .ref g), (1, .int v1), (2, .int v2), (3, .int v3)]) (hw : mH D g qb qg qw cA s τ H locs), W p l e { frames := 5, cells := 0, slots := 0, locals := 114 } s m args below meth c H locs 0 0 (mQi D g qb qg qw cA below args s ((kM_run_c29 f τ v1 v2 v3).1) (kM_run_c29 f τ v1 v2 v3).2) (F0 m 29 ls []) := by
  have hx := S.1
  have hb := S.2.1
  induction f with
  | zero => intro ls H locs τ v1 v2 v3 hok hk hf; exact absurd hf (Nat.not_lt_zero _)
  | succ f ih =>
  intro ls H locs τ v1 v2 v3 hok hk hf hl hw
  refine lv_iload_n hx hb dM_run_29 rfl (lv_at hl 3 rfl) ?_
  refine lv_iload_n hx hb dM_run_30 rfl (lv_at hl 1 rfl) ?_
  refine lv_icmp_ge (tgt := 64) hx hb dM_run_31 (by decide) (fun h_31 => ?_) (fun h_31 => ?_)
  · skip
    refine lv_iload_n hx hb dM_run_64 rfl (lv_at hl 2 rfl) ?_
    exact z_iretP S hR hlk hw dM_run_65 (by rw [kM_run_c29, if_pos h_31])
  · skip
    refine lv_aload_n hx hb dM_run_34 rfl (lv_at hl 0 rfl) ?_
    refine mget_stopped S hw dM_run_35 ?_
    refine lv_if_ne (tgt := 64) hx hb dM_run_38 (by decide) (fun h_38 => ?_) (fun h_38 => ?_)
    · skip
      refine lv_iload_n hx hb dM_run_64 rfl (lv_at hl 2 rfl) ?_
      exact z_iretP S hR hlk hw dM_run_65 (by rw [kM_run_c29, if_neg h_31, if_neg h_38])
    · skip
      refine lv_aload_n hx hb dM_run_41 rfl (lv_at hl 0 rfl) ?_
      refine z_calli S (cM_oneStep l D g qb qg qw cA τ hok) (qM_oneStep S.2.2.2.2 ⟨Nat.le_of_ble_eq_true rfl, Nat.le_of_ble_eq_true rfl⟩) hw rfl rfl rfl hl.1 rfl (Nat.le_of_ble_eq_true rfl) dM_run_42 (fun H locs hw => ?_)
      refine lv_bipush (v := 100) hx hb dM_run_45 (by decide) ?_
      refine lv_icmp_lt (tgt := 56) hx hb dM_run_47 (by decide) (fun h_47 => ?_) (fun h_47 => ?_)
      · skip
        refine lv_iload_n hx hb dM_run_56 rfl (lv_at hl 2 rfl) ?_
        refine lv_istore_n (lv' := [(2, .int v2), (0, .ref g), (1, .int v1), (3, .int v3)]) hx hb dM_run_57 rfl hl (by decide) rfl (fun ls hl => ?_)
        refine lv_iinc (lv' := [(3, .int (v3 + Int32.ofInt 1)), (2, .int v2), (0, .ref g), (1, .int v1)]) (k := 3) hx hb dM_run_58 hl rfl rfl (by decide) rfl (fun ls hl => ?_)
        refine lv_goto (tgt := 29) hx hb dM_run_61 (by decide) ?_
        rw [show kM_run_c29 (f + 1) τ v1 v2 v3 = kM_run_c29 f ((kM_oneStep τ).2) v1 v2 (v3 + Int32.ofInt 1) from (by rw [kM_run_c29, if_neg h_31, if_pos h_38, if_pos h_47])]
        exact ih _ _ _ ((kM_oneStep τ).2) v1 v2 (v3 + Int32.ofInt 1) (mok_oneStep hok) (by first | exact m_inc hk h_31 | decide) (m_dec hk h_31 hf) (lv_sub hl [2, 3, 1, 0] rfl) hw
      · skip
        refine lv_iload_n hx hb dM_run_50 rfl (lv_at hl 2 rfl) ?_
        refine lv_iconst (v := 1) hx hb dM_run_51 (by decide) ?_
        refine lv_iadd hx hb dM_run_52 ?_
        refine lv_goto (tgt := 57) hx hb dM_run_53 (by decide) ?_
        refine lv_istore_n (lv' := [(2, .int (v2 + (1 : Int32))), (0, .ref g), (1, .int v1), (3, .int v3)]) hx hb dM_run_57 rfl hl (by decide) rfl (fun ls hl => ?_)
        refine lv_iinc (lv' := [(3, .int (v3 + Int32.ofInt 1)), (2, .int (v2 + (1 : Int32))), (0, .ref g), (1, .int v1)]) (k := 3) hx hb dM_run_58 hl rfl rfl (by decide) rfl (fun ls hl => ?_)
        refine lv_goto (tgt := 29) hx hb dM_run_61 (by decide) ?_
        rw [show kM_run_c29 (f + 1) τ v1 v2 v3 = kM_run_c29 f ((kM_oneStep τ).2) v1 (v2 + (1 : Int32)) (v3 + Int32.ofInt 1) from (by rw [kM_run_c29, if_neg h_31, if_pos h_38, if_neg h_47])]
        exact ih _ _ _ ((kM_oneStep τ).2) v1 (v2 + (1 : Int32)) (v3 + Int32.ofInt 1) (mok_oneStep hok) (by first | exact m_inc hk h_31 | decide) (m_dec hk h_31 hf) (lv_sub hl [2, 3, 1, 0] rfl) hw
set_option maxRecDepth 100000 in
set_option maxHeartbeats 4000000 in
theorem jM_run_c20 (l : Launch) (D : va_G) (g qb qg qw : Nat) (cA : ClassId) {p : Program} {e : Env} {s : State} {m : MethodId} {args : Array Value} {below : List Frame} {meth : Method} {c : Code} (S : CallFix p m c bM_run 4 s args wAll RM) (hR : meth.sig.returnType = (some .int)) (hlk : meth.locks = false) {ls : Array Slot} {H : Heap} {locs : List Loc} (τ : MS) (v1 : Int32) (s0 : Bool) (hok : mOK τ) (hl : lv_has ls 4 [(0, .ref g), (1, .int v1)]) (hw : mH D g qb qg qw cA s τ H locs) : W p l e { frames := 5, cells := 0, slots := 0, locals := 114 } s m args below meth c H locs 0 0 (mQi D g qb qg qw cA below args s ((kM_run_c20 τ v1 s0).1) (kM_run_c20 τ v1 s0).2) (F0 m 20 ls [.int (bI s0)]) := by
  have hx := S.1
  have hb := S.2.1
  refine lv_if_ne (tgt := 25) hx hb dM_run_20 (by decide) (fun h_20 => ?_) (fun h_20 => ?_)
  · skip
    refine lv_iconst (v := 0) hx hb dM_run_25 (by decide) ?_
    refine lv_istore_n (lv' := [(2, .int (0 : Int32)), (0, .ref g), (1, .int v1)]) hx hb dM_run_26 rfl hl (by decide) rfl (fun ls hl => ?_)
    refine lv_iconst (v := 0) hx hb dM_run_27 (by decide) ?_
    refine lv_istore_n (lv' := [(3, .int (0 : Int32)), (2, .int (0 : Int32)), (0, .ref g), (1, .int v1)]) hx hb dM_run_28 rfl hl (by decide) rfl (fun ls hl => ?_)
    rw [show kM_run_c20 τ v1 s0 = kM_run_c29 ((Int32.toInt v1 - Int32.toInt (0 : Int32)).toNat + 1) τ v1 (0 : Int32) (0 : Int32) from (by rw [kM_run_c20, if_neg h_20])]
    exact jM_run_c29 l D g qb qg qw cA S hR hlk ((Int32.toInt v1 - Int32.toInt (0 : Int32)).toNat + 1) _ _ _ τ v1 (0 : Int32) (0 : Int32) hok (by first | exact m_inc hk h_31 | decide) (Nat.lt_succ_self _) (lv_sub hl [2, 3, 1, 0] rfl) hw
  · skip
    refine lv_iconst (v := 0) hx hb dM_run_23 (by decide) ?_
    exact z_iretP S hR hlk hw dM_run_24 (by rw [kM_run_c20, if_pos h_20])
set_option maxRecDepth 100000 in
set_option maxHeartbeats 4000000 in
theorem jM_run_c17 (l : Launch) (D : va_G) (g qb qg qw : Nat) (cA : ClassId) {p : Program} {e : Env} {s : State} {m : MethodId} {args : Array Value} {below : List Frame} {meth : Method} {c : Code} (S : CallFix p m c bM_run 4 s args wAll RM) (hR : meth.sig.returnType = (some .int)) (hlk : meth.locks = false) {ls : Array Slot} {H : Heap} {locs : List Loc} (τ : MS) (v1 : Int32) (s0 : Bool) (hok : mOK τ) (hl : lv_has ls 4 [(0, .ref g), (1, .int v1)]) (hw : mH D g qb qg qw cA s τ H locs) : W p l e { frames := 5, cells := 0, slots := 0, locals := 114 } s m args below meth c H locs 0 0 (mQi D g qb qg qw cA below args s ((kM_run_c17 τ v1 s0).1) (kM_run_c17 τ v1 s0).2) (F0 m 17 ls [.int (bI s0), .ref g]) := by
  have hx := S.1
  have hb := S.2.1
  refine z_calli S (cM_goes l D g qb qg qw cA τ s0) (qM_goes S.2.2.2.2 ⟨Nat.le_of_ble_eq_true rfl, Nat.le_of_ble_eq_true rfl⟩) hw rfl rfl rfl hl.1 rfl (Nat.le_of_ble_eq_true rfl) dM_run_17 (fun H locs hw => ?_)
  rw [show kM_run_c17 τ v1 s0 = kM_run_c20 ((kM_goes τ s0).2) v1 ((kM_goes τ s0).1) from rfl]
  exact jM_run_c20 l D g qb qg qw cA S hR hlk ((kM_goes τ s0).2) v1 ((kM_goes τ s0).1) (mok_goes hok) (lv_sub hl [0, 1] rfl) hw
set_option maxRecDepth 100000 in
set_option maxHeartbeats 4000000 in
theorem jM_run_c16 (l : Launch) (D : va_G) (g qb qg qw : Nat) (cA : ClassId) {p : Program} {e : Env} {s : State} {m : MethodId} {args : Array Value} {below : List Frame} {meth : Method} {c : Code} (S : CallFix p m c bM_run 4 s args wAll RM) (hR : meth.sig.returnType = (some .int)) (hlk : meth.locks = false) {ls : Array Slot} {H : Heap} {locs : List Loc} (τ : MS) (v1 : Int32) (hok : mOK τ) (hl : lv_has ls 4 [(0, .ref g), (1, .int v1)]) (hw : mH D g qb qg qw cA s τ H locs) : W p l e { frames := 5, cells := 0, slots := 0, locals := 114 } s m args below meth c H locs 0 0 (mQi D g qb qg qw cA below args s ((kM_run_c16 τ v1).1) (kM_run_c16 τ v1).2) (F0 m 16 ls [.ref g]) := by
  have hx := S.1
  have hb := S.2.1
  refine lv_iconst (v := 0) hx hb dM_run_16 (by decide) ?_
  rw [show kM_run_c16 τ v1 = kM_run_c17 τ v1 false from rfl]
  exact jM_run_c17 l D g qb qg qw cA S hR hlk τ v1 false hok (lv_sub hl [0, 1] rfl) hw
set_option maxRecDepth 100000 in
set_option maxHeartbeats 4000000 in
theorem cM_run (l : Launch) (D : va_G) (g qb qg qw : Nat) (cA : ClassId) (τ : MS) (a1 : Int32) (hok : mOK τ) : mMi l yM_run (.code yM_run bM_run 4 (some .int) :: wAll) { frames := 5, cells := 0, slots := 0, locals := 114 } D g qb qg qw cA [.ref g, .int a1] τ ((kM_run τ a1).1) (kM_run τ a1).2 := by
  refine z_entryi (cc := bM_run) (nL := 4) (by decide) rfl rfl (Nat.le_of_ble_eq_true rfl) (fun p e s m args below meth c S hR hlk ls H locs hl hw => ?_)
  have hx := S.1
  have hb := S.2.1
  have hl : lv_has ls 4 [(0, .ref g), (1, .int a1)] := hl
  refine lv_aload_n hx hb dM_run_0 rfl (lv_at hl 0 rfl) ?_
  refine lv_iload_n hx hb dM_run_1 rfl (lv_at hl 1 rfl) ?_
  refine lv_if_lt (tgt := 16) hx hb dM_run_2 (by decide) (fun h_2 => ?_) (fun h_2 => ?_)
  · skip
    rw [show kM_run τ a1 = kM_run_c16 τ a1 from (by rw [kM_run, if_pos h_2])]
    exact jM_run_c16 l D g qb qg qw cA S hR hlk τ a1 hok (lv_sub hl [0, 1] rfl) hw
  · skip
    refine lv_iload_n hx hb dM_run_5 rfl (lv_at hl 1 rfl) ?_
    refine lv_sipush (v := 5000) hx hb dM_run_6 (by decide) ?_
    refine lv_icmp_gt (tgt := 16) hx hb dM_run_9 (by decide) (fun h_9 => ?_) (fun h_9 => ?_)
    · skip
      rw [show kM_run τ a1 = kM_run_c16 τ a1 from (by rw [kM_run, if_neg h_2, if_pos h_9])]
      exact jM_run_c16 l D g qb qg qw cA S hR hlk τ a1 hok (lv_sub hl [0, 1] rfl) hw
    · skip
      refine lv_iconst (v := 1) hx hb dM_run_12 (by decide) ?_
      refine lv_goto (tgt := 17) hx hb dM_run_13 (by decide) ?_
      rw [show kM_run τ a1 = kM_run_c17 τ a1 true from (by rw [kM_run, if_neg h_2, if_neg h_9])]
      exact jM_run_c17 l D g qb qg qw cA S hR hlk τ a1 true hok (lv_sub hl [0, 1] rfl) hw
