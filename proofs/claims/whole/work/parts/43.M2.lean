/-! contracts of WindowCoreModel: laid by my program -/
def kM_get (τ : MS) (a1 : Int32) (a2 : Int32) : Int32 :=
  if (8 : Int32) ≤ a2 then
    (τ.2.2.2.2 (kM_slot a1 a2).toNatClampNeg)
  else
    (τ.2.2.2.1 a2.toNatClampNeg)
set_option maxRecDepth 100000 in
set_option maxHeartbeats 4000000 in
theorem cM_get (l : Launch) (D : va_G) (g qb qg qw : Nat) (cA : ClassId) (τ : MS) (a1 : Int32) (a2 : Int32) (hw2 : vp_in a1 8) (hr : vp_in a2 32) : mMi l yM_get (.code yM_get bM_get 3 (some .int) :: wAll) { frames := 1, cells := 0, slots := 0, locals := 21 } D g qb qg qw cA [.ref g, .int a1, .int a2] τ (kM_get τ a1 a2) τ := by
  refine z_entryi (cc := bM_get) (nL := 3) (by decide) rfl rfl (Nat.le_of_ble_eq_true rfl) (fun p e s m args below meth c S hR hlk ls H locs hl hw => ?_)
  have hx := S.1
  have hb := S.2.1
  have hl : lv_has ls 3 [(0, .ref g), (1, .int a1), (2, .int a2)] := hl
  refine lv_iload_n hx hb dM_get_0 rfl (lv_at hl 2 rfl) ?_
  refine lv_bipush (v := 8) hx hb dM_get_1 (by decide) ?_
  refine lv_icmp_ge (tgt := 15) hx hb dM_get_3 (by decide) (fun h_3 => ?_) (fun h_3 => ?_)
  · skip
    refine lv_aload_n hx hb dM_get_15 rfl (lv_at hl 0 rfl) ?_
    refine mget_windows S hw dM_get_16 ?_
    refine lv_iload_n hx hb dM_get_19 rfl (lv_at hl 1 rfl) ?_
    refine lv_iload_n hx hb dM_get_20 rfl (lv_at hl 2 rfl) ?_
    refine s_calli S (cM_slot l D a1 a2) (qM_slot S.2.2.2.2 ⟨Nat.le_of_ble_eq_true rfl, Nat.le_of_ble_eq_true rfl⟩) hw rfl hl.1 rfl (Nat.le_of_ble_eq_true rfl) dM_get_21 (fun H locs hw => ?_)
    refine va_iald hx hb hw.2.2.2 hw.1 3 0 rfl rfl (m_slot_in hw2 hr h_3) dM_get_24 ?_
    exact z_iret S hR hlk hw dM_get_25 (by rw [kM_get, if_pos h_3])
  · skip
    refine lv_aload_n hx hb dM_get_6 rfl (lv_at hl 0 rfl) ?_
    refine mget_globals S hw dM_get_7 ?_
    refine lv_iload_n hx hb dM_get_10 rfl (lv_at hl 2 rfl) ?_
    refine va_iald hx hb hw.2.2.2 hw.1 2 0 rfl rfl (m_glob h_3 hr) dM_get_11 ?_
    refine lv_goto (tgt := 25) hx hb dM_get_12 (by decide) ?_
    exact z_iret S hR hlk hw dM_get_25 (by rw [kM_get, if_neg h_3])
def kM_give (τ : MS) (a1 : Int32) (a2 : Int32) (a3 : Int32) : MS :=
  if a2 ≤ (7 : Int32) then
    if a2 ≤ 0 then
      τ
    else
      (mG τ a2.toNatClampNeg a3)
  else
    (mW τ (kM_slot a1 a2).toNatClampNeg a3)
set_option maxRecDepth 100000 in
set_option maxHeartbeats 4000000 in
theorem cM_give (l : Launch) (D : va_G) (g qb qg qw : Nat) (cA : ClassId) (τ : MS) (a1 : Int32) (a2 : Int32) (a3 : Int32) (hw2 : vp_in a1 8) (hr : vp_in a2 32) : mMv l yM_give (.code yM_give bM_give 4 none :: wAll) { frames := 1, cells := 0, slots := 0, locals := 21 } D g qb qg qw cA [.ref g, .int a1, .int a2, .int a3] τ (kM_give τ a1 a2 a3) := by
  refine z_entryv (cc := bM_give) (nL := 4) (by decide) rfl rfl (Nat.le_of_ble_eq_true rfl) (fun p e s m args below meth c S hR hlk ls H locs hl hw => ?_)
  have hx := S.1
  have hb := S.2.1
  have hl : lv_has ls 4 [(0, .ref g), (1, .int a1), (2, .int a2), (3, .int a3)] := hl
  refine lv_iload_n hx hb dM_give_0 rfl (lv_at hl 2 rfl) ?_
  refine lv_bipush (v := 7) hx hb dM_give_1 (by decide) ?_
  refine lv_icmp_le (tgt := 20) hx hb dM_give_3 (by decide) (fun h_3 => ?_) (fun h_3 => ?_)
  · skip
    refine lv_iload_n hx hb dM_give_20 rfl (lv_at hl 2 rfl) ?_
    refine lv_if_le (tgt := 31) hx hb dM_give_21 (by decide) (fun h_21 => ?_) (fun h_21 => ?_)
    · skip
      exact z_vret S hR hlk hw dM_give_31 (by rw [kM_give, if_pos h_3, if_pos h_21])
    · skip
      refine lv_aload_n hx hb dM_give_24 rfl (lv_at hl 0 rfl) ?_
      refine mget_globals S hw dM_give_25 ?_
      refine lv_iload_n hx hb dM_give_28 rfl (lv_at hl 2 rfl) ?_
      refine lv_iload_n hx hb dM_give_29 rfl (lv_at hl 3 rfl) ?_
      refine mast_qg S hw (m_glob2 h_3 hr) dM_give_30 (fun H locs hw => ?_)
      exact z_vret S hR hlk hw dM_give_31 (by rw [kM_give, if_pos h_3, if_neg h_21])
  · skip
    refine lv_aload_n hx hb dM_give_6 rfl (lv_at hl 0 rfl) ?_
    refine mget_windows S hw dM_give_7 ?_
    refine lv_iload_n hx hb dM_give_10 rfl (lv_at hl 1 rfl) ?_
    refine lv_iload_n hx hb dM_give_11 rfl (lv_at hl 2 rfl) ?_
    refine s_calli S (cM_slot l D a1 a2) (qM_slot S.2.2.2.2 ⟨Nat.le_of_ble_eq_true rfl, Nat.le_of_ble_eq_true rfl⟩) hw rfl hl.1 rfl (Nat.le_of_ble_eq_true rfl) dM_give_12 (fun H locs hw => ?_)
    refine lv_iload_n hx hb dM_give_15 rfl (lv_at hl 3 rfl) ?_
    refine mast_qw S hw (m_slot_in2 hw2 hr h_3) dM_give_16 (fun H locs hw => ?_)
    refine lv_goto (tgt := 31) hx hb dM_give_17 (by decide) ?_
    exact z_vret S hR hlk hw dM_give_31 (by rw [kM_give, if_neg h_3])
def kM_load_c5 : Nat → MS → Int32 → Int32 → Int32 → Int32 → Int32
  | 0, τ, v1, v2, v3, v4 => 0
  | f + 1, τ, v1, v2, v3, v4 =>
    if v2 ≤ v4 then
      v3
    else
      kM_load_c5 f τ v1 v2 ((v3 <<< ((8 : Int32) &&& 31)) ||| (τ.2.2.1 (v1 + v4).toNatClampNeg)) (v4 + Int32.ofInt 1)
def kM_load (τ : MS) (a1 : Int32) (a2 : Int32) : Int32 :=
  kM_load_c5 ((Int32.toInt a2 - Int32.toInt (0 : Int32)).toNat + 1) τ a1 a2 (0 : Int32) (0 : Int32)
set_option maxRecDepth 100000 in
set_option maxHeartbeats 4000000 in
theorem jM_load_c5 (l : Launch) (D : va_G) (g qb qg qw : Nat) (cA : ClassId) {p : Program} {e : Env} {s : State} {m : MethodId} {args : Array Value} {below : List Frame} {meth : Method} {c : Code} (S : CallFix p m c bM_load 5 s args wAll RM) (hR : meth.sig.returnType = (some .int)) (hlk : meth.locks = false) (f : Nat) : ∀ (ls : Array Slot) (H : Heap) (locs : List Loc) (τ : MS) (v1 : Int32) (v2 : Int32) (v3 : Int32) (v4 : Int32) (hlm : lM v1 v2) (hk : 0 ≤ Int32.toInt v4) (hf : (Int32.toInt v2 - Int32.toInt v4).toNat < f) (hl : lv_has ls 5 [(0, .ref g), (1, .int v1), (2, .int v2), (3, .int v3), (4, .int v4)]) (hw : mH D g qb qg qw cA s τ H locs), W p l e { frames := 0, cells := 0, slots := 0, locals := 0 } s m args below meth c H locs 0 0 (mQi D g qb qg qw cA below args s (kM_load_c5 f τ v1 v2 v3 v4) τ) (F0 m 5 ls []) := by
  have hx := S.1
  have hb := S.2.1
  induction f with
  | zero => intro ls H locs τ v1 v2 v3 v4 hlm hk hf; exact absurd hf (Nat.not_lt_zero _)
  | succ f ih =>
  intro ls H locs τ v1 v2 v3 v4 hlm hk hf hl hw
  refine lv_iload hx hb dM_load_5 (lv_at hl 4 rfl) ?_
  refine lv_iload_n hx hb dM_load_7 rfl (lv_at hl 2 rfl) ?_
  refine lv_icmp_ge (tgt := 32) hx hb dM_load_8 (by decide) (fun h_8 => ?_) (fun h_8 => ?_)
  · skip
    refine lv_iload_n hx hb dM_load_32 rfl (lv_at hl 3 rfl) ?_
    exact z_iret S hR hlk hw dM_load_33 (by rw [kM_load_c5, if_pos h_8])
  · skip
    refine lv_iload_n hx hb dM_load_11 rfl (lv_at hl 3 rfl) ?_
    refine lv_bipush (v := 8) hx hb dM_load_12 (by decide) ?_
    refine lv_ishl hx hb dM_load_14 ?_
    refine lv_aload_n hx hb dM_load_15 rfl (lv_at hl 0 rfl) ?_
    refine mget_bytes S hw dM_load_16 ?_
    refine lv_iload_n hx hb dM_load_19 rfl (lv_at hl 1 rfl) ?_
    refine lv_iload hx hb dM_load_20 (lv_at hl 4 rfl) ?_
    refine lv_iadd hx hb dM_load_22 ?_
    refine va_iald hx hb hw.2.2.2 hw.1 1 0 rfl rfl (m_byte hlm hk h_8) dM_load_23 ?_
    refine lv_ior hx hb dM_load_24 ?_
    refine lv_istore_n (lv' := [(3, .int ((v3 <<< ((8 : Int32) &&& 31)) ||| (τ.2.2.1 (v1 + v4).toNatClampNeg))), (0, .ref g), (1, .int v1), (2, .int v2), (4, .int v4)]) hx hb dM_load_25 rfl hl (by decide) rfl (fun ls hl => ?_)
    refine lv_iinc (lv' := [(4, .int (v4 + Int32.ofInt 1)), (3, .int ((v3 <<< ((8 : Int32) &&& 31)) ||| (τ.2.2.1 (v1 + v4).toNatClampNeg))), (0, .ref g), (1, .int v1), (2, .int v2)]) (k := 4) hx hb dM_load_26 hl rfl rfl (by decide) rfl (fun ls hl => ?_)
    refine lv_goto (tgt := 5) hx hb dM_load_29 (by decide) ?_
    rw [show kM_load_c5 (f + 1) τ v1 v2 v3 v4 = kM_load_c5 f τ v1 v2 ((v3 <<< ((8 : Int32) &&& 31)) ||| (τ.2.2.1 (v1 + v4).toNatClampNeg)) (v4 + Int32.ofInt 1) from (by rw [kM_load_c5, if_neg h_8])]
    exact ih _ _ _ τ v1 v2 ((v3 <<< ((8 : Int32) &&& 31)) ||| (τ.2.2.1 (v1 + v4).toNatClampNeg)) (v4 + Int32.ofInt 1) hlm (by first | exact m_inc hk h_8 | decide) (m_dec hk h_8 hf) (lv_sub hl [2, 3, 4, 1, 0] rfl) hw
set_option maxRecDepth 100000 in
set_option maxHeartbeats 4000000 in
theorem cM_load (l : Launch) (D : va_G) (g qb qg qw : Nat) (cA : ClassId) (τ : MS) (a1 : Int32) (a2 : Int32) (hlm : lM a1 a2) : mMi l yM_load (.code yM_load bM_load 5 (some .int) :: wAll) { frames := 0, cells := 0, slots := 0, locals := 0 } D g qb qg qw cA [.ref g, .int a1, .int a2] τ (kM_load τ a1 a2) τ := by
  refine z_entryi (cc := bM_load) (nL := 5) (by decide) rfl rfl (Nat.le_of_ble_eq_true rfl) (fun p e s m args below meth c S hR hlk ls H locs hl hw => ?_)
  have hx := S.1
  have hb := S.2.1
  have hl : lv_has ls 5 [(0, .ref g), (1, .int a1), (2, .int a2)] := hl
  refine lv_iconst (v := 0) hx hb dM_load_0 (by decide) ?_
  refine lv_istore_n (lv' := [(3, .int (0 : Int32)), (0, .ref g), (1, .int a1), (2, .int a2)]) hx hb dM_load_1 rfl hl (by decide) rfl (fun ls hl => ?_)
  refine lv_iconst (v := 0) hx hb dM_load_2 (by decide) ?_
  refine lv_istore (lv' := [(4, .int (0 : Int32)), (3, .int (0 : Int32)), (0, .ref g), (1, .int a1), (2, .int a2)]) hx hb dM_load_3 hl (by decide) rfl (fun ls hl => ?_)
  rw [show kM_load τ a1 a2 = kM_load_c5 ((Int32.toInt a2 - Int32.toInt (0 : Int32)).toNat + 1) τ a1 a2 (0 : Int32) (0 : Int32) from rfl]
  exact jM_load_c5 l D g qb qg qw cA S hR hlk ((Int32.toInt a2 - Int32.toInt (0 : Int32)).toNat + 1) _ _ _ τ a1 a2 (0 : Int32) (0 : Int32) hlm (by first | exact m_inc hk h_8 | decide) (Nat.lt_succ_self _) (lv_sub hl [2, 3, 4, 1, 0] rfl) hw
def kM_store_c3 : Nat → MS → Int32 → Int32 → Int32 → Int32 → MS
  | 0, τ, v1, v2, v3, v4 => τ
  | f + 1, τ, v1, v2, v3, v4 =>
    if v2 ≤ v4 then
      τ
    else
      kM_store_c3 f (mY τ (v1 + v4).toNatClampNeg ((v3 >>> (((8 : Int32) * ((v2 - (1 : Int32)) - v4)) &&& 31)) &&& (255 : Int32))) v1 v2 v3 (v4 + Int32.ofInt 1)
def kM_store (τ : MS) (a1 : Int32) (a2 : Int32) (a3 : Int32) : MS :=
  kM_store_c3 ((Int32.toInt a2 - Int32.toInt (0 : Int32)).toNat + 1) τ a1 a2 a3 (0 : Int32)
set_option maxRecDepth 100000 in
set_option maxHeartbeats 4000000 in
theorem jM_store_c3 (l : Launch) (D : va_G) (g qb qg qw : Nat) (cA : ClassId) {p : Program} {e : Env} {s : State} {m : MethodId} {args : Array Value} {below : List Frame} {meth : Method} {c : Code} (S : CallFix p m c bM_store 5 s args wAll RM) (hR : meth.sig.returnType = none) (hlk : meth.locks = false) (f : Nat) : ∀ (ls : Array Slot) (H : Heap) (locs : List Loc) (τ : MS) (v1 : Int32) (v2 : Int32) (v3 : Int32) (v4 : Int32) (hlm : lM v1 v2) (hk : 0 ≤ Int32.toInt v4) (hf : (Int32.toInt v2 - Int32.toInt v4).toNat < f) (hl : lv_has ls 5 [(0, .ref g), (1, .int v1), (2, .int v2), (3, .int v3), (4, .int v4)]) (hw : mH D g qb qg qw cA s τ H locs), W p l e { frames := 0, cells := 0, slots := 0, locals := 0 } s m args below meth c H locs 0 0 (mQv D g qb qg qw cA below args s (kM_store_c3 f τ v1 v2 v3 v4)) (F0 m 3 ls []) := by
  have hx := S.1
  have hb := S.2.1
  induction f with
  | zero => intro ls H locs τ v1 v2 v3 v4 hlm hk hf; exact absurd hf (Nat.not_lt_zero _)
  | succ f ih =>
  intro ls H locs τ v1 v2 v3 v4 hlm hk hf hl hw
  refine lv_iload hx hb dM_store_3 (lv_at hl 4 rfl) ?_
  refine lv_iload_n hx hb dM_store_5 rfl (lv_at hl 2 rfl) ?_
  refine lv_icmp_ge (tgt := 39) hx hb dM_store_6 (by decide) (fun h_6 => ?_) (fun h_6 => ?_)
  · skip
    exact z_vret S hR hlk hw dM_store_39 (by rw [kM_store_c3, if_pos h_6])
  · skip
    refine lv_aload_n hx hb dM_store_9 rfl (lv_at hl 0 rfl) ?_
    refine mget_bytes S hw dM_store_10 ?_
    refine lv_iload_n hx hb dM_store_13 rfl (lv_at hl 1 rfl) ?_
    refine lv_iload hx hb dM_store_14 (lv_at hl 4 rfl) ?_
    refine lv_iadd hx hb dM_store_16 ?_
    refine lv_iload_n hx hb dM_store_17 rfl (lv_at hl 3 rfl) ?_
    refine lv_bipush (v := 8) hx hb dM_store_18 (by decide) ?_
    refine lv_iload_n hx hb dM_store_20 rfl (lv_at hl 2 rfl) ?_
    refine lv_iconst (v := 1) hx hb dM_store_21 (by decide) ?_
    refine lv_isub hx hb dM_store_22 ?_
    refine lv_iload hx hb dM_store_23 (lv_at hl 4 rfl) ?_
    refine lv_isub hx hb dM_store_25 ?_
    refine lv_imul hx hb dM_store_26 ?_
    refine lv_ishr hx hb dM_store_27 ?_
    refine lv_sipush (v := 255) hx hb dM_store_28 (by decide) ?_
    refine lv_iand hx hb dM_store_31 ?_
    refine mast_qb S hw (m_byte hlm hk h_6) dM_store_32 (fun H locs hw => ?_)
    refine lv_iinc (lv' := [(4, .int (v4 + Int32.ofInt 1)), (0, .ref g), (1, .int v1), (2, .int v2), (3, .int v3)]) (k := 4) hx hb dM_store_33 hl rfl rfl (by decide) rfl (fun ls hl => ?_)
    refine lv_goto (tgt := 3) hx hb dM_store_36 (by decide) ?_
    rw [show kM_store_c3 (f + 1) τ v1 v2 v3 v4 = kM_store_c3 f (mY τ (v1 + v4).toNatClampNeg ((v3 >>> (((8 : Int32) * ((v2 - (1 : Int32)) - v4)) &&& 31)) &&& (255 : Int32))) v1 v2 v3 (v4 + Int32.ofInt 1) from (by rw [kM_store_c3, if_neg h_6])]
    exact ih _ _ _ (mY τ (v1 + v4).toNatClampNeg ((v3 >>> (((8 : Int32) * ((v2 - (1 : Int32)) - v4)) &&& 31)) &&& (255 : Int32))) v1 v2 v3 (v4 + Int32.ofInt 1) hlm (by first | exact m_inc hk h_6 | decide) (m_dec hk h_6 hf) (lv_sub hl [1, 2, 3, 4, 0] rfl) hw
set_option maxRecDepth 100000 in
set_option maxHeartbeats 4000000 in
theorem cM_store (l : Launch) (D : va_G) (g qb qg qw : Nat) (cA : ClassId) (τ : MS) (a1 : Int32) (a2 : Int32) (a3 : Int32) (hlm : lM a1 a2) : mMv l yM_store (.code yM_store bM_store 5 none :: wAll) { frames := 0, cells := 0, slots := 0, locals := 0 } D g qb qg qw cA [.ref g, .int a1, .int a2, .int a3] τ (kM_store τ a1 a2 a3) := by
  refine z_entryv (cc := bM_store) (nL := 5) (by decide) rfl rfl (Nat.le_of_ble_eq_true rfl) (fun p e s m args below meth c S hR hlk ls H locs hl hw => ?_)
  have hx := S.1
  have hb := S.2.1
  have hl : lv_has ls 5 [(0, .ref g), (1, .int a1), (2, .int a2), (3, .int a3)] := hl
  refine lv_iconst (v := 0) hx hb dM_store_0 (by decide) ?_
  refine lv_istore (lv' := [(4, .int (0 : Int32)), (0, .ref g), (1, .int a1), (2, .int a2), (3, .int a3)]) hx hb dM_store_1 hl (by decide) rfl (fun ls hl => ?_)
  rw [show kM_store τ a1 a2 a3 = kM_store_c3 ((Int32.toInt a2 - Int32.toInt (0 : Int32)).toNat + 1) τ a1 a2 a3 (0 : Int32) from rfl]
  exact jM_store_c3 l D g qb qg qw cA S hR hlk ((Int32.toInt a2 - Int32.toInt (0 : Int32)).toNat + 1) _ _ _ τ a1 a2 a3 (0 : Int32) hlm (by first | exact m_inc hk h_6 | decide) (Nat.lt_succ_self _) (lv_sub hl [1, 2, 3, 4, 0] rfl) hw
def kM_reset_c28 : Nat → MS → Int32 → MS
  | 0, τ, v1 => τ
  | f + 1, τ, v1 =>
    if (128 : Int32) ≤ v1 then
      (mI (mI (mI (mB (mB (mI (mI (mI (mI (mI (kM_setStatus τ (128 : Int32)) 13 (0 : Int32)) 14 (0 : Int32)) 15 (0 : Int32)) 16 (0 : Int32)) 17 (4 : Int32)) 18 false) 19 false) 20 (0 : Int32)) 21 (0 : Int32)) 22 (0 : Int32))
    else
      kM_reset_c28 f (mW τ v1.toNatClampNeg (0 : Int32)) (v1 + Int32.ofInt 1)
def kM_reset_c7 : Nat → MS → Int32 → MS
  | 0, τ, v1 => τ
  | f + 1, τ, v1 =>
    if (8 : Int32) ≤ v1 then
      kM_reset_c28 ((Int32.toInt 128 - Int32.toInt (0 : Int32)).toNat + 1) τ (0 : Int32)
    else
      kM_reset_c7 f (mG τ v1.toNatClampNeg (0 : Int32)) (v1 + Int32.ofInt 1)
def kM_reset_c5 (τ : MS) : MS :=
  kM_reset_c7 ((Int32.toInt 8 - Int32.toInt (0 : Int32)).toNat + 1) τ (0 : Int32)
def kM_reset (τ : MS) : MS :=
  kM_reset_c5 (mI τ 0 (0 : Int32))
set_option maxRecDepth 100000 in
set_option maxHeartbeats 4000000 in
theorem jM_reset_c28 (l : Launch) (D : va_G) (g qb qg qw : Nat) (cA : ClassId) {p : Program} {e : Env} {s : State} {m : MethodId} {args : Array Value} {below : List Frame} {meth : Method} {c : Code} (S : CallFix p m c bM_reset 2 s args wAll RM) (hR : meth.sig.returnType = none) (hlk : meth.locks = false) (f : Nat) : ∀ (ls : Array Slot) (H : Heap) (locs : List Loc) (τ : MS) (v1 : Int32) (hk : 0 ≤ Int32.toInt v1) (hf : (Int32.toInt 128 - Int32.toInt v1).toNat < f) (hl : lv_has ls 2 [(0, .ref g), (1, .int v1)]) (hw : mH D g qb qg qw cA s τ H locs), W p l e { frames := 1, cells := 0, slots := 0, locals := 21 } s m args below meth c H locs 0 0 (mQv D g qb qg qw cA below args s (kM_reset_c28 f τ v1)) (F0 m 28 ls []) := by
  have hx := S.1
  have hb := S.2.1
  induction f with
  | zero => intro ls H locs τ v1 hk hf; exact absurd hf (Nat.not_lt_zero _)
  | succ f ih =>
  intro ls H locs τ v1 hk hf hl hw
  refine lv_iload_n hx hb dM_reset_28 rfl (lv_at hl 1 rfl) ?_
  refine lv_sipush (v := 128) hx hb dM_reset_29 (by decide) ?_
  refine lv_icmp_ge (tgt := 48) hx hb dM_reset_32 (by decide) (fun h_32 => ?_) (fun h_32 => ?_)
  · skip
    refine lv_aload_n hx hb dM_reset_48 rfl (lv_at hl 0 rfl) ?_
    refine lv_sipush (v := 128) hx hb dM_reset_49 (by decide) ?_
    refine z_callv S (cM_setStatus l D g qb qg qw cA τ (128 : Int32)) (qM_setStatus S.2.2.2.2 ⟨Nat.le_of_ble_eq_true rfl, Nat.le_of_ble_eq_true rfl⟩) hw rfl rfl rfl hl.1 rfl (Nat.le_of_ble_eq_true rfl) dM_reset_52 (fun H locs hw => ?_)
    refine lv_aload_n hx hb dM_reset_55 rfl (lv_at hl 0 rfl) ?_
    refine lv_iconst (v := 0) hx hb dM_reset_56 (by decide) ?_
    refine mput_invalid S hw dM_reset_57 (fun H locs hw => ?_)
    refine lv_aload_n hx hb dM_reset_60 rfl (lv_at hl 0 rfl) ?_
    refine lv_iconst (v := 0) hx hb dM_reset_61 (by decide) ?_
    refine mput_base S hw dM_reset_62 (fun H locs hw => ?_)
    refine lv_aload_n hx hb dM_reset_65 rfl (lv_at hl 0 rfl) ?_
    refine lv_iconst (v := 0) hx hb dM_reset_66 (by decide) ?_
    refine mput_type S hw dM_reset_67 (fun H locs hw => ?_)
    refine lv_aload_n hx hb dM_reset_70 rfl (lv_at hl 0 rfl) ?_
    refine lv_iconst (v := 0) hx hb dM_reset_71 (by decide) ?_
    refine mput_place S hw dM_reset_72 (fun H locs hw => ?_)
    refine lv_aload_n hx hb dM_reset_75 rfl (lv_at hl 0 rfl) ?_
    refine lv_iconst (v := 4) hx hb dM_reset_76 (by decide) ?_
    refine mput_next S hw dM_reset_77 (fun H locs hw => ?_)
    refine lv_aload_n hx hb dM_reset_80 rfl (lv_at hl 0 rfl) ?_
    refine lv_iconst (v := 0) hx hb dM_reset_81 (by decide) ?_
    refine mput_annulled (v := false) S hw dM_reset_82 (fun H locs hw => ?_)
    refine lv_aload_n hx hb dM_reset_85 rfl (lv_at hl 0 rfl) ?_
    refine lv_iconst (v := 0) hx hb dM_reset_86 (by decide) ?_
    refine mput_stopped (v := false) S hw dM_reset_87 (fun H locs hw => ?_)
    refine lv_aload_n hx hb dM_reset_90 rfl (lv_at hl 0 rfl) ?_
    refine lv_iconst (v := 0) hx hb dM_reset_91 (by decide) ?_
    refine mput_asked S hw dM_reset_92 (fun H locs hw => ?_)
    refine lv_aload_n hx hb dM_reset_95 rfl (lv_at hl 0 rfl) ?_
    refine lv_iconst (v := 0) hx hb dM_reset_96 (by decide) ?_
    refine mput_steps S hw dM_reset_97 (fun H locs hw => ?_)
    refine lv_aload_n hx hb dM_reset_100 rfl (lv_at hl 0 rfl) ?_
    refine lv_iconst (v := 0) hx hb dM_reset_101 (by decide) ?_
    refine mput_trapped S hw dM_reset_102 (fun H locs hw => ?_)
    exact z_vret S hR hlk hw dM_reset_105 (by rw [kM_reset_c28, if_pos h_32])
  · skip
    refine lv_aload_n hx hb dM_reset_35 rfl (lv_at hl 0 rfl) ?_
    refine mget_windows S hw dM_reset_36 ?_
    refine lv_iload_n hx hb dM_reset_39 rfl (lv_at hl 1 rfl) ?_
    refine lv_iconst (v := 0) hx hb dM_reset_40 (by decide) ?_
    refine mast_qw S hw (m_lt hk h_32 (by decide)) dM_reset_41 (fun H locs hw => ?_)
    refine lv_iinc (lv' := [(1, .int (v1 + Int32.ofInt 1)), (0, .ref g)]) (k := 1) hx hb dM_reset_42 hl rfl rfl (by decide) rfl (fun ls hl => ?_)
    refine lv_goto (tgt := 28) hx hb dM_reset_45 (by decide) ?_
    rw [show kM_reset_c28 (f + 1) τ v1 = kM_reset_c28 f (mW τ v1.toNatClampNeg (0 : Int32)) (v1 + Int32.ofInt 1) from (by rw [kM_reset_c28, if_neg h_32])]
    exact ih _ _ _ (mW τ v1.toNatClampNeg (0 : Int32)) (v1 + Int32.ofInt 1) (by first | exact m_inc hk h_32 | decide) (m_dec hk h_32 hf) (lv_sub hl [1, 0] rfl) hw
set_option maxRecDepth 100000 in
set_option maxHeartbeats 4000000 in
theorem jM_reset_c7 (l : Launch) (D : va_G) (g qb qg qw : Nat) (cA : ClassId) {p : Program} {e : Env} {s : State} {m : MethodId} {args : Array Value} {below : List Frame} {meth : Method} {c : Code} (S : CallFix p m c bM_reset 2 s args wAll RM) (hR : meth.sig.returnType = none) (hlk : meth.locks = false) (f : Nat) : ∀ (ls : Array Slot) (H : Heap) (locs : List Loc) (τ : MS) (v1 : Int32) (hk : 0 ≤ Int32.toInt v1) (hf : (Int32.toInt 8 - Int32.toInt v1).toNat < f) (hl : lv_has ls 2 [(0, .ref g), (1, .int v1)]) (hw : mH D g qb qg qw cA s τ H locs), W p l e { frames := 1, cells := 0, slots := 0, locals := 21 } s m args below meth c H locs 0 0 (mQv D g qb qg qw cA below args s (kM_reset_c7 f τ v1)) (F0 m 7 ls []) := by
  have hx := S.1
  have hb := S.2.1
  induction f with
  | zero => intro ls H locs τ v1 hk hf; exact absurd hf (Nat.not_lt_zero _)
  | succ f ih =>
  intro ls H locs τ v1 hk hf hl hw
  refine lv_iload_n hx hb dM_reset_7 rfl (lv_at hl 1 rfl) ?_
  refine lv_bipush (v := 8) hx hb dM_reset_8 (by decide) ?_
  refine lv_icmp_ge (tgt := 26) hx hb dM_reset_10 (by decide) (fun h_10 => ?_) (fun h_10 => ?_)
  · skip
    refine lv_iconst (v := 0) hx hb dM_reset_26 (by decide) ?_
    refine lv_istore_n (lv' := [(1, .int (0 : Int32)), (0, .ref g)]) hx hb dM_reset_27 rfl hl (by decide) rfl (fun ls hl => ?_)
    rw [show kM_reset_c7 (f + 1) τ v1 = kM_reset_c28 ((Int32.toInt 128 - Int32.toInt (0 : Int32)).toNat + 1) τ (0 : Int32) from (by rw [kM_reset_c7, if_pos h_10])]
    exact jM_reset_c28 l D g qb qg qw cA S hR hlk ((Int32.toInt 128 - Int32.toInt (0 : Int32)).toNat + 1) _ _ _ τ (0 : Int32) (by first | exact m_inc hk h_32 | decide) (Nat.lt_succ_self _) (lv_sub hl [1, 0] rfl) hw
  · skip
    refine lv_aload_n hx hb dM_reset_13 rfl (lv_at hl 0 rfl) ?_
    refine mget_globals S hw dM_reset_14 ?_
    refine lv_iload_n hx hb dM_reset_17 rfl (lv_at hl 1 rfl) ?_
    refine lv_iconst (v := 0) hx hb dM_reset_18 (by decide) ?_
    refine mast_qg S hw (m_lt hk h_10 (by decide)) dM_reset_19 (fun H locs hw => ?_)
    refine lv_iinc (lv' := [(1, .int (v1 + Int32.ofInt 1)), (0, .ref g)]) (k := 1) hx hb dM_reset_20 hl rfl rfl (by decide) rfl (fun ls hl => ?_)
    refine lv_goto (tgt := 7) hx hb dM_reset_23 (by decide) ?_
    rw [show kM_reset_c7 (f + 1) τ v1 = kM_reset_c7 f (mG τ v1.toNatClampNeg (0 : Int32)) (v1 + Int32.ofInt 1) from (by rw [kM_reset_c7, if_neg h_10])]
    exact ih _ _ _ (mG τ v1.toNatClampNeg (0 : Int32)) (v1 + Int32.ofInt 1) (by first | exact m_inc hk h_10 | decide) (m_dec hk h_10 hf) (lv_sub hl [1, 0] rfl) hw
set_option maxRecDepth 100000 in
set_option maxHeartbeats 4000000 in
theorem jM_reset_c5 (l : Launch) (D : va_G) (g qb qg qw : Nat) (cA : ClassId) {p : Program} {e : Env} {s : State} {m : MethodId} {args : Array Value} {below : List Frame} {meth : Method} {c : Code} (S : CallFix p m c bM_reset 2 s args wAll RM) (hR : meth.sig.returnType = none) (hlk : meth.locks = false) {ls : Array Slot} {H : Heap} {locs : List Loc} (τ : MS) (hl : lv_has ls 2 [(0, .ref g)]) (hw : mH D g qb qg qw cA s τ H locs) : W p l e { frames := 1, cells := 0, slots := 0, locals := 21 } s m args below meth c H locs 0 0 (mQv D g qb qg qw cA below args s (kM_reset_c5 τ)) (F0 m 5 ls []) := by
  have hx := S.1
  have hb := S.2.1
  refine lv_iconst (v := 0) hx hb dM_reset_5 (by decide) ?_
  refine lv_istore_n (lv' := [(1, .int (0 : Int32)), (0, .ref g)]) hx hb dM_reset_6 rfl hl (by decide) rfl (fun ls hl => ?_)
  rw [show kM_reset_c5 τ = kM_reset_c7 ((Int32.toInt 8 - Int32.toInt (0 : Int32)).toNat + 1) τ (0 : Int32) from rfl]
  exact jM_reset_c7 l D g qb qg qw cA S hR hlk ((Int32.toInt 8 - Int32.toInt (0 : Int32)).toNat + 1) _ _ _ τ (0 : Int32) (by first | exact m_inc hk h_10 | decide) (Nat.lt_succ_self _) (lv_sub hl [1, 0] rfl) hw
set_option maxRecDepth 100000 in
set_option maxHeartbeats 4000000 in
theorem cM_reset (l : Launch) (D : va_G) (g qb qg qw : Nat) (cA : ClassId) (τ : MS) : mMv l yM_reset (.code yM_reset bM_reset 2 none :: wAll) { frames := 1, cells := 0, slots := 0, locals := 21 } D g qb qg qw cA [.ref g] τ (kM_reset τ) := by
  refine z_entryv (cc := bM_reset) (nL := 2) (by decide) rfl rfl (Nat.le_of_ble_eq_true rfl) (fun p e s m args below meth c S hR hlk ls H locs hl hw => ?_)
  have hx := S.1
  have hb := S.2.1
  have hl : lv_has ls 2 [(0, .ref g)] := hl
  refine lv_aload_n hx hb dM_reset_0 rfl (lv_at hl 0 rfl) ?_
  refine lv_iconst (v := 0) hx hb dM_reset_1 (by decide) ?_
  refine mput_thrown S hw dM_reset_2 (fun H locs hw => ?_)
  rw [show kM_reset τ = kM_reset_c5 (mI τ 0 (0 : Int32)) from rfl]
  exact jM_reset_c5 l D g qb qg qw cA S hR hlk (mI τ 0 (0 : Int32))  (lv_sub hl [0] rfl) hw
def kM_put_c8 (τ : MS) (v1 : Int32) (v2 : Int32) (s0 : Bool) : Int32 × MS :=
  if (bI s0) = 0 then
    ((0 : Int32), τ)
  else
    ((kM_load τ v1 (4 : Int32)), (kM_store τ v1 (4 : Int32) v2))
def kM_put (τ : MS) (a1 : Int32) (a2 : Int32) : Int32 × MS :=
  kM_put_c8 ((kM_goes τ (kM_isWord a1)).2) a1 a2 ((kM_goes τ (kM_isWord a1)).1)
set_option maxRecDepth 100000 in
set_option maxHeartbeats 4000000 in
theorem jM_put_c8 (l : Launch) (D : va_G) (g qb qg qw : Nat) (cA : ClassId) {p : Program} {e : Env} {s : State} {m : MethodId} {args : Array Value} {below : List Frame} {meth : Method} {c : Code} (S : CallFix p m c bM_put 4 s args wAll RM) (hR : meth.sig.returnType = (some .int)) (hlk : meth.locks = false) {ls : Array Slot} {H : Heap} {locs : List Loc} (τ : MS) (v1 : Int32) (v2 : Int32) (s0 : Bool) (hg : ¬ bI s0 = 0 → lM v1 4) (hl : lv_has ls 4 [(0, .ref g), (1, .int v1), (2, .int v2)]) (hw : mH D g qb qg qw cA s τ H locs) : W p l e { frames := 2, cells := 0, slots := 0, locals := 41 } s m args below meth c H locs 0 0 (mQi D g qb qg qw cA below args s ((kM_put_c8 τ v1 v2 s0).1) (kM_put_c8 τ v1 v2 s0).2) (F0 m 8 ls [.int (bI s0)]) := by
  have hx := S.1
  have hb := S.2.1
  refine lv_if_ne (tgt := 13) hx hb dM_put_8 (by decide) (fun h_8 => ?_) (fun h_8 => ?_)
  · skip
    refine lv_aload_n hx hb dM_put_13 rfl (lv_at hl 0 rfl) ?_
    refine lv_iload_n hx hb dM_put_14 rfl (lv_at hl 1 rfl) ?_
    refine lv_iconst (v := 4) hx hb dM_put_15 (by decide) ?_
    refine z_calli S (cM_load l D g qb qg qw cA τ v1 (4 : Int32) (hg h_8)) (qM_load S.2.2.2.2 ⟨Nat.le_of_ble_eq_true rfl, Nat.le_of_ble_eq_true rfl⟩) hw rfl rfl rfl hl.1 rfl (Nat.le_of_ble_eq_true rfl) dM_put_16 (fun H locs hw => ?_)
    refine lv_istore_n (lv' := [(3, .int (kM_load τ v1 (4 : Int32))), (0, .ref g), (1, .int v1), (2, .int v2)]) hx hb dM_put_19 rfl hl (by decide) rfl (fun ls hl => ?_)
    refine lv_aload_n hx hb dM_put_20 rfl (lv_at hl 1 rfl) ?_
    refine lv_iload_n hx hb dM_put_21 rfl (lv_at hl 2 rfl) ?_
    refine lv_iconst (v := 4) hx hb dM_put_22 (by decide) ?_
    refine lv_iload_n hx hb dM_put_23 rfl (lv_at hl 3 rfl) ?_
    refine z_callv S (cM_store l D g qb qg qw cA τ v1 (4 : Int32) v2 (hg h_8)) (qM_store S.2.2.2.2 ⟨Nat.le_of_ble_eq_true rfl, Nat.le_of_ble_eq_true rfl⟩) hw rfl rfl rfl hl.1 rfl (Nat.le_of_ble_eq_true rfl) dM_put_24 (fun H locs hw => ?_)
    refine lv_iload_n hx hb dM_put_27 rfl (lv_at hl 0 rfl) ?_
    exact z_iretP S hR hlk hw dM_put_28 (by rw [kM_put_c8, if_neg h_8])
  · skip
    refine lv_iconst (v := 0) hx hb dM_put_11 (by decide) ?_
    exact z_iretP S hR hlk hw dM_put_12 (by rw [kM_put_c8, if_pos h_8])
set_option maxRecDepth 100000 in
set_option maxHeartbeats 4000000 in
theorem cM_put (l : Launch) (D : va_G) (g qb qg qw : Nat) (cA : ClassId) (τ : MS) (a1 : Int32) (a2 : Int32) : mMi l yM_put (.code yM_put bM_put 4 (some .int) :: wAll) { frames := 2, cells := 0, slots := 0, locals := 41 } D g qb qg qw cA [.ref g, .int a1, .int a2] τ ((kM_put τ a1 a2).1) (kM_put τ a1 a2).2 := by
  refine z_entryi (cc := bM_put) (nL := 4) (by decide) rfl rfl (Nat.le_of_ble_eq_true rfl) (fun p e s m args below meth c S hR hlk ls H locs hl hw => ?_)
  have hx := S.1
  have hb := S.2.1
  have hl : lv_has ls 4 [(0, .ref g), (1, .int a1), (2, .int a2)] := hl
  refine lv_aload_n hx hb dM_put_0 rfl (lv_at hl 0 rfl) ?_
  refine lv_iload_n hx hb dM_put_1 rfl (lv_at hl 1 rfl) ?_
  refine s_calli S (cM_isWord l D a1) (qM_isWord S.2.2.2.2 ⟨Nat.le_of_ble_eq_true rfl, Nat.le_of_ble_eq_true rfl⟩) hw rfl hl.1 rfl (Nat.le_of_ble_eq_true rfl) dM_put_2 (fun H locs hw => ?_)
  refine z_calli S (cM_goes l D g qb qg qw cA τ (kM_isWord a1)) (qM_goes S.2.2.2.2 ⟨Nat.le_of_ble_eq_true rfl, Nat.le_of_ble_eq_true rfl⟩) hw rfl rfl rfl hl.1 rfl (Nat.le_of_ble_eq_true rfl) dM_put_5 (fun H locs hw => ?_)
  rw [show kM_put τ a1 a2 = kM_put_c8 ((kM_goes τ (kM_isWord a1)).2) a1 a2 ((kM_goes τ (kM_isWord a1)).1) from rfl]
  exact jM_put_c8 l D g qb qg qw cA S hR hlk ((kM_goes τ (kM_isWord a1)).2) a1 a2 ((kM_goes τ (kM_isWord a1)).1) m_goes4 (lv_sub hl [0, 1, 2] rfl) hw
def kM_word_c8 (τ : MS) (v1 : Int32) (s0 : Bool) : Int32 × MS :=
  if (bI s0) = 0 then
    ((0 : Int32), τ)
  else
    ((kM_load τ v1 (4 : Int32)), τ)
def kM_word (τ : MS) (a1 : Int32) : Int32 × MS :=
  kM_word_c8 ((kM_goes τ (kM_isWord a1)).2) a1 ((kM_goes τ (kM_isWord a1)).1)
set_option maxRecDepth 100000 in
set_option maxHeartbeats 4000000 in
theorem jM_word_c8 (l : Launch) (D : va_G) (g qb qg qw : Nat) (cA : ClassId) {p : Program} {e : Env} {s : State} {m : MethodId} {args : Array Value} {below : List Frame} {meth : Method} {c : Code} (S : CallFix p m c bM_word 2 s args wAll RM) (hR : meth.sig.returnType = (some .int)) (hlk : meth.locks = false) {ls : Array Slot} {H : Heap} {locs : List Loc} (τ : MS) (v1 : Int32) (s0 : Bool) (hg : ¬ bI s0 = 0 → lM v1 4) (hl : lv_has ls 2 [(0, .ref g), (1, .int v1)]) (hw : mH D g qb qg qw cA s τ H locs) : W p l e { frames := 2, cells := 0, slots := 0, locals := 41 } s m args below meth c H locs 0 0 (mQi D g qb qg qw cA below args s ((kM_word_c8 τ v1 s0).1) (kM_word_c8 τ v1 s0).2) (F0 m 8 ls [.int (bI s0)]) := by
  have hx := S.1
  have hb := S.2.1
  refine lv_if_eq (tgt := 20) hx hb dM_word_8 (by decide) (fun h_8 => ?_) (fun h_8 => ?_)
  · skip
    refine lv_iconst (v := 0) hx hb dM_word_20 (by decide) ?_
    exact z_iretP S hR hlk hw dM_word_21 (by rw [kM_word_c8, if_pos h_8])
  · skip
    refine lv_aload_n hx hb dM_word_11 rfl (lv_at hl 0 rfl) ?_
    refine lv_iload_n hx hb dM_word_12 rfl (lv_at hl 1 rfl) ?_
    refine lv_iconst (v := 4) hx hb dM_word_13 (by decide) ?_
    refine z_calli S (cM_load l D g qb qg qw cA τ v1 (4 : Int32) (hg h_8)) (qM_load S.2.2.2.2 ⟨Nat.le_of_ble_eq_true rfl, Nat.le_of_ble_eq_true rfl⟩) hw rfl rfl rfl hl.1 rfl (Nat.le_of_ble_eq_true rfl) dM_word_14 (fun H locs hw => ?_)
    refine lv_goto (tgt := 21) hx hb dM_word_17 (by decide) ?_
    exact z_iretP S hR hlk hw dM_word_21 (by rw [kM_word_c8, if_neg h_8])
set_option maxRecDepth 100000 in
set_option maxHeartbeats 4000000 in
theorem cM_word (l : Launch) (D : va_G) (g qb qg qw : Nat) (cA : ClassId) (τ : MS) (a1 : Int32) : mMi l yM_word (.code yM_word bM_word 2 (some .int) :: wAll) { frames := 2, cells := 0, slots := 0, locals := 41 } D g qb qg qw cA [.ref g, .int a1] τ ((kM_word τ a1).1) (kM_word τ a1).2 := by
  refine z_entryi (cc := bM_word) (nL := 2) (by decide) rfl rfl (Nat.le_of_ble_eq_true rfl) (fun p e s m args below meth c S hR hlk ls H locs hl hw => ?_)
  have hx := S.1
  have hb := S.2.1
  have hl : lv_has ls 2 [(0, .ref g), (1, .int a1)] := hl
  refine lv_aload_n hx hb dM_word_0 rfl (lv_at hl 0 rfl) ?_
  refine lv_iload_n hx hb dM_word_1 rfl (lv_at hl 1 rfl) ?_
  refine s_calli S (cM_isWord l D a1) (qM_isWord S.2.2.2.2 ⟨Nat.le_of_ble_eq_true rfl, Nat.le_of_ble_eq_true rfl⟩) hw rfl hl.1 rfl (Nat.le_of_ble_eq_true rfl) dM_word_2 (fun H locs hw => ?_)
  refine z_calli S (cM_goes l D g qb qg qw cA τ (kM_isWord a1)) (qM_goes S.2.2.2.2 ⟨Nat.le_of_ble_eq_true rfl, Nat.le_of_ble_eq_true rfl⟩) hw rfl rfl rfl hl.1 rfl (Nat.le_of_ble_eq_true rfl) dM_word_5 (fun H locs hw => ?_)
  rw [show kM_word τ a1 = kM_word_c8 ((kM_goes τ (kM_isWord a1)).2) a1 ((kM_goes τ (kM_isWord a1)).1) from rfl]
  exact jM_word_c8 l D g qb qg qw cA S hR hlk ((kM_goes τ (kM_isWord a1)).2) a1 ((kM_goes τ (kM_isWord a1)).1) m_goes4 (lv_sub hl [0, 1] rfl) hw
def kM_set_c9 (τ : MS) (v1 : Int32) (v2 : Int32) (v3 : Int32) (s0 : Bool) : Int32 × MS :=
  if (bI s0) = 0 then
    ((0 : Int32), τ)
  else
    ((kM_get τ v1 v2), (kM_give τ v1 v2 v3))
def kM_set (τ : MS) (a1 : Int32) (a2 : Int32) (a3 : Int32) : Int32 × MS :=
  kM_set_c9 ((kM_goes τ (kM_isRegister a1 a2)).2) a1 a2 a3 ((kM_goes τ (kM_isRegister a1 a2)).1)
set_option maxRecDepth 100000 in
set_option maxHeartbeats 4000000 in
theorem jM_set_c9 (l : Launch) (D : va_G) (g qb qg qw : Nat) (cA : ClassId) {p : Program} {e : Env} {s : State} {m : MethodId} {args : Array Value} {below : List Frame} {meth : Method} {c : Code} (S : CallFix p m c bM_set 5 s args wAll RM) (hR : meth.sig.returnType = (some .int)) (hlk : meth.locks = false) {ls : Array Slot} {H : Heap} {locs : List Loc} (τ : MS) (v1 : Int32) (v2 : Int32) (v3 : Int32) (s0 : Bool) (hg : ¬ bI s0 = 0 → vp_in v1 8 ∧ vp_in v2 32) (hl : lv_has ls 5 [(0, .ref g), (1, .int v1), (2, .int v2), (3, .int v3)]) (hw : mH D g qb qg qw cA s τ H locs) : W p l e { frames := 2, cells := 0, slots := 0, locals := 44 } s m args below meth c H locs 0 0 (mQi D g qb qg qw cA below args s ((kM_set_c9 τ v1 v2 v3 s0).1) (kM_set_c9 τ v1 v2 v3 s0).2) (F0 m 9 ls [.int (bI s0)]) := by
  have hx := S.1
  have hb := S.2.1
  refine lv_if_ne (tgt := 14) hx hb dM_set_9 (by decide) (fun h_9 => ?_) (fun h_9 => ?_)
  · skip
    refine lv_aload_n hx hb dM_set_14 rfl (lv_at hl 0 rfl) ?_
    refine lv_iload_n hx hb dM_set_15 rfl (lv_at hl 1 rfl) ?_
    refine lv_iload_n hx hb dM_set_16 rfl (lv_at hl 2 rfl) ?_
    refine z_calli S (cM_get l D g qb qg qw cA τ v1 v2 (hg h_9).1 (hg h_9).2) (qM_get S.2.2.2.2 ⟨Nat.le_of_ble_eq_true rfl, Nat.le_of_ble_eq_true rfl⟩) hw rfl rfl rfl hl.1 rfl (Nat.le_of_ble_eq_true rfl) dM_set_17 (fun H locs hw => ?_)
    refine lv_istore (lv' := [(4, .int (kM_get τ v1 v2)), (0, .ref g), (1, .int v1), (2, .int v2), (3, .int v3)]) hx hb dM_set_20 hl (by decide) rfl (fun ls hl => ?_)
    refine lv_aload_n hx hb dM_set_22 rfl (lv_at hl 1 rfl) ?_
    refine lv_iload_n hx hb dM_set_23 rfl (lv_at hl 2 rfl) ?_
    refine lv_iload_n hx hb dM_set_24 rfl (lv_at hl 3 rfl) ?_
    refine lv_iload_n hx hb dM_set_25 rfl (lv_at hl 4 rfl) ?_
    refine z_callv S (cM_give l D g qb qg qw cA τ v1 v2 v3 (hg h_9).1 (hg h_9).2) (qM_give S.2.2.2.2 ⟨Nat.le_of_ble_eq_true rfl, Nat.le_of_ble_eq_true rfl⟩) hw rfl rfl rfl hl.1 rfl (Nat.le_of_ble_eq_true rfl) dM_set_26 (fun H locs hw => ?_)
    refine lv_iload hx hb dM_set_29 (lv_at hl 0 rfl) ?_
    exact z_iretP S hR hlk hw dM_set_31 (by rw [kM_set_c9, if_neg h_9])
  · skip
    refine lv_iconst (v := 0) hx hb dM_set_12 (by decide) ?_
    exact z_iretP S hR hlk hw dM_set_13 (by rw [kM_set_c9, if_pos h_9])
set_option maxRecDepth 100000 in
set_option maxHeartbeats 4000000 in
theorem cM_set (l : Launch) (D : va_G) (g qb qg qw : Nat) (cA : ClassId) (τ : MS) (a1 : Int32) (a2 : Int32) (a3 : Int32) : mMi l yM_set (.code yM_set bM_set 5 (some .int) :: wAll) { frames := 2, cells := 0, slots := 0, locals := 44 } D g qb qg qw cA [.ref g, .int a1, .int a2, .int a3] τ ((kM_set τ a1 a2 a3).1) (kM_set τ a1 a2 a3).2 := by
  refine z_entryi (cc := bM_set) (nL := 5) (by decide) rfl rfl (Nat.le_of_ble_eq_true rfl) (fun p e s m args below meth c S hR hlk ls H locs hl hw => ?_)
  have hx := S.1
  have hb := S.2.1
  have hl : lv_has ls 5 [(0, .ref g), (1, .int a1), (2, .int a2), (3, .int a3)] := hl
  refine lv_aload_n hx hb dM_set_0 rfl (lv_at hl 0 rfl) ?_
  refine lv_iload_n hx hb dM_set_1 rfl (lv_at hl 1 rfl) ?_
  refine lv_iload_n hx hb dM_set_2 rfl (lv_at hl 2 rfl) ?_
  refine s_calli S (cM_isRegister l D a1 a2) (qM_isRegister S.2.2.2.2 ⟨Nat.le_of_ble_eq_true rfl, Nat.le_of_ble_eq_true rfl⟩) hw rfl hl.1 rfl (Nat.le_of_ble_eq_true rfl) dM_set_3 (fun H locs hw => ?_)
  refine z_calli S (cM_goes l D g qb qg qw cA τ (kM_isRegister a1 a2)) (qM_goes S.2.2.2.2 ⟨Nat.le_of_ble_eq_true rfl, Nat.le_of_ble_eq_true rfl⟩) hw rfl rfl rfl hl.1 rfl (Nat.le_of_ble_eq_true rfl) dM_set_6 (fun H locs hw => ?_)
  rw [show kM_set τ a1 a2 a3 = kM_set_c9 ((kM_goes τ (kM_isRegister a1 a2)).2) a1 a2 a3 ((kM_goes τ (kM_isRegister a1 a2)).1) from rfl]
  exact jM_set_c9 l D g qb qg qw cA S hR hlk ((kM_goes τ (kM_isRegister a1 a2)).2) a1 a2 a3 ((kM_goes τ (kM_isRegister a1 a2)).1) m_goesR (lv_sub hl [0, 1, 2, 3] rfl) hw
def kM_register_c9 (τ : MS) (v1 : Int32) (v2 : Int32) (s0 : Bool) : Int32 × MS :=
  if (bI s0) = 0 then
    ((0 : Int32), τ)
  else
    ((kM_get τ v1 v2), τ)
def kM_register (τ : MS) (a1 : Int32) (a2 : Int32) : Int32 × MS :=
  kM_register_c9 ((kM_goes τ (kM_isRegister a1 a2)).2) a1 a2 ((kM_goes τ (kM_isRegister a1 a2)).1)
set_option maxRecDepth 100000 in
set_option maxHeartbeats 4000000 in
theorem jM_register_c9 (l : Launch) (D : va_G) (g qb qg qw : Nat) (cA : ClassId) {p : Program} {e : Env} {s : State} {m : MethodId} {args : Array Value} {below : List Frame} {meth : Method} {c : Code} (S : CallFix p m c bM_register 3 s args wAll RM) (hR : meth.sig.returnType = (some .int)) (hlk : meth.locks = false) {ls : Array Slot} {H : Heap} {locs : List Loc} (τ : MS) (v1 : Int32) (v2 : Int32) (s0 : Bool) (hg : ¬ bI s0 = 0 → vp_in v1 8 ∧ vp_in v2 32) (hl : lv_has ls 3 [(0, .ref g), (1, .int v1), (2, .int v2)]) (hw : mH D g qb qg qw cA s τ H locs) : W p l e { frames := 2, cells := 0, slots := 0, locals := 43 } s m args below meth c H locs 0 0 (mQi D g qb qg qw cA below args s ((kM_register_c9 τ v1 v2 s0).1) (kM_register_c9 τ v1 v2 s0).2) (F0 m 9 ls [.int (bI s0)]) := by
  have hx := S.1
  have hb := S.2.1
  refine lv_if_eq (tgt := 21) hx hb dM_register_9 (by decide) (fun h_9 => ?_) (fun h_9 => ?_)
  · skip
    refine lv_iconst (v := 0) hx hb dM_register_21 (by decide) ?_
    exact z_iretP S hR hlk hw dM_register_22 (by rw [kM_register_c9, if_pos h_9])
  · skip
    refine lv_aload_n hx hb dM_register_12 rfl (lv_at hl 0 rfl) ?_
    refine lv_iload_n hx hb dM_register_13 rfl (lv_at hl 1 rfl) ?_
    refine lv_iload_n hx hb dM_register_14 rfl (lv_at hl 2 rfl) ?_
    refine z_calli S (cM_get l D g qb qg qw cA τ v1 v2 (hg h_9).1 (hg h_9).2) (qM_get S.2.2.2.2 ⟨Nat.le_of_ble_eq_true rfl, Nat.le_of_ble_eq_true rfl⟩) hw rfl rfl rfl hl.1 rfl (Nat.le_of_ble_eq_true rfl) dM_register_15 (fun H locs hw => ?_)
    refine lv_goto (tgt := 22) hx hb dM_register_18 (by decide) ?_
    exact z_iretP S hR hlk hw dM_register_22 (by rw [kM_register_c9, if_neg h_9])
set_option maxRecDepth 100000 in
set_option maxHeartbeats 4000000 in
theorem cM_register (l : Launch) (D : va_G) (g qb qg qw : Nat) (cA : ClassId) (τ : MS) (a1 : Int32) (a2 : Int32) : mMi l yM_register (.code yM_register bM_register 3 (some .int) :: wAll) { frames := 2, cells := 0, slots := 0, locals := 43 } D g qb qg qw cA [.ref g, .int a1, .int a2] τ ((kM_register τ a1 a2).1) (kM_register τ a1 a2).2 := by
  refine z_entryi (cc := bM_register) (nL := 3) (by decide) rfl rfl (Nat.le_of_ble_eq_true rfl) (fun p e s m args below meth c S hR hlk ls H locs hl hw => ?_)
  have hx := S.1
  have hb := S.2.1
  have hl : lv_has ls 3 [(0, .ref g), (1, .int a1), (2, .int a2)] := hl
  refine lv_aload_n hx hb dM_register_0 rfl (lv_at hl 0 rfl) ?_
  refine lv_iload_n hx hb dM_register_1 rfl (lv_at hl 1 rfl) ?_
  refine lv_iload_n hx hb dM_register_2 rfl (lv_at hl 2 rfl) ?_
  refine s_calli S (cM_isRegister l D a1 a2) (qM_isRegister S.2.2.2.2 ⟨Nat.le_of_ble_eq_true rfl, Nat.le_of_ble_eq_true rfl⟩) hw rfl hl.1 rfl (Nat.le_of_ble_eq_true rfl) dM_register_3 (fun H locs hw => ?_)
  refine z_calli S (cM_goes l D g qb qg qw cA τ (kM_isRegister a1 a2)) (qM_goes S.2.2.2.2 ⟨Nat.le_of_ble_eq_true rfl, Nat.le_of_ble_eq_true rfl⟩) hw rfl rfl rfl hl.1 rfl (Nat.le_of_ble_eq_true rfl) dM_register_6 (fun H locs hw => ?_)
  rw [show kM_register τ a1 a2 = kM_register_c9 ((kM_goes τ (kM_isRegister a1 a2)).2) a1 a2 ((kM_goes τ (kM_isRegister a1 a2)).1) from rfl]
  exact jM_register_c9 l D g qb qg qw cA S hR hlk ((kM_goes τ (kM_isRegister a1 a2)).2) a1 a2 ((kM_goes τ (kM_isRegister a1 a2)).1) m_goesR (lv_sub hl [0, 1, 2] rfl) hw
