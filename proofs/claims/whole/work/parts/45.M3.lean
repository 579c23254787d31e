/-! contracts of WindowCoreModel: laid by my program -/
def kM_shift_c59 (τ : MS) (s0 : Int32) (s1 : Int32) (s2 : Int32) : MS :=
  (kM_give τ s2 s1 s0)
def kM_shift (τ : MS) : MS :=
  if (τ.1 27) = (37 : Int32) then
    kM_shift_c59 τ ((τ.1 25) <<< (((τ.1 26) &&& (31 : Int32)) &&& 31)) (τ.1 24) (τ.1 4)
  else
    if (τ.1 27) = (38 : Int32) then
      kM_shift_c59 τ (uS (τ.1 25) ((τ.1 26) &&& (31 : Int32))) (τ.1 24) (τ.1 4)
    else
      kM_shift_c59 τ ((τ.1 25) >>> (((τ.1 26) &&& (31 : Int32)) &&& 31)) (τ.1 24) (τ.1 4)
set_option maxRecDepth 100000 in
set_option maxHeartbeats 4000000 in
theorem jM_shift_c59 (l : Launch) (D : va_G) (g qb qg qw : Nat) (cA : ClassId) {p : Program} {e : Env} {s : State} {m : MethodId} {args : Array Value} {below : List Frame} {meth : Method} {c : Code} (S : CallFix p m c bM_shift 2 s args wAll RM) (hR : meth.sig.returnType = none) (hlk : meth.locks = false) {ls : Array Slot} {H : Heap} {locs : List Loc} (τ : MS) (s0 : Int32) (s1 : Int32) (s2 : Int32) (hok : mOK τ) (hs2 : vp_in s2 8) (hs1 : vp_in s1 32) (hl : lv_has ls 2 []) (hw : mH D g qb qg qw cA s τ H locs) : W p l e { frames := 2, cells := 0, slots := 0, locals := 44 } s m args below meth c H locs 0 0 (mQv D g qb qg qw cA below args s (kM_shift_c59 τ s0 s1 s2)) (F0 m 59 ls [.int s0, .int s1, .int s2, .ref g]) := by
  have hx := S.1
  have hb := S.2.1
  refine z_callv S (cM_give l D g qb qg qw cA τ s2 s1 s0 hs2 hs1) (qM_give S.2.2.2.2 ⟨Nat.le_of_ble_eq_true rfl, Nat.le_of_ble_eq_true rfl⟩) hw rfl rfl rfl hl.1 rfl (Nat.le_of_ble_eq_true rfl) dM_shift_59 (fun H locs hw => ?_)
  exact z_vret S hR hlk hw dM_shift_62 rfl
set_option maxRecDepth 100000 in
set_option maxHeartbeats 4000000 in
theorem cM_shift (l : Launch) (D : va_G) (g qb qg qw : Nat) (cA : ClassId) (τ : MS) (hok : mOK τ) : mMv l yM_shift (.code yM_shift bM_shift 2 none :: wAll) { frames := 2, cells := 0, slots := 0, locals := 44 } D g qb qg qw cA [.ref g] τ (kM_shift τ) := by
  refine z_entryv (cc := bM_shift) (nL := 2) (by decide) rfl rfl (Nat.le_of_ble_eq_true rfl) (fun p e s m args below meth c S hR hlk ls H locs hl hw => ?_)
  have hx := S.1
  have hb := S.2.1
  have hl : lv_has ls 2 [(0, .ref g)] := hl
  refine lv_aload_n hx hb dM_shift_0 rfl (lv_at hl 0 rfl) ?_
  refine mget_b S hw dM_shift_1 ?_
  refine lv_bipush (v := 31) hx hb dM_shift_4 (by decide) ?_
  refine lv_iand hx hb dM_shift_6 ?_
  refine lv_istore_n (lv' := [(1, .int ((τ.1 26) &&& (31 : Int32))), (0, .ref g)]) hx hb dM_shift_7 rfl hl (by decide) rfl (fun ls hl => ?_)
  refine lv_aload_n hx hb dM_shift_8 rfl (lv_at hl 1 rfl) ?_
  refine lv_aload_n hx hb dM_shift_9 rfl (lv_at hl 1 rfl) ?_
  refine mget_window S hw dM_shift_10 ?_
  refine lv_aload_n hx hb dM_shift_13 rfl (lv_at hl 1 rfl) ?_
  refine mget_d S hw dM_shift_14 ?_
  refine lv_aload_n hx hb dM_shift_17 rfl (lv_at hl 1 rfl) ?_
  refine mget_order S hw dM_shift_18 ?_
  refine lv_bipush (v := 37) hx hb dM_shift_21 (by decide) ?_
  refine lv_icmp_ne (tgt := 35) hx hb dM_shift_23 (by decide) (fun h_23 => ?_) (fun h_23 => ?_)
  · skip
    refine lv_aload_n hx hb dM_shift_35 rfl (lv_at hl 1 rfl) ?_
    refine mget_order S hw dM_shift_36 ?_
    refine lv_bipush (v := 38) hx hb dM_shift_39 (by decide) ?_
    refine lv_icmp_ne (tgt := 53) hx hb dM_shift_41 (by decide) (fun h_41 => ?_) (fun h_41 => ?_)
    · skip
      refine lv_aload_n hx hb dM_shift_53 rfl (lv_at hl 1 rfl) ?_
      refine mget_a S hw dM_shift_54 ?_
      refine lv_iload_n hx hb dM_shift_57 rfl (lv_at hl 0 rfl) ?_
      refine lv_ishr hx hb dM_shift_58 ?_
      rw [show kM_shift τ = kM_shift_c59 τ ((τ.1 25) >>> (((τ.1 26) &&& (31 : Int32)) &&& 31)) (τ.1 24) (τ.1 4) from (by rw [kM_shift, if_neg h_23, if_neg h_41])]
      exact jM_shift_c59 l D g qb qg qw cA S hR hlk τ ((τ.1 25) >>> (((τ.1 26) &&& (31 : Int32)) &&& 31)) (τ.1 24) (τ.1 4) hok hok.1 hok.2 (lv_sub hl [] rfl) hw
    · skip
      refine lv_aload_n hx hb dM_shift_44 rfl (lv_at hl 1 rfl) ?_
      refine mget_a S hw dM_shift_45 ?_
      refine lv_iload_n hx hb dM_shift_48 rfl (lv_at hl 0 rfl) ?_
      refine lv_iushr (v := (uS (τ.1 25) ((τ.1 26) &&& (31 : Int32)))) hx hb dM_shift_49 rfl ?_
      refine lv_goto (tgt := 59) hx hb dM_shift_50 (by decide) ?_
      rw [show kM_shift τ = kM_shift_c59 τ (uS (τ.1 25) ((τ.1 26) &&& (31 : Int32))) (τ.1 24) (τ.1 4) from (by rw [kM_shift, if_neg h_23, if_pos h_41])]
      exact jM_shift_c59 l D g qb qg qw cA S hR hlk τ (uS (τ.1 25) ((τ.1 26) &&& (31 : Int32))) (τ.1 24) (τ.1 4) hok hok.1 hok.2 (lv_sub hl [] rfl) hw
  · skip
    refine lv_aload_n hx hb dM_shift_26 rfl (lv_at hl 1 rfl) ?_
    refine mget_a S hw dM_shift_27 ?_
    refine lv_iload_n hx hb dM_shift_30 rfl (lv_at hl 0 rfl) ?_
    refine lv_ishl hx hb dM_shift_31 ?_
    refine lv_goto (tgt := 59) hx hb dM_shift_32 (by decide) ?_
    rw [show kM_shift τ = kM_shift_c59 τ ((τ.1 25) <<< (((τ.1 26) &&& (31 : Int32)) &&& 31)) (τ.1 24) (τ.1 4) from (by rw [kM_shift, if_pos h_23])]
    exact jM_shift_c59 l D g qb qg qw cA S hR hlk τ ((τ.1 25) <<< (((τ.1 26) &&& (31 : Int32)) &&& 31)) (τ.1 24) (τ.1 4) hok hok.1 hok.2 (lv_sub hl [] rfl) hw
def kM_controls_c64 (τ : MS) (s0 : Int32) (s1 : Int32) (s2 : Int32) : MS :=
  (kM_give τ s2 s1 s0)
def kM_controls (τ : MS) : MS :=
  if (49 : Int32) ≤ (τ.1 27) then
    if (τ.1 27) = (49 : Int32) then
      (kM_setStatus τ ((τ.1 25) ^^^ (τ.1 26)))
    else
      if (τ.1 27) = (50 : Int32) then
        (mI τ 13 (((τ.1 25) ^^^ (τ.1 26)) &&& (255 : Int32)))
      else
        (mI τ 14 (((τ.1 25) ^^^ (τ.1 26)) &&& (-4096 : Int32)))
  else
    if (τ.1 27) = (41 : Int32) then
      kM_controls_c64 τ (kM_status τ) (τ.1 24) (τ.1 4)
    else
      if (τ.1 27) = (42 : Int32) then
        kM_controls_c64 τ (τ.1 13) (τ.1 24) (τ.1 4)
      else
        kM_controls_c64 τ (kM_table τ) (τ.1 24) (τ.1 4)
set_option maxRecDepth 100000 in
set_option maxHeartbeats 4000000 in
theorem jM_controls_c64 (l : Launch) (D : va_G) (g qb qg qw : Nat) (cA : ClassId) {p : Program} {e : Env} {s : State} {m : MethodId} {args : Array Value} {below : List Frame} {meth : Method} {c : Code} (S : CallFix p m c bM_controls 2 s args wAll RM) (hR : meth.sig.returnType = none) (hlk : meth.locks = false) {ls : Array Slot} {H : Heap} {locs : List Loc} (τ : MS) (s0 : Int32) (s1 : Int32) (s2 : Int32) (hok : mOK τ) (hs2 : vp_in s2 8) (hs1 : vp_in s1 32) (hl : lv_has ls 2 []) (hw : mH D g qb qg qw cA s τ H locs) : W p l e { frames := 2, cells := 0, slots := 0, locals := 44 } s m args below meth c H locs 0 0 (mQv D g qb qg qw cA below args s (kM_controls_c64 τ s0 s1 s2)) (F0 m 64 ls [.int s0, .int s1, .int s2, .ref g]) := by
  have hx := S.1
  have hb := S.2.1
  refine z_callv S (cM_give l D g qb qg qw cA τ s2 s1 s0 hs2 hs1) (qM_give S.2.2.2.2 ⟨Nat.le_of_ble_eq_true rfl, Nat.le_of_ble_eq_true rfl⟩) hw rfl rfl rfl hl.1 rfl (Nat.le_of_ble_eq_true rfl) dM_controls_64 (fun H locs hw => ?_)
  refine lv_goto (tgt := 117) hx hb dM_controls_67 (by decide) ?_
  exact z_vret S hR hlk hw dM_controls_117 rfl
set_option maxRecDepth 100000 in
set_option maxHeartbeats 4000000 in
theorem cM_controls (l : Launch) (D : va_G) (g qb qg qw : Nat) (cA : ClassId) (τ : MS) (hok : mOK τ) : mMv l yM_controls (.code yM_controls bM_controls 2 none :: wAll) { frames := 2, cells := 0, slots := 0, locals := 44 } D g qb qg qw cA [.ref g] τ (kM_controls τ) := by
  refine z_entryv (cc := bM_controls) (nL := 2) (by decide) rfl rfl (Nat.le_of_ble_eq_true rfl) (fun p e s m args below meth c S hR hlk ls H locs hl hw => ?_)
  have hx := S.1
  have hb := S.2.1
  have hl : lv_has ls 2 [(0, .ref g)] := hl
  refine lv_aload_n hx hb dM_controls_0 rfl (lv_at hl 0 rfl) ?_
  refine mget_a S hw dM_controls_1 ?_
  refine lv_aload_n hx hb dM_controls_4 rfl (lv_at hl 0 rfl) ?_
  refine mget_b S hw dM_controls_5 ?_
  refine lv_ixor hx hb dM_controls_8 ?_
  refine lv_istore_n (lv' := [(1, .int ((τ.1 25) ^^^ (τ.1 26))), (0, .ref g)]) hx hb dM_controls_9 rfl hl (by decide) rfl (fun ls hl => ?_)
  refine lv_aload_n hx hb dM_controls_10 rfl (lv_at hl 1 rfl) ?_
  refine mget_order S hw dM_controls_11 ?_
  refine lv_bipush (v := 49) hx hb dM_controls_14 (by decide) ?_
  refine lv_icmp_ge (tgt := 70) hx hb dM_controls_16 (by decide) (fun h_16 => ?_) (fun h_16 => ?_)
  · skip
    refine lv_aload_n hx hb dM_controls_70 rfl (lv_at hl 1 rfl) ?_
    refine mget_order S hw dM_controls_71 ?_
    refine lv_bipush (v := 49) hx hb dM_controls_74 (by decide) ?_
    refine lv_icmp_ne (tgt := 87) hx hb dM_controls_76 (by decide) (fun h_76 => ?_) (fun h_76 => ?_)
    · skip
      refine lv_aload_n hx hb dM_controls_87 rfl (lv_at hl 1 rfl) ?_
      refine mget_order S hw dM_controls_88 ?_
      refine lv_bipush (v := 50) hx hb dM_controls_91 (by decide) ?_
      refine lv_icmp_ne (tgt := 108) hx hb dM_controls_93 (by decide) (fun h_93 => ?_) (fun h_93 => ?_)
      · skip
        refine lv_aload_n hx hb dM_controls_108 rfl (lv_at hl 1 rfl) ?_
        refine lv_iload_n hx hb dM_controls_109 rfl (lv_at hl 0 rfl) ?_
        refine lv_sipush (v := -4096) hx hb dM_controls_110 (by decide) ?_
        refine lv_iand hx hb dM_controls_113 ?_
        refine mput_base S hw dM_controls_114 (fun H locs hw => ?_)
        exact z_vret S hR hlk hw dM_controls_117 (by rw [kM_controls, if_pos h_16, if_neg h_76, if_neg h_93])
      · skip
        refine lv_aload_n hx hb dM_controls_96 rfl (lv_at hl 1 rfl) ?_
        refine lv_iload_n hx hb dM_controls_97 rfl (lv_at hl 0 rfl) ?_
        refine lv_sipush (v := 255) hx hb dM_controls_98 (by decide) ?_
        refine lv_iand hx hb dM_controls_101 ?_
        refine mput_invalid S hw dM_controls_102 (fun H locs hw => ?_)
        refine lv_goto (tgt := 117) hx hb dM_controls_105 (by decide) ?_
        exact z_vret S hR hlk hw dM_controls_117 (by rw [kM_controls, if_pos h_16, if_neg h_76, if_pos h_93])
    · skip
      refine lv_aload_n hx hb dM_controls_79 rfl (lv_at hl 1 rfl) ?_
      refine lv_iload_n hx hb dM_controls_80 rfl (lv_at hl 0 rfl) ?_
      refine z_callv S (cM_setStatus l D g qb qg qw cA τ ((τ.1 25) ^^^ (τ.1 26))) (qM_setStatus S.2.2.2.2 ⟨Nat.le_of_ble_eq_true rfl, Nat.le_of_ble_eq_true rfl⟩) hw rfl rfl rfl hl.1 rfl (Nat.le_of_ble_eq_true rfl) dM_controls_81 (fun H locs hw => ?_)
      refine lv_goto (tgt := 117) hx hb dM_controls_84 (by decide) ?_
      exact z_vret S hR hlk hw dM_controls_117 (by rw [kM_controls, if_pos h_16, if_pos h_76])
  · skip
    refine lv_aload_n hx hb dM_controls_19 rfl (lv_at hl 1 rfl) ?_
    refine lv_aload_n hx hb dM_controls_20 rfl (lv_at hl 1 rfl) ?_
    refine mget_window S hw dM_controls_21 ?_
    refine lv_aload_n hx hb dM_controls_24 rfl (lv_at hl 1 rfl) ?_
    refine mget_d S hw dM_controls_25 ?_
    refine lv_aload_n hx hb dM_controls_28 rfl (lv_at hl 1 rfl) ?_
    refine mget_order S hw dM_controls_29 ?_
    refine lv_bipush (v := 41) hx hb dM_controls_32 (by decide) ?_
    refine lv_icmp_ne (tgt := 44) hx hb dM_controls_34 (by decide) (fun h_34 => ?_) (fun h_34 => ?_)
    · skip
      refine lv_aload_n hx hb dM_controls_44 rfl (lv_at hl 1 rfl) ?_
      refine mget_order S hw dM_controls_45 ?_
      refine lv_bipush (v := 42) hx hb dM_controls_48 (by decide) ?_
      refine lv_icmp_ne (tgt := 60) hx hb dM_controls_50 (by decide) (fun h_50 => ?_) (fun h_50 => ?_)
      · skip
        refine lv_aload_n hx hb dM_controls_60 rfl (lv_at hl 1 rfl) ?_
        refine z_calli S (cM_table l D g qb qg qw cA τ) (qM_table S.2.2.2.2 ⟨Nat.le_of_ble_eq_true rfl, Nat.le_of_ble_eq_true rfl⟩) hw rfl rfl rfl hl.1 rfl (Nat.le_of_ble_eq_true rfl) dM_controls_61 (fun H locs hw => ?_)
        rw [show kM_controls τ = kM_controls_c64 τ (kM_table τ) (τ.1 24) (τ.1 4) from (by rw [kM_controls, if_neg h_16, if_neg h_34, if_neg h_50])]
        exact jM_controls_c64 l D g qb qg qw cA S hR hlk τ (kM_table τ) (τ.1 24) (τ.1 4) hok hok.1 hok.2 (lv_sub hl [] rfl) hw
      · skip
        refine lv_aload_n hx hb dM_controls_53 rfl (lv_at hl 1 rfl) ?_
        refine mget_invalid S hw dM_controls_54 ?_
        refine lv_goto (tgt := 64) hx hb dM_controls_57 (by decide) ?_
        rw [show kM_controls τ = kM_controls_c64 τ (τ.1 13) (τ.1 24) (τ.1 4) from (by rw [kM_controls, if_neg h_16, if_neg h_34, if_pos h_50])]
        exact jM_controls_c64 l D g qb qg qw cA S hR hlk τ (τ.1 13) (τ.1 24) (τ.1 4) hok hok.1 hok.2 (lv_sub hl [] rfl) hw
    · skip
      refine lv_aload_n hx hb dM_controls_37 rfl (lv_at hl 1 rfl) ?_
      refine z_calli S (cM_status l D g qb qg qw cA τ) (qM_status S.2.2.2.2 ⟨Nat.le_of_ble_eq_true rfl, Nat.le_of_ble_eq_true rfl⟩) hw rfl rfl rfl hl.1 rfl (Nat.le_of_ble_eq_true rfl) dM_controls_38 (fun H locs hw => ?_)
      refine lv_goto (tgt := 64) hx hb dM_controls_41 (by decide) ?_
      rw [show kM_controls τ = kM_controls_c64 τ (kM_status τ) (τ.1 24) (τ.1 4) from (by rw [kM_controls, if_neg h_16, if_pos h_34])]
      exact jM_controls_c64 l D g qb qg qw cA S hR hlk τ (kM_status τ) (τ.1 24) (τ.1 4) hok hok.1 hok.2 (lv_sub hl [] rfl) hw
def kM_simple_c144 (τ : MS) (s0 : Bool) : MS :=
  (mB τ 18 s0)
def kM_simple_c143 (τ : MS) : MS :=
  kM_simple_c144 τ false
def kM_simple_c126 (τ : MS) : MS :=
  if (((τ.1 23) >>> ((29 : Int32) &&& 31)) &&& (1 : Int32)) = (1 : Int32) then
    kM_simple_c144 τ true
  else
    kM_simple_c143 τ
def kM_simple_c115 (τ : MS) (v2 : Int32) (v3 : Bool) : MS :=
  if (bI v3) = 0 then
    kM_simple_c126 τ
  else
    if v2 = (8 : Int32) then
      kM_simple_c126 τ
    else
      kM_simple_c143 τ
def kM_simple_c112 (τ : MS) (v2 : Int32) (v3 : Bool) (s0 : Int32) : MS :=
  kM_simple_c115 (mI τ 28 s0) v2 v3
def kM_simple_c19 (τ : MS) : MS :=
  (mI τ 28 ((τ.1 16) + ((τ.1 23) <<< ((2 : Int32) &&& 31))))
def kM_simple (τ : MS) (a1 : Int32) : MS :=
  if a1 = (1 : Int32) then
    kM_simple_c19 (kM_give τ (τ.1 4) (15 : Int32) (τ.1 16))
  else
    if (τ.1 27) = (4 : Int32) then
      (kM_give τ (τ.1 4) (τ.1 24) ((τ.1 23) <<< ((10 : Int32) &&& 31)))
    else
      if (bI (kM_holds τ (((τ.1 23) >>> ((25 : Int32) &&& 31)) &&& (15 : Int32)))) = 0 then
        kM_simple_c112 τ (((τ.1 23) >>> ((25 : Int32) &&& 31)) &&& (15 : Int32)) (kM_holds τ (((τ.1 23) >>> ((25 : Int32) &&& 31)) &&& (15 : Int32))) (τ.1 28)
      else
        kM_simple_c112 τ (((τ.1 23) >>> ((25 : Int32) &&& 31)) &&& (15 : Int32)) (kM_holds τ (((τ.1 23) >>> ((25 : Int32) &&& 31)) &&& (15 : Int32))) ((τ.1 16) + ((4 : Int32) * (kM_signed (τ.1 23) (22 : Int32))))
set_option maxRecDepth 100000 in
set_option maxHeartbeats 4000000 in
theorem jM_simple_c144 (l : Launch) (D : va_G) (g qb qg qw : Nat) (cA : ClassId) {p : Program} {e : Env} {s : State} {m : MethodId} {args : Array Value} {below : List Frame} {meth : Method} {c : Code} (S : CallFix p m c bM_simple 4 s args wAll RM) (hR : meth.sig.returnType = none) (hlk : meth.locks = false) {ls : Array Slot} {H : Heap} {locs : List Loc} (τ : MS) (s0 : Bool) (hok : mOK τ) (hl : lv_has ls 4 []) (hw : mH D g qb qg qw cA s τ H locs) : W p l e { frames := 2, cells := 0, slots := 0, locals := 44 } s m args below meth c H locs 0 0 (mQv D g qb qg qw cA below args s (kM_simple_c144 τ s0)) (F0 m 144 ls [.int (bI s0), .ref g]) := by
  have hx := S.1
  have hb := S.2.1
  refine mput_annulled (v := s0) S hw dM_simple_144 (fun H locs hw => ?_)
  exact z_vret S hR hlk hw dM_simple_147 rfl
set_option maxRecDepth 100000 in
set_option maxHeartbeats 4000000 in
theorem jM_simple_c143 (l : Launch) (D : va_G) (g qb qg qw : Nat) (cA : ClassId) {p : Program} {e : Env} {s : State} {m : MethodId} {args : Array Value} {below : List Frame} {meth : Method} {c : Code} (S : CallFix p m c bM_simple 4 s args wAll RM) (hR : meth.sig.returnType = none) (hlk : meth.locks = false) {ls : Array Slot} {H : Heap} {locs : List Loc} (τ : MS) (hok : mOK τ) (hl : lv_has ls 4 []) (hw : mH D g qb qg qw cA s τ H locs) : W p l e { frames := 2, cells := 0, slots := 0, locals := 44 } s m args below meth c H locs 0 0 (mQv D g qb qg qw cA below args s (kM_simple_c143 τ)) (F0 m 143 ls [.ref g]) := by
  have hx := S.1
  have hb := S.2.1
  refine lv_iconst (v := 0) hx hb dM_simple_143 (by decide) ?_
  rw [show kM_simple_c143 τ = kM_simple_c144 τ false from rfl]
  exact jM_simple_c144 l D g qb qg qw cA S hR hlk τ false hok (lv_sub hl [] rfl) hw
set_option maxRecDepth 100000 in
set_option maxHeartbeats 4000000 in
theorem jM_simple_c126 (l : Launch) (D : va_G) (g qb qg qw : Nat) (cA : ClassId) {p : Program} {e : Env} {s : State} {m : MethodId} {args : Array Value} {below : List Frame} {meth : Method} {c : Code} (S : CallFix p m c bM_simple 4 s args wAll RM) (hR : meth.sig.returnType = none) (hlk : meth.locks = false) {ls : Array Slot} {H : Heap} {locs : List Loc} (τ : MS) (hok : mOK τ) (hl : lv_has ls 4 [(0, .ref g)]) (hw : mH D g qb qg qw cA s τ H locs) : W p l e { frames := 2, cells := 0, slots := 0, locals := 44 } s m args below meth c H locs 0 0 (mQv D g qb qg qw cA below args s (kM_simple_c126 τ)) (F0 m 126 ls [.ref g]) := by
  have hx := S.1
  have hb := S.2.1
  refine lv_aload_n hx hb dM_simple_126 rfl (lv_at hl 0 rfl) ?_
  refine mget_instruction S hw dM_simple_127 ?_
  refine lv_bipush (v := 29) hx hb dM_simple_130 (by decide) ?_
  refine lv_ishr hx hb dM_simple_132 ?_
  refine lv_iconst (v := 1) hx hb dM_simple_133 (by decide) ?_
  refine lv_iand hx hb dM_simple_134 ?_
  refine lv_iconst (v := 1) hx hb dM_simple_135 (by decide) ?_
  refine lv_icmp_ne (tgt := 143) hx hb dM_simple_136 (by decide) (fun h_136 => ?_) (fun h_136 => ?_)
  · skip
    rw [show kM_simple_c126 τ = kM_simple_c143 τ from (by rw [kM_simple_c126, if_neg h_136])]
    exact jM_simple_c143 l D g qb qg qw cA S hR hlk τ hok (lv_sub hl [] rfl) hw
  · skip
    refine lv_iconst (v := 1) hx hb dM_simple_139 (by decide) ?_
    refine lv_goto (tgt := 144) hx hb dM_simple_140 (by decide) ?_
    rw [show kM_simple_c126 τ = kM_simple_c144 τ true from (by rw [kM_simple_c126, if_pos h_136])]
    exact jM_simple_c144 l D g qb qg qw cA S hR hlk τ true hok (lv_sub hl [] rfl) hw
set_option maxRecDepth 100000 in
set_option maxHeartbeats 4000000 in
theorem jM_simple_c115 (l : Launch) (D : va_G) (g qb qg qw : Nat) (cA : ClassId) {p : Program} {e : Env} {s : State} {m : MethodId} {args : Array Value} {below : List Frame} {meth : Method} {c : Code} (S : CallFix p m c bM_simple 4 s args wAll RM) (hR : meth.sig.returnType = none) (hlk : meth.locks = false) {ls : Array Slot} {H : Heap} {locs : List Loc} (τ : MS) (v2 : Int32) (v3 : Bool) (hok : mOK τ) (hl : lv_has ls 4 [(0, .ref g), (2, .int v2), (3, .int (bI v3))]) (hw : mH D g qb qg qw cA s τ H locs) : W p l e { frames := 2, cells := 0, slots := 0, locals := 44 } s m args below meth c H locs 0 0 (mQv D g qb qg qw cA below args s (kM_simple_c115 τ v2 v3)) (F0 m 115 ls []) := by
  have hx := S.1
  have hb := S.2.1
  refine lv_aload_n hx hb dM_simple_115 rfl (lv_at hl 0 rfl) ?_
  refine lv_iload_n hx hb dM_simple_116 rfl (lv_at hl 2 rfl) ?_
  refine lv_if_eq (tgt := 126) hx hb dM_simple_117 (by decide) (fun h_117 => ?_) (fun h_117 => ?_)
  · skip
    rw [show kM_simple_c115 τ v2 v3 = kM_simple_c126 τ from (by rw [kM_simple_c115, if_pos h_117])]
    exact jM_simple_c126 l D g qb qg qw cA S hR hlk τ hok (lv_sub hl [0] rfl) hw
  · skip
    refine lv_iload_n hx hb dM_simple_120 rfl (lv_at hl 1 rfl) ?_
    refine lv_bipush (v := 8) hx hb dM_simple_121 (by decide) ?_
    refine lv_icmp_ne (tgt := 143) hx hb dM_simple_123 (by decide) (fun h_123 => ?_) (fun h_123 => ?_)
    · skip
      rw [show kM_simple_c115 τ v2 v3 = kM_simple_c143 τ from (by rw [kM_simple_c115, if_neg h_117, if_neg h_123])]
      exact jM_simple_c143 l D g qb qg qw cA S hR hlk τ hok (lv_sub hl [] rfl) hw
    · skip
      rw [show kM_simple_c115 τ v2 v3 = kM_simple_c126 τ from (by rw [kM_simple_c115, if_neg h_117, if_pos h_123])]
      exact jM_simple_c126 l D g qb qg qw cA S hR hlk τ hok (lv_sub hl [0] rfl) hw
set_option maxRecDepth 100000 in
set_option maxHeartbeats 4000000 in
theorem jM_simple_c112 (l : Launch) (D : va_G) (g qb qg qw : Nat) (cA : ClassId) {p : Program} {e : Env} {s : State} {m : MethodId} {args : Array Value} {below : List Frame} {meth : Method} {c : Code} (S : CallFix p m c bM_simple 4 s args wAll RM) (hR : meth.sig.returnType = none) (hlk : meth.locks = false) {ls : Array Slot} {H : Heap} {locs : List Loc} (τ : MS) (v2 : Int32) (v3 : Bool) (s0 : Int32) (hok : mOK τ) (hl : lv_has ls 4 [(0, .ref g), (2, .int v2), (3, .int (bI v3))]) (hw : mH D g qb qg qw cA s τ H locs) : W p l e { frames := 2, cells := 0, slots := 0, locals := 44 } s m args below meth c H locs 0 0 (mQv D g qb qg qw cA below args s (kM_simple_c112 τ v2 v3 s0)) (F0 m 112 ls [.int s0, .ref g]) := by
  have hx := S.1
  have hb := S.2.1
  refine mput_target S hw dM_simple_112 (fun H locs hw => ?_)
  rw [show kM_simple_c112 τ v2 v3 s0 = kM_simple_c115 (mI τ 28 s0) v2 v3 from rfl]
  exact jM_simple_c115 l D g qb qg qw cA S hR hlk (mI τ 28 s0) v2 v3 hok (lv_sub hl [0, 1, 2] rfl) hw
set_option maxRecDepth 100000 in
set_option maxHeartbeats 4000000 in
theorem jM_simple_c19 (l : Launch) (D : va_G) (g qb qg qw : Nat) (cA : ClassId) {p : Program} {e : Env} {s : State} {m : MethodId} {args : Array Value} {below : List Frame} {meth : Method} {c : Code} (S : CallFix p m c bM_simple 4 s args wAll RM) (hR : meth.sig.returnType = none) (hlk : meth.locks = false) {ls : Array Slot} {H : Heap} {locs : List Loc} (τ : MS) (hok : mOK τ) (hl : lv_has ls 4 [(0, .ref g)]) (hw : mH D g qb qg qw cA s τ H locs) : W p l e { frames := 2, cells := 0, slots := 0, locals := 44 } s m args below meth c H locs 0 0 (mQv D g qb qg qw cA below args s (kM_simple_c19 τ)) (F0 m 19 ls []) := by
  have hx := S.1
  have hb := S.2.1
  refine lv_aload_n hx hb dM_simple_19 rfl (lv_at hl 0 rfl) ?_
  refine lv_aload_n hx hb dM_simple_20 rfl (lv_at hl 0 rfl) ?_
  refine mget_place S hw dM_simple_21 ?_
  refine lv_aload_n hx hb dM_simple_24 rfl (lv_at hl 0 rfl) ?_
  refine mget_instruction S hw dM_simple_25 ?_
  refine lv_iconst (v := 2) hx hb dM_simple_28 (by decide) ?_
  refine lv_ishl hx hb dM_simple_29 ?_
  refine lv_iadd hx hb dM_simple_30 ?_
  refine mput_target S hw dM_simple_31 (fun H locs hw => ?_)
  refine lv_goto (tgt := 147) hx hb dM_simple_34 (by decide) ?_
  exact z_vret S hR hlk hw dM_simple_147 rfl
set_option maxRecDepth 100000 in
set_option maxHeartbeats 4000000 in
theorem cM_simple (l : Launch) (D : va_G) (g qb qg qw : Nat) (cA : ClassId) (τ : MS) (a1 : Int32) (hok : mOK τ) : mMv l yM_simple (.code yM_simple bM_simple 4 none :: wAll) { frames := 2, cells := 0, slots := 0, locals := 44 } D g qb qg qw cA [.ref g, .int a1] τ (kM_simple τ a1) := by
  refine z_entryv (cc := bM_simple) (nL := 4) (by decide) rfl rfl (Nat.le_of_ble_eq_true rfl) (fun p e s m args below meth c S hR hlk ls H locs hl hw => ?_)
  have hx := S.1
  have hb := S.2.1
  have hl : lv_has ls 4 [(0, .ref g), (1, .int a1)] := hl
  refine lv_iload_n hx hb dM_simple_0 rfl (lv_at hl 1 rfl) ?_
  refine lv_iconst (v := 1) hx hb dM_simple_1 (by decide) ?_
  refine lv_icmp_ne (tgt := 37) hx hb dM_simple_2 (by decide) (fun h_2 => ?_) (fun h_2 => ?_)
  · skip
    refine lv_aload_n hx hb dM_simple_37 rfl (lv_at hl 0 rfl) ?_
    refine mget_order S hw dM_simple_38 ?_
    refine lv_iconst (v := 4) hx hb dM_simple_41 (by decide) ?_
    refine lv_icmp_ne (tgt := 67) hx hb dM_simple_42 (by decide) (fun h_42 => ?_) (fun h_42 => ?_)
    · skip
      refine lv_aload_n hx hb dM_simple_67 rfl (lv_at hl 0 rfl) ?_
      refine mget_instruction S hw dM_simple_68 ?_
      refine lv_bipush (v := 25) hx hb dM_simple_71 (by decide) ?_
      refine lv_ishr hx hb dM_simple_73 ?_
      refine lv_bipush (v := 15) hx hb dM_simple_74 (by decide) ?_
      refine lv_iand hx hb dM_simple_76 ?_
      refine lv_istore_n (lv' := [(2, .int (((τ.1 23) >>> ((25 : Int32) &&& 31)) &&& (15 : Int32))), (0, .ref g), (1, .int a1)]) hx hb dM_simple_77 rfl hl (by decide) rfl (fun ls hl => ?_)
      refine lv_aload_n hx hb dM_simple_78 rfl (lv_at hl 1 rfl) ?_
      refine lv_iload_n hx hb dM_simple_79 rfl (lv_at hl 0 rfl) ?_
      refine z_calli S (cM_holds l D g qb qg qw cA τ (((τ.1 23) >>> ((25 : Int32) &&& 31)) &&& (15 : Int32))) (qM_holds S.2.2.2.2 ⟨Nat.le_of_ble_eq_true rfl, Nat.le_of_ble_eq_true rfl⟩) hw rfl rfl rfl hl.1 rfl (Nat.le_of_ble_eq_true rfl) dM_simple_80 (fun H locs hw => ?_)
      refine lv_istore_n (lv' := [(3, .int (bI (kM_holds τ (((τ.1 23) >>> ((25 : Int32) &&& 31)) &&& (15 : Int32))))), (2, .int (((τ.1 23) >>> ((25 : Int32) &&& 31)) &&& (15 : Int32))), (0, .ref g), (1, .int a1)]) hx hb dM_simple_83 rfl hl (by decide) rfl (fun ls hl => ?_)
      refine lv_aload_n hx hb dM_simple_84 rfl (lv_at hl 2 rfl) ?_
      refine lv_iload_n hx hb dM_simple_85 rfl (lv_at hl 0 rfl) ?_
      refine lv_if_eq (tgt := 108) hx hb dM_simple_86 (by decide) (fun h_86 => ?_) (fun h_86 => ?_)
      · skip
        refine lv_aload_n hx hb dM_simple_108 rfl (lv_at hl 2 rfl) ?_
        refine mget_target S hw dM_simple_109 ?_
        rw [show kM_simple τ a1 = kM_simple_c112 τ (((τ.1 23) >>> ((25 : Int32) &&& 31)) &&& (15 : Int32)) (kM_holds τ (((τ.1 23) >>> ((25 : Int32) &&& 31)) &&& (15 : Int32))) (τ.1 28) from (by rw [kM_simple, if_neg h_2, if_neg h_42, if_pos h_86])]
        exact jM_simple_c112 l D g qb qg qw cA S hR hlk τ (((τ.1 23) >>> ((25 : Int32) &&& 31)) &&& (15 : Int32)) (kM_holds τ (((τ.1 23) >>> ((25 : Int32) &&& 31)) &&& (15 : Int32))) (τ.1 28) hok (lv_sub hl [2, 1, 0] rfl) hw
      · skip
        refine lv_aload_n hx hb dM_simple_89 rfl (lv_at hl 2 rfl) ?_
        refine mget_place S hw dM_simple_90 ?_
        refine lv_iconst (v := 4) hx hb dM_simple_93 (by decide) ?_
        refine lv_aload_n hx hb dM_simple_94 rfl (lv_at hl 2 rfl) ?_
        refine mget_instruction S hw dM_simple_95 ?_
        refine lv_bipush (v := 22) hx hb dM_simple_98 (by decide) ?_
        refine s_calli S (cM_signed l D (τ.1 23) (22 : Int32)) (qM_signed S.2.2.2.2 ⟨Nat.le_of_ble_eq_true rfl, Nat.le_of_ble_eq_true rfl⟩) hw rfl hl.1 rfl (Nat.le_of_ble_eq_true rfl) dM_simple_100 (fun H locs hw => ?_)
        refine lv_imul hx hb dM_simple_103 ?_
        refine lv_iadd hx hb dM_simple_104 ?_
        refine lv_goto (tgt := 112) hx hb dM_simple_105 (by decide) ?_
        rw [show kM_simple τ a1 = kM_simple_c112 τ (((τ.1 23) >>> ((25 : Int32) &&& 31)) &&& (15 : Int32)) (kM_holds τ (((τ.1 23) >>> ((25 : Int32) &&& 31)) &&& (15 : Int32))) ((τ.1 16) + ((4 : Int32) * (kM_signed (τ.1 23) (22 : Int32)))) from (by rw [kM_simple, if_neg h_2, if_neg h_42, if_neg h_86])]
        exact jM_simple_c112 l D g qb qg qw cA S hR hlk τ (((τ.1 23) >>> ((25 : Int32) &&& 31)) &&& (15 : Int32)) (kM_holds τ (((τ.1 23) >>> ((25 : Int32) &&& 31)) &&& (15 : Int32))) ((τ.1 16) + ((4 : Int32) * (kM_signed (τ.1 23) (22 : Int32)))) hok (lv_sub hl [2, 1, 0] rfl) hw
    · skip
      refine lv_aload_n hx hb dM_simple_45 rfl (lv_at hl 0 rfl) ?_
      refine lv_aload_n hx hb dM_simple_46 rfl (lv_at hl 0 rfl) ?_
      refine mget_window S hw dM_simple_47 ?_
      refine lv_aload_n hx hb dM_simple_50 rfl (lv_at hl 0 rfl) ?_
      refine mget_d S hw dM_simple_51 ?_
      refine lv_aload_n hx hb dM_simple_54 rfl (lv_at hl 0 rfl) ?_
      refine mget_instruction S hw dM_simple_55 ?_
      refine lv_bipush (v := 10) hx hb dM_simple_58 (by decide) ?_
      refine lv_ishl hx hb dM_simple_60 ?_
      refine z_callv S (cM_give l D g qb qg qw cA τ (τ.1 4) (τ.1 24) ((τ.1 23) <<< ((10 : Int32) &&& 31)) hok.1 hok.2) (qM_give S.2.2.2.2 ⟨Nat.le_of_ble_eq_true rfl, Nat.le_of_ble_eq_true rfl⟩) hw rfl rfl rfl hl.1 rfl (Nat.le_of_ble_eq_true rfl) dM_simple_61 (fun H locs hw => ?_)
      refine lv_goto (tgt := 147) hx hb dM_simple_64 (by decide) ?_
      exact z_vret S hR hlk hw dM_simple_147 (by rw [kM_simple, if_neg h_2, if_pos h_42])
  · skip
    refine lv_aload_n hx hb dM_simple_5 rfl (lv_at hl 0 rfl) ?_
    refine lv_aload_n hx hb dM_simple_6 rfl (lv_at hl 0 rfl) ?_
    refine mget_window S hw dM_simple_7 ?_
    refine lv_bipush (v := 15) hx hb dM_simple_10 (by decide) ?_
    refine lv_aload_n hx hb dM_simple_12 rfl (lv_at hl 0 rfl) ?_
    refine mget_place S hw dM_simple_13 ?_
    refine z_callv S (cM_give l D g qb qg qw cA τ (τ.1 4) (15 : Int32) (τ.1 16) hok.1 x_l15) (qM_give S.2.2.2.2 ⟨Nat.le_of_ble_eq_true rfl, Nat.le_of_ble_eq_true rfl⟩) hw rfl rfl rfl hl.1 rfl (Nat.le_of_ble_eq_true rfl) dM_simple_16 (fun H locs hw => ?_)
    rw [show kM_simple τ a1 = kM_simple_c19 (kM_give τ (τ.1 4) (15 : Int32) (τ.1 16)) from (by rw [kM_simple, if_pos h_2])]
    exact jM_simple_c19 l D g qb qg qw cA S hR hlk (kM_give τ (τ.1 4) (15 : Int32) (τ.1 16)) (mok_give hok) (lv_sub hl [0] rfl) hw
def kM_go_c134 (τ : MS) : MS :=
  (mB τ 7 (τ.2.1 6))
def kM_go_c129 (τ : MS) : MS :=
  kM_go_c134 (mB τ 5 true)
def kM_go_c116 (τ : MS) : MS :=
  kM_go_c129 (mI τ 4 (((τ.1 4) + (1 : Int32)) - ((τ.1 4) + (1 : Int32)) / (8 : Int32) * (8 : Int32)))
def kM_go_c86 (τ : MS) (v1 : Int32) : MS :=
  (kM_give τ (τ.1 4) (τ.1 24) v1)
def kM_go_c51 (τ : MS) (v1 : Int32) : MS :=
  if (τ.1 27) = (60 : Int32) then
    kM_go_c86 (mI τ 4 (((τ.1 4) + (7 : Int32)) - ((τ.1 4) + (7 : Int32)) / (8 : Int32) * (8 : Int32))) v1
  else
    kM_go_c86 (mI τ 4 (((τ.1 4) + (1 : Int32)) - ((τ.1 4) + (1 : Int32)) / (8 : Int32) * (8 : Int32))) v1
def kM_go_c25 (τ : MS) (v1 : Int32) : MS :=
  (mI τ 28 v1)
def kM_go (τ : MS) (a1 : Int32) : MS :=
  if (τ.1 27) = (56 : Int32) then
    kM_go_c25 (kM_give τ (τ.1 4) (τ.1 24) (τ.1 16)) a1
  else
    if (τ.1 27) = (60 : Int32) then
      kM_go_c51 τ a1
    else
      if (τ.1 27) = (61 : Int32) then
        kM_go_c51 τ a1
      else
        if (τ.1 27) = (57 : Int32) then
          kM_go_c116 (mI τ 28 a1)
        else
          τ
set_option maxRecDepth 100000 in
set_option maxHeartbeats 4000000 in
theorem jM_go_c134 (l : Launch) (D : va_G) (g qb qg qw : Nat) (cA : ClassId) {p : Program} {e : Env} {s : State} {m : MethodId} {args : Array Value} {below : List Frame} {meth : Method} {c : Code} (S : CallFix p m c bM_go 2 s args wAll RM) (hR : meth.sig.returnType = none) (hlk : meth.locks = false) {ls : Array Slot} {H : Heap} {locs : List Loc} (τ : MS) (hok : mOK τ) (hl : lv_has ls 2 [(0, .ref g)]) (hw : mH D g qb qg qw cA s τ H locs) : W p l e { frames := 2, cells := 0, slots := 0, locals := 44 } s m args below meth c H locs 0 0 (mQv D g qb qg qw cA below args s (kM_go_c134 τ)) (F0 m 134 ls []) := by
  have hx := S.1
  have hb := S.2.1
  refine lv_aload_n hx hb dM_go_134 rfl (lv_at hl 0 rfl) ?_
  refine lv_aload_n hx hb dM_go_135 rfl (lv_at hl 0 rfl) ?_
  refine mget_before S hw dM_go_136 ?_
  refine mput_kernel (v := (τ.2.1 6)) S hw dM_go_139 (fun H locs hw => ?_)
  exact z_vret S hR hlk hw dM_go_142 rfl
set_option maxRecDepth 100000 in
set_option maxHeartbeats 4000000 in
theorem jM_go_c129 (l : Launch) (D : va_G) (g qb qg qw : Nat) (cA : ClassId) {p : Program} {e : Env} {s : State} {m : MethodId} {args : Array Value} {below : List Frame} {meth : Method} {c : Code} (S : CallFix p m c bM_go 2 s args wAll RM) (hR : meth.sig.returnType = none) (hlk : meth.locks = false) {ls : Array Slot} {H : Heap} {locs : List Loc} (τ : MS) (hok : mOK τ) (hl : lv_has ls 2 [(0, .ref g)]) (hw : mH D g qb qg qw cA s τ H locs) : W p l e { frames := 2, cells := 0, slots := 0, locals := 44 } s m args below meth c H locs 0 0 (mQv D g qb qg qw cA below args s (kM_go_c129 τ)) (F0 m 129 ls []) := by
  have hx := S.1
  have hb := S.2.1
  refine lv_aload_n hx hb dM_go_129 rfl (lv_at hl 0 rfl) ?_
  refine lv_iconst (v := 1) hx hb dM_go_130 (by decide) ?_
  refine mput_traps (v := true) S hw dM_go_131 (fun H locs hw => ?_)
  rw [show kM_go_c129 τ = kM_go_c134 (mB τ 5 true) from rfl]
  exact jM_go_c134 l D g qb qg qw cA S hR hlk (mB τ 5 true) hok (lv_sub hl [0] rfl) hw
set_option maxRecDepth 100000 in
set_option maxHeartbeats 4000000 in
theorem jM_go_c116 (l : Launch) (D : va_G) (g qb qg qw : Nat) (cA : ClassId) {p : Program} {e : Env} {s : State} {m : MethodId} {args : Array Value} {below : List Frame} {meth : Method} {c : Code} (S : CallFix p m c bM_go 2 s args wAll RM) (hR : meth.sig.returnType = none) (hlk : meth.locks = false) {ls : Array Slot} {H : Heap} {locs : List Loc} (τ : MS) (hok : mOK τ) (hl : lv_has ls 2 [(0, .ref g)]) (hw : mH D g qb qg qw cA s τ H locs) : W p l e { frames := 2, cells := 0, slots := 0, locals := 44 } s m args below meth c H locs 0 0 (mQv D g qb qg qw cA below args s (kM_go_c116 τ)) (F0 m 116 ls []) := by
  have hx := S.1
  have hb := S.2.1
  refine lv_aload_n hx hb dM_go_116 rfl (lv_at hl 0 rfl) ?_
  refine lv_aload_n hx hb dM_go_117 rfl (lv_at hl 0 rfl) ?_
  refine mget_window S hw dM_go_118 ?_
  refine lv_iconst (v := 1) hx hb dM_go_121 (by decide) ?_
  refine lv_iadd hx hb dM_go_122 ?_
  refine lv_bipush (v := 8) hx hb dM_go_123 (by decide) ?_
  refine lv_irem hx hb dM_go_125 (by decide) ?_
  refine mput_window S hw dM_go_126 (fun H locs hw => ?_)
  rw [show kM_go_c116 τ = kM_go_c129 (mI τ 4 (((τ.1 4) + (1 : Int32)) - ((τ.1 4) + (1 : Int32)) / (8 : Int32) * (8 : Int32))) from rfl]
  exact jM_go_c129 l D g qb qg qw cA S hR hlk (mI τ 4 (((τ.1 4) + (1 : Int32)) - ((τ.1 4) + (1 : Int32)) / (8 : Int32) * (8 : Int32))) (mok_rem1 hok) (lv_sub hl [0] rfl) hw
set_option maxRecDepth 100000 in
set_option maxHeartbeats 4000000 in
theorem jM_go_c86 (l : Launch) (D : va_G) (g qb qg qw : Nat) (cA : ClassId) {p : Program} {e : Env} {s : State} {m : MethodId} {args : Array Value} {below : List Frame} {meth : Method} {c : Code} (S : CallFix p m c bM_go 2 s args wAll RM) (hR : meth.sig.returnType = none) (hlk : meth.locks = false) {ls : Array Slot} {H : Heap} {locs : List Loc} (τ : MS) (v1 : Int32) (hok : mOK τ) (hl : lv_has ls 2 [(0, .ref g), (1, .int v1)]) (hw : mH D g qb qg qw cA s τ H locs) : W p l e { frames := 2, cells := 0, slots := 0, locals := 44 } s m args below meth c H locs 0 0 (mQv D g qb qg qw cA below args s (kM_go_c86 τ v1)) (F0 m 86 ls []) := by
  have hx := S.1
  have hb := S.2.1
  refine lv_aload_n hx hb dM_go_86 rfl (lv_at hl 0 rfl) ?_
  refine lv_aload_n hx hb dM_go_87 rfl (lv_at hl 0 rfl) ?_
  refine mget_window S hw dM_go_88 ?_
  refine lv_aload_n hx hb dM_go_91 rfl (lv_at hl 0 rfl) ?_
  refine mget_d S hw dM_go_92 ?_
  refine lv_iload_n hx hb dM_go_95 rfl (lv_at hl 1 rfl) ?_
  refine z_callv S (cM_give l D g qb qg qw cA τ (τ.1 4) (τ.1 24) v1 hok.1 hok.2) (qM_give S.2.2.2.2 ⟨Nat.le_of_ble_eq_true rfl, Nat.le_of_ble_eq_true rfl⟩) hw rfl rfl rfl hl.1 rfl (Nat.le_of_ble_eq_true rfl) dM_go_96 (fun H locs hw => ?_)
  refine lv_goto (tgt := 142) hx hb dM_go_99 (by decide) ?_
  exact z_vret S hR hlk hw dM_go_142 rfl
set_option maxRecDepth 100000 in
set_option maxHeartbeats 4000000 in
theorem jM_go_c51 (l : Launch) (D : va_G) (g qb qg qw : Nat) (cA : ClassId) {p : Program} {e : Env} {s : State} {m : MethodId} {args : Array Value} {below : List Frame} {meth : Method} {c : Code} (S : CallFix p m c bM_go 2 s args wAll RM) (hR : meth.sig.returnType = none) (hlk : meth.locks = false) {ls : Array Slot} {H : Heap} {locs : List Loc} (τ : MS) (v1 : Int32) (hok : mOK τ) (hl : lv_has ls 2 [(0, .ref g), (1, .int v1)]) (hw : mH D g qb qg qw cA s τ H locs) : W p l e { frames := 2, cells := 0, slots := 0, locals := 44 } s m args below meth c H locs 0 0 (mQv D g qb qg qw cA below args s (kM_go_c51 τ v1)) (F0 m 51 ls []) := by
  have hx := S.1
  have hb := S.2.1
  refine lv_aload_n hx hb dM_go_51 rfl (lv_at hl 0 rfl) ?_
  refine lv_aload_n hx hb dM_go_52 rfl (lv_at hl 0 rfl) ?_
  refine mget_order S hw dM_go_53 ?_
  refine lv_bipush (v := 60) hx hb dM_go_56 (by decide) ?_
  refine lv_icmp_ne (tgt := 74) hx hb dM_go_58 (by decide) (fun h_58 => ?_) (fun h_58 => ?_)
  · skip
    refine lv_aload_n hx hb dM_go_74 rfl (lv_at hl 0 rfl) ?_
    refine mget_window S hw dM_go_75 ?_
    refine lv_iconst (v := 1) hx hb dM_go_78 (by decide) ?_
    refine lv_iadd hx hb dM_go_79 ?_
    refine lv_bipush (v := 8) hx hb dM_go_80 (by decide) ?_
    refine lv_irem hx hb dM_go_82 (by decide) ?_
    refine mput_window S hw dM_go_83 (fun H locs hw => ?_)
    rw [show kM_go_c51 τ v1 = kM_go_c86 (mI τ 4 (((τ.1 4) + (1 : Int32)) - ((τ.1 4) + (1 : Int32)) / (8 : Int32) * (8 : Int32))) v1 from (by rw [kM_go_c51, if_neg h_58])]
    exact jM_go_c86 l D g qb qg qw cA S hR hlk (mI τ 4 (((τ.1 4) + (1 : Int32)) - ((τ.1 4) + (1 : Int32)) / (8 : Int32) * (8 : Int32))) v1 (by first | exact (fun (_ : τ.1 27 = 60) => mok_rem7 hok) h_58 | exact mok_rem1 hok) (lv_sub hl [0, 1] rfl) hw
  · skip
    refine lv_aload_n hx hb dM_go_61 rfl (lv_at hl 0 rfl) ?_
    refine mget_window S hw dM_go_62 ?_
    refine lv_bipush (v := 7) hx hb dM_go_65 (by decide) ?_
    refine lv_iadd hx hb dM_go_67 ?_
    refine lv_bipush (v := 8) hx hb dM_go_68 (by decide) ?_
    refine lv_irem hx hb dM_go_70 (by decide) ?_
    refine lv_goto (tgt := 83) hx hb dM_go_71 (by decide) ?_
    refine mput_window S hw dM_go_83 (fun H locs hw => ?_)
    rw [show kM_go_c51 τ v1 = kM_go_c86 (mI τ 4 (((τ.1 4) + (7 : Int32)) - ((τ.1 4) + (7 : Int32)) / (8 : Int32) * (8 : Int32))) v1 from (by rw [kM_go_c51, if_pos h_58])]
    exact jM_go_c86 l D g qb qg qw cA S hR hlk (mI τ 4 (((τ.1 4) + (7 : Int32)) - ((τ.1 4) + (7 : Int32)) / (8 : Int32) * (8 : Int32))) v1 (by first | exact (fun (_ : τ.1 27 = 60) => mok_rem7 hok) h_58 | exact mok_rem1 hok) (lv_sub hl [0, 1] rfl) hw
set_option maxRecDepth 100000 in
set_option maxHeartbeats 4000000 in
theorem jM_go_c25 (l : Launch) (D : va_G) (g qb qg qw : Nat) (cA : ClassId) {p : Program} {e : Env} {s : State} {m : MethodId} {args : Array Value} {below : List Frame} {meth : Method} {c : Code} (S : CallFix p m c bM_go 2 s args wAll RM) (hR : meth.sig.returnType = none) (hlk : meth.locks = false) {ls : Array Slot} {H : Heap} {locs : List Loc} (τ : MS) (v1 : Int32) (hok : mOK τ) (hl : lv_has ls 2 [(0, .ref g), (1, .int v1)]) (hw : mH D g qb qg qw cA s τ H locs) : W p l e { frames := 2, cells := 0, slots := 0, locals := 44 } s m args below meth c H locs 0 0 (mQv D g qb qg qw cA below args s (kM_go_c25 τ v1)) (F0 m 25 ls []) := by
  have hx := S.1
  have hb := S.2.1
  refine lv_aload_n hx hb dM_go_25 rfl (lv_at hl 0 rfl) ?_
  refine lv_iload_n hx hb dM_go_26 rfl (lv_at hl 1 rfl) ?_
  refine mput_target S hw dM_go_27 (fun H locs hw => ?_)
  refine lv_goto (tgt := 142) hx hb dM_go_30 (by decide) ?_
  exact z_vret S hR hlk hw dM_go_142 rfl
set_option maxRecDepth 100000 in
set_option maxHeartbeats 4000000 in
theorem cM_go (l : Launch) (D : va_G) (g qb qg qw : Nat) (cA : ClassId) (τ : MS) (a1 : Int32) (hok : mOK τ) : mMv l yM_go (.code yM_go bM_go 2 none :: wAll) { frames := 2, cells := 0, slots := 0, locals := 44 } D g qb qg qw cA [.ref g, .int a1] τ (kM_go τ a1) := by
  refine z_entryv (cc := bM_go) (nL := 2) (by decide) rfl rfl (Nat.le_of_ble_eq_true rfl) (fun p e s m args below meth c S hR hlk ls H locs hl hw => ?_)
  have hx := S.1
  have hb := S.2.1
  have hl : lv_has ls 2 [(0, .ref g), (1, .int a1)] := hl
  refine lv_aload_n hx hb dM_go_0 rfl (lv_at hl 0 rfl) ?_
  refine mget_order S hw dM_go_1 ?_
  refine lv_bipush (v := 56) hx hb dM_go_4 (by decide) ?_
  refine lv_icmp_ne (tgt := 33) hx hb dM_go_6 (by decide) (fun h_6 => ?_) (fun h_6 => ?_)
  · skip
    refine lv_aload_n hx hb dM_go_33 rfl (lv_at hl 0 rfl) ?_
    refine mget_order S hw dM_go_34 ?_
    refine lv_bipush (v := 60) hx hb dM_go_37 (by decide) ?_
    refine lv_icmp_eq (tgt := 51) hx hb dM_go_39 (by decide) (fun h_39 => ?_) (fun h_39 => ?_)
    · skip
      rw [show kM_go τ a1 = kM_go_c51 τ a1 from (by rw [kM_go, if_neg h_6, if_pos h_39])]
      exact jM_go_c51 l D g qb qg qw cA S hR hlk τ a1 hok (lv_sub hl [0, 1] rfl) hw
    · skip
      refine lv_aload_n hx hb dM_go_42 rfl (lv_at hl 0 rfl) ?_
      refine mget_order S hw dM_go_43 ?_
      refine lv_bipush (v := 61) hx hb dM_go_46 (by decide) ?_
      refine lv_icmp_ne (tgt := 102) hx hb dM_go_48 (by decide) (fun h_48 => ?_) (fun h_48 => ?_)
      · skip
        refine lv_aload_n hx hb dM_go_102 rfl (lv_at hl 0 rfl) ?_
        refine mget_order S hw dM_go_103 ?_
        refine lv_bipush (v := 57) hx hb dM_go_106 (by decide) ?_
        refine lv_icmp_ne (tgt := 142) hx hb dM_go_108 (by decide) (fun h_108 => ?_) (fun h_108 => ?_)
        · skip
          exact z_vret S hR hlk hw dM_go_142 (by rw [kM_go, if_neg h_6, if_neg h_39, if_neg h_48, if_neg h_108])
        · skip
          refine lv_aload_n hx hb dM_go_111 rfl (lv_at hl 0 rfl) ?_
          refine lv_iload_n hx hb dM_go_112 rfl (lv_at hl 1 rfl) ?_
          refine mput_target S hw dM_go_113 (fun H locs hw => ?_)
          rw [show kM_go τ a1 = kM_go_c116 (mI τ 28 a1) from (by rw [kM_go, if_neg h_6, if_neg h_39, if_neg h_48, if_pos h_108])]
          exact jM_go_c116 l D g qb qg qw cA S hR hlk (mI τ 28 a1) hok (lv_sub hl [0] rfl) hw
      · skip
        rw [show kM_go τ a1 = kM_go_c51 τ a1 from (by rw [kM_go, if_neg h_6, if_neg h_39, if_pos h_48])]
        exact jM_go_c51 l D g qb qg qw cA S hR hlk τ a1 hok (lv_sub hl [0, 1] rfl) hw
  · skip
    refine lv_aload_n hx hb dM_go_9 rfl (lv_at hl 0 rfl) ?_
    refine lv_aload_n hx hb dM_go_10 rfl (lv_at hl 0 rfl) ?_
    refine mget_window S hw dM_go_11 ?_
    refine lv_aload_n hx hb dM_go_14 rfl (lv_at hl 0 rfl) ?_
    refine mget_d S hw dM_go_15 ?_
    refine lv_aload_n hx hb dM_go_18 rfl (lv_at hl 0 rfl) ?_
    refine mget_place S hw dM_go_19 ?_
    refine z_callv S (cM_give l D g qb qg qw cA τ (τ.1 4) (τ.1 24) (τ.1 16) hok.1 hok.2) (qM_give S.2.2.2.2 ⟨Nat.le_of_ble_eq_true rfl, Nat.le_of_ble_eq_true rfl⟩) hw rfl rfl rfl hl.1 rfl (Nat.le_of_ble_eq_true rfl) dM_go_22 (fun H locs hw => ?_)
    rw [show kM_go τ a1 = kM_go_c25 (kM_give τ (τ.1 4) (τ.1 24) (τ.1 16)) a1 from (by rw [kM_go, if_pos h_6])]
    exact jM_go_c25 l D g qb qg qw cA S hR hlk (kM_give τ (τ.1 4) (τ.1 24) (τ.1 16)) a1 (mok_give hok) (lv_sub hl [0, 1] rfl) hw
def kM_trap_c97 (τ : MS) (v1 : Int32) : Int32 × MS :=
  (((100 : Int32) + v1), (mI τ 17 ((τ.1 16) + (4 : Int32))))
def kM_trap_c89 (τ : MS) (v1 : Int32) : Int32 × MS :=
  kM_trap_c97 (mI τ 16 (kM_table τ)) v1
def kM_trap_c84 (τ : MS) (v1 : Int32) : Int32 × MS :=
  kM_trap_c89 (mI τ 15 v1) v1
def kM_trap_c70 (τ : MS) (v1 : Int32) : Int32 × MS :=
  kM_trap_c84 (kM_give τ (τ.1 4) (18 : Int32) (τ.1 17)) v1
def kM_trap_c56 (τ : MS) (v1 : Int32) : Int32 × MS :=
  kM_trap_c70 (kM_give τ (τ.1 4) (17 : Int32) (τ.1 16)) v1
def kM_trap_c42 (τ : MS) (v1 : Int32) : Int32 × MS :=
  kM_trap_c56 (mI τ 4 (((τ.1 4) + (7 : Int32)) - ((τ.1 4) + (7 : Int32)) / (8 : Int32) * (8 : Int32))) v1
def kM_trap_c37 (τ : MS) (v1 : Int32) : Int32 × MS :=
  kM_trap_c42 (mB τ 7 true) v1
def kM_trap_c29 (τ : MS) (v1 : Int32) : Int32 × MS :=
  kM_trap_c37 (mB τ 6 (τ.2.1 7)) v1
def kM_trap_c10 (τ : MS) (v1 : Int32) : Int32 × MS :=
  if (bI (τ.2.1 5)) = 0 then
    ((2 : Int32), (mB τ 19 true))
  else
    kM_trap_c29 (mB τ 5 false) v1
def kM_trap (τ : MS) (a1 : Int32) : Int32 × MS :=
  kM_trap_c10 (mI τ 22 ((τ.1 22) + (1 : Int32))) a1
set_option maxRecDepth 100000 in
set_option maxHeartbeats 4000000 in
theorem jM_trap_c97 (l : Launch) (D : va_G) (g qb qg qw : Nat) (cA : ClassId) {p : Program} {e : Env} {s : State} {m : MethodId} {args : Array Value} {below : List Frame} {meth : Method} {c : Code} (S : CallFix p m c bM_trap 2 s args wAll RM) (hR : meth.sig.returnType = (some .int)) (hlk : meth.locks = false) {ls : Array Slot} {H : Heap} {locs : List Loc} (τ : MS) (v1 : Int32) (hok : mOK τ) (hl : lv_has ls 2 [(0, .ref g), (1, .int v1)]) (hw : mH D g qb qg qw cA s τ H locs) : W p l e { frames := 2, cells := 0, slots := 0, locals := 44 } s m args below meth c H locs 0 0 (mQi D g qb qg qw cA below args s ((kM_trap_c97 τ v1).1) (kM_trap_c97 τ v1).2) (F0 m 97 ls []) := by
  have hx := S.1
  have hb := S.2.1
  refine lv_aload_n hx hb dM_trap_97 rfl (lv_at hl 0 rfl) ?_
  refine lv_aload_n hx hb dM_trap_98 rfl (lv_at hl 0 rfl) ?_
  refine mget_place S hw dM_trap_99 ?_
  refine lv_iconst (v := 4) hx hb dM_trap_102 (by decide) ?_
  refine lv_iadd hx hb dM_trap_103 ?_
  refine mput_next S hw dM_trap_104 (fun H locs hw => ?_)
  refine lv_bipush (v := 100) hx hb dM_trap_107 (by decide) ?_
  refine lv_iload_n hx hb dM_trap_109 rfl (lv_at hl 1 rfl) ?_
  refine lv_iadd hx hb dM_trap_110 ?_
  exact z_iretP S hR hlk hw dM_trap_111 rfl
set_option maxRecDepth 100000 in
set_option maxHeartbeats 4000000 in
theorem jM_trap_c89 (l : Launch) (D : va_G) (g qb qg qw : Nat) (cA : ClassId) {p : Program} {e : Env} {s : State} {m : MethodId} {args : Array Value} {below : List Frame} {meth : Method} {c : Code} (S : CallFix p m c bM_trap 2 s args wAll RM) (hR : meth.sig.returnType = (some .int)) (hlk : meth.locks = false) {ls : Array Slot} {H : Heap} {locs : List Loc} (τ : MS) (v1 : Int32) (hok : mOK τ) (hl : lv_has ls 2 [(0, .ref g), (1, .int v1)]) (hw : mH D g qb qg qw cA s τ H locs) : W p l e { frames := 2, cells := 0, slots := 0, locals := 44 } s m args below meth c H locs 0 0 (mQi D g qb qg qw cA below args s ((kM_trap_c89 τ v1).1) (kM_trap_c89 τ v1).2) (F0 m 89 ls []) := by
  have hx := S.1
  have hb := S.2.1
  refine lv_aload_n hx hb dM_trap_89 rfl (lv_at hl 0 rfl) ?_
  refine lv_aload_n hx hb dM_trap_90 rfl (lv_at hl 0 rfl) ?_
  refine z_calli S (cM_table l D g qb qg qw cA τ) (qM_table S.2.2.2.2 ⟨Nat.le_of_ble_eq_true rfl, Nat.le_of_ble_eq_true rfl⟩) hw rfl rfl rfl hl.1 rfl (Nat.le_of_ble_eq_true rfl) dM_trap_91 (fun H locs hw => ?_)
  refine mput_place S hw dM_trap_94 (fun H locs hw => ?_)
  rw [show kM_trap_c89 τ v1 = kM_trap_c97 (mI τ 16 (kM_table τ)) v1 from rfl]
  exact jM_trap_c97 l D g qb qg qw cA S hR hlk (mI τ 16 (kM_table τ)) v1 hok (lv_sub hl [0, 1] rfl) hw
set_option maxRecDepth 100000 in
set_option maxHeartbeats 4000000 in
theorem jM_trap_c84 (l : Launch) (D : va_G) (g qb qg qw : Nat) (cA : ClassId) {p : Program} {e : Env} {s : State} {m : MethodId} {args : Array Value} {below : List Frame} {meth : Method} {c : Code} (S : CallFix p m c bM_trap 2 s args wAll RM) (hR : meth.sig.returnType = (some .int)) (hlk : meth.locks = false) {ls : Array Slot} {H : Heap} {locs : List Loc} (τ : MS) (v1 : Int32) (hok : mOK τ) (hl : lv_has ls 2 [(0, .ref g), (1, .int v1)]) (hw : mH D g qb qg qw cA s τ H locs) : W p l e { frames := 2, cells := 0, slots := 0, locals := 44 } s m args below meth c H locs 0 0 (mQi D g qb qg qw cA below args s ((kM_trap_c84 τ v1).1) (kM_trap_c84 τ v1).2) (F0 m 84 ls []) := by
  have hx := S.1
  have hb := S.2.1
  refine lv_aload_n hx hb dM_trap_84 rfl (lv_at hl 0 rfl) ?_
  refine lv_iload_n hx hb dM_trap_85 rfl (lv_at hl 1 rfl) ?_
  refine mput_type S hw dM_trap_86 (fun H locs hw => ?_)
  rw [show kM_trap_c84 τ v1 = kM_trap_c89 (mI τ 15 v1) v1 from rfl]
  exact jM_trap_c89 l D g qb qg qw cA S hR hlk (mI τ 15 v1) v1 hok (lv_sub hl [0, 1] rfl) hw
set_option maxRecDepth 100000 in
set_option maxHeartbeats 4000000 in
theorem jM_trap_c70 (l : Launch) (D : va_G) (g qb qg qw : Nat) (cA : ClassId) {p : Program} {e : Env} {s : State} {m : MethodId} {args : Array Value} {below : List Frame} {meth : Method} {c : Code} (S : CallFix p m c bM_trap 2 s args wAll RM) (hR : meth.sig.returnType = (some .int)) (hlk : meth.locks = false) {ls : Array Slot} {H : Heap} {locs : List Loc} (τ : MS) (v1 : Int32) (hok : mOK τ) (hl : lv_has ls 2 [(0, .ref g), (1, .int v1)]) (hw : mH D g qb qg qw cA s τ H locs) : W p l e { frames := 2, cells := 0, slots := 0, locals := 44 } s m args below meth c H locs 0 0 (mQi D g qb qg qw cA below args s ((kM_trap_c70 τ v1).1) (kM_trap_c70 τ v1).2) (F0 m 70 ls []) := by
  have hx := S.1
  have hb := S.2.1
  refine lv_aload_n hx hb dM_trap_70 rfl (lv_at hl 0 rfl) ?_
  refine lv_aload_n hx hb dM_trap_71 rfl (lv_at hl 0 rfl) ?_
  refine mget_window S hw dM_trap_72 ?_
  refine lv_bipush (v := 18) hx hb dM_trap_75 (by decide) ?_
  refine lv_aload_n hx hb dM_trap_77 rfl (lv_at hl 0 rfl) ?_
  refine mget_next S hw dM_trap_78 ?_
  refine z_callv S (cM_give l D g qb qg qw cA τ (τ.1 4) (18 : Int32) (τ.1 17) hok.1 x_l18) (qM_give S.2.2.2.2 ⟨Nat.le_of_ble_eq_true rfl, Nat.le_of_ble_eq_true rfl⟩) hw rfl rfl rfl hl.1 rfl (Nat.le_of_ble_eq_true rfl) dM_trap_81 (fun H locs hw => ?_)
  rw [show kM_trap_c70 τ v1 = kM_trap_c84 (kM_give τ (τ.1 4) (18 : Int32) (τ.1 17)) v1 from rfl]
  exact jM_trap_c84 l D g qb qg qw cA S hR hlk (kM_give τ (τ.1 4) (18 : Int32) (τ.1 17)) v1 (mok_give hok) (lv_sub hl [0, 1] rfl) hw
set_option maxRecDepth 100000 in
set_option maxHeartbeats 4000000 in
theorem jM_trap_c56 (l : Launch) (D : va_G) (g qb qg qw : Nat) (cA : ClassId) {p : Program} {e : Env} {s : State} {m : MethodId} {args : Array Value} {below : List Frame} {meth : Method} {c : Code} (S : CallFix p m c bM_trap 2 s args wAll RM) (hR : meth.sig.returnType = (some .int)) (hlk : meth.locks = false) {ls : Array Slot} {H : Heap} {locs : List Loc} (τ : MS) (v1 : Int32) (hok : mOK τ) (hl : lv_has ls 2 [(0, .ref g), (1, .int v1)]) (hw : mH D g qb qg qw cA s τ H locs) : W p l e { frames := 2, cells := 0, slots := 0, locals := 44 } s m args below meth c H locs 0 0 (mQi D g qb qg qw cA below args s ((kM_trap_c56 τ v1).1) (kM_trap_c56 τ v1).2) (F0 m 56 ls []) := by
  have hx := S.1
  have hb := S.2.1
  refine lv_aload_n hx hb dM_trap_56 rfl (lv_at hl 0 rfl) ?_
  refine lv_aload_n hx hb dM_trap_57 rfl (lv_at hl 0 rfl) ?_
  refine mget_window S hw dM_trap_58 ?_
  refine lv_bipush (v := 17) hx hb dM_trap_61 (by decide) ?_
  refine lv_aload_n hx hb dM_trap_63 rfl (lv_at hl 0 rfl) ?_
  refine mget_place S hw dM_trap_64 ?_
  refine z_callv S (cM_give l D g qb qg qw cA τ (τ.1 4) (17 : Int32) (τ.1 16) hok.1 x_l17) (qM_give S.2.2.2.2 ⟨Nat.le_of_ble_eq_true rfl, Nat.le_of_ble_eq_true rfl⟩) hw rfl rfl rfl hl.1 rfl (Nat.le_of_ble_eq_true rfl) dM_trap_67 (fun H locs hw => ?_)
  rw [show kM_trap_c56 τ v1 = kM_trap_c70 (kM_give τ (τ.1 4) (17 : Int32) (τ.1 16)) v1 from rfl]
  exact jM_trap_c70 l D g qb qg qw cA S hR hlk (kM_give τ (τ.1 4) (17 : Int32) (τ.1 16)) v1 (mok_give hok) (lv_sub hl [0, 1] rfl) hw
set_option maxRecDepth 100000 in
set_option maxHeartbeats 4000000 in
theorem jM_trap_c42 (l : Launch) (D : va_G) (g qb qg qw : Nat) (cA : ClassId) {p : Program} {e : Env} {s : State} {m : MethodId} {args : Array Value} {below : List Frame} {meth : Method} {c : Code} (S : CallFix p m c bM_trap 2 s args wAll RM) (hR : meth.sig.returnType = (some .int)) (hlk : meth.locks = false) {ls : Array Slot} {H : Heap} {locs : List Loc} (τ : MS) (v1 : Int32) (hok : mOK τ) (hl : lv_has ls 2 [(0, .ref g), (1, .int v1)]) (hw : mH D g qb qg qw cA s τ H locs) : W p l e { frames := 2, cells := 0, slots := 0, locals := 44 } s m args below meth c H locs 0 0 (mQi D g qb qg qw cA below args s ((kM_trap_c42 τ v1).1) (kM_trap_c42 τ v1).2) (F0 m 42 ls []) := by
  have hx := S.1
  have hb := S.2.1
  refine lv_aload_n hx hb dM_trap_42 rfl (lv_at hl 0 rfl) ?_
  refine lv_aload_n hx hb dM_trap_43 rfl (lv_at hl 0 rfl) ?_
  refine mget_window S hw dM_trap_44 ?_
  refine lv_bipush (v := 7) hx hb dM_trap_47 (by decide) ?_
  refine lv_iadd hx hb dM_trap_49 ?_
  refine lv_bipush (v := 8) hx hb dM_trap_50 (by decide) ?_
  refine lv_irem hx hb dM_trap_52 (by decide) ?_
  refine mput_window S hw dM_trap_53 (fun H locs hw => ?_)
  rw [show kM_trap_c42 τ v1 = kM_trap_c56 (mI τ 4 (((τ.1 4) + (7 : Int32)) - ((τ.1 4) + (7 : Int32)) / (8 : Int32) * (8 : Int32))) v1 from rfl]
  exact jM_trap_c56 l D g qb qg qw cA S hR hlk (mI τ 4 (((τ.1 4) + (7 : Int32)) - ((τ.1 4) + (7 : Int32)) / (8 : Int32) * (8 : Int32))) v1 (mok_rem7 hok) (lv_sub hl [0, 1] rfl) hw
set_option maxRecDepth 100000 in
set_option maxHeartbeats 4000000 in
theorem jM_trap_c37 (l : Launch) (D : va_G) (g qb qg qw : Nat) (cA : ClassId) {p : Program} {e : Env} {s : State} {m : MethodId} {args : Array Value} {below : List Frame} {meth : Method} {c : Code} (S : CallFix p m c bM_trap 2 s args wAll RM) (hR : meth.sig.returnType = (some .int)) (hlk : meth.locks = false) {ls : Array Slot} {H : Heap} {locs : List Loc} (τ : MS) (v1 : Int32) (hok : mOK τ) (hl : lv_has ls 2 [(0, .ref g), (1, .int v1)]) (hw : mH D g qb qg qw cA s τ H locs) : W p l e { frames := 2, cells := 0, slots := 0, locals := 44 } s m args below meth c H locs 0 0 (mQi D g qb qg qw cA below args s ((kM_trap_c37 τ v1).1) (kM_trap_c37 τ v1).2) (F0 m 37 ls []) := by
  have hx := S.1
  have hb := S.2.1
  refine lv_aload_n hx hb dM_trap_37 rfl (lv_at hl 0 rfl) ?_
  refine lv_iconst (v := 1) hx hb dM_trap_38 (by decide) ?_
  refine mput_kernel (v := true) S hw dM_trap_39 (fun H locs hw => ?_)
  rw [show kM_trap_c37 τ v1 = kM_trap_c42 (mB τ 7 true) v1 from rfl]
  exact jM_trap_c42 l D g qb qg qw cA S hR hlk (mB τ 7 true) v1 hok (lv_sub hl [0, 1] rfl) hw
set_option maxRecDepth 100000 in
set_option maxHeartbeats 4000000 in
theorem jM_trap_c29 (l : Launch) (D : va_G) (g qb qg qw : Nat) (cA : ClassId) {p : Program} {e : Env} {s : State} {m : MethodId} {args : Array Value} {below : List Frame} {meth : Method} {c : Code} (S : CallFix p m c bM_trap 2 s args wAll RM) (hR : meth.sig.returnType = (some .int)) (hlk : meth.locks = false) {ls : Array Slot} {H : Heap} {locs : List Loc} (τ : MS) (v1 : Int32) (hok : mOK τ) (hl : lv_has ls 2 [(0, .ref g), (1, .int v1)]) (hw : mH D g qb qg qw cA s τ H locs) : W p l e { frames := 2, cells := 0, slots := 0, locals := 44 } s m args below meth c H locs 0 0 (mQi D g qb qg qw cA below args s ((kM_trap_c29 τ v1).1) (kM_trap_c29 τ v1).2) (F0 m 29 ls []) := by
  have hx := S.1
  have hb := S.2.1
  refine lv_aload_n hx hb dM_trap_29 rfl (lv_at hl 0 rfl) ?_
  refine lv_aload_n hx hb dM_trap_30 rfl (lv_at hl 0 rfl) ?_
  refine mget_kernel S hw dM_trap_31 ?_
  refine mput_before (v := (τ.2.1 7)) S hw dM_trap_34 (fun H locs hw => ?_)
  rw [show kM_trap_c29 τ v1 = kM_trap_c37 (mB τ 6 (τ.2.1 7)) v1 from rfl]
  exact jM_trap_c37 l D g qb qg qw cA S hR hlk (mB τ 6 (τ.2.1 7)) v1 hok (lv_sub hl [0, 1] rfl) hw
set_option maxRecDepth 100000 in
set_option maxHeartbeats 4000000 in
theorem jM_trap_c10 (l : Launch) (D : va_G) (g qb qg qw : Nat) (cA : ClassId) {p : Program} {e : Env} {s : State} {m : MethodId} {args : Array Value} {below : List Frame} {meth : Method} {c : Code} (S : CallFix p m c bM_trap 2 s args wAll RM) (hR : meth.sig.returnType = (some .int)) (hlk : meth.locks = false) {ls : Array Slot} {H : Heap} {locs : List Loc} (τ : MS) (v1 : Int32) (hok : mOK τ) (hl : lv_has ls 2 [(0, .ref g), (1, .int v1)]) (hw : mH D g qb qg qw cA s τ H locs) : W p l e { frames := 2, cells := 0, slots := 0, locals := 44 } s m args below meth c H locs 0 0 (mQi D g qb qg qw cA below args s ((kM_trap_c10 τ v1).1) (kM_trap_c10 τ v1).2) (F0 m 10 ls []) := by
  have hx := S.1
  have hb := S.2.1
  refine lv_aload_n hx hb dM_trap_10 rfl (lv_at hl 0 rfl) ?_
  refine mget_traps S hw dM_trap_11 ?_
  refine lv_if_ne (tgt := 24) hx hb dM_trap_14 (by decide) (fun h_14 => ?_) (fun h_14 => ?_)
  · skip
    refine lv_aload_n hx hb dM_trap_24 rfl (lv_at hl 0 rfl) ?_
    refine lv_iconst (v := 0) hx hb dM_trap_25 (by decide) ?_
    refine mput_traps (v := false) S hw dM_trap_26 (fun H locs hw => ?_)
    rw [show kM_trap_c10 τ v1 = kM_trap_c29 (mB τ 5 false) v1 from (by rw [kM_trap_c10, if_neg h_14])]
    exact jM_trap_c29 l D g qb qg qw cA S hR hlk (mB τ 5 false) v1 hok (lv_sub hl [0, 1] rfl) hw
  · skip
    refine lv_aload_n hx hb dM_trap_17 rfl (lv_at hl 0 rfl) ?_
    refine lv_iconst (v := 1) hx hb dM_trap_18 (by decide) ?_
    refine mput_stopped (v := true) S hw dM_trap_19 (fun H locs hw => ?_)
    refine lv_iconst (v := 2) hx hb dM_trap_22 (by decide) ?_
    exact z_iretP S hR hlk hw dM_trap_23 (by rw [kM_trap_c10, if_pos h_14])
set_option maxRecDepth 100000 in
set_option maxHeartbeats 4000000 in
theorem cM_trap (l : Launch) (D : va_G) (g qb qg qw : Nat) (cA : ClassId) (τ : MS) (a1 : Int32) (hok : mOK τ) : mMi l yM_trap (.code yM_trap bM_trap 2 (some .int) :: wAll) { frames := 2, cells := 0, slots := 0, locals := 44 } D g qb qg qw cA [.ref g, .int a1] τ ((kM_trap τ a1).1) (kM_trap τ a1).2 := by
  refine z_entryi (cc := bM_trap) (nL := 2) (by decide) rfl rfl (Nat.le_of_ble_eq_true rfl) (fun p e s m args below meth c S hR hlk ls H locs hl hw => ?_)
  have hx := S.1
  have hb := S.2.1
  have hl : lv_has ls 2 [(0, .ref g), (1, .int a1)] := hl
  refine lv_aload_n hx hb dM_trap_0 rfl (lv_at hl 0 rfl) ?_
  refine lv_dup hx hb dM_trap_1 rfl ?_
  refine mget_trapped S hw dM_trap_2 ?_
  refine lv_iconst (v := 1) hx hb dM_trap_5 (by decide) ?_
  refine lv_iadd hx hb dM_trap_6 ?_
  refine mput_trapped S hw dM_trap_7 (fun H locs hw => ?_)
  rw [show kM_trap τ a1 = kM_trap_c10 (mI τ 22 ((τ.1 22) + (1 : Int32))) a1 from rfl]
  exact jM_trap_c10 l D g qb qg qw cA S hR hlk (mI τ 22 ((τ.1 22) + (1 : Int32))) a1 hok (lv_sub hl [0, 1] rfl) hw
