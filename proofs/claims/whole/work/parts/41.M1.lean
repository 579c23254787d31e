/-! contracts of WindowCoreModel: laid by my program -/
def kM_thrown (τ : MS) : Int32 :=
  (τ.1 0)
set_option maxRecDepth 100000 in
set_option maxHeartbeats 4000000 in
theorem cM_thrown (l : Launch) (D : va_G) (g qb qg qw : Nat) (cA : ClassId) (τ : MS) : mMi l yM_thrown (.code yM_thrown bM_thrown 1 (some .int) :: wAll) { frames := 0, cells := 0, slots := 0, locals := 0 } D g qb qg qw cA [.ref g] τ (kM_thrown τ) τ := by
  refine z_entryi (cc := bM_thrown) (nL := 1) (by decide) rfl rfl (Nat.le_of_ble_eq_true rfl) (fun p e s m args below meth c S hR hlk ls H locs hl hw => ?_)
  have hx := S.1
  have hb := S.2.1
  have hl : lv_has ls 1 [(0, .ref g)] := hl
  refine lv_aload_n hx hb dM_thrown_0 rfl (lv_at hl 0 rfl) ?_
  refine mget_thrown S hw dM_thrown_1 ?_
  exact z_iret S hR hlk hw dM_thrown_4 rfl
def kM_goes_c10 (τ : MS) (v1 : Bool) (s0 : Bool) : Bool × MS :=
  (v1, (mI τ 0 (bI s0)))
def kM_goes (τ : MS) (a1 : Bool) : Bool × MS :=
  if (bI a1) = 0 then
    kM_goes_c10 τ a1 true
  else
    kM_goes_c10 τ a1 false
set_option maxRecDepth 100000 in
set_option maxHeartbeats 4000000 in
theorem jM_goes_c10 (l : Launch) (D : va_G) (g qb qg qw : Nat) (cA : ClassId) {p : Program} {e : Env} {s : State} {m : MethodId} {args : Array Value} {below : List Frame} {meth : Method} {c : Code} (S : CallFix p m c bM_goes 2 s args wAll RM) (hR : meth.sig.returnType = (some .boolean)) (hlk : meth.locks = false) {ls : Array Slot} {H : Heap} {locs : List Loc} (τ : MS) (v1 : Bool) (s0 : Bool) (hl : lv_has ls 2 [(1, .int (bI v1))]) (hw : mH D g qb qg qw cA s τ H locs) : W p l e { frames := 0, cells := 0, slots := 0, locals := 0 } s m args below meth c H locs 0 0 (mQi D g qb qg qw cA below args s (bI (kM_goes_c10 τ v1 s0).1) (kM_goes_c10 τ v1 s0).2) (F0 m 10 ls [.int (bI s0), .ref g]) := by
  have hx := S.1
  have hb := S.2.1
  refine mput_thrown S hw dM_goes_10 (fun H locs hw => ?_)
  refine lv_iload_n hx hb dM_goes_13 rfl (lv_at hl 0 rfl) ?_
  exact z_zretP (v := v1) S hR hlk hw dM_goes_14 rfl
set_option maxRecDepth 100000 in
set_option maxHeartbeats 4000000 in
theorem cM_goes (l : Launch) (D : va_G) (g qb qg qw : Nat) (cA : ClassId) (τ : MS) (a1 : Bool) : mMi l yM_goes (.code yM_goes bM_goes 2 (some .boolean) :: wAll) { frames := 0, cells := 0, slots := 0, locals := 0 } D g qb qg qw cA [.ref g, .int (bI a1)] τ (bI (kM_goes τ a1).1) (kM_goes τ a1).2 := by
  refine z_entryi (cc := bM_goes) (nL := 2) (by decide) rfl rfl (Nat.le_of_ble_eq_true rfl) (fun p e s m args below meth c S hR hlk ls H locs hl hw => ?_)
  have hx := S.1
  have hb := S.2.1
  have hl : lv_has ls 2 [(0, .ref g), (1, .int (bI a1))] := hl
  refine lv_aload_n hx hb dM_goes_0 rfl (lv_at hl 0 rfl) ?_
  refine lv_iload_n hx hb dM_goes_1 rfl (lv_at hl 1 rfl) ?_
  refine lv_if_eq (tgt := 9) hx hb dM_goes_2 (by decide) (fun h_2 => ?_) (fun h_2 => ?_)
  · skip
    refine lv_iconst (v := 1) hx hb dM_goes_9 (by decide) ?_
    rw [show kM_goes τ a1 = kM_goes_c10 τ a1 true from (by rw [kM_goes, if_pos h_2])]
    exact jM_goes_c10 l D g qb qg qw cA S hR hlk τ a1 true  (lv_sub hl [1] rfl) hw
  · skip
    refine lv_iconst (v := 0) hx hb dM_goes_5 (by decide) ?_
    refine lv_goto (tgt := 10) hx hb dM_goes_6 (by decide) ?_
    rw [show kM_goes τ a1 = kM_goes_c10 τ a1 false from (by rw [kM_goes, if_neg h_2])]
    exact jM_goes_c10 l D g qb qg qw cA S hR hlk τ a1 false  (lv_sub hl [1] rfl) hw
def kM_inMemory (a0 : Int32) (a1 : Int32) : Bool :=
  if a0 < 0 then
    false
  else
    if ((4096 : Int32) - a1) < a0 then
      false
    else
      true
set_option maxRecDepth 100000 in
set_option maxHeartbeats 4000000 in
theorem cM_inMemory (l : Launch) (D : va_G) (a0 : Int32) (a1 : Int32) : sMi l yM_inMemory (.code yM_inMemory bM_inMemory 2 (some .boolean) :: wAll) { frames := 0, cells := 0, slots := 0, locals := 0 } D [.int a0, .int a1] (bI (kM_inMemory a0 a1))  := by
  refine z_entryi (cc := bM_inMemory) (nL := 2) (by decide) rfl rfl (Nat.le_of_ble_eq_true rfl) (fun p e s m args below meth c S hR hlk ls H locs hl hw => ?_)
  have hx := S.1
  have hb := S.2.1
  have hl : lv_has ls 2 [(0, .int a0), (1, .int a1)] := hl
  refine lv_iload_n hx hb dM_inMemory_0 rfl (lv_at hl 0 rfl) ?_
  refine lv_if_lt (tgt := 17) hx hb dM_inMemory_1 (by decide) (fun h_1 => ?_) (fun h_1 => ?_)
  · skip
    refine lv_iconst (v := 0) hx hb dM_inMemory_17 (by decide) ?_
    exact z_zret (v := false) S hR hlk hw dM_inMemory_18 (by rw [kM_inMemory, if_pos h_1])
  · skip
    refine lv_iload_n hx hb dM_inMemory_4 rfl (lv_at hl 0 rfl) ?_
    refine lv_sipush (v := 4096) hx hb dM_inMemory_5 (by decide) ?_
    refine lv_iload_n hx hb dM_inMemory_8 rfl (lv_at hl 1 rfl) ?_
    refine lv_isub hx hb dM_inMemory_9 ?_
    refine lv_icmp_gt (tgt := 17) hx hb dM_inMemory_10 (by decide) (fun h_10 => ?_) (fun h_10 => ?_)
    · skip
      refine lv_iconst (v := 0) hx hb dM_inMemory_17 (by decide) ?_
      exact z_zret (v := false) S hR hlk hw dM_inMemory_18 (by rw [kM_inMemory, if_neg h_1, if_pos h_10])
    · skip
      refine lv_iconst (v := 1) hx hb dM_inMemory_13 (by decide) ?_
      refine lv_goto (tgt := 18) hx hb dM_inMemory_14 (by decide) ?_
      exact z_zret (v := true) S hR hlk hw dM_inMemory_18 (by rw [kM_inMemory, if_neg h_1, if_neg h_10])
def kM_isWord (a0 : Int32) : Bool :=
  if (bI (kM_inMemory a0 (4 : Int32))) = 0 then
    false
  else
    if (a0 - a0 / (4 : Int32) * (4 : Int32)) = 0 then
      true
    else
      false
set_option maxRecDepth 100000 in
set_option maxHeartbeats 4000000 in
theorem cM_isWord (l : Launch) (D : va_G) (a0 : Int32) : sMi l yM_isWord (.code yM_isWord bM_isWord 1 (some .boolean) :: wAll) { frames := 1, cells := 0, slots := 0, locals := 21 } D [.int a0] (bI (kM_isWord a0))  := by
  refine z_entryi (cc := bM_isWord) (nL := 1) (by decide) rfl rfl (Nat.le_of_ble_eq_true rfl) (fun p e s m args below meth c S hR hlk ls H locs hl hw => ?_)
  have hx := S.1
  have hb := S.2.1
  have hl : lv_has ls 1 [(0, .int a0)] := hl
  refine lv_iload_n hx hb dM_isWord_0 rfl (lv_at hl 0 rfl) ?_
  refine lv_iconst (v := 4) hx hb dM_isWord_1 (by decide) ?_
  refine s_calli S (cM_inMemory l D a0 (4 : Int32)) (qM_inMemory S.2.2.2.2 ⟨Nat.le_of_ble_eq_true rfl, Nat.le_of_ble_eq_true rfl⟩) hw rfl hl.1 rfl (Nat.le_of_ble_eq_true rfl) dM_isWord_2 (fun H locs hw => ?_)
  refine lv_if_eq (tgt := 18) hx hb dM_isWord_5 (by decide) (fun h_5 => ?_) (fun h_5 => ?_)
  · skip
    refine lv_iconst (v := 0) hx hb dM_isWord_18 (by decide) ?_
    exact z_zret (v := false) S hR hlk hw dM_isWord_19 (by rw [kM_isWord, if_pos h_5])
  · skip
    refine lv_iload_n hx hb dM_isWord_8 rfl (lv_at hl 0 rfl) ?_
    refine lv_iconst (v := 4) hx hb dM_isWord_9 (by decide) ?_
    refine lv_irem hx hb dM_isWord_10 (by decide) ?_
    refine lv_if_ne (tgt := 18) hx hb dM_isWord_11 (by decide) (fun h_11 => ?_) (fun h_11 => ?_)
    · skip
      refine lv_iconst (v := 0) hx hb dM_isWord_18 (by decide) ?_
      exact z_zret (v := false) S hR hlk hw dM_isWord_19 (by rw [kM_isWord, if_neg h_5, if_neg h_11])
    · skip
      refine lv_iconst (v := 1) hx hb dM_isWord_14 (by decide) ?_
      refine lv_goto (tgt := 19) hx hb dM_isWord_15 (by decide) ?_
      exact z_zret (v := true) S hR hlk hw dM_isWord_19 (by rw [kM_isWord, if_neg h_5, if_pos h_11])
def kM_slot (a0 : Int32) (a1 : Int32) : Int32 :=
  if (24 : Int32) ≤ a1 then
    ((((16 : Int32) * ((a0 + (1 : Int32)) - (a0 + (1 : Int32)) / (8 : Int32) * (8 : Int32))) + a1) - (24 : Int32))
  else
    ((((16 : Int32) * a0) + a1) - (8 : Int32))
set_option maxRecDepth 100000 in
set_option maxHeartbeats 4000000 in
theorem cM_slot (l : Launch) (D : va_G) (a0 : Int32) (a1 : Int32) : sMi l yM_slot (.code yM_slot bM_slot 2 (some .int) :: wAll) { frames := 0, cells := 0, slots := 0, locals := 0 } D [.int a0, .int a1] (kM_slot a0 a1)  := by
  refine z_entryi (cc := bM_slot) (nL := 2) (by decide) rfl rfl (Nat.le_of_ble_eq_true rfl) (fun p e s m args below meth c S hR hlk ls H locs hl hw => ?_)
  have hx := S.1
  have hb := S.2.1
  have hl : lv_has ls 2 [(0, .int a0), (1, .int a1)] := hl
  refine lv_iload_n hx hb dM_slot_0 rfl (lv_at hl 1 rfl) ?_
  refine lv_bipush (v := 24) hx hb dM_slot_1 (by decide) ?_
  refine lv_icmp_ge (tgt := 18) hx hb dM_slot_3 (by decide) (fun h_3 => ?_) (fun h_3 => ?_)
  · skip
    refine lv_bipush (v := 16) hx hb dM_slot_18 (by decide) ?_
    refine lv_iload_n hx hb dM_slot_20 rfl (lv_at hl 0 rfl) ?_
    refine lv_iconst (v := 1) hx hb dM_slot_21 (by decide) ?_
    refine lv_iadd hx hb dM_slot_22 ?_
    refine lv_bipush (v := 8) hx hb dM_slot_23 (by decide) ?_
    refine lv_irem hx hb dM_slot_25 (by decide) ?_
    refine lv_imul hx hb dM_slot_26 ?_
    refine lv_iload_n hx hb dM_slot_27 rfl (lv_at hl 1 rfl) ?_
    refine lv_iadd hx hb dM_slot_28 ?_
    refine lv_bipush (v := 24) hx hb dM_slot_29 (by decide) ?_
    refine lv_isub hx hb dM_slot_31 ?_
    exact z_iret S hR hlk hw dM_slot_32 (by rw [kM_slot, if_pos h_3])
  · skip
    refine lv_bipush (v := 16) hx hb dM_slot_6 (by decide) ?_
    refine lv_iload_n hx hb dM_slot_8 rfl (lv_at hl 0 rfl) ?_
    refine lv_imul hx hb dM_slot_9 ?_
    refine lv_iload_n hx hb dM_slot_10 rfl (lv_at hl 1 rfl) ?_
    refine lv_iadd hx hb dM_slot_11 ?_
    refine lv_bipush (v := 8) hx hb dM_slot_12 (by decide) ?_
    refine lv_isub hx hb dM_slot_14 ?_
    refine lv_goto (tgt := 32) hx hb dM_slot_15 (by decide) ?_
    exact z_iret S hR hlk hw dM_slot_32 (by rw [kM_slot, if_neg h_3])
def kM_isRegister (a0 : Int32) (a1 : Int32) : Bool :=
  if a0 < 0 then
    false
  else
    if (8 : Int32) ≤ a0 then
      false
    else
      if a1 < 0 then
        false
      else
        if (32 : Int32) ≤ a1 then
          false
        else
          true
set_option maxRecDepth 100000 in
set_option maxHeartbeats 4000000 in
theorem cM_isRegister (l : Launch) (D : va_G) (a0 : Int32) (a1 : Int32) : sMi l yM_isRegister (.code yM_isRegister bM_isRegister 2 (some .boolean) :: wAll) { frames := 0, cells := 0, slots := 0, locals := 0 } D [.int a0, .int a1] (bI (kM_isRegister a0 a1))  := by
  refine z_entryi (cc := bM_isRegister) (nL := 2) (by decide) rfl rfl (Nat.le_of_ble_eq_true rfl) (fun p e s m args below meth c S hR hlk ls H locs hl hw => ?_)
  have hx := S.1
  have hb := S.2.1
  have hl : lv_has ls 2 [(0, .int a0), (1, .int a1)] := hl
  refine lv_iload_n hx hb dM_isRegister_0 rfl (lv_at hl 0 rfl) ?_
  refine lv_if_lt (tgt := 24) hx hb dM_isRegister_1 (by decide) (fun h_1 => ?_) (fun h_1 => ?_)
  · skip
    refine lv_iconst (v := 0) hx hb dM_isRegister_24 (by decide) ?_
    exact z_zret (v := false) S hR hlk hw dM_isRegister_25 (by rw [kM_isRegister, if_pos h_1])
  · skip
    refine lv_iload_n hx hb dM_isRegister_4 rfl (lv_at hl 0 rfl) ?_
    refine lv_bipush (v := 8) hx hb dM_isRegister_5 (by decide) ?_
    refine lv_icmp_ge (tgt := 24) hx hb dM_isRegister_7 (by decide) (fun h_7 => ?_) (fun h_7 => ?_)
    · skip
      refine lv_iconst (v := 0) hx hb dM_isRegister_24 (by decide) ?_
      exact z_zret (v := false) S hR hlk hw dM_isRegister_25 (by rw [kM_isRegister, if_neg h_1, if_pos h_7])
    · skip
      refine lv_iload_n hx hb dM_isRegister_10 rfl (lv_at hl 1 rfl) ?_
      refine lv_if_lt (tgt := 24) hx hb dM_isRegister_11 (by decide) (fun h_11 => ?_) (fun h_11 => ?_)
      · skip
        refine lv_iconst (v := 0) hx hb dM_isRegister_24 (by decide) ?_
        exact z_zret (v := false) S hR hlk hw dM_isRegister_25 (by rw [kM_isRegister, if_neg h_1, if_neg h_7, if_pos h_11])
      · skip
        refine lv_iload_n hx hb dM_isRegister_14 rfl (lv_at hl 1 rfl) ?_
        refine lv_bipush (v := 32) hx hb dM_isRegister_15 (by decide) ?_
        refine lv_icmp_ge (tgt := 24) hx hb dM_isRegister_17 (by decide) (fun h_17 => ?_) (fun h_17 => ?_)
        · skip
          refine lv_iconst (v := 0) hx hb dM_isRegister_24 (by decide) ?_
          exact z_zret (v := false) S hR hlk hw dM_isRegister_25 (by rw [kM_isRegister, if_neg h_1, if_neg h_7, if_neg h_11, if_pos h_17])
        · skip
          refine lv_iconst (v := 1) hx hb dM_isRegister_20 (by decide) ?_
          refine lv_goto (tgt := 25) hx hb dM_isRegister_21 (by decide) ?_
          exact z_zret (v := true) S hR hlk hw dM_isRegister_25 (by rw [kM_isRegister, if_neg h_1, if_neg h_7, if_neg h_11, if_neg h_17])
def kM_bit (a0 : Bool) (a1 : Int32) : Int32 :=
  if (bI a0) = 0 then
    (0 : Int32)
  else
    ((1 : Int32) <<< (a1 &&& 31))
set_option maxRecDepth 100000 in
set_option maxHeartbeats 4000000 in
theorem cM_bit (l : Launch) (D : va_G) (a0 : Bool) (a1 : Int32) : sMi l yM_bit (.code yM_bit bM_bit 2 (some .int) :: wAll) { frames := 0, cells := 0, slots := 0, locals := 0 } D [.int (bI a0), .int a1] (kM_bit a0 a1)  := by
  refine z_entryi (cc := bM_bit) (nL := 2) (by decide) rfl rfl (Nat.le_of_ble_eq_true rfl) (fun p e s m args below meth c S hR hlk ls H locs hl hw => ?_)
  have hx := S.1
  have hb := S.2.1
  have hl : lv_has ls 2 [(0, .int (bI a0)), (1, .int a1)] := hl
  refine lv_iload_n hx hb dM_bit_0 rfl (lv_at hl 0 rfl) ?_
  refine lv_if_eq (tgt := 10) hx hb dM_bit_1 (by decide) (fun h_1 => ?_) (fun h_1 => ?_)
  · skip
    refine lv_iconst (v := 0) hx hb dM_bit_10 (by decide) ?_
    exact z_iret S hR hlk hw dM_bit_11 (by rw [kM_bit, if_pos h_1])
  · skip
    refine lv_iconst (v := 1) hx hb dM_bit_4 (by decide) ?_
    refine lv_iload_n hx hb dM_bit_5 rfl (lv_at hl 1 rfl) ?_
    refine lv_ishl hx hb dM_bit_6 ?_
    refine lv_goto (tgt := 11) hx hb dM_bit_7 (by decide) ?_
    exact z_iret S hR hlk hw dM_bit_11 (by rw [kM_bit, if_neg h_1])
def kM_status (τ : MS) : Int32 :=
  (((((((((τ.1 4) ||| (kM_bit (τ.2.1 5) (5 : Int32))) ||| (kM_bit (τ.2.1 6) (6 : Int32))) ||| (kM_bit (τ.2.1 7) (7 : Int32))) ||| ((τ.1 8) <<< ((8 : Int32) &&& 31))) ||| (kM_bit (τ.2.1 9) (20 : Int32))) ||| (kM_bit (τ.2.1 10) (21 : Int32))) ||| (kM_bit (τ.2.1 11) (22 : Int32))) ||| (kM_bit (τ.2.1 12) (23 : Int32)))
set_option maxRecDepth 100000 in
set_option maxHeartbeats 4000000 in
theorem cM_status (l : Launch) (D : va_G) (g qb qg qw : Nat) (cA : ClassId) (τ : MS) : mMi l yM_status (.code yM_status bM_status 1 (some .int) :: wAll) { frames := 1, cells := 0, slots := 0, locals := 21 } D g qb qg qw cA [.ref g] τ (kM_status τ) τ := by
  refine z_entryi (cc := bM_status) (nL := 1) (by decide) rfl rfl (Nat.le_of_ble_eq_true rfl) (fun p e s m args below meth c S hR hlk ls H locs hl hw => ?_)
  have hx := S.1
  have hb := S.2.1
  have hl : lv_has ls 1 [(0, .ref g)] := hl
  refine lv_aload_n hx hb dM_status_0 rfl (lv_at hl 0 rfl) ?_
  refine mget_window S hw dM_status_1 ?_
  refine lv_aload_n hx hb dM_status_4 rfl (lv_at hl 0 rfl) ?_
  refine mget_traps S hw dM_status_5 ?_
  refine lv_iconst (v := 5) hx hb dM_status_8 (by decide) ?_
  refine s_calli S (cM_bit l D (τ.2.1 5) (5 : Int32)) (qM_bit S.2.2.2.2 ⟨Nat.le_of_ble_eq_true rfl, Nat.le_of_ble_eq_true rfl⟩) hw rfl hl.1 rfl (Nat.le_of_ble_eq_true rfl) dM_status_9 (fun H locs hw => ?_)
  refine lv_ior hx hb dM_status_12 ?_
  refine lv_aload_n hx hb dM_status_13 rfl (lv_at hl 0 rfl) ?_
  refine mget_before S hw dM_status_14 ?_
  refine lv_bipush (v := 6) hx hb dM_status_17 (by decide) ?_
  refine s_calli S (cM_bit l D (τ.2.1 6) (6 : Int32)) (qM_bit S.2.2.2.2 ⟨Nat.le_of_ble_eq_true rfl, Nat.le_of_ble_eq_true rfl⟩) hw rfl hl.1 rfl (Nat.le_of_ble_eq_true rfl) dM_status_19 (fun H locs hw => ?_)
  refine lv_ior hx hb dM_status_22 ?_
  refine lv_aload_n hx hb dM_status_23 rfl (lv_at hl 0 rfl) ?_
  refine mget_kernel S hw dM_status_24 ?_
  refine lv_bipush (v := 7) hx hb dM_status_27 (by decide) ?_
  refine s_calli S (cM_bit l D (τ.2.1 7) (7 : Int32)) (qM_bit S.2.2.2.2 ⟨Nat.le_of_ble_eq_true rfl, Nat.le_of_ble_eq_true rfl⟩) hw rfl hl.1 rfl (Nat.le_of_ble_eq_true rfl) dM_status_29 (fun H locs hw => ?_)
  refine lv_ior hx hb dM_status_32 ?_
  refine lv_aload_n hx hb dM_status_33 rfl (lv_at hl 0 rfl) ?_
  refine mget_level S hw dM_status_34 ?_
  refine lv_bipush (v := 8) hx hb dM_status_37 (by decide) ?_
  refine lv_ishl hx hb dM_status_39 ?_
  refine lv_ior hx hb dM_status_40 ?_
  refine lv_aload_n hx hb dM_status_41 rfl (lv_at hl 0 rfl) ?_
  refine mget_carry S hw dM_status_42 ?_
  refine lv_bipush (v := 20) hx hb dM_status_45 (by decide) ?_
  refine s_calli S (cM_bit l D (τ.2.1 9) (20 : Int32)) (qM_bit S.2.2.2.2 ⟨Nat.le_of_ble_eq_true rfl, Nat.le_of_ble_eq_true rfl⟩) hw rfl hl.1 rfl (Nat.le_of_ble_eq_true rfl) dM_status_47 (fun H locs hw => ?_)
  refine lv_ior hx hb dM_status_50 ?_
  refine lv_aload_n hx hb dM_status_51 rfl (lv_at hl 0 rfl) ?_
  refine mget_overflow S hw dM_status_52 ?_
  refine lv_bipush (v := 21) hx hb dM_status_55 (by decide) ?_
  refine s_calli S (cM_bit l D (τ.2.1 10) (21 : Int32)) (qM_bit S.2.2.2.2 ⟨Nat.le_of_ble_eq_true rfl, Nat.le_of_ble_eq_true rfl⟩) hw rfl hl.1 rfl (Nat.le_of_ble_eq_true rfl) dM_status_57 (fun H locs hw => ?_)
  refine lv_ior hx hb dM_status_60 ?_
  refine lv_aload_n hx hb dM_status_61 rfl (lv_at hl 0 rfl) ?_
  refine mget_zero S hw dM_status_62 ?_
  refine lv_bipush (v := 22) hx hb dM_status_65 (by decide) ?_
  refine s_calli S (cM_bit l D (τ.2.1 11) (22 : Int32)) (qM_bit S.2.2.2.2 ⟨Nat.le_of_ble_eq_true rfl, Nat.le_of_ble_eq_true rfl⟩) hw rfl hl.1 rfl (Nat.le_of_ble_eq_true rfl) dM_status_67 (fun H locs hw => ?_)
  refine lv_ior hx hb dM_status_70 ?_
  refine lv_aload_n hx hb dM_status_71 rfl (lv_at hl 0 rfl) ?_
  refine mget_negative S hw dM_status_72 ?_
  refine lv_bipush (v := 23) hx hb dM_status_75 (by decide) ?_
  refine s_calli S (cM_bit l D (τ.2.1 12) (23 : Int32)) (qM_bit S.2.2.2.2 ⟨Nat.le_of_ble_eq_true rfl, Nat.le_of_ble_eq_true rfl⟩) hw rfl hl.1 rfl (Nat.le_of_ble_eq_true rfl) dM_status_77 (fun H locs hw => ?_)
  refine lv_ior hx hb dM_status_80 ?_
  exact z_iret S hR hlk hw dM_status_81 rfl
def kM_setStatus_c148 (τ : MS) (s0 : Bool) : MS :=
  (mB τ 12 s0)
def kM_setStatus_c132 (τ : MS) (v1 : Int32) : MS :=
  if ((v1 >>> ((23 : Int32) &&& 31)) &&& (1 : Int32)) = (1 : Int32) then
    kM_setStatus_c148 τ true
  else
    kM_setStatus_c148 τ false
def kM_setStatus_c129 (τ : MS) (v1 : Int32) (s0 : Bool) : MS :=
  kM_setStatus_c132 (mB τ 11 s0) v1
def kM_setStatus_c113 (τ : MS) (v1 : Int32) : MS :=
  if ((v1 >>> ((22 : Int32) &&& 31)) &&& (1 : Int32)) = (1 : Int32) then
    kM_setStatus_c129 τ v1 true
  else
    kM_setStatus_c129 τ v1 false
def kM_setStatus_c110 (τ : MS) (v1 : Int32) (s0 : Bool) : MS :=
  kM_setStatus_c113 (mB τ 10 s0) v1
def kM_setStatus_c94 (τ : MS) (v1 : Int32) : MS :=
  if ((v1 >>> ((21 : Int32) &&& 31)) &&& (1 : Int32)) = (1 : Int32) then
    kM_setStatus_c110 τ v1 true
  else
    kM_setStatus_c110 τ v1 false
def kM_setStatus_c91 (τ : MS) (v1 : Int32) (s0 : Bool) : MS :=
  kM_setStatus_c94 (mB τ 9 s0) v1
def kM_setStatus_c75 (τ : MS) (v1 : Int32) : MS :=
  if ((v1 >>> ((20 : Int32) &&& 31)) &&& (1 : Int32)) = (1 : Int32) then
    kM_setStatus_c91 τ v1 true
  else
    kM_setStatus_c91 τ v1 false
def kM_setStatus_c64 (τ : MS) (v1 : Int32) : MS :=
  kM_setStatus_c75 (mI τ 8 ((v1 >>> ((8 : Int32) &&& 31)) &&& (15 : Int32))) v1
def kM_setStatus_c61 (τ : MS) (v1 : Int32) (s0 : Bool) : MS :=
  kM_setStatus_c64 (mB τ 7 s0) v1
def kM_setStatus_c45 (τ : MS) (v1 : Int32) : MS :=
  if ((v1 >>> ((7 : Int32) &&& 31)) &&& (1 : Int32)) = (1 : Int32) then
    kM_setStatus_c61 τ v1 true
  else
    kM_setStatus_c61 τ v1 false
def kM_setStatus_c42 (τ : MS) (v1 : Int32) (s0 : Bool) : MS :=
  kM_setStatus_c45 (mB τ 6 s0) v1
def kM_setStatus_c26 (τ : MS) (v1 : Int32) : MS :=
  if ((v1 >>> ((6 : Int32) &&& 31)) &&& (1 : Int32)) = (1 : Int32) then
    kM_setStatus_c42 τ v1 true
  else
    kM_setStatus_c42 τ v1 false
def kM_setStatus_c23 (τ : MS) (v1 : Int32) (s0 : Bool) : MS :=
  kM_setStatus_c26 (mB τ 5 s0) v1
def kM_setStatus_c8 (τ : MS) (v1 : Int32) : MS :=
  if ((v1 >>> ((5 : Int32) &&& 31)) &&& (1 : Int32)) = (1 : Int32) then
    kM_setStatus_c23 τ v1 true
  else
    kM_setStatus_c23 τ v1 false
def kM_setStatus (τ : MS) (a1 : Int32) : MS :=
  kM_setStatus_c8 (mI τ 4 (a1 &&& (7 : Int32))) a1
set_option maxRecDepth 100000 in
set_option maxHeartbeats 4000000 in
theorem jM_setStatus_c148 (l : Launch) (D : va_G) (g qb qg qw : Nat) (cA : ClassId) {p : Program} {e : Env} {s : State} {m : MethodId} {args : Array Value} {below : List Frame} {meth : Method} {c : Code} (S : CallFix p m c bM_setStatus 2 s args wAll RM) (hR : meth.sig.returnType = none) (hlk : meth.locks = false) {ls : Array Slot} {H : Heap} {locs : List Loc} (τ : MS) (s0 : Bool) (hl : lv_has ls 2 []) (hw : mH D g qb qg qw cA s τ H locs) : W p l e { frames := 0, cells := 0, slots := 0, locals := 0 } s m args below meth c H locs 0 0 (mQv D g qb qg qw cA below args s (kM_setStatus_c148 τ s0)) (F0 m 148 ls [.int (bI s0), .ref g]) := by
  have hx := S.1
  have hb := S.2.1
  refine mput_negative (v := s0) S hw dM_setStatus_148 (fun H locs hw => ?_)
  exact z_vret S hR hlk hw dM_setStatus_151 rfl
set_option maxRecDepth 100000 in
set_option maxHeartbeats 4000000 in
theorem jM_setStatus_c132 (l : Launch) (D : va_G) (g qb qg qw : Nat) (cA : ClassId) {p : Program} {e : Env} {s : State} {m : MethodId} {args : Array Value} {below : List Frame} {meth : Method} {c : Code} (S : CallFix p m c bM_setStatus 2 s args wAll RM) (hR : meth.sig.returnType = none) (hlk : meth.locks = false) {ls : Array Slot} {H : Heap} {locs : List Loc} (τ : MS) (v1 : Int32) (hl : lv_has ls 2 [(0, .ref g), (1, .int v1)]) (hw : mH D g qb qg qw cA s τ H locs) : W p l e { frames := 0, cells := 0, slots := 0, locals := 0 } s m args below meth c H locs 0 0 (mQv D g qb qg qw cA below args s (kM_setStatus_c132 τ v1)) (F0 m 132 ls []) := by
  have hx := S.1
  have hb := S.2.1
  refine lv_aload_n hx hb dM_setStatus_132 rfl (lv_at hl 0 rfl) ?_
  refine lv_iload_n hx hb dM_setStatus_133 rfl (lv_at hl 1 rfl) ?_
  refine lv_bipush (v := 23) hx hb dM_setStatus_134 (by decide) ?_
  refine lv_ishr hx hb dM_setStatus_136 ?_
  refine lv_iconst (v := 1) hx hb dM_setStatus_137 (by decide) ?_
  refine lv_iand hx hb dM_setStatus_138 ?_
  refine lv_iconst (v := 1) hx hb dM_setStatus_139 (by decide) ?_
  refine lv_icmp_ne (tgt := 147) hx hb dM_setStatus_140 (by decide) (fun h_140 => ?_) (fun h_140 => ?_)
  · skip
    refine lv_iconst (v := 0) hx hb dM_setStatus_147 (by decide) ?_
    rw [show kM_setStatus_c132 τ v1 = kM_setStatus_c148 τ false from (by rw [kM_setStatus_c132, if_neg h_140])]
    exact jM_setStatus_c148 l D g qb qg qw cA S hR hlk τ false  (lv_sub hl [] rfl) hw
  · skip
    refine lv_iconst (v := 1) hx hb dM_setStatus_143 (by decide) ?_
    refine lv_goto (tgt := 148) hx hb dM_setStatus_144 (by decide) ?_
    rw [show kM_setStatus_c132 τ v1 = kM_setStatus_c148 τ true from (by rw [kM_setStatus_c132, if_pos h_140])]
    exact jM_setStatus_c148 l D g qb qg qw cA S hR hlk τ true  (lv_sub hl [] rfl) hw
set_option maxRecDepth 100000 in
set_option maxHeartbeats 4000000 in
theorem jM_setStatus_c129 (l : Launch) (D : va_G) (g qb qg qw : Nat) (cA : ClassId) {p : Program} {e : Env} {s : State} {m : MethodId} {args : Array Value} {below : List Frame} {meth : Method} {c : Code} (S : CallFix p m c bM_setStatus 2 s args wAll RM) (hR : meth.sig.returnType = none) (hlk : meth.locks = false) {ls : Array Slot} {H : Heap} {locs : List Loc} (τ : MS) (v1 : Int32) (s0 : Bool) (hl : lv_has ls 2 [(0, .ref g), (1, .int v1)]) (hw : mH D g qb qg qw cA s τ H locs) : W p l e { frames := 0, cells := 0, slots := 0, locals := 0 } s m args below meth c H locs 0 0 (mQv D g qb qg qw cA below args s (kM_setStatus_c129 τ v1 s0)) (F0 m 129 ls [.int (bI s0), .ref g]) := by
  have hx := S.1
  have hb := S.2.1
  refine mput_zero (v := s0) S hw dM_setStatus_129 (fun H locs hw => ?_)
  rw [show kM_setStatus_c129 τ v1 s0 = kM_setStatus_c132 (mB τ 11 s0) v1 from rfl]
  exact jM_setStatus_c132 l D g qb qg qw cA S hR hlk (mB τ 11 s0) v1  (lv_sub hl [0, 1] rfl) hw
set_option maxRecDepth 100000 in
set_option maxHeartbeats 4000000 in
theorem jM_setStatus_c113 (l : Launch) (D : va_G) (g qb qg qw : Nat) (cA : ClassId) {p : Program} {e : Env} {s : State} {m : MethodId} {args : Array Value} {below : List Frame} {meth : Method} {c : Code} (S : CallFix p m c bM_setStatus 2 s args wAll RM) (hR : meth.sig.returnType = none) (hlk : meth.locks = false) {ls : Array Slot} {H : Heap} {locs : List Loc} (τ : MS) (v1 : Int32) (hl : lv_has ls 2 [(0, .ref g), (1, .int v1)]) (hw : mH D g qb qg qw cA s τ H locs) : W p l e { frames := 0, cells := 0, slots := 0, locals := 0 } s m args below meth c H locs 0 0 (mQv D g qb qg qw cA below args s (kM_setStatus_c113 τ v1)) (F0 m 113 ls []) := by
  have hx := S.1
  have hb := S.2.1
  refine lv_aload_n hx hb dM_setStatus_113 rfl (lv_at hl 0 rfl) ?_
  refine lv_iload_n hx hb dM_setStatus_114 rfl (lv_at hl 1 rfl) ?_
  refine lv_bipush (v := 22) hx hb dM_setStatus_115 (by decide) ?_
  refine lv_ishr hx hb dM_setStatus_117 ?_
  refine lv_iconst (v := 1) hx hb dM_setStatus_118 (by decide) ?_
  refine lv_iand hx hb dM_setStatus_119 ?_
  refine lv_iconst (v := 1) hx hb dM_setStatus_120 (by decide) ?_
  refine lv_icmp_ne (tgt := 128) hx hb dM_setStatus_121 (by decide) (fun h_121 => ?_) (fun h_121 => ?_)
  · skip
    refine lv_iconst (v := 0) hx hb dM_setStatus_128 (by decide) ?_
    rw [show kM_setStatus_c113 τ v1 = kM_setStatus_c129 τ v1 false from (by rw [kM_setStatus_c113, if_neg h_121])]
    exact jM_setStatus_c129 l D g qb qg qw cA S hR hlk τ v1 false  (lv_sub hl [0, 1] rfl) hw
  · skip
    refine lv_iconst (v := 1) hx hb dM_setStatus_124 (by decide) ?_
    refine lv_goto (tgt := 129) hx hb dM_setStatus_125 (by decide) ?_
    rw [show kM_setStatus_c113 τ v1 = kM_setStatus_c129 τ v1 true from (by rw [kM_setStatus_c113, if_pos h_121])]
    exact jM_setStatus_c129 l D g qb qg qw cA S hR hlk τ v1 true  (lv_sub hl [0, 1] rfl) hw
set_option maxRecDepth 100000 in
set_option maxHeartbeats 4000000 in
theorem jM_setStatus_c110 (l : Launch) (D : va_G) (g qb qg qw : Nat) (cA : ClassId) {p : Program} {e : Env} {s : State} {m : MethodId} {args : Array Value} {below : List Frame} {meth : Method} {c : Code} (S : CallFix p m c bM_setStatus 2 s args wAll RM) (hR : meth.sig.returnType = none) (hlk : meth.locks = false) {ls : Array Slot} {H : Heap} {locs : List Loc} (τ : MS) (v1 : Int32) (s0 : Bool) (hl : lv_has ls 2 [(0, .ref g), (1, .int v1)]) (hw : mH D g qb qg qw cA s τ H locs) : W p l e { frames := 0, cells := 0, slots := 0, locals := 0 } s m args below meth c H locs 0 0 (mQv D g qb qg qw cA below args s (kM_setStatus_c110 τ v1 s0)) (F0 m 110 ls [.int (bI s0), .ref g]) := by
  have hx := S.1
  have hb := S.2.1
  refine mput_overflow (v := s0) S hw dM_setStatus_110 (fun H locs hw => ?_)
  rw [show kM_setStatus_c110 τ v1 s0 = kM_setStatus_c113 (mB τ 10 s0) v1 from rfl]
  exact jM_setStatus_c113 l D g qb qg qw cA S hR hlk (mB τ 10 s0) v1  (lv_sub hl [0, 1] rfl) hw
set_option maxRecDepth 100000 in
set_option maxHeartbeats 4000000 in
theorem jM_setStatus_c94 (l : Launch) (D : va_G) (g qb qg qw : Nat) (cA : ClassId) {p : Program} {e : Env} {s : State} {m : MethodId} {args : Array Value} {below : List Frame} {meth : Method} {c : Code} (S : CallFix p m c bM_setStatus 2 s args wAll RM) (hR : meth.sig.returnType = none) (hlk : meth.locks = false) {ls : Array Slot} {H : Heap} {locs : List Loc} (τ : MS) (v1 : Int32) (hl : lv_has ls 2 [(0, .ref g), (1, .int v1)]) (hw : mH D g qb qg qw cA s τ H locs) : W p l e { frames := 0, cells := 0, slots := 0, locals := 0 } s m args below meth c H locs 0 0 (mQv D g qb qg qw cA below args s (kM_setStatus_c94 τ v1)) (F0 m 94 ls []) := by
  have hx := S.1
  have hb := S.2.1
  refine lv_aload_n hx hb dM_setStatus_94 rfl (lv_at hl 0 rfl) ?_
  refine lv_iload_n hx hb dM_setStatus_95 rfl (lv_at hl 1 rfl) ?_
  refine lv_bipush (v := 21) hx hb dM_setStatus_96 (by decide) ?_
  refine lv_ishr hx hb dM_setStatus_98 ?_
  refine lv_iconst (v := 1) hx hb dM_setStatus_99 (by decide) ?_
  refine lv_iand hx hb dM_setStatus_100 ?_
  refine lv_iconst (v := 1) hx hb dM_setStatus_101 (by decide) ?_
  refine lv_icmp_ne (tgt := 109) hx hb dM_setStatus_102 (by decide) (fun h_102 => ?_) (fun h_102 => ?_)
  · skip
    refine lv_iconst (v := 0) hx hb dM_setStatus_109 (by decide) ?_
    rw [show kM_setStatus_c94 τ v1 = kM_setStatus_c110 τ v1 false from (by rw [kM_setStatus_c94, if_neg h_102])]
    exact jM_setStatus_c110 l D g qb qg qw cA S hR hlk τ v1 false  (lv_sub hl [0, 1] rfl) hw
  · skip
    refine lv_iconst (v := 1) hx hb dM_setStatus_105 (by decide) ?_
    refine lv_goto (tgt := 110) hx hb dM_setStatus_106 (by decide) ?_
    rw [show kM_setStatus_c94 τ v1 = kM_setStatus_c110 τ v1 true from (by rw [kM_setStatus_c94, if_pos h_102])]
    exact jM_setStatus_c110 l D g qb qg qw cA S hR hlk τ v1 true  (lv_sub hl [0, 1] rfl) hw
set_option maxRecDepth 100000 in
set_option maxHeartbeats 4000000 in
theorem jM_setStatus_c91 (l : Launch) (D : va_G) (g qb qg qw : Nat) (cA : ClassId) {p : Program} {e : Env} {s : State} {m : MethodId} {args : Array Value} {below : List Frame} {meth : Method} {c : Code} (S : CallFix p m c bM_setStatus 2 s args wAll RM) (hR : meth.sig.returnType = none) (hlk : meth.locks = false) {ls : Array Slot} {H : Heap} {locs : List Loc} (τ : MS) (v1 : Int32) (s0 : Bool) (hl : lv_has ls 2 [(0, .ref g), (1, .int v1)]) (hw : mH D g qb qg qw cA s τ H locs) : W p l e { frames := 0, cells := 0, slots := 0, locals := 0 } s m args below meth c H locs 0 0 (mQv D g qb qg qw cA below args s (kM_setStatus_c91 τ v1 s0)) (F0 m 91 ls [.int (bI s0), .ref g]) := by
  have hx := S.1
  have hb := S.2.1
  refine mput_carry (v := s0) S hw dM_setStatus_91 (fun H locs hw => ?_)
  rw [show kM_setStatus_c91 τ v1 s0 = kM_setStatus_c94 (mB τ 9 s0) v1 from rfl]
  exact jM_setStatus_c94 l D g qb qg qw cA S hR hlk (mB τ 9 s0) v1  (lv_sub hl [0, 1] rfl) hw
set_option maxRecDepth 100000 in
set_option maxHeartbeats 4000000 in
theorem jM_setStatus_c75 (l : Launch) (D : va_G) (g qb qg qw : Nat) (cA : ClassId) {p : Program} {e : Env} {s : State} {m : MethodId} {args : Array Value} {below : List Frame} {meth : Method} {c : Code} (S : CallFix p m c bM_setStatus 2 s args wAll RM) (hR : meth.sig.returnType = none) (hlk : meth.locks = false) {ls : Array Slot} {H : Heap} {locs : List Loc} (τ : MS) (v1 : Int32) (hl : lv_has ls 2 [(0, .ref g), (1, .int v1)]) (hw : mH D g qb qg qw cA s τ H locs) : W p l e { frames := 0, cells := 0, slots := 0, locals := 0 } s m args below meth c H locs 0 0 (mQv D g qb qg qw cA below args s (kM_setStatus_c75 τ v1)) (F0 m 75 ls []) := by
  have hx := S.1
  have hb := S.2.1
  refine lv_aload_n hx hb dM_setStatus_75 rfl (lv_at hl 0 rfl) ?_
  refine lv_iload_n hx hb dM_setStatus_76 rfl (lv_at hl 1 rfl) ?_
  refine lv_bipush (v := 20) hx hb dM_setStatus_77 (by decide) ?_
  refine lv_ishr hx hb dM_setStatus_79 ?_
  refine lv_iconst (v := 1) hx hb dM_setStatus_80 (by decide) ?_
  refine lv_iand hx hb dM_setStatus_81 ?_
  refine lv_iconst (v := 1) hx hb dM_setStatus_82 (by decide) ?_
  refine lv_icmp_ne (tgt := 90) hx hb dM_setStatus_83 (by decide) (fun h_83 => ?_) (fun h_83 => ?_)
  · skip
    refine lv_iconst (v := 0) hx hb dM_setStatus_90 (by decide) ?_
    rw [show kM_setStatus_c75 τ v1 = kM_setStatus_c91 τ v1 false from (by rw [kM_setStatus_c75, if_neg h_83])]
    exact jM_setStatus_c91 l D g qb qg qw cA S hR hlk τ v1 false  (lv_sub hl [0, 1] rfl) hw
  · skip
    refine lv_iconst (v := 1) hx hb dM_setStatus_86 (by decide) ?_
    refine lv_goto (tgt := 91) hx hb dM_setStatus_87 (by decide) ?_
    rw [show kM_setStatus_c75 τ v1 = kM_setStatus_c91 τ v1 true from (by rw [kM_setStatus_c75, if_pos h_83])]
    exact jM_setStatus_c91 l D g qb qg qw cA S hR hlk τ v1 true  (lv_sub hl [0, 1] rfl) hw
set_option maxRecDepth 100000 in
set_option maxHeartbeats 4000000 in
theorem jM_setStatus_c64 (l : Launch) (D : va_G) (g qb qg qw : Nat) (cA : ClassId) {p : Program} {e : Env} {s : State} {m : MethodId} {args : Array Value} {below : List Frame} {meth : Method} {c : Code} (S : CallFix p m c bM_setStatus 2 s args wAll RM) (hR : meth.sig.returnType = none) (hlk : meth.locks = false) {ls : Array Slot} {H : Heap} {locs : List Loc} (τ : MS) (v1 : Int32) (hl : lv_has ls 2 [(0, .ref g), (1, .int v1)]) (hw : mH D g qb qg qw cA s τ H locs) : W p l e { frames := 0, cells := 0, slots := 0, locals := 0 } s m args below meth c H locs 0 0 (mQv D g qb qg qw cA below args s (kM_setStatus_c64 τ v1)) (F0 m 64 ls []) := by
  have hx := S.1
  have hb := S.2.1
  refine lv_aload_n hx hb dM_setStatus_64 rfl (lv_at hl 0 rfl) ?_
  refine lv_iload_n hx hb dM_setStatus_65 rfl (lv_at hl 1 rfl) ?_
  refine lv_bipush (v := 8) hx hb dM_setStatus_66 (by decide) ?_
  refine lv_ishr hx hb dM_setStatus_68 ?_
  refine lv_bipush (v := 15) hx hb dM_setStatus_69 (by decide) ?_
  refine lv_iand hx hb dM_setStatus_71 ?_
  refine mput_level S hw dM_setStatus_72 (fun H locs hw => ?_)
  rw [show kM_setStatus_c64 τ v1 = kM_setStatus_c75 (mI τ 8 ((v1 >>> ((8 : Int32) &&& 31)) &&& (15 : Int32))) v1 from rfl]
  exact jM_setStatus_c75 l D g qb qg qw cA S hR hlk (mI τ 8 ((v1 >>> ((8 : Int32) &&& 31)) &&& (15 : Int32))) v1  (lv_sub hl [0, 1] rfl) hw
set_option maxRecDepth 100000 in
set_option maxHeartbeats 4000000 in
theorem jM_setStatus_c61 (l : Launch) (D : va_G) (g qb qg qw : Nat) (cA : ClassId) {p : Program} {e : Env} {s : State} {m : MethodId} {args : Array Value} {below : List Frame} {meth : Method} {c : Code} (S : CallFix p m c bM_setStatus 2 s args wAll RM) (hR : meth.sig.returnType = none) (hlk : meth.locks = false) {ls : Array Slot} {H : Heap} {locs : List Loc} (τ : MS) (v1 : Int32) (s0 : Bool) (hl : lv_has ls 2 [(0, .ref g), (1, .int v1)]) (hw : mH D g qb qg qw cA s τ H locs) : W p l e { frames := 0, cells := 0, slots := 0, locals := 0 } s m args below meth c H locs 0 0 (mQv D g qb qg qw cA below args s (kM_setStatus_c61 τ v1 s0)) (F0 m 61 ls [.int (bI s0), .ref g]) := by
  have hx := S.1
  have hb := S.2.1
  refine mput_kernel (v := s0) S hw dM_setStatus_61 (fun H locs hw => ?_)
  rw [show kM_setStatus_c61 τ v1 s0 = kM_setStatus_c64 (mB τ 7 s0) v1 from rfl]
  exact jM_setStatus_c64 l D g qb qg qw cA S hR hlk (mB τ 7 s0) v1  (lv_sub hl [0, 1] rfl) hw
set_option maxRecDepth 100000 in
set_option maxHeartbeats 4000000 in
theorem jM_setStatus_c45 (l : Launch) (D : va_G) (g qb qg qw : Nat) (cA : ClassId) {p : Program} {e : Env} {s : State} {m : MethodId} {args : Array Value} {below : List Frame} {meth : Method} {c : Code} (S : CallFix p m c bM_setStatus 2 s args wAll RM) (hR : meth.sig.returnType = none) (hlk : meth.locks = false) {ls : Array Slot} {H : Heap} {locs : List Loc} (τ : MS) (v1 : Int32) (hl : lv_has ls 2 [(0, .ref g), (1, .int v1)]) (hw : mH D g qb qg qw cA s τ H locs) : W p l e { frames := 0, cells := 0, slots := 0, locals := 0 } s m args below meth c H locs 0 0 (mQv D g qb qg qw cA below args s (kM_setStatus_c45 τ v1)) (F0 m 45 ls []) := by
  have hx := S.1
  have hb := S.2.1
  refine lv_aload_n hx hb dM_setStatus_45 rfl (lv_at hl 0 rfl) ?_
  refine lv_iload_n hx hb dM_setStatus_46 rfl (lv_at hl 1 rfl) ?_
  refine lv_bipush (v := 7) hx hb dM_setStatus_47 (by decide) ?_
  refine lv_ishr hx hb dM_setStatus_49 ?_
  refine lv_iconst (v := 1) hx hb dM_setStatus_50 (by decide) ?_
  refine lv_iand hx hb dM_setStatus_51 ?_
  refine lv_iconst (v := 1) hx hb dM_setStatus_52 (by decide) ?_
  refine lv_icmp_ne (tgt := 60) hx hb dM_setStatus_53 (by decide) (fun h_53 => ?_) (fun h_53 => ?_)
  · skip
    refine lv_iconst (v := 0) hx hb dM_setStatus_60 (by decide) ?_
    rw [show kM_setStatus_c45 τ v1 = kM_setStatus_c61 τ v1 false from (by rw [kM_setStatus_c45, if_neg h_53])]
    exact jM_setStatus_c61 l D g qb qg qw cA S hR hlk τ v1 false  (lv_sub hl [0, 1] rfl) hw
  · skip
    refine lv_iconst (v := 1) hx hb dM_setStatus_56 (by decide) ?_
    refine lv_goto (tgt := 61) hx hb dM_setStatus_57 (by decide) ?_
    rw [show kM_setStatus_c45 τ v1 = kM_setStatus_c61 τ v1 true from (by rw [kM_setStatus_c45, if_pos h_53])]
    exact jM_setStatus_c61 l D g qb qg qw cA S hR hlk τ v1 true  (lv_sub hl [0, 1] rfl) hw
set_option maxRecDepth 100000 in
set_option maxHeartbeats 4000000 in
theorem jM_setStatus_c42 (l : Launch) (D : va_G) (g qb qg qw : Nat) (cA : ClassId) {p : Program} {e : Env} {s : State} {m : MethodId} {args : Array Value} {below : List Frame} {meth : Method} {c : Code} (S : CallFix p m c bM_setStatus 2 s args wAll RM) (hR : meth.sig.returnType = none) (hlk : meth.locks = false) {ls : Array Slot} {H : Heap} {locs : List Loc} (τ : MS) (v1 : Int32) (s0 : Bool) (hl : lv_has ls 2 [(0, .ref g), (1, .int v1)]) (hw : mH D g qb qg qw cA s τ H locs) : W p l e { frames := 0, cells := 0, slots := 0, locals := 0 } s m args below meth c H locs 0 0 (mQv D g qb qg qw cA below args s (kM_setStatus_c42 τ v1 s0)) (F0 m 42 ls [.int (bI s0), .ref g]) := by
  have hx := S.1
  have hb := S.2.1
  refine mput_before (v := s0) S hw dM_setStatus_42 (fun H locs hw => ?_)
  rw [show kM_setStatus_c42 τ v1 s0 = kM_setStatus_c45 (mB τ 6 s0) v1 from rfl]
  exact jM_setStatus_c45 l D g qb qg qw cA S hR hlk (mB τ 6 s0) v1  (lv_sub hl [0, 1] rfl) hw
set_option maxRecDepth 100000 in
set_option maxHeartbeats 4000000 in
theorem jM_setStatus_c26 (l : Launch) (D : va_G) (g qb qg qw : Nat) (cA : ClassId) {p : Program} {e : Env} {s : State} {m : MethodId} {args : Array Value} {below : List Frame} {meth : Method} {c : Code} (S : CallFix p m c bM_setStatus 2 s args wAll RM) (hR : meth.sig.returnType = none) (hlk : meth.locks = false) {ls : Array Slot} {H : Heap} {locs : List Loc} (τ : MS) (v1 : Int32) (hl : lv_has ls 2 [(0, .ref g), (1, .int v1)]) (hw : mH D g qb qg qw cA s τ H locs) : W p l e { frames := 0, cells := 0, slots := 0, locals := 0 } s m args below meth c H locs 0 0 (mQv D g qb qg qw cA below args s (kM_setStatus_c26 τ v1)) (F0 m 26 ls []) := by
  have hx := S.1
  have hb := S.2.1
  refine lv_aload_n hx hb dM_setStatus_26 rfl (lv_at hl 0 rfl) ?_
  refine lv_iload_n hx hb dM_setStatus_27 rfl (lv_at hl 1 rfl) ?_
  refine lv_bipush (v := 6) hx hb dM_setStatus_28 (by decide) ?_
  refine lv_ishr hx hb dM_setStatus_30 ?_
  refine lv_iconst (v := 1) hx hb dM_setStatus_31 (by decide) ?_
  refine lv_iand hx hb dM_setStatus_32 ?_
  refine lv_iconst (v := 1) hx hb dM_setStatus_33 (by decide) ?_
  refine lv_icmp_ne (tgt := 41) hx hb dM_setStatus_34 (by decide) (fun h_34 => ?_) (fun h_34 => ?_)
  · skip
    refine lv_iconst (v := 0) hx hb dM_setStatus_41 (by decide) ?_
    rw [show kM_setStatus_c26 τ v1 = kM_setStatus_c42 τ v1 false from (by rw [kM_setStatus_c26, if_neg h_34])]
    exact jM_setStatus_c42 l D g qb qg qw cA S hR hlk τ v1 false  (lv_sub hl [0, 1] rfl) hw
  · skip
    refine lv_iconst (v := 1) hx hb dM_setStatus_37 (by decide) ?_
    refine lv_goto (tgt := 42) hx hb dM_setStatus_38 (by decide) ?_
    rw [show kM_setStatus_c26 τ v1 = kM_setStatus_c42 τ v1 true from (by rw [kM_setStatus_c26, if_pos h_34])]
    exact jM_setStatus_c42 l D g qb qg qw cA S hR hlk τ v1 true  (lv_sub hl [0, 1] rfl) hw
set_option maxRecDepth 100000 in
set_option maxHeartbeats 4000000 in
theorem jM_setStatus_c23 (l : Launch) (D : va_G) (g qb qg qw : Nat) (cA : ClassId) {p : Program} {e : Env} {s : State} {m : MethodId} {args : Array Value} {below : List Frame} {meth : Method} {c : Code} (S : CallFix p m c bM_setStatus 2 s args wAll RM) (hR : meth.sig.returnType = none) (hlk : meth.locks = false) {ls : Array Slot} {H : Heap} {locs : List Loc} (τ : MS) (v1 : Int32) (s0 : Bool) (hl : lv_has ls 2 [(0, .ref g), (1, .int v1)]) (hw : mH D g qb qg qw cA s τ H locs) : W p l e { frames := 0, cells := 0, slots := 0, locals := 0 } s m args below meth c H locs 0 0 (mQv D g qb qg qw cA below args s (kM_setStatus_c23 τ v1 s0)) (F0 m 23 ls [.int (bI s0), .ref g]) := by
  have hx := S.1
  have hb := S.2.1
  refine mput_traps (v := s0) S hw dM_setStatus_23 (fun H locs hw => ?_)
  rw [show kM_setStatus_c23 τ v1 s0 = kM_setStatus_c26 (mB τ 5 s0) v1 from rfl]
  exact jM_setStatus_c26 l D g qb qg qw cA S hR hlk (mB τ 5 s0) v1  (lv_sub hl [0, 1] rfl) hw
set_option maxRecDepth 100000 in
set_option maxHeartbeats 4000000 in
theorem jM_setStatus_c8 (l : Launch) (D : va_G) (g qb qg qw : Nat) (cA : ClassId) {p : Program} {e : Env} {s : State} {m : MethodId} {args : Array Value} {below : List Frame} {meth : Method} {c : Code} (S : CallFix p m c bM_setStatus 2 s args wAll RM) (hR : meth.sig.returnType = none) (hlk : meth.locks = false) {ls : Array Slot} {H : Heap} {locs : List Loc} (τ : MS) (v1 : Int32) (hl : lv_has ls 2 [(0, .ref g), (1, .int v1)]) (hw : mH D g qb qg qw cA s τ H locs) : W p l e { frames := 0, cells := 0, slots := 0, locals := 0 } s m args below meth c H locs 0 0 (mQv D g qb qg qw cA below args s (kM_setStatus_c8 τ v1)) (F0 m 8 ls []) := by
  have hx := S.1
  have hb := S.2.1
  refine lv_aload_n hx hb dM_setStatus_8 rfl (lv_at hl 0 rfl) ?_
  refine lv_iload_n hx hb dM_setStatus_9 rfl (lv_at hl 1 rfl) ?_
  refine lv_iconst (v := 5) hx hb dM_setStatus_10 (by decide) ?_
  refine lv_ishr hx hb dM_setStatus_11 ?_
  refine lv_iconst (v := 1) hx hb dM_setStatus_12 (by decide) ?_
  refine lv_iand hx hb dM_setStatus_13 ?_
  refine lv_iconst (v := 1) hx hb dM_setStatus_14 (by decide) ?_
  refine lv_icmp_ne (tgt := 22) hx hb dM_setStatus_15 (by decide) (fun h_15 => ?_) (fun h_15 => ?_)
  · skip
    refine lv_iconst (v := 0) hx hb dM_setStatus_22 (by decide) ?_
    rw [show kM_setStatus_c8 τ v1 = kM_setStatus_c23 τ v1 false from (by rw [kM_setStatus_c8, if_neg h_15])]
    exact jM_setStatus_c23 l D g qb qg qw cA S hR hlk τ v1 false  (lv_sub hl [0, 1] rfl) hw
  · skip
    refine lv_iconst (v := 1) hx hb dM_setStatus_18 (by decide) ?_
    refine lv_goto (tgt := 23) hx hb dM_setStatus_19 (by decide) ?_
    rw [show kM_setStatus_c8 τ v1 = kM_setStatus_c23 τ v1 true from (by rw [kM_setStatus_c8, if_pos h_15])]
    exact jM_setStatus_c23 l D g qb qg qw cA S hR hlk τ v1 true  (lv_sub hl [0, 1] rfl) hw
set_option maxRecDepth 100000 in
set_option maxHeartbeats 4000000 in
theorem cM_setStatus (l : Launch) (D : va_G) (g qb qg qw : Nat) (cA : ClassId) (τ : MS) (a1 : Int32) : mMv l yM_setStatus (.code yM_setStatus bM_setStatus 2 none :: wAll) { frames := 0, cells := 0, slots := 0, locals := 0 } D g qb qg qw cA [.ref g, .int a1] τ (kM_setStatus τ a1) := by
  refine z_entryv (cc := bM_setStatus) (nL := 2) (by decide) rfl rfl (Nat.le_of_ble_eq_true rfl) (fun p e s m args below meth c S hR hlk ls H locs hl hw => ?_)
  have hx := S.1
  have hb := S.2.1
  have hl : lv_has ls 2 [(0, .ref g), (1, .int a1)] := hl
  refine lv_aload_n hx hb dM_setStatus_0 rfl (lv_at hl 0 rfl) ?_
  refine lv_iload_n hx hb dM_setStatus_1 rfl (lv_at hl 1 rfl) ?_
  refine lv_bipush (v := 7) hx hb dM_setStatus_2 (by decide) ?_
  refine lv_iand hx hb dM_setStatus_4 ?_
  refine mput_window S hw dM_setStatus_5 (fun H locs hw => ?_)
  rw [show kM_setStatus τ a1 = kM_setStatus_c8 (mI τ 4 (a1 &&& (7 : Int32))) a1 from rfl]
  exact jM_setStatus_c8 l D g qb qg qw cA S hR hlk (mI τ 4 (a1 &&& (7 : Int32))) a1  (lv_sub hl [0, 1] rfl) hw
def kM_table (τ : MS) : Int32 :=
  ((τ.1 14) ||| ((τ.1 15) <<< ((4 : Int32) &&& 31)))
set_option maxRecDepth 100000 in
set_option maxHeartbeats 4000000 in
theorem cM_table (l : Launch) (D : va_G) (g qb qg qw : Nat) (cA : ClassId) (τ : MS) : mMi l yM_table (.code yM_table bM_table 1 (some .int) :: wAll) { frames := 0, cells := 0, slots := 0, locals := 0 } D g qb qg qw cA [.ref g] τ (kM_table τ) τ := by
  refine z_entryi (cc := bM_table) (nL := 1) (by decide) rfl rfl (Nat.le_of_ble_eq_true rfl) (fun p e s m args below meth c S hR hlk ls H locs hl hw => ?_)
  have hx := S.1
  have hb := S.2.1
  have hl : lv_has ls 1 [(0, .ref g)] := hl
  refine lv_aload_n hx hb dM_table_0 rfl (lv_at hl 0 rfl) ?_
  refine mget_base S hw dM_table_1 ?_
  refine lv_aload_n hx hb dM_table_4 rfl (lv_at hl 0 rfl) ?_
  refine mget_type S hw dM_table_5 ?_
  refine lv_iconst (v := 4) hx hb dM_table_8 (by decide) ?_
  refine lv_ishl hx hb dM_table_9 ?_
  refine lv_ior hx hb dM_table_10 ?_
  exact z_iret S hR hlk hw dM_table_11 rfl
def kM_holds_c162 (τ : MS) (s0 : Bool) (s1 : Bool) : Bool :=
  if (bI s1) = (bI s0) then
    false
  else
    true
def kM_holds_c150 (τ : MS) (v1 : Int32) (v2 : Bool) : Bool :=
  if v1 ≤ (7 : Int32) then
    kM_holds_c162 τ false v2
  else
    kM_holds_c162 τ true v2
def kM_holds_c122 (τ : MS) (v1 : Int32) (s0 : Bool) : Bool :=
  kM_holds_c150 τ v1 s0
def kM_holds_c117 (τ : MS) (v1 : Int32) : Bool :=
  kM_holds_c122 τ v1 true
def kM_holds_c99 (τ : MS) (v1 : Int32) (s0 : Bool) : Bool :=
  kM_holds_c150 τ v1 s0
def kM_holds_c79 (τ : MS) (v1 : Int32) (s0 : Bool) : Bool :=
  kM_holds_c150 τ v1 s0
def kM_holds_c74 (τ : MS) (v1 : Int32) : Bool :=
  kM_holds_c79 τ v1 true
def kM_holds (τ : MS) (a1 : Int32) : Bool :=
  if (a1 - a1 / (8 : Int32) * (8 : Int32)) = (1 : Int32) then
    kM_holds_c150 τ a1 (τ.2.1 11)
  else
    if (a1 - a1 / (8 : Int32) * (8 : Int32)) = (2 : Int32) then
      if (bI (τ.2.1 11)) = 0 then
        if (bI (τ.2.1 12)) = (bI (τ.2.1 10)) then
          kM_holds_c79 τ a1 false
        else
          kM_holds_c74 τ a1
      else
        kM_holds_c74 τ a1
    else
      if (a1 - a1 / (8 : Int32) * (8 : Int32)) = (3 : Int32) then
        if (bI (τ.2.1 12)) = (bI (τ.2.1 10)) then
          kM_holds_c99 τ a1 false
        else
          kM_holds_c99 τ a1 true
      else
        if (a1 - a1 / (8 : Int32) * (8 : Int32)) = (4 : Int32) then
          if (bI (τ.2.1 9)) = 0 then
            if (bI (τ.2.1 11)) = 0 then
              kM_holds_c122 τ a1 false
            else
              kM_holds_c117 τ a1
          else
            kM_holds_c117 τ a1
        else
          if (a1 - a1 / (8 : Int32) * (8 : Int32)) = (5 : Int32) then
            kM_holds_c150 τ a1 (τ.2.1 9)
          else
            if (a1 - a1 / (8 : Int32) * (8 : Int32)) = (6 : Int32) then
              kM_holds_c150 τ a1 (τ.2.1 12)
            else
              if (a1 - a1 / (8 : Int32) * (8 : Int32)) = (7 : Int32) then
                kM_holds_c150 τ a1 (τ.2.1 10)
              else
                kM_holds_c150 τ a1 false
set_option maxRecDepth 100000 in
set_option maxHeartbeats 4000000 in
theorem jM_holds_c162 (l : Launch) (D : va_G) (g qb qg qw : Nat) (cA : ClassId) {p : Program} {e : Env} {s : State} {m : MethodId} {args : Array Value} {below : List Frame} {meth : Method} {c : Code} (S : CallFix p m c bM_holds 3 s args wAll RM) (hR : meth.sig.returnType = (some .boolean)) (hlk : meth.locks = false) {ls : Array Slot} {H : Heap} {locs : List Loc} (τ : MS) (s0 : Bool) (s1 : Bool) (hl : lv_has ls 3 []) (hw : mH D g qb qg qw cA s τ H locs) : W p l e { frames := 0, cells := 0, slots := 0, locals := 0 } s m args below meth c H locs 0 0 (mQi D g qb qg qw cA below args s (bI (kM_holds_c162 τ s0 s1)) τ) (F0 m 162 ls [.int (bI s0), .int (bI s1)]) := by
  have hx := S.1
  have hb := S.2.1
  refine lv_icmp_eq (tgt := 169) hx hb dM_holds_162 (by decide) (fun h_162 => ?_) (fun h_162 => ?_)
  · skip
    refine lv_iconst (v := 0) hx hb dM_holds_169 (by decide) ?_
    exact z_zret (v := false) S hR hlk hw dM_holds_170 (by rw [kM_holds_c162, if_pos h_162])
  · skip
    refine lv_iconst (v := 1) hx hb dM_holds_165 (by decide) ?_
    refine lv_goto (tgt := 170) hx hb dM_holds_166 (by decide) ?_
    exact z_zret (v := true) S hR hlk hw dM_holds_170 (by rw [kM_holds_c162, if_neg h_162])
set_option maxRecDepth 100000 in
set_option maxHeartbeats 4000000 in
theorem jM_holds_c150 (l : Launch) (D : va_G) (g qb qg qw : Nat) (cA : ClassId) {p : Program} {e : Env} {s : State} {m : MethodId} {args : Array Value} {below : List Frame} {meth : Method} {c : Code} (S : CallFix p m c bM_holds 3 s args wAll RM) (hR : meth.sig.returnType = (some .boolean)) (hlk : meth.locks = false) {ls : Array Slot} {H : Heap} {locs : List Loc} (τ : MS) (v1 : Int32) (v2 : Bool) (hl : lv_has ls 3 [(1, .int v1), (2, .int (bI v2))]) (hw : mH D g qb qg qw cA s τ H locs) : W p l e { frames := 0, cells := 0, slots := 0, locals := 0 } s m args below meth c H locs 0 0 (mQi D g qb qg qw cA below args s (bI (kM_holds_c150 τ v1 v2)) τ) (F0 m 150 ls []) := by
  have hx := S.1
  have hb := S.2.1
  refine lv_iload_n hx hb dM_holds_150 rfl (lv_at hl 1 rfl) ?_
  refine lv_iload_n hx hb dM_holds_151 rfl (lv_at hl 0 rfl) ?_
  refine lv_bipush (v := 7) hx hb dM_holds_152 (by decide) ?_
  refine lv_icmp_le (tgt := 161) hx hb dM_holds_154 (by decide) (fun h_154 => ?_) (fun h_154 => ?_)
  · skip
    refine lv_iconst (v := 0) hx hb dM_holds_161 (by decide) ?_
    rw [show kM_holds_c150 τ v1 v2 = kM_holds_c162 τ false v2 from (by rw [kM_holds_c150, if_pos h_154])]
    exact jM_holds_c162 l D g qb qg qw cA S hR hlk τ false v2  (lv_sub hl [] rfl) hw
  · skip
    refine lv_iconst (v := 1) hx hb dM_holds_157 (by decide) ?_
    refine lv_goto (tgt := 162) hx hb dM_holds_158 (by decide) ?_
    rw [show kM_holds_c150 τ v1 v2 = kM_holds_c162 τ true v2 from (by rw [kM_holds_c150, if_neg h_154])]
    exact jM_holds_c162 l D g qb qg qw cA S hR hlk τ true v2  (lv_sub hl [] rfl) hw
set_option maxRecDepth 100000 in
set_option maxHeartbeats 4000000 in
theorem jM_holds_c122 (l : Launch) (D : va_G) (g qb qg qw : Nat) (cA : ClassId) {p : Program} {e : Env} {s : State} {m : MethodId} {args : Array Value} {below : List Frame} {meth : Method} {c : Code} (S : CallFix p m c bM_holds 3 s args wAll RM) (hR : meth.sig.returnType = (some .boolean)) (hlk : meth.locks = false) {ls : Array Slot} {H : Heap} {locs : List Loc} (τ : MS) (v1 : Int32) (s0 : Bool) (hl : lv_has ls 3 [(1, .int v1)]) (hw : mH D g qb qg qw cA s τ H locs) : W p l e { frames := 0, cells := 0, slots := 0, locals := 0 } s m args below meth c H locs 0 0 (mQi D g qb qg qw cA below args s (bI (kM_holds_c122 τ v1 s0)) τ) (F0 m 122 ls [.int (bI s0)]) := by
  have hx := S.1
  have hb := S.2.1
  refine lv_istore_n (lv' := [(2, .int (bI s0)), (1, .int v1)]) hx hb dM_holds_122 rfl hl (by decide) rfl (fun ls hl => ?_)
  refine lv_goto (tgt := 150) hx hb dM_holds_123 (by decide) ?_
  rw [show kM_holds_c122 τ v1 s0 = kM_holds_c150 τ v1 s0 from rfl]
  exact jM_holds_c150 l D g qb qg qw cA S hR hlk τ v1 s0  (lv_sub hl [1, 0] rfl) hw
set_option maxRecDepth 100000 in
set_option maxHeartbeats 4000000 in
theorem jM_holds_c117 (l : Launch) (D : va_G) (g qb qg qw : Nat) (cA : ClassId) {p : Program} {e : Env} {s : State} {m : MethodId} {args : Array Value} {below : List Frame} {meth : Method} {c : Code} (S : CallFix p m c bM_holds 3 s args wAll RM) (hR : meth.sig.returnType = (some .boolean)) (hlk : meth.locks = false) {ls : Array Slot} {H : Heap} {locs : List Loc} (τ : MS) (v1 : Int32) (hl : lv_has ls 3 [(1, .int v1)]) (hw : mH D g qb qg qw cA s τ H locs) : W p l e { frames := 0, cells := 0, slots := 0, locals := 0 } s m args below meth c H locs 0 0 (mQi D g qb qg qw cA below args s (bI (kM_holds_c117 τ v1)) τ) (F0 m 117 ls []) := by
  have hx := S.1
  have hb := S.2.1
  refine lv_iconst (v := 1) hx hb dM_holds_117 (by decide) ?_
  refine lv_goto (tgt := 122) hx hb dM_holds_118 (by decide) ?_
  rw [show kM_holds_c117 τ v1 = kM_holds_c122 τ v1 true from rfl]
  exact jM_holds_c122 l D g qb qg qw cA S hR hlk τ v1 true  (lv_sub hl [0] rfl) hw
set_option maxRecDepth 100000 in
set_option maxHeartbeats 4000000 in
theorem jM_holds_c99 (l : Launch) (D : va_G) (g qb qg qw : Nat) (cA : ClassId) {p : Program} {e : Env} {s : State} {m : MethodId} {args : Array Value} {below : List Frame} {meth : Method} {c : Code} (S : CallFix p m c bM_holds 3 s args wAll RM) (hR : meth.sig.returnType = (some .boolean)) (hlk : meth.locks = false) {ls : Array Slot} {H : Heap} {locs : List Loc} (τ : MS) (v1 : Int32) (s0 : Bool) (hl : lv_has ls 3 [(1, .int v1)]) (hw : mH D g qb qg qw cA s τ H locs) : W p l e { frames := 0, cells := 0, slots := 0, locals := 0 } s m args below meth c H locs 0 0 (mQi D g qb qg qw cA below args s (bI (kM_holds_c99 τ v1 s0)) τ) (F0 m 99 ls [.int (bI s0)]) := by
  have hx := S.1
  have hb := S.2.1
  refine lv_istore_n (lv' := [(2, .int (bI s0)), (1, .int v1)]) hx hb dM_holds_99 rfl hl (by decide) rfl (fun ls hl => ?_)
  refine lv_goto (tgt := 150) hx hb dM_holds_100 (by decide) ?_
  rw [show kM_holds_c99 τ v1 s0 = kM_holds_c150 τ v1 s0 from rfl]
  exact jM_holds_c150 l D g qb qg qw cA S hR hlk τ v1 s0  (lv_sub hl [1, 0] rfl) hw
set_option maxRecDepth 100000 in
set_option maxHeartbeats 4000000 in
theorem jM_holds_c79 (l : Launch) (D : va_G) (g qb qg qw : Nat) (cA : ClassId) {p : Program} {e : Env} {s : State} {m : MethodId} {args : Array Value} {below : List Frame} {meth : Method} {c : Code} (S : CallFix p m c bM_holds 3 s args wAll RM) (hR : meth.sig.returnType = (some .boolean)) (hlk : meth.locks = false) {ls : Array Slot} {H : Heap} {locs : List Loc} (τ : MS) (v1 : Int32) (s0 : Bool) (hl : lv_has ls 3 [(1, .int v1)]) (hw : mH D g qb qg qw cA s τ H locs) : W p l e { frames := 0, cells := 0, slots := 0, locals := 0 } s m args below meth c H locs 0 0 (mQi D g qb qg qw cA below args s (bI (kM_holds_c79 τ v1 s0)) τ) (F0 m 79 ls [.int (bI s0)]) := by
  have hx := S.1
  have hb := S.2.1
  refine lv_istore_n (lv' := [(2, .int (bI s0)), (1, .int v1)]) hx hb dM_holds_79 rfl hl (by decide) rfl (fun ls hl => ?_)
  refine lv_goto (tgt := 150) hx hb dM_holds_80 (by decide) ?_
  rw [show kM_holds_c79 τ v1 s0 = kM_holds_c150 τ v1 s0 from rfl]
  exact jM_holds_c150 l D g qb qg qw cA S hR hlk τ v1 s0  (lv_sub hl [1, 0] rfl) hw
set_option maxRecDepth 100000 in
set_option maxHeartbeats 4000000 in
theorem jM_holds_c74 (l : Launch) (D : va_G) (g qb qg qw : Nat) (cA : ClassId) {p : Program} {e : Env} {s : State} {m : MethodId} {args : Array Value} {below : List Frame} {meth : Method} {c : Code} (S : CallFix p m c bM_holds 3 s args wAll RM) (hR : meth.sig.returnType = (some .boolean)) (hlk : meth.locks = false) {ls : Array Slot} {H : Heap} {locs : List Loc} (τ : MS) (v1 : Int32) (hl : lv_has ls 3 [(1, .int v1)]) (hw : mH D g qb qg qw cA s τ H locs) : W p l e { frames := 0, cells := 0, slots := 0, locals := 0 } s m args below meth c H locs 0 0 (mQi D g qb qg qw cA below args s (bI (kM_holds_c74 τ v1)) τ) (F0 m 74 ls []) := by
  have hx := S.1
  have hb := S.2.1
  refine lv_iconst (v := 1) hx hb dM_holds_74 (by decide) ?_
  refine lv_goto (tgt := 79) hx hb dM_holds_75 (by decide) ?_
  rw [show kM_holds_c74 τ v1 = kM_holds_c79 τ v1 true from rfl]
  exact jM_holds_c79 l D g qb qg qw cA S hR hlk τ v1 true  (lv_sub hl [0] rfl) hw
set_option maxRecDepth 100000 in
set_option maxHeartbeats 4000000 in
theorem cM_holds (l : Launch) (D : va_G) (g qb qg qw : Nat) (cA : ClassId) (τ : MS) (a1 : Int32) : mMi l yM_holds (.code yM_holds bM_holds 3 (some .boolean) :: wAll) { frames := 0, cells := 0, slots := 0, locals := 0 } D g qb qg qw cA [.ref g, .int a1] τ (bI (kM_holds τ a1)) τ := by
  refine z_entryi (cc := bM_holds) (nL := 3) (by decide) rfl rfl (Nat.le_of_ble_eq_true rfl) (fun p e s m args below meth c S hR hlk ls H locs hl hw => ?_)
  have hx := S.1
  have hb := S.2.1
  have hl : lv_has ls 3 [(0, .ref g), (1, .int a1)] := hl
  refine lv_iconst (v := 0) hx hb dM_holds_0 (by decide) ?_
  refine lv_istore_n (lv' := [(2, .int (0 : Int32)), (0, .ref g), (1, .int a1)]) hx hb dM_holds_1 rfl hl (by decide) rfl (fun ls hl => ?_)
  refine lv_iload_n hx hb dM_holds_2 rfl (lv_at hl 2 rfl) ?_
  refine lv_bipush (v := 8) hx hb dM_holds_3 (by decide) ?_
  refine lv_irem hx hb dM_holds_5 (by decide) ?_
  by_cases h_6_1 : (a1 - a1 / (8 : Int32) * (8 : Int32)) = (1 : Int32)
  · refine z_tsC (tgt := 48) hx hb dM_holds_6 h_6_1 (by decide) (by decide) rfl (by decide) ?_
    refine lv_aload_n hx hb dM_holds_48 rfl (lv_at hl 1 rfl) ?_
    refine mget_zero S hw dM_holds_49 ?_
    refine lv_istore_n (lv' := [(2, .int (bI (τ.2.1 11))), (0, .ref g), (1, .int a1)]) hx hb dM_holds_52 rfl hl (by decide) rfl (fun ls hl => ?_)
    refine lv_goto (tgt := 150) hx hb dM_holds_53 (by decide) ?_
    rw [show kM_holds τ a1 = kM_holds_c150 τ a1 (τ.2.1 11) from (by rw [kM_holds, if_pos h_6_1])]
    exact jM_holds_c150 l D g qb qg qw cA S hR hlk τ a1 (τ.2.1 11)  (lv_sub hl [2, 0] rfl) hw
  by_cases h_6_2 : (a1 - a1 / (8 : Int32) * (8 : Int32)) = (2 : Int32)
  · refine z_tsC (tgt := 56) hx hb dM_holds_6 h_6_2 (by decide) (by decide) rfl (by decide) ?_
    refine lv_aload_n hx hb dM_holds_56 rfl (lv_at hl 1 rfl) ?_
    refine mget_zero S hw dM_holds_57 ?_
    refine lv_if_ne (tgt := 74) hx hb dM_holds_60 (by decide) (fun h_60 => ?_) (fun h_60 => ?_)
    · skip
      rw [show kM_holds τ a1 = kM_holds_c74 τ a1 from (by rw [kM_holds, if_neg h_6_1, if_pos h_6_2, if_neg h_60])]
      exact jM_holds_c74 l D g qb qg qw cA S hR hlk τ a1  (lv_sub hl [2] rfl) hw
    · skip
      refine lv_aload_n hx hb dM_holds_63 rfl (lv_at hl 1 rfl) ?_
      refine mget_negative S hw dM_holds_64 ?_
      refine lv_aload_n hx hb dM_holds_67 rfl (lv_at hl 1 rfl) ?_
      refine mget_overflow S hw dM_holds_68 ?_
      refine lv_icmp_eq (tgt := 78) hx hb dM_holds_71 (by decide) (fun h_71 => ?_) (fun h_71 => ?_)
      · skip
        refine lv_iconst (v := 0) hx hb dM_holds_78 (by decide) ?_
        rw [show kM_holds τ a1 = kM_holds_c79 τ a1 false from (by rw [kM_holds, if_neg h_6_1, if_pos h_6_2, if_pos h_60, if_pos h_71])]
        exact jM_holds_c79 l D g qb qg qw cA S hR hlk τ a1 false  (lv_sub hl [2] rfl) hw
      · skip
        rw [show kM_holds τ a1 = kM_holds_c74 τ a1 from (by rw [kM_holds, if_neg h_6_1, if_pos h_6_2, if_pos h_60, if_neg h_71])]
        exact jM_holds_c74 l D g qb qg qw cA S hR hlk τ a1  (lv_sub hl [2] rfl) hw
  by_cases h_6_3 : (a1 - a1 / (8 : Int32) * (8 : Int32)) = (3 : Int32)
  · refine z_tsC (tgt := 83) hx hb dM_holds_6 h_6_3 (by decide) (by decide) rfl (by decide) ?_
    refine lv_aload_n hx hb dM_holds_83 rfl (lv_at hl 1 rfl) ?_
    refine mget_negative S hw dM_holds_84 ?_
    refine lv_aload_n hx hb dM_holds_87 rfl (lv_at hl 1 rfl) ?_
    refine mget_overflow S hw dM_holds_88 ?_
    refine lv_icmp_eq (tgt := 98) hx hb dM_holds_91 (by decide) (fun h_91 => ?_) (fun h_91 => ?_)
    · skip
      refine lv_iconst (v := 0) hx hb dM_holds_98 (by decide) ?_
      rw [show kM_holds τ a1 = kM_holds_c99 τ a1 false from (by rw [kM_holds, if_neg h_6_1, if_neg h_6_2, if_pos h_6_3, if_pos h_91])]
      exact jM_holds_c99 l D g qb qg qw cA S hR hlk τ a1 false  (lv_sub hl [2] rfl) hw
    · skip
      refine lv_iconst (v := 1) hx hb dM_holds_94 (by decide) ?_
      refine lv_goto (tgt := 99) hx hb dM_holds_95 (by decide) ?_
      rw [show kM_holds τ a1 = kM_holds_c99 τ a1 true from (by rw [kM_holds, if_neg h_6_1, if_neg h_6_2, if_pos h_6_3, if_neg h_91])]
      exact jM_holds_c99 l D g qb qg qw cA S hR hlk τ a1 true  (lv_sub hl [2] rfl) hw
  by_cases h_6_4 : (a1 - a1 / (8 : Int32) * (8 : Int32)) = (4 : Int32)
  · refine z_tsC (tgt := 103) hx hb dM_holds_6 h_6_4 (by decide) (by decide) rfl (by decide) ?_
    refine lv_aload_n hx hb dM_holds_103 rfl (lv_at hl 1 rfl) ?_
    refine mget_carry S hw dM_holds_104 ?_
    refine lv_if_ne (tgt := 117) hx hb dM_holds_107 (by decide) (fun h_107 => ?_) (fun h_107 => ?_)
    · skip
      rw [show kM_holds τ a1 = kM_holds_c117 τ a1 from (by rw [kM_holds, if_neg h_6_1, if_neg h_6_2, if_neg h_6_3, if_pos h_6_4, if_neg h_107])]
      exact jM_holds_c117 l D g qb qg qw cA S hR hlk τ a1  (lv_sub hl [2] rfl) hw
    · skip
      refine lv_aload_n hx hb dM_holds_110 rfl (lv_at hl 1 rfl) ?_
      refine mget_zero S hw dM_holds_111 ?_
      refine lv_if_eq (tgt := 121) hx hb dM_holds_114 (by decide) (fun h_114 => ?_) (fun h_114 => ?_)
      · skip
        refine lv_iconst (v := 0) hx hb dM_holds_121 (by decide) ?_
        rw [show kM_holds τ a1 = kM_holds_c122 τ a1 false from (by rw [kM_holds, if_neg h_6_1, if_neg h_6_2, if_neg h_6_3, if_pos h_6_4, if_pos h_107, if_pos h_114])]
        exact jM_holds_c122 l D g qb qg qw cA S hR hlk τ a1 false  (lv_sub hl [2] rfl) hw
      · skip
        rw [show kM_holds τ a1 = kM_holds_c117 τ a1 from (by rw [kM_holds, if_neg h_6_1, if_neg h_6_2, if_neg h_6_3, if_pos h_6_4, if_pos h_107, if_neg h_114])]
        exact jM_holds_c117 l D g qb qg qw cA S hR hlk τ a1  (lv_sub hl [2] rfl) hw
  by_cases h_6_5 : (a1 - a1 / (8 : Int32) * (8 : Int32)) = (5 : Int32)
  · refine z_tsC (tgt := 126) hx hb dM_holds_6 h_6_5 (by decide) (by decide) rfl (by decide) ?_
    refine lv_aload_n hx hb dM_holds_126 rfl (lv_at hl 1 rfl) ?_
    refine mget_carry S hw dM_holds_127 ?_
    refine lv_istore_n (lv' := [(2, .int (bI (τ.2.1 9))), (0, .ref g), (1, .int a1)]) hx hb dM_holds_130 rfl hl (by decide) rfl (fun ls hl => ?_)
    refine lv_goto (tgt := 150) hx hb dM_holds_131 (by decide) ?_
    rw [show kM_holds τ a1 = kM_holds_c150 τ a1 (τ.2.1 9) from (by rw [kM_holds, if_neg h_6_1, if_neg h_6_2, if_neg h_6_3, if_neg h_6_4, if_pos h_6_5])]
    exact jM_holds_c150 l D g qb qg qw cA S hR hlk τ a1 (τ.2.1 9)  (lv_sub hl [2, 0] rfl) hw
  by_cases h_6_6 : (a1 - a1 / (8 : Int32) * (8 : Int32)) = (6 : Int32)
  · refine z_tsC (tgt := 134) hx hb dM_holds_6 h_6_6 (by decide) (by decide) rfl (by decide) ?_
    refine lv_aload_n hx hb dM_holds_134 rfl (lv_at hl 1 rfl) ?_
    refine mget_negative S hw dM_holds_135 ?_
    refine lv_istore_n (lv' := [(2, .int (bI (τ.2.1 12))), (0, .ref g), (1, .int a1)]) hx hb dM_holds_138 rfl hl (by decide) rfl (fun ls hl => ?_)
    refine lv_goto (tgt := 150) hx hb dM_holds_139 (by decide) ?_
    rw [show kM_holds τ a1 = kM_holds_c150 τ a1 (τ.2.1 12) from (by rw [kM_holds, if_neg h_6_1, if_neg h_6_2, if_neg h_6_3, if_neg h_6_4, if_neg h_6_5, if_pos h_6_6])]
    exact jM_holds_c150 l D g qb qg qw cA S hR hlk τ a1 (τ.2.1 12)  (lv_sub hl [2, 0] rfl) hw
  by_cases h_6_7 : (a1 - a1 / (8 : Int32) * (8 : Int32)) = (7 : Int32)
  · refine z_tsC (tgt := 142) hx hb dM_holds_6 h_6_7 (by decide) (by decide) rfl (by decide) ?_
    refine lv_aload_n hx hb dM_holds_142 rfl (lv_at hl 1 rfl) ?_
    refine mget_overflow S hw dM_holds_143 ?_
    refine lv_istore_n (lv' := [(2, .int (bI (τ.2.1 10))), (0, .ref g), (1, .int a1)]) hx hb dM_holds_146 rfl hl (by decide) rfl (fun ls hl => ?_)
    refine lv_goto (tgt := 150) hx hb dM_holds_147 (by decide) ?_
    rw [show kM_holds τ a1 = kM_holds_c150 τ a1 (τ.2.1 10) from (by rw [kM_holds, if_neg h_6_1, if_neg h_6_2, if_neg h_6_3, if_neg h_6_4, if_neg h_6_5, if_neg h_6_6, if_pos h_6_7])]
    exact jM_holds_c150 l D g qb qg qw cA S hR hlk τ a1 (τ.2.1 10)  (lv_sub hl [2, 0] rfl) hw
  refine z_tsD (tgt := 150) (xs := [(1 : Int32), (2 : Int32), (3 : Int32), (4 : Int32), (5 : Int32), (6 : Int32), (7 : Int32)]) hx hb dM_holds_6 (by simp only [List.forall_mem_cons, List.not_mem_nil, false_imp_iff, implies_true, and_true]; exact ⟨h_6_1, h_6_2, h_6_3, h_6_4, h_6_5, h_6_6, h_6_7⟩) (by decide) (by decide) ?_
  rw [show kM_holds τ a1 = kM_holds_c150 τ a1 false from (by rw [kM_holds, if_neg h_6_1, if_neg h_6_2, if_neg h_6_3, if_neg h_6_4, if_neg h_6_5, if_neg h_6_6, if_neg h_6_7])]
  exact jM_holds_c150 l D g qb qg qw cA S hR hlk τ a1 false  (lv_sub hl [2, 0] rfl) hw
def kM_signed (a0 : Int32) (a1 : Int32) : Int32 :=
  ((a0 <<< (((32 : Int32) - a1) &&& 31)) >>> (((32 : Int32) - a1) &&& 31))
set_option maxRecDepth 100000 in
set_option maxHeartbeats 4000000 in
theorem cM_signed (l : Launch) (D : va_G) (a0 : Int32) (a1 : Int32) : sMi l yM_signed (.code yM_signed bM_signed 2 (some .int) :: wAll) { frames := 0, cells := 0, slots := 0, locals := 0 } D [.int a0, .int a1] (kM_signed a0 a1)  := by
  refine z_entryi (cc := bM_signed) (nL := 2) (by decide) rfl rfl (Nat.le_of_ble_eq_true rfl) (fun p e s m args below meth c S hR hlk ls H locs hl hw => ?_)
  have hx := S.1
  have hb := S.2.1
  have hl : lv_has ls 2 [(0, .int a0), (1, .int a1)] := hl
  refine lv_iload_n hx hb dM_signed_0 rfl (lv_at hl 0 rfl) ?_
  refine lv_bipush (v := 32) hx hb dM_signed_1 (by decide) ?_
  refine lv_iload_n hx hb dM_signed_3 rfl (lv_at hl 1 rfl) ?_
  refine lv_isub hx hb dM_signed_4 ?_
  refine lv_ishl hx hb dM_signed_5 ?_
  refine lv_bipush (v := 32) hx hb dM_signed_6 (by decide) ?_
  refine lv_iload_n hx hb dM_signed_8 rfl (lv_at hl 1 rfl) ?_
  refine lv_isub hx hb dM_signed_9 ?_
  refine lv_ishr hx hb dM_signed_10 ?_
  exact z_iret S hR hlk hw dM_signed_11 rfl
def kM_moved (a0 : Int32) : Int32 :=
  if a0 = (0 : Int32) then
    (4 : Int32)
  else
    if a0 = (1 : Int32) then
      (1 : Int32)
    else
      if a0 = (2 : Int32) then
        (2 : Int32)
      else
        if a0 = (3 : Int32) then
          (8 : Int32)
        else
          if a0 = (4 : Int32) then
            (4 : Int32)
          else
            if a0 = (5 : Int32) then
              (1 : Int32)
            else
              if a0 = (6 : Int32) then
                (2 : Int32)
              else
                if a0 = (7 : Int32) then
                  (8 : Int32)
                else
                  if a0 = (9 : Int32) then
                    (1 : Int32)
                  else
                    if a0 = (10 : Int32) then
                      (2 : Int32)
                    else
                      if a0 = (13 : Int32) then
                        (1 : Int32)
                      else
                        if a0 = (15 : Int32) then
                          (4 : Int32)
                        else
                          (0 : Int32)
set_option maxRecDepth 100000 in
set_option maxHeartbeats 4000000 in
theorem cM_moved (l : Launch) (D : va_G) (a0 : Int32) : sMi l yM_moved (.code yM_moved bM_moved 1 (some .int) :: wAll) { frames := 0, cells := 0, slots := 0, locals := 0 } D [.int a0] (kM_moved a0)  := by
  refine z_entryi (cc := bM_moved) (nL := 1) (by decide) rfl rfl (Nat.le_of_ble_eq_true rfl) (fun p e s m args below meth c S hR hlk ls H locs hl hw => ?_)
  have hx := S.1
  have hb := S.2.1
  have hl : lv_has ls 1 [(0, .int a0)] := hl
  refine lv_iload_n hx hb dM_moved_0 rfl (lv_at hl 0 rfl) ?_
  by_cases h_1_0 : a0 = (0 : Int32)
  · refine z_tsC (tgt := 80) hx hb dM_moved_1 h_1_0 (by decide) (by decide) rfl (by decide) ?_
    refine lv_iconst (v := 4) hx hb dM_moved_80 (by decide) ?_
    exact z_iret S hR hlk hw dM_moved_81 (by rw [kM_moved, if_pos h_1_0])
  by_cases h_1_1 : a0 = (1 : Int32)
  · refine z_tsC (tgt := 82) hx hb dM_moved_1 h_1_1 (by decide) (by decide) rfl (by decide) ?_
    refine lv_iconst (v := 1) hx hb dM_moved_82 (by decide) ?_
    exact z_iret S hR hlk hw dM_moved_83 (by rw [kM_moved, if_neg h_1_0, if_pos h_1_1])
  by_cases h_1_2 : a0 = (2 : Int32)
  · refine z_tsC (tgt := 84) hx hb dM_moved_1 h_1_2 (by decide) (by decide) rfl (by decide) ?_
    refine lv_iconst (v := 2) hx hb dM_moved_84 (by decide) ?_
    exact z_iret S hR hlk hw dM_moved_85 (by rw [kM_moved, if_neg h_1_0, if_neg h_1_1, if_pos h_1_2])
  by_cases h_1_3 : a0 = (3 : Int32)
  · refine z_tsC (tgt := 86) hx hb dM_moved_1 h_1_3 (by decide) (by decide) rfl (by decide) ?_
    refine lv_bipush (v := 8) hx hb dM_moved_86 (by decide) ?_
    exact z_iret S hR hlk hw dM_moved_88 (by rw [kM_moved, if_neg h_1_0, if_neg h_1_1, if_neg h_1_2, if_pos h_1_3])
  by_cases h_1_4 : a0 = (4 : Int32)
  · refine z_tsC (tgt := 80) hx hb dM_moved_1 h_1_4 (by decide) (by decide) rfl (by decide) ?_
    refine lv_iconst (v := 4) hx hb dM_moved_80 (by decide) ?_
    exact z_iret S hR hlk hw dM_moved_81 (by rw [kM_moved, if_neg h_1_0, if_neg h_1_1, if_neg h_1_2, if_neg h_1_3, if_pos h_1_4])
  by_cases h_1_5 : a0 = (5 : Int32)
  · refine z_tsC (tgt := 82) hx hb dM_moved_1 h_1_5 (by decide) (by decide) rfl (by decide) ?_
    refine lv_iconst (v := 1) hx hb dM_moved_82 (by decide) ?_
    exact z_iret S hR hlk hw dM_moved_83 (by rw [kM_moved, if_neg h_1_0, if_neg h_1_1, if_neg h_1_2, if_neg h_1_3, if_neg h_1_4, if_pos h_1_5])
  by_cases h_1_6 : a0 = (6 : Int32)
  · refine z_tsC (tgt := 84) hx hb dM_moved_1 h_1_6 (by decide) (by decide) rfl (by decide) ?_
    refine lv_iconst (v := 2) hx hb dM_moved_84 (by decide) ?_
    exact z_iret S hR hlk hw dM_moved_85 (by rw [kM_moved, if_neg h_1_0, if_neg h_1_1, if_neg h_1_2, if_neg h_1_3, if_neg h_1_4, if_neg h_1_5, if_pos h_1_6])
  by_cases h_1_7 : a0 = (7 : Int32)
  · refine z_tsC (tgt := 86) hx hb dM_moved_1 h_1_7 (by decide) (by decide) rfl (by decide) ?_
    refine lv_bipush (v := 8) hx hb dM_moved_86 (by decide) ?_
    exact z_iret S hR hlk hw dM_moved_88 (by rw [kM_moved, if_neg h_1_0, if_neg h_1_1, if_neg h_1_2, if_neg h_1_3, if_neg h_1_4, if_neg h_1_5, if_neg h_1_6, if_pos h_1_7])
  by_cases h_1_9 : a0 = (9 : Int32)
  · refine z_tsC (tgt := 82) hx hb dM_moved_1 h_1_9 (by decide) (by decide) rfl (by decide) ?_
    refine lv_iconst (v := 1) hx hb dM_moved_82 (by decide) ?_
    exact z_iret S hR hlk hw dM_moved_83 (by rw [kM_moved, if_neg h_1_0, if_neg h_1_1, if_neg h_1_2, if_neg h_1_3, if_neg h_1_4, if_neg h_1_5, if_neg h_1_6, if_neg h_1_7, if_pos h_1_9])
  by_cases h_1_10 : a0 = (10 : Int32)
  · refine z_tsC (tgt := 84) hx hb dM_moved_1 h_1_10 (by decide) (by decide) rfl (by decide) ?_
    refine lv_iconst (v := 2) hx hb dM_moved_84 (by decide) ?_
    exact z_iret S hR hlk hw dM_moved_85 (by rw [kM_moved, if_neg h_1_0, if_neg h_1_1, if_neg h_1_2, if_neg h_1_3, if_neg h_1_4, if_neg h_1_5, if_neg h_1_6, if_neg h_1_7, if_neg h_1_9, if_pos h_1_10])
  by_cases h_1_13 : a0 = (13 : Int32)
  · refine z_tsC (tgt := 82) hx hb dM_moved_1 h_1_13 (by decide) (by decide) rfl (by decide) ?_
    refine lv_iconst (v := 1) hx hb dM_moved_82 (by decide) ?_
    exact z_iret S hR hlk hw dM_moved_83 (by rw [kM_moved, if_neg h_1_0, if_neg h_1_1, if_neg h_1_2, if_neg h_1_3, if_neg h_1_4, if_neg h_1_5, if_neg h_1_6, if_neg h_1_7, if_neg h_1_9, if_neg h_1_10, if_pos h_1_13])
  by_cases h_1_15 : a0 = (15 : Int32)
  · refine z_tsC (tgt := 80) hx hb dM_moved_1 h_1_15 (by decide) (by decide) rfl (by decide) ?_
    refine lv_iconst (v := 4) hx hb dM_moved_80 (by decide) ?_
    exact z_iret S hR hlk hw dM_moved_81 (by rw [kM_moved, if_neg h_1_0, if_neg h_1_1, if_neg h_1_2, if_neg h_1_3, if_neg h_1_4, if_neg h_1_5, if_neg h_1_6, if_neg h_1_7, if_neg h_1_9, if_neg h_1_10, if_neg h_1_13, if_pos h_1_15])
  refine z_tsD (tgt := 89) (xs := [(0 : Int32), (1 : Int32), (2 : Int32), (3 : Int32), (4 : Int32), (5 : Int32), (6 : Int32), (7 : Int32), (9 : Int32), (10 : Int32), (13 : Int32), (15 : Int32)]) hx hb dM_moved_1 (by simp only [List.forall_mem_cons, List.not_mem_nil, false_imp_iff, implies_true, and_true]; exact ⟨h_1_0, h_1_1, h_1_2, h_1_3, h_1_4, h_1_5, h_1_6, h_1_7, h_1_9, h_1_10, h_1_13, h_1_15⟩) (by decide) (by decide) ?_
  refine lv_iconst (v := 0) hx hb dM_moved_89 (by decide) ?_
  exact z_iret S hR hlk hw dM_moved_90 (by rw [kM_moved, if_neg h_1_0, if_neg h_1_1, if_neg h_1_2, if_neg h_1_3, if_neg h_1_4, if_neg h_1_5, if_neg h_1_6, if_neg h_1_7, if_neg h_1_9, if_neg h_1_10, if_neg h_1_13, if_neg h_1_15])
def kM_isWork_c31 (v0 : Int32) (v1 : Int32) : Bool :=
  if v1 = (12 : Int32) then
    true
  else
    if v0 < (37 : Int32) then
      false
    else
      if (39 : Int32) < v0 then
        false
      else
        true
def kM_isWork_c20 (v0 : Int32) (s0 : Int32) : Bool :=
  if s0 < 0 then
    kM_isWork_c31 v0 s0
  else
    if s0 ≤ (8 : Int32) then
      true
    else
      kM_isWork_c31 v0 s0
def kM_isWork_c19 (v0 : Int32) : Bool :=
  kM_isWork_c20 v0 v0
def kM_isWork (a0 : Int32) : Bool :=
  if a0 < (16 : Int32) then
    kM_isWork_c19 a0
  else
    if (32 : Int32) ≤ a0 then
      kM_isWork_c19 a0
    else
      kM_isWork_c20 a0 (a0 - (16 : Int32))
set_option maxRecDepth 100000 in
set_option maxHeartbeats 4000000 in
theorem jM_isWork_c31 (l : Launch) (D : va_G) {p : Program} {e : Env} {s : State} {m : MethodId} {args : Array Value} {below : List Frame} {meth : Method} {c : Code} (S : CallFix p m c bM_isWork 2 s args wAll RM) (hR : meth.sig.returnType = (some .boolean)) (hlk : meth.locks = false) {ls : Array Slot} {H : Heap} {locs : List Loc} (v0 : Int32) (v1 : Int32) (hl : lv_has ls 2 [(0, .int v0), (1, .int v1)]) (hw : sH D s H locs) : W p l e { frames := 0, cells := 0, slots := 0, locals := 0 } s m args below meth c H locs 0 0 (sQi D below args s (bI (kM_isWork_c31 v0 v1))) (F0 m 31 ls []) := by
  have hx := S.1
  have hb := S.2.1
  refine lv_iload_n hx hb dM_isWork_31 rfl (lv_at hl 1 rfl) ?_
  refine lv_bipush (v := 12) hx hb dM_isWork_32 (by decide) ?_
  refine lv_icmp_eq (tgt := 49) hx hb dM_isWork_34 (by decide) (fun h_34 => ?_) (fun h_34 => ?_)
  · skip
    refine lv_iconst (v := 1) hx hb dM_isWork_49 (by decide) ?_
    refine lv_goto (tgt := 54) hx hb dM_isWork_50 (by decide) ?_
    exact z_zret (v := true) S hR hlk hw dM_isWork_54 (by rw [kM_isWork_c31, if_pos h_34])
  · skip
    refine lv_iload_n hx hb dM_isWork_37 rfl (lv_at hl 0 rfl) ?_
    refine lv_bipush (v := 37) hx hb dM_isWork_38 (by decide) ?_
    refine lv_icmp_lt (tgt := 53) hx hb dM_isWork_40 (by decide) (fun h_40 => ?_) (fun h_40 => ?_)
    · skip
      refine lv_iconst (v := 0) hx hb dM_isWork_53 (by decide) ?_
      exact z_zret (v := false) S hR hlk hw dM_isWork_54 (by rw [kM_isWork_c31, if_neg h_34, if_pos h_40])
    · skip
      refine lv_iload_n hx hb dM_isWork_43 rfl (lv_at hl 0 rfl) ?_
      refine lv_bipush (v := 39) hx hb dM_isWork_44 (by decide) ?_
      refine lv_icmp_gt (tgt := 53) hx hb dM_isWork_46 (by decide) (fun h_46 => ?_) (fun h_46 => ?_)
      · skip
        refine lv_iconst (v := 0) hx hb dM_isWork_53 (by decide) ?_
        exact z_zret (v := false) S hR hlk hw dM_isWork_54 (by rw [kM_isWork_c31, if_neg h_34, if_neg h_40, if_pos h_46])
      · skip
        refine lv_iconst (v := 1) hx hb dM_isWork_49 (by decide) ?_
        refine lv_goto (tgt := 54) hx hb dM_isWork_50 (by decide) ?_
        exact z_zret (v := true) S hR hlk hw dM_isWork_54 (by rw [kM_isWork_c31, if_neg h_34, if_neg h_40, if_neg h_46])
set_option maxRecDepth 100000 in
set_option maxHeartbeats 4000000 in
theorem jM_isWork_c20 (l : Launch) (D : va_G) {p : Program} {e : Env} {s : State} {m : MethodId} {args : Array Value} {below : List Frame} {meth : Method} {c : Code} (S : CallFix p m c bM_isWork 2 s args wAll RM) (hR : meth.sig.returnType = (some .boolean)) (hlk : meth.locks = false) {ls : Array Slot} {H : Heap} {locs : List Loc} (v0 : Int32) (s0 : Int32) (hl : lv_has ls 2 [(0, .int v0)]) (hw : sH D s H locs) : W p l e { frames := 0, cells := 0, slots := 0, locals := 0 } s m args below meth c H locs 0 0 (sQi D below args s (bI (kM_isWork_c20 v0 s0))) (F0 m 20 ls [.int s0]) := by
  have hx := S.1
  have hb := S.2.1
  refine lv_istore_n (lv' := [(1, .int s0), (0, .int v0)]) hx hb dM_isWork_20 rfl hl (by decide) rfl (fun ls hl => ?_)
  refine lv_iload_n hx hb dM_isWork_21 rfl (lv_at hl 0 rfl) ?_
  refine lv_if_lt (tgt := 31) hx hb dM_isWork_22 (by decide) (fun h_22 => ?_) (fun h_22 => ?_)
  · skip
    rw [show kM_isWork_c20 v0 s0 = kM_isWork_c31 v0 s0 from (by rw [kM_isWork_c20, if_pos h_22])]
    exact jM_isWork_c31 l D S hR hlk v0 s0  (lv_sub hl [1, 0] rfl) hw
  · skip
    refine lv_iload_n hx hb dM_isWork_25 rfl (lv_at hl 0 rfl) ?_
    refine lv_bipush (v := 8) hx hb dM_isWork_26 (by decide) ?_
    refine lv_icmp_le (tgt := 49) hx hb dM_isWork_28 (by decide) (fun h_28 => ?_) (fun h_28 => ?_)
    · skip
      refine lv_iconst (v := 1) hx hb dM_isWork_49 (by decide) ?_
      refine lv_goto (tgt := 54) hx hb dM_isWork_50 (by decide) ?_
      exact z_zret (v := true) S hR hlk hw dM_isWork_54 (by rw [kM_isWork_c20, if_neg h_22, if_pos h_28])
    · skip
      rw [show kM_isWork_c20 v0 s0 = kM_isWork_c31 v0 s0 from (by rw [kM_isWork_c20, if_neg h_22, if_neg h_28])]
      exact jM_isWork_c31 l D S hR hlk v0 s0  (lv_sub hl [1, 0] rfl) hw
set_option maxRecDepth 100000 in
set_option maxHeartbeats 4000000 in
theorem jM_isWork_c19 (l : Launch) (D : va_G) {p : Program} {e : Env} {s : State} {m : MethodId} {args : Array Value} {below : List Frame} {meth : Method} {c : Code} (S : CallFix p m c bM_isWork 2 s args wAll RM) (hR : meth.sig.returnType = (some .boolean)) (hlk : meth.locks = false) {ls : Array Slot} {H : Heap} {locs : List Loc} (v0 : Int32) (hl : lv_has ls 2 [(0, .int v0)]) (hw : sH D s H locs) : W p l e { frames := 0, cells := 0, slots := 0, locals := 0 } s m args below meth c H locs 0 0 (sQi D below args s (bI (kM_isWork_c19 v0))) (F0 m 19 ls []) := by
  have hx := S.1
  have hb := S.2.1
  refine lv_iload_n hx hb dM_isWork_19 rfl (lv_at hl 0 rfl) ?_
  rw [show kM_isWork_c19 v0 = kM_isWork_c20 v0 v0 from rfl]
  exact jM_isWork_c20 l D S hR hlk v0 v0  (lv_sub hl [0] rfl) hw
set_option maxRecDepth 100000 in
set_option maxHeartbeats 4000000 in
theorem cM_isWork (l : Launch) (D : va_G) (a0 : Int32) : sMi l yM_isWork (.code yM_isWork bM_isWork 2 (some .boolean) :: wAll) { frames := 0, cells := 0, slots := 0, locals := 0 } D [.int a0] (bI (kM_isWork a0))  := by
  refine z_entryi (cc := bM_isWork) (nL := 2) (by decide) rfl rfl (Nat.le_of_ble_eq_true rfl) (fun p e s m args below meth c S hR hlk ls H locs hl hw => ?_)
  have hx := S.1
  have hb := S.2.1
  have hl : lv_has ls 2 [(0, .int a0)] := hl
  refine lv_iload_n hx hb dM_isWork_0 rfl (lv_at hl 0 rfl) ?_
  refine lv_bipush (v := 16) hx hb dM_isWork_1 (by decide) ?_
  refine lv_icmp_lt (tgt := 19) hx hb dM_isWork_3 (by decide) (fun h_3 => ?_) (fun h_3 => ?_)
  · skip
    rw [show kM_isWork a0 = kM_isWork_c19 a0 from (by rw [kM_isWork, if_pos h_3])]
    exact jM_isWork_c19 l D S hR hlk a0  (lv_sub hl [0] rfl) hw
  · skip
    refine lv_iload_n hx hb dM_isWork_6 rfl (lv_at hl 0 rfl) ?_
    refine lv_bipush (v := 32) hx hb dM_isWork_7 (by decide) ?_
    refine lv_icmp_ge (tgt := 19) hx hb dM_isWork_9 (by decide) (fun h_9 => ?_) (fun h_9 => ?_)
    · skip
      rw [show kM_isWork a0 = kM_isWork_c19 a0 from (by rw [kM_isWork, if_neg h_3, if_pos h_9])]
      exact jM_isWork_c19 l D S hR hlk a0  (lv_sub hl [0] rfl) hw
    · skip
      refine lv_iload_n hx hb dM_isWork_12 rfl (lv_at hl 0 rfl) ?_
      refine lv_bipush (v := 16) hx hb dM_isWork_13 (by decide) ?_
      refine lv_isub hx hb dM_isWork_15 ?_
      refine lv_goto (tgt := 20) hx hb dM_isWork_16 (by decide) ?_
      rw [show kM_isWork a0 = kM_isWork_c20 a0 (a0 - (16 : Int32)) from (by rw [kM_isWork, if_neg h_3, if_neg h_9])]
      exact jM_isWork_c20 l D S hR hlk a0 (a0 - (16 : Int32))  (lv_sub hl [0] rfl) hw
def kM_isControl_c12 (v0 : Int32) : Bool :=
  if v0 < (49 : Int32) then
    false
  else
    if (51 : Int32) < v0 then
      false
    else
      true
def kM_isControl (a0 : Int32) : Bool :=
  if a0 < (41 : Int32) then
    kM_isControl_c12 a0
  else
    if a0 ≤ (43 : Int32) then
      true
    else
      kM_isControl_c12 a0
set_option maxRecDepth 100000 in
set_option maxHeartbeats 4000000 in
theorem jM_isControl_c12 (l : Launch) (D : va_G) {p : Program} {e : Env} {s : State} {m : MethodId} {args : Array Value} {below : List Frame} {meth : Method} {c : Code} (S : CallFix p m c bM_isControl 1 s args wAll RM) (hR : meth.sig.returnType = (some .boolean)) (hlk : meth.locks = false) {ls : Array Slot} {H : Heap} {locs : List Loc} (v0 : Int32) (hl : lv_has ls 1 [(0, .int v0)]) (hw : sH D s H locs) : W p l e { frames := 0, cells := 0, slots := 0, locals := 0 } s m args below meth c H locs 0 0 (sQi D below args s (bI (kM_isControl_c12 v0))) (F0 m 12 ls []) := by
  have hx := S.1
  have hb := S.2.1
  refine lv_iload_n hx hb dM_isControl_12 rfl (lv_at hl 0 rfl) ?_
  refine lv_bipush (v := 49) hx hb dM_isControl_13 (by decide) ?_
  refine lv_icmp_lt (tgt := 28) hx hb dM_isControl_15 (by decide) (fun h_15 => ?_) (fun h_15 => ?_)
  · skip
    refine lv_iconst (v := 0) hx hb dM_isControl_28 (by decide) ?_
    exact z_zret (v := false) S hR hlk hw dM_isControl_29 (by rw [kM_isControl_c12, if_pos h_15])
  · skip
    refine lv_iload_n hx hb dM_isControl_18 rfl (lv_at hl 0 rfl) ?_
    refine lv_bipush (v := 51) hx hb dM_isControl_19 (by decide) ?_
    refine lv_icmp_gt (tgt := 28) hx hb dM_isControl_21 (by decide) (fun h_21 => ?_) (fun h_21 => ?_)
    · skip
      refine lv_iconst (v := 0) hx hb dM_isControl_28 (by decide) ?_
      exact z_zret (v := false) S hR hlk hw dM_isControl_29 (by rw [kM_isControl_c12, if_neg h_15, if_pos h_21])
    · skip
      refine lv_iconst (v := 1) hx hb dM_isControl_24 (by decide) ?_
      refine lv_goto (tgt := 29) hx hb dM_isControl_25 (by decide) ?_
      exact z_zret (v := true) S hR hlk hw dM_isControl_29 (by rw [kM_isControl_c12, if_neg h_15, if_neg h_21])
set_option maxRecDepth 100000 in
set_option maxHeartbeats 4000000 in
theorem cM_isControl (l : Launch) (D : va_G) (a0 : Int32) : sMi l yM_isControl (.code yM_isControl bM_isControl 1 (some .boolean) :: wAll) { frames := 0, cells := 0, slots := 0, locals := 0 } D [.int a0] (bI (kM_isControl a0))  := by
  refine z_entryi (cc := bM_isControl) (nL := 1) (by decide) rfl rfl (Nat.le_of_ble_eq_true rfl) (fun p e s m args below meth c S hR hlk ls H locs hl hw => ?_)
  have hx := S.1
  have hb := S.2.1
  have hl : lv_has ls 1 [(0, .int a0)] := hl
  refine lv_iload_n hx hb dM_isControl_0 rfl (lv_at hl 0 rfl) ?_
  refine lv_bipush (v := 41) hx hb dM_isControl_1 (by decide) ?_
  refine lv_icmp_lt (tgt := 12) hx hb dM_isControl_3 (by decide) (fun h_3 => ?_) (fun h_3 => ?_)
  · skip
    rw [show kM_isControl a0 = kM_isControl_c12 a0 from (by rw [kM_isControl, if_pos h_3])]
    exact jM_isControl_c12 l D S hR hlk a0  (lv_sub hl [0] rfl) hw
  · skip
    refine lv_iload_n hx hb dM_isControl_6 rfl (lv_at hl 0 rfl) ?_
    refine lv_bipush (v := 43) hx hb dM_isControl_7 (by decide) ?_
    refine lv_icmp_le (tgt := 24) hx hb dM_isControl_9 (by decide) (fun h_9 => ?_) (fun h_9 => ?_)
    · skip
      refine lv_iconst (v := 1) hx hb dM_isControl_24 (by decide) ?_
      refine lv_goto (tgt := 29) hx hb dM_isControl_25 (by decide) ?_
      exact z_zret (v := true) S hR hlk hw dM_isControl_29 (by rw [kM_isControl, if_neg h_3, if_pos h_9])
    · skip
      rw [show kM_isControl a0 = kM_isControl_c12 a0 from (by rw [kM_isControl, if_neg h_3, if_neg h_9])]
      exact jM_isControl_c12 l D S hR hlk a0  (lv_sub hl [0] rfl) hw
def kM_isKnown_c92 (τ : MS) : Bool :=
  if (τ.1 27) = (60 : Int32) then
    true
  else
    if (τ.1 27) = (61 : Int32) then
      true
    else
      false
def kM_isKnown (τ : MS) (a1 : Int32) : Bool :=
  if a1 = 0 then
    if (τ.1 27) = (4 : Int32) then
      true
    else
      if (τ.1 27) = (2 : Int32) then
        true
      else
        false
  else
    if a1 = (1 : Int32) then
      true
    else
      if a1 = (3 : Int32) then
        if (kM_moved (τ.1 27)) ≤ 0 then
          false
        else
          true
      else
        if (bI (kM_isWork (τ.1 27))) = 0 then
          if (bI (kM_isControl (τ.1 27))) = 0 then
            if (τ.1 27) < (56 : Int32) then
              kM_isKnown_c92 τ
            else
              if (τ.1 27) ≤ (58 : Int32) then
                true
              else
                kM_isKnown_c92 τ
          else
            true
        else
          true
set_option maxRecDepth 100000 in
set_option maxHeartbeats 4000000 in
theorem jM_isKnown_c92 (l : Launch) (D : va_G) (g qb qg qw : Nat) (cA : ClassId) {p : Program} {e : Env} {s : State} {m : MethodId} {args : Array Value} {below : List Frame} {meth : Method} {c : Code} (S : CallFix p m c bM_isKnown 2 s args wAll RM) (hR : meth.sig.returnType = (some .boolean)) (hlk : meth.locks = false) {ls : Array Slot} {H : Heap} {locs : List Loc} (τ : MS) (hl : lv_has ls 2 [(0, .ref g)]) (hw : mH D g qb qg qw cA s τ H locs) : W p l e { frames := 1, cells := 0, slots := 0, locals := 21 } s m args below meth c H locs 0 0 (mQi D g qb qg qw cA below args s (bI (kM_isKnown_c92 τ)) τ) (F0 m 92 ls []) := by
  have hx := S.1
  have hb := S.2.1
  refine lv_aload_n hx hb dM_isKnown_92 rfl (lv_at hl 0 rfl) ?_
  refine mget_order S hw dM_isKnown_93 ?_
  refine lv_bipush (v := 60) hx hb dM_isKnown_96 (by decide) ?_
  refine lv_icmp_eq (tgt := 110) hx hb dM_isKnown_98 (by decide) (fun h_98 => ?_) (fun h_98 => ?_)
  · skip
    refine lv_iconst (v := 1) hx hb dM_isKnown_110 (by decide) ?_
    refine lv_goto (tgt := 115) hx hb dM_isKnown_111 (by decide) ?_
    exact z_zret (v := true) S hR hlk hw dM_isKnown_115 (by rw [kM_isKnown_c92, if_pos h_98])
  · skip
    refine lv_aload_n hx hb dM_isKnown_101 rfl (lv_at hl 0 rfl) ?_
    refine mget_order S hw dM_isKnown_102 ?_
    refine lv_bipush (v := 61) hx hb dM_isKnown_105 (by decide) ?_
    refine lv_icmp_ne (tgt := 114) hx hb dM_isKnown_107 (by decide) (fun h_107 => ?_) (fun h_107 => ?_)
    · skip
      refine lv_iconst (v := 0) hx hb dM_isKnown_114 (by decide) ?_
      exact z_zret (v := false) S hR hlk hw dM_isKnown_115 (by rw [kM_isKnown_c92, if_neg h_98, if_neg h_107])
    · skip
      refine lv_iconst (v := 1) hx hb dM_isKnown_110 (by decide) ?_
      refine lv_goto (tgt := 115) hx hb dM_isKnown_111 (by decide) ?_
      exact z_zret (v := true) S hR hlk hw dM_isKnown_115 (by rw [kM_isKnown_c92, if_neg h_98, if_pos h_107])
set_option maxRecDepth 100000 in
set_option maxHeartbeats 4000000 in
theorem cM_isKnown (l : Launch) (D : va_G) (g qb qg qw : Nat) (cA : ClassId) (τ : MS) (a1 : Int32) : mMi l yM_isKnown (.code yM_isKnown bM_isKnown 2 (some .boolean) :: wAll) { frames := 1, cells := 0, slots := 0, locals := 21 } D g qb qg qw cA [.ref g, .int a1] τ (bI (kM_isKnown τ a1)) τ := by
  refine z_entryi (cc := bM_isKnown) (nL := 2) (by decide) rfl rfl (Nat.le_of_ble_eq_true rfl) (fun p e s m args below meth c S hR hlk ls H locs hl hw => ?_)
  have hx := S.1
  have hb := S.2.1
  have hl : lv_has ls 2 [(0, .ref g), (1, .int a1)] := hl
  refine lv_iload_n hx hb dM_isKnown_0 rfl (lv_at hl 1 rfl) ?_
  refine lv_if_ne (tgt := 26) hx hb dM_isKnown_1 (by decide) (fun h_1 => ?_) (fun h_1 => ?_)
  · skip
    refine lv_iload_n hx hb dM_isKnown_26 rfl (lv_at hl 1 rfl) ?_
    refine lv_iconst (v := 1) hx hb dM_isKnown_27 (by decide) ?_
    refine lv_icmp_ne (tgt := 33) hx hb dM_isKnown_28 (by decide) (fun h_28 => ?_) (fun h_28 => ?_)
    · skip
      refine lv_iload_n hx hb dM_isKnown_33 rfl (lv_at hl 1 rfl) ?_
      refine lv_iconst (v := 3) hx hb dM_isKnown_34 (by decide) ?_
      refine lv_icmp_ne (tgt := 54) hx hb dM_isKnown_35 (by decide) (fun h_35 => ?_) (fun h_35 => ?_)
      · skip
        refine lv_aload_n hx hb dM_isKnown_54 rfl (lv_at hl 0 rfl) ?_
        refine mget_order S hw dM_isKnown_55 ?_
        refine s_calli S (cM_isWork l D (τ.1 27)) (qM_isWork S.2.2.2.2 ⟨Nat.le_of_ble_eq_true rfl, Nat.le_of_ble_eq_true rfl⟩) hw rfl hl.1 rfl (Nat.le_of_ble_eq_true rfl) dM_isKnown_58 (fun H locs hw => ?_)
        refine lv_if_ne (tgt := 110) hx hb dM_isKnown_61 (by decide) (fun h_61 => ?_) (fun h_61 => ?_)
        · skip
          refine lv_iconst (v := 1) hx hb dM_isKnown_110 (by decide) ?_
          refine lv_goto (tgt := 115) hx hb dM_isKnown_111 (by decide) ?_
          exact z_zret (v := true) S hR hlk hw dM_isKnown_115 (by rw [kM_isKnown, if_neg h_1, if_neg h_28, if_neg h_35, if_neg h_61])
        · skip
          refine lv_aload_n hx hb dM_isKnown_64 rfl (lv_at hl 0 rfl) ?_
          refine mget_order S hw dM_isKnown_65 ?_
          refine s_calli S (cM_isControl l D (τ.1 27)) (qM_isControl S.2.2.2.2 ⟨Nat.le_of_ble_eq_true rfl, Nat.le_of_ble_eq_true rfl⟩) hw rfl hl.1 rfl (Nat.le_of_ble_eq_true rfl) dM_isKnown_68 (fun H locs hw => ?_)
          refine lv_if_ne (tgt := 110) hx hb dM_isKnown_71 (by decide) (fun h_71 => ?_) (fun h_71 => ?_)
          · skip
            refine lv_iconst (v := 1) hx hb dM_isKnown_110 (by decide) ?_
            refine lv_goto (tgt := 115) hx hb dM_isKnown_111 (by decide) ?_
            exact z_zret (v := true) S hR hlk hw dM_isKnown_115 (by rw [kM_isKnown, if_neg h_1, if_neg h_28, if_neg h_35, if_pos h_61, if_neg h_71])
          · skip
            refine lv_aload_n hx hb dM_isKnown_74 rfl (lv_at hl 0 rfl) ?_
            refine mget_order S hw dM_isKnown_75 ?_
            refine lv_bipush (v := 56) hx hb dM_isKnown_78 (by decide) ?_
            refine lv_icmp_lt (tgt := 92) hx hb dM_isKnown_80 (by decide) (fun h_80 => ?_) (fun h_80 => ?_)
            · skip
              rw [show kM_isKnown τ a1 = kM_isKnown_c92 τ from (by rw [kM_isKnown, if_neg h_1, if_neg h_28, if_neg h_35, if_pos h_61, if_pos h_71, if_pos h_80])]
              exact jM_isKnown_c92 l D g qb qg qw cA S hR hlk τ  (lv_sub hl [0] rfl) hw
            · skip
              refine lv_aload_n hx hb dM_isKnown_83 rfl (lv_at hl 0 rfl) ?_
              refine mget_order S hw dM_isKnown_84 ?_
              refine lv_bipush (v := 58) hx hb dM_isKnown_87 (by decide) ?_
              refine lv_icmp_le (tgt := 110) hx hb dM_isKnown_89 (by decide) (fun h_89 => ?_) (fun h_89 => ?_)
              · skip
                refine lv_iconst (v := 1) hx hb dM_isKnown_110 (by decide) ?_
                refine lv_goto (tgt := 115) hx hb dM_isKnown_111 (by decide) ?_
                exact z_zret (v := true) S hR hlk hw dM_isKnown_115 (by rw [kM_isKnown, if_neg h_1, if_neg h_28, if_neg h_35, if_pos h_61, if_pos h_71, if_neg h_80, if_pos h_89])
              · skip
                rw [show kM_isKnown τ a1 = kM_isKnown_c92 τ from (by rw [kM_isKnown, if_neg h_1, if_neg h_28, if_neg h_35, if_pos h_61, if_pos h_71, if_neg h_80, if_neg h_89])]
                exact jM_isKnown_c92 l D g qb qg qw cA S hR hlk τ  (lv_sub hl [0] rfl) hw
      · skip
        refine lv_aload_n hx hb dM_isKnown_38 rfl (lv_at hl 0 rfl) ?_
        refine mget_order S hw dM_isKnown_39 ?_
        refine s_calli S (cM_moved l D (τ.1 27)) (qM_moved S.2.2.2.2 ⟨Nat.le_of_ble_eq_true rfl, Nat.le_of_ble_eq_true rfl⟩) hw rfl hl.1 rfl (Nat.le_of_ble_eq_true rfl) dM_isKnown_42 (fun H locs hw => ?_)
        refine lv_if_le (tgt := 52) hx hb dM_isKnown_45 (by decide) (fun h_45 => ?_) (fun h_45 => ?_)
        · skip
          refine lv_iconst (v := 0) hx hb dM_isKnown_52 (by decide) ?_
          exact z_zret (v := false) S hR hlk hw dM_isKnown_53 (by rw [kM_isKnown, if_neg h_1, if_neg h_28, if_pos h_35, if_pos h_45])
        · skip
          refine lv_iconst (v := 1) hx hb dM_isKnown_48 (by decide) ?_
          refine lv_goto (tgt := 53) hx hb dM_isKnown_49 (by decide) ?_
          exact z_zret (v := true) S hR hlk hw dM_isKnown_53 (by rw [kM_isKnown, if_neg h_1, if_neg h_28, if_pos h_35, if_neg h_45])
    · skip
      refine lv_iconst (v := 1) hx hb dM_isKnown_31 (by decide) ?_
      exact z_zret (v := true) S hR hlk hw dM_isKnown_32 (by rw [kM_isKnown, if_neg h_1, if_pos h_28])
  · skip
    refine lv_aload_n hx hb dM_isKnown_4 rfl (lv_at hl 0 rfl) ?_
    refine mget_order S hw dM_isKnown_5 ?_
    refine lv_iconst (v := 4) hx hb dM_isKnown_8 (by decide) ?_
    refine lv_icmp_eq (tgt := 20) hx hb dM_isKnown_9 (by decide) (fun h_9 => ?_) (fun h_9 => ?_)
    · skip
      refine lv_iconst (v := 1) hx hb dM_isKnown_20 (by decide) ?_
      refine lv_goto (tgt := 25) hx hb dM_isKnown_21 (by decide) ?_
      exact z_zret (v := true) S hR hlk hw dM_isKnown_25 (by rw [kM_isKnown, if_pos h_1, if_pos h_9])
    · skip
      refine lv_aload_n hx hb dM_isKnown_12 rfl (lv_at hl 0 rfl) ?_
      refine mget_order S hw dM_isKnown_13 ?_
      refine lv_iconst (v := 2) hx hb dM_isKnown_16 (by decide) ?_
      refine lv_icmp_ne (tgt := 24) hx hb dM_isKnown_17 (by decide) (fun h_17 => ?_) (fun h_17 => ?_)
      · skip
        refine lv_iconst (v := 0) hx hb dM_isKnown_24 (by decide) ?_
        exact z_zret (v := false) S hR hlk hw dM_isKnown_25 (by rw [kM_isKnown, if_pos h_1, if_neg h_9, if_neg h_17])
      · skip
        refine lv_iconst (v := 1) hx hb dM_isKnown_20 (by decide) ?_
        refine lv_goto (tgt := 25) hx hb dM_isKnown_21 (by decide) ?_
        exact z_zret (v := true) S hR hlk hw dM_isKnown_25 (by rw [kM_isKnown, if_pos h_1, if_neg h_9, if_pos h_17])
def kM_seen (τ : MS) (a1 : Int32) : Int32 :=
  if a1 = (0 : Int32) then
    (kM_status τ)
  else
    if a1 = (1 : Int32) then
      (τ.1 13)
    else
      if a1 = (2 : Int32) then
        (kM_table τ)
      else
        if a1 = (3 : Int32) then
          (τ.1 16)
        else
          if a1 = (4 : Int32) then
            (τ.1 17)
          else
            if a1 = (5 : Int32) then
              if (bI (τ.2.1 18)) = 0 then
                (0 : Int32)
              else
                (1 : Int32)
            else
              if a1 = (6 : Int32) then
                if (bI (τ.2.1 19)) = 0 then
                  (0 : Int32)
                else
                  (1 : Int32)
              else
                if a1 = (7 : Int32) then
                  (τ.1 21)
                else
                  if a1 = (8 : Int32) then
                    (τ.1 22)
                  else
                    (τ.1 20)
set_option maxRecDepth 100000 in
set_option maxHeartbeats 4000000 in
theorem cM_seen (l : Launch) (D : va_G) (g qb qg qw : Nat) (cA : ClassId) (τ : MS) (a1 : Int32) : mMi l yM_seen (.code yM_seen bM_seen 2 (some .int) :: wAll) { frames := 2, cells := 0, slots := 0, locals := 41 } D g qb qg qw cA [.ref g, .int a1] τ (kM_seen τ a1) τ := by
  refine z_entryi (cc := bM_seen) (nL := 2) (by decide) rfl rfl (Nat.le_of_ble_eq_true rfl) (fun p e s m args below meth c S hR hlk ls H locs hl hw => ?_)
  have hx := S.1
  have hb := S.2.1
  have hl : lv_has ls 2 [(0, .ref g), (1, .int a1)] := hl
  refine lv_iload_n hx hb dM_seen_0 rfl (lv_at hl 1 rfl) ?_
  by_cases h_1_0 : a1 = (0 : Int32)
  · refine z_tsC (tgt := 52) hx hb dM_seen_1 h_1_0 (by decide) (by decide) rfl (by decide) ?_
    refine lv_aload_n hx hb dM_seen_52 rfl (lv_at hl 0 rfl) ?_
    refine z_calli S (cM_status l D g qb qg qw cA τ) (qM_status S.2.2.2.2 ⟨Nat.le_of_ble_eq_true rfl, Nat.le_of_ble_eq_true rfl⟩) hw rfl rfl rfl hl.1 rfl (Nat.le_of_ble_eq_true rfl) dM_seen_53 (fun H locs hw => ?_)
    exact z_iret S hR hlk hw dM_seen_56 (by rw [kM_seen, if_pos h_1_0])
  by_cases h_1_1 : a1 = (1 : Int32)
  · refine z_tsC (tgt := 57) hx hb dM_seen_1 h_1_1 (by decide) (by decide) rfl (by decide) ?_
    refine lv_aload_n hx hb dM_seen_57 rfl (lv_at hl 0 rfl) ?_
    refine mget_invalid S hw dM_seen_58 ?_
    exact z_iret S hR hlk hw dM_seen_61 (by rw [kM_seen, if_neg h_1_0, if_pos h_1_1])
  by_cases h_1_2 : a1 = (2 : Int32)
  · refine z_tsC (tgt := 62) hx hb dM_seen_1 h_1_2 (by decide) (by decide) rfl (by decide) ?_
    refine lv_aload_n hx hb dM_seen_62 rfl (lv_at hl 0 rfl) ?_
    refine z_calli S (cM_table l D g qb qg qw cA τ) (qM_table S.2.2.2.2 ⟨Nat.le_of_ble_eq_true rfl, Nat.le_of_ble_eq_true rfl⟩) hw rfl rfl rfl hl.1 rfl (Nat.le_of_ble_eq_true rfl) dM_seen_63 (fun H locs hw => ?_)
    exact z_iret S hR hlk hw dM_seen_66 (by rw [kM_seen, if_neg h_1_0, if_neg h_1_1, if_pos h_1_2])
  by_cases h_1_3 : a1 = (3 : Int32)
  · refine z_tsC (tgt := 67) hx hb dM_seen_1 h_1_3 (by decide) (by decide) rfl (by decide) ?_
    refine lv_aload_n hx hb dM_seen_67 rfl (lv_at hl 0 rfl) ?_
    refine mget_place S hw dM_seen_68 ?_
    exact z_iret S hR hlk hw dM_seen_71 (by rw [kM_seen, if_neg h_1_0, if_neg h_1_1, if_neg h_1_2, if_pos h_1_3])
  by_cases h_1_4 : a1 = (4 : Int32)
  · refine z_tsC (tgt := 72) hx hb dM_seen_1 h_1_4 (by decide) (by decide) rfl (by decide) ?_
    refine lv_aload_n hx hb dM_seen_72 rfl (lv_at hl 0 rfl) ?_
    refine mget_next S hw dM_seen_73 ?_
    exact z_iret S hR hlk hw dM_seen_76 (by rw [kM_seen, if_neg h_1_0, if_neg h_1_1, if_neg h_1_2, if_neg h_1_3, if_pos h_1_4])
  by_cases h_1_5 : a1 = (5 : Int32)
  · refine z_tsC (tgt := 77) hx hb dM_seen_1 h_1_5 (by decide) (by decide) rfl (by decide) ?_
    refine lv_aload_n hx hb dM_seen_77 rfl (lv_at hl 0 rfl) ?_
    refine mget_annulled S hw dM_seen_78 ?_
    refine lv_if_eq (tgt := 88) hx hb dM_seen_81 (by decide) (fun h_81 => ?_) (fun h_81 => ?_)
    · skip
      refine lv_iconst (v := 0) hx hb dM_seen_88 (by decide) ?_
      exact z_iret S hR hlk hw dM_seen_89 (by rw [kM_seen, if_neg h_1_0, if_neg h_1_1, if_neg h_1_2, if_neg h_1_3, if_neg h_1_4, if_pos h_1_5, if_pos h_81])
    · skip
      refine lv_iconst (v := 1) hx hb dM_seen_84 (by decide) ?_
      refine lv_goto (tgt := 89) hx hb dM_seen_85 (by decide) ?_
      exact z_iret S hR hlk hw dM_seen_89 (by rw [kM_seen, if_neg h_1_0, if_neg h_1_1, if_neg h_1_2, if_neg h_1_3, if_neg h_1_4, if_pos h_1_5, if_neg h_81])
  by_cases h_1_6 : a1 = (6 : Int32)
  · refine z_tsC (tgt := 90) hx hb dM_seen_1 h_1_6 (by decide) (by decide) rfl (by decide) ?_
    refine lv_aload_n hx hb dM_seen_90 rfl (lv_at hl 0 rfl) ?_
    refine mget_stopped S hw dM_seen_91 ?_
    refine lv_if_eq (tgt := 101) hx hb dM_seen_94 (by decide) (fun h_94 => ?_) (fun h_94 => ?_)
    · skip
      refine lv_iconst (v := 0) hx hb dM_seen_101 (by decide) ?_
      exact z_iret S hR hlk hw dM_seen_102 (by rw [kM_seen, if_neg h_1_0, if_neg h_1_1, if_neg h_1_2, if_neg h_1_3, if_neg h_1_4, if_neg h_1_5, if_pos h_1_6, if_pos h_94])
    · skip
      refine lv_iconst (v := 1) hx hb dM_seen_97 (by decide) ?_
      refine lv_goto (tgt := 102) hx hb dM_seen_98 (by decide) ?_
      exact z_iret S hR hlk hw dM_seen_102 (by rw [kM_seen, if_neg h_1_0, if_neg h_1_1, if_neg h_1_2, if_neg h_1_3, if_neg h_1_4, if_neg h_1_5, if_pos h_1_6, if_neg h_94])
  by_cases h_1_7 : a1 = (7 : Int32)
  · refine z_tsC (tgt := 103) hx hb dM_seen_1 h_1_7 (by decide) (by decide) rfl (by decide) ?_
    refine lv_aload_n hx hb dM_seen_103 rfl (lv_at hl 0 rfl) ?_
    refine mget_steps S hw dM_seen_104 ?_
    exact z_iret S hR hlk hw dM_seen_107 (by rw [kM_seen, if_neg h_1_0, if_neg h_1_1, if_neg h_1_2, if_neg h_1_3, if_neg h_1_4, if_neg h_1_5, if_neg h_1_6, if_pos h_1_7])
  by_cases h_1_8 : a1 = (8 : Int32)
  · refine z_tsC (tgt := 108) hx hb dM_seen_1 h_1_8 (by decide) (by decide) rfl (by decide) ?_
    refine lv_aload_n hx hb dM_seen_108 rfl (lv_at hl 0 rfl) ?_
    refine mget_trapped S hw dM_seen_109 ?_
    exact z_iret S hR hlk hw dM_seen_112 (by rw [kM_seen, if_neg h_1_0, if_neg h_1_1, if_neg h_1_2, if_neg h_1_3, if_neg h_1_4, if_neg h_1_5, if_neg h_1_6, if_neg h_1_7, if_pos h_1_8])
  refine z_tsD (tgt := 113) (xs := [(0 : Int32), (1 : Int32), (2 : Int32), (3 : Int32), (4 : Int32), (5 : Int32), (6 : Int32), (7 : Int32), (8 : Int32)]) hx hb dM_seen_1 (by simp only [List.forall_mem_cons, List.not_mem_nil, false_imp_iff, implies_true, and_true]; exact ⟨h_1_0, h_1_1, h_1_2, h_1_3, h_1_4, h_1_5, h_1_6, h_1_7, h_1_8⟩) (by decide) (by decide) ?_
  refine lv_aload_n hx hb dM_seen_113 rfl (lv_at hl 0 rfl) ?_
  refine mget_asked S hw dM_seen_114 ?_
  exact z_iret S hR hlk hw dM_seen_117 (by rw [kM_seen, if_neg h_1_0, if_neg h_1_1, if_neg h_1_2, if_neg h_1_3, if_neg h_1_4, if_neg h_1_5, if_neg h_1_6, if_neg h_1_7, if_neg h_1_8])
def kM_flags_c31 (τ : MS) (v3 : Bool) : MS :=
  (mB τ 9 v3)
def kM_flags_c26 (τ : MS) (v2 : Bool) (v3 : Bool) : MS :=
  kM_flags_c31 (mB τ 10 v2) v3
def kM_flags_c23 (τ : MS) (v2 : Bool) (v3 : Bool) (s0 : Bool) : MS :=
  kM_flags_c26 (mB τ 11 s0) v2 v3
def kM_flags_c13 (τ : MS) (v1 : Int32) (v2 : Bool) (v3 : Bool) : MS :=
  if v1 = 0 then
    kM_flags_c23 τ v2 v3 true
  else
    kM_flags_c23 τ v2 v3 false
def kM_flags_c10 (τ : MS) (v1 : Int32) (v2 : Bool) (v3 : Bool) (s0 : Bool) : MS :=
  kM_flags_c13 (mB τ 12 s0) v1 v2 v3
def kM_flags (τ : MS) (a1 : Int32) (a2 : Bool) (a3 : Bool) : MS :=
  if 0 ≤ a1 then
    kM_flags_c10 τ a1 a2 a3 false
  else
    kM_flags_c10 τ a1 a2 a3 true
set_option maxRecDepth 100000 in
set_option maxHeartbeats 4000000 in
theorem jM_flags_c31 (l : Launch) (D : va_G) (g qb qg qw : Nat) (cA : ClassId) {p : Program} {e : Env} {s : State} {m : MethodId} {args : Array Value} {below : List Frame} {meth : Method} {c : Code} (S : CallFix p m c bM_flags 4 s args wAll RM) (hR : meth.sig.returnType = none) (hlk : meth.locks = false) {ls : Array Slot} {H : Heap} {locs : List Loc} (τ : MS) (v3 : Bool) (hl : lv_has ls 4 [(0, .ref g), (3, .int (bI v3))]) (hw : mH D g qb qg qw cA s τ H locs) : W p l e { frames := 0, cells := 0, slots := 0, locals := 0 } s m args below meth c H locs 0 0 (mQv D g qb qg qw cA below args s (kM_flags_c31 τ v3)) (F0 m 31 ls []) := by
  have hx := S.1
  have hb := S.2.1
  refine lv_aload_n hx hb dM_flags_31 rfl (lv_at hl 0 rfl) ?_
  refine lv_iload_n hx hb dM_flags_32 rfl (lv_at hl 1 rfl) ?_
  refine mput_carry (v := v3) S hw dM_flags_33 (fun H locs hw => ?_)
  exact z_vret S hR hlk hw dM_flags_36 rfl
set_option maxRecDepth 100000 in
set_option maxHeartbeats 4000000 in
theorem jM_flags_c26 (l : Launch) (D : va_G) (g qb qg qw : Nat) (cA : ClassId) {p : Program} {e : Env} {s : State} {m : MethodId} {args : Array Value} {below : List Frame} {meth : Method} {c : Code} (S : CallFix p m c bM_flags 4 s args wAll RM) (hR : meth.sig.returnType = none) (hlk : meth.locks = false) {ls : Array Slot} {H : Heap} {locs : List Loc} (τ : MS) (v2 : Bool) (v3 : Bool) (hl : lv_has ls 4 [(0, .ref g), (2, .int (bI v2)), (3, .int (bI v3))]) (hw : mH D g qb qg qw cA s τ H locs) : W p l e { frames := 0, cells := 0, slots := 0, locals := 0 } s m args below meth c H locs 0 0 (mQv D g qb qg qw cA below args s (kM_flags_c26 τ v2 v3)) (F0 m 26 ls []) := by
  have hx := S.1
  have hb := S.2.1
  refine lv_aload_n hx hb dM_flags_26 rfl (lv_at hl 0 rfl) ?_
  refine lv_iload_n hx hb dM_flags_27 rfl (lv_at hl 1 rfl) ?_
  refine mput_overflow (v := v2) S hw dM_flags_28 (fun H locs hw => ?_)
  rw [show kM_flags_c26 τ v2 v3 = kM_flags_c31 (mB τ 10 v2) v3 from rfl]
  exact jM_flags_c31 l D g qb qg qw cA S hR hlk (mB τ 10 v2) v3  (lv_sub hl [0, 2] rfl) hw
set_option maxRecDepth 100000 in
set_option maxHeartbeats 4000000 in
theorem jM_flags_c23 (l : Launch) (D : va_G) (g qb qg qw : Nat) (cA : ClassId) {p : Program} {e : Env} {s : State} {m : MethodId} {args : Array Value} {below : List Frame} {meth : Method} {c : Code} (S : CallFix p m c bM_flags 4 s args wAll RM) (hR : meth.sig.returnType = none) (hlk : meth.locks = false) {ls : Array Slot} {H : Heap} {locs : List Loc} (τ : MS) (v2 : Bool) (v3 : Bool) (s0 : Bool) (hl : lv_has ls 4 [(0, .ref g), (2, .int (bI v2)), (3, .int (bI v3))]) (hw : mH D g qb qg qw cA s τ H locs) : W p l e { frames := 0, cells := 0, slots := 0, locals := 0 } s m args below meth c H locs 0 0 (mQv D g qb qg qw cA below args s (kM_flags_c23 τ v2 v3 s0)) (F0 m 23 ls [.int (bI s0), .ref g]) := by
  have hx := S.1
  have hb := S.2.1
  refine mput_zero (v := s0) S hw dM_flags_23 (fun H locs hw => ?_)
  rw [show kM_flags_c23 τ v2 v3 s0 = kM_flags_c26 (mB τ 11 s0) v2 v3 from rfl]
  exact jM_flags_c26 l D g qb qg qw cA S hR hlk (mB τ 11 s0) v2 v3  (lv_sub hl [0, 1, 2] rfl) hw
set_option maxRecDepth 100000 in
set_option maxHeartbeats 4000000 in
theorem jM_flags_c13 (l : Launch) (D : va_G) (g qb qg qw : Nat) (cA : ClassId) {p : Program} {e : Env} {s : State} {m : MethodId} {args : Array Value} {below : List Frame} {meth : Method} {c : Code} (S : CallFix p m c bM_flags 4 s args wAll RM) (hR : meth.sig.returnType = none) (hlk : meth.locks = false) {ls : Array Slot} {H : Heap} {locs : List Loc} (τ : MS) (v1 : Int32) (v2 : Bool) (v3 : Bool) (hl : lv_has ls 4 [(0, .ref g), (1, .int v1), (2, .int (bI v2)), (3, .int (bI v3))]) (hw : mH D g qb qg qw cA s τ H locs) : W p l e { frames := 0, cells := 0, slots := 0, locals := 0 } s m args below meth c H locs 0 0 (mQv D g qb qg qw cA below args s (kM_flags_c13 τ v1 v2 v3)) (F0 m 13 ls []) := by
  have hx := S.1
  have hb := S.2.1
  refine lv_aload_n hx hb dM_flags_13 rfl (lv_at hl 0 rfl) ?_
  refine lv_iload_n hx hb dM_flags_14 rfl (lv_at hl 1 rfl) ?_
  refine lv_if_ne (tgt := 22) hx hb dM_flags_15 (by decide) (fun h_15 => ?_) (fun h_15 => ?_)
  · skip
    refine lv_iconst (v := 0) hx hb dM_flags_22 (by decide) ?_
    rw [show kM_flags_c13 τ v1 v2 v3 = kM_flags_c23 τ v2 v3 false from (by rw [kM_flags_c13, if_neg h_15])]
    exact jM_flags_c23 l D g qb qg qw cA S hR hlk τ v2 v3 false  (lv_sub hl [0, 2, 3] rfl) hw
  · skip
    refine lv_iconst (v := 1) hx hb dM_flags_18 (by decide) ?_
    refine lv_goto (tgt := 23) hx hb dM_flags_19 (by decide) ?_
    rw [show kM_flags_c13 τ v1 v2 v3 = kM_flags_c23 τ v2 v3 true from (by rw [kM_flags_c13, if_pos h_15])]
    exact jM_flags_c23 l D g qb qg qw cA S hR hlk τ v2 v3 true  (lv_sub hl [0, 2, 3] rfl) hw
set_option maxRecDepth 100000 in
set_option maxHeartbeats 4000000 in
theorem jM_flags_c10 (l : Launch) (D : va_G) (g qb qg qw : Nat) (cA : ClassId) {p : Program} {e : Env} {s : State} {m : MethodId} {args : Array Value} {below : List Frame} {meth : Method} {c : Code} (S : CallFix p m c bM_flags 4 s args wAll RM) (hR : meth.sig.returnType = none) (hlk : meth.locks = false) {ls : Array Slot} {H : Heap} {locs : List Loc} (τ : MS) (v1 : Int32) (v2 : Bool) (v3 : Bool) (s0 : Bool) (hl : lv_has ls 4 [(0, .ref g), (1, .int v1), (2, .int (bI v2)), (3, .int (bI v3))]) (hw : mH D g qb qg qw cA s τ H locs) : W p l e { frames := 0, cells := 0, slots := 0, locals := 0 } s m args below meth c H locs 0 0 (mQv D g qb qg qw cA below args s (kM_flags_c10 τ v1 v2 v3 s0)) (F0 m 10 ls [.int (bI s0), .ref g]) := by
  have hx := S.1
  have hb := S.2.1
  refine mput_negative (v := s0) S hw dM_flags_10 (fun H locs hw => ?_)
  rw [show kM_flags_c10 τ v1 v2 v3 s0 = kM_flags_c13 (mB τ 12 s0) v1 v2 v3 from rfl]
  exact jM_flags_c13 l D g qb qg qw cA S hR hlk (mB τ 12 s0) v1 v2 v3  (lv_sub hl [0, 1, 2, 3] rfl) hw
set_option maxRecDepth 100000 in
set_option maxHeartbeats 4000000 in
theorem cM_flags (l : Launch) (D : va_G) (g qb qg qw : Nat) (cA : ClassId) (τ : MS) (a1 : Int32) (a2 : Bool) (a3 : Bool) : mMv l yM_flags (.code yM_flags bM_flags 4 none :: wAll) { frames := 0, cells := 0, slots := 0, locals := 0 } D g qb qg qw cA [.ref g, .int a1, .int (bI a2), .int (bI a3)] τ (kM_flags τ a1 a2 a3) := by
  refine z_entryv (cc := bM_flags) (nL := 4) (by decide) rfl rfl (Nat.le_of_ble_eq_true rfl) (fun p e s m args below meth c S hR hlk ls H locs hl hw => ?_)
  have hx := S.1
  have hb := S.2.1
  have hl : lv_has ls 4 [(0, .ref g), (1, .int a1), (2, .int (bI a2)), (3, .int (bI a3))] := hl
  refine lv_aload_n hx hb dM_flags_0 rfl (lv_at hl 0 rfl) ?_
  refine lv_iload_n hx hb dM_flags_1 rfl (lv_at hl 1 rfl) ?_
  refine lv_if_ge (tgt := 9) hx hb dM_flags_2 (by decide) (fun h_2 => ?_) (fun h_2 => ?_)
  · skip
    refine lv_iconst (v := 0) hx hb dM_flags_9 (by decide) ?_
    rw [show kM_flags τ a1 a2 a3 = kM_flags_c10 τ a1 a2 a3 false from (by rw [kM_flags, if_pos h_2])]
    exact jM_flags_c10 l D g qb qg qw cA S hR hlk τ a1 a2 a3 false  (lv_sub hl [0, 1, 2, 3] rfl) hw
  · skip
    refine lv_iconst (v := 1) hx hb dM_flags_5 (by decide) ?_
    refine lv_goto (tgt := 10) hx hb dM_flags_6 (by decide) ?_
    rw [show kM_flags τ a1 a2 a3 = kM_flags_c10 τ a1 a2 a3 true from (by rw [kM_flags, if_neg h_2])]
    exact jM_flags_c10 l D g qb qg qw cA S hR hlk τ a1 a2 a3 true  (lv_sub hl [0, 1, 2, 3] rfl) hw
def kM_plain (a0 : Int32) : Int64 :=
  ((a0.toInt64) &&& (4294967295 : Int64))
set_option maxRecDepth 100000 in
set_option maxHeartbeats 4000000 in
theorem cM_plain (l : Launch) (D : va_G) (a0 : Int32) : sMl l yM_plain (.code yM_plain bM_plain 1 (some .long) :: wAll) { frames := 0, cells := 0, slots := 0, locals := 0 } D [.int a0] (kM_plain a0)  := by
  refine z_entryl (cc := bM_plain) (nL := 1) (by decide) rfl rfl (Nat.le_of_ble_eq_true rfl) (fun p e s m args below meth c S hR hlk ls H locs hl hw => ?_)
  have hx := S.1
  have hb := S.2.1
  have hl : lv_has ls 1 [(0, .int a0)] := hl
  refine lv_iload_n hx hb dM_plain_0 rfl (lv_at hl 0 rfl) ?_
  refine lv_i2l (v := a0.toInt64) hx hb dM_plain_1 rfl ?_
  refine lv_ldc2 (v := 4294967295) hx hb S.2.2.2.1 (S.2.2.2.2 _ (List.mem_append_right _ (List.mem_append_right _ (List.mem_append_left _ (List.mem_append_right _ (List.mem_append_right _ (List.mem_append_right _ (List.mem_append_left _ (List.mem_of_getElem? (i := 2) rfl))))))))) dM_plain_2 ?_
  refine lv_land hx hb dM_plain_5 ?_
  exact z_lret S hR hlk hw dM_plain_6 rfl
def kM_fails (τ : MS) : Bool :=
  if (bI (τ.2.1 7)) = 0 then
    true
  else
    if (((τ.1 13) >>> ((((τ.1 4) + (1 : Int32)) - ((τ.1 4) + (1 : Int32)) / (8 : Int32) * (8 : Int32)) &&& 31)) &&& (1 : Int32)) = (1 : Int32) then
      true
    else
      if (((τ.1 25) + (τ.1 26)) &&& (3 : Int32)) = 0 then
        false
      else
        true
set_option maxRecDepth 100000 in
set_option maxHeartbeats 4000000 in
theorem cM_fails (l : Launch) (D : va_G) (g qb qg qw : Nat) (cA : ClassId) (τ : MS) : mMi l yM_fails (.code yM_fails bM_fails 1 (some .boolean) :: wAll) { frames := 0, cells := 0, slots := 0, locals := 0 } D g qb qg qw cA [.ref g] τ (bI (kM_fails τ)) τ := by
  refine z_entryi (cc := bM_fails) (nL := 1) (by decide) rfl rfl (Nat.le_of_ble_eq_true rfl) (fun p e s m args below meth c S hR hlk ls H locs hl hw => ?_)
  have hx := S.1
  have hb := S.2.1
  have hl : lv_has ls 1 [(0, .ref g)] := hl
  refine lv_aload_n hx hb dM_fails_0 rfl (lv_at hl 0 rfl) ?_
  refine mget_kernel S hw dM_fails_1 ?_
  refine lv_if_eq (tgt := 41) hx hb dM_fails_4 (by decide) (fun h_4 => ?_) (fun h_4 => ?_)
  · skip
    refine lv_iconst (v := 1) hx hb dM_fails_41 (by decide) ?_
    refine lv_goto (tgt := 46) hx hb dM_fails_42 (by decide) ?_
    exact z_zret (v := true) S hR hlk hw dM_fails_46 (by rw [kM_fails, if_pos h_4])
  · skip
    refine lv_aload_n hx hb dM_fails_7 rfl (lv_at hl 0 rfl) ?_
    refine mget_invalid S hw dM_fails_8 ?_
    refine lv_aload_n hx hb dM_fails_11 rfl (lv_at hl 0 rfl) ?_
    refine mget_window S hw dM_fails_12 ?_
    refine lv_iconst (v := 1) hx hb dM_fails_15 (by decide) ?_
    refine lv_iadd hx hb dM_fails_16 ?_
    refine lv_bipush (v := 8) hx hb dM_fails_17 (by decide) ?_
    refine lv_irem hx hb dM_fails_19 (by decide) ?_
    refine lv_ishr hx hb dM_fails_20 ?_
    refine lv_iconst (v := 1) hx hb dM_fails_21 (by decide) ?_
    refine lv_iand hx hb dM_fails_22 ?_
    refine lv_iconst (v := 1) hx hb dM_fails_23 (by decide) ?_
    refine lv_icmp_eq (tgt := 41) hx hb dM_fails_24 (by decide) (fun h_24 => ?_) (fun h_24 => ?_)
    · skip
      refine lv_iconst (v := 1) hx hb dM_fails_41 (by decide) ?_
      refine lv_goto (tgt := 46) hx hb dM_fails_42 (by decide) ?_
      exact z_zret (v := true) S hR hlk hw dM_fails_46 (by rw [kM_fails, if_neg h_4, if_pos h_24])
    · skip
      refine lv_aload_n hx hb dM_fails_27 rfl (lv_at hl 0 rfl) ?_
      refine mget_a S hw dM_fails_28 ?_
      refine lv_aload_n hx hb dM_fails_31 rfl (lv_at hl 0 rfl) ?_
      refine mget_b S hw dM_fails_32 ?_
      refine lv_iadd hx hb dM_fails_35 ?_
      refine lv_iconst (v := 3) hx hb dM_fails_36 (by decide) ?_
      refine lv_iand hx hb dM_fails_37 ?_
      refine lv_if_eq (tgt := 45) hx hb dM_fails_38 (by decide) (fun h_38 => ?_) (fun h_38 => ?_)
      · skip
        refine lv_iconst (v := 0) hx hb dM_fails_45 (by decide) ?_
        exact z_zret (v := false) S hR hlk hw dM_fails_46 (by rw [kM_fails, if_neg h_4, if_neg h_24, if_pos h_38])
      · skip
        refine lv_iconst (v := 1) hx hb dM_fails_41 (by decide) ?_
        refine lv_goto (tgt := 46) hx hb dM_fails_42 (by decide) ?_
        exact z_zret (v := true) S hR hlk hw dM_fails_46 (by rw [kM_fails, if_neg h_4, if_neg h_24, if_neg h_38])
def kM_troubleOf_c180 (τ : MS) (v1 : Int32) : Int32 :=
  if (τ.1 27) = (58 : Int32) then
    if (bI (kM_holds τ (((τ.1 23) >>> ((25 : Int32) &&& 31)) &&& (15 : Int32)))) = 0 then
      (0 : Int32)
    else
      ((128 : Int32) + (v1 &&& (127 : Int32)))
  else
    (0 : Int32)
def kM_troubleOf_c162 (τ : MS) (v1 : Int32) : Int32 :=
  if (τ.1 27) = (56 : Int32) then
    if (v1 &&& (3 : Int32)) = 0 then
      kM_troubleOf_c180 τ v1
    else
      (7 : Int32)
  else
    kM_troubleOf_c180 τ v1
def kM_troubleOf_c134 (τ : MS) (v1 : Int32) (v3 : Int32) : Int32 :=
  if (((τ.1 13) >>> (v3 &&& 31)) &&& (1 : Int32)) = (1 : Int32) then
    if (τ.1 27) = (60 : Int32) then
      (5 : Int32)
    else
      (6 : Int32)
  else
    kM_troubleOf_c162 τ v1
def kM_troubleOf_c115 (τ : MS) (v1 : Int32) (s0 : Int32) : Int32 :=
  if (τ.1 27) = (60 : Int32) then
    kM_troubleOf_c134 τ v1 s0
  else
    if (τ.1 27) = (61 : Int32) then
      kM_troubleOf_c134 τ v1 s0
    else
      kM_troubleOf_c162 τ v1
def kM_troubleOf_c78 (τ : MS) (v1 : Int32) (v2 : Bool) : Int32 :=
  if (bI v2) = 0 then
    if (τ.1 27) = (60 : Int32) then
      kM_troubleOf_c115 τ v1 (((τ.1 4) + (7 : Int32)) - ((τ.1 4) + (7 : Int32)) / (8 : Int32) * (8 : Int32))
    else
      kM_troubleOf_c115 τ v1 (((τ.1 4) + (1 : Int32)) - ((τ.1 4) + (1 : Int32)) / (8 : Int32) * (8 : Int32))
  else
    (3 : Int32)
def kM_troubleOf_c61 (τ : MS) (v1 : Int32) (v2 : Bool) : Int32 :=
  if (bI (kM_isControl (τ.1 27))) = 0 then
    kM_troubleOf_c78 τ v1 v2
  else
    if (bI (τ.2.1 7)) = 0 then
      (3 : Int32)
    else
      kM_troubleOf_c78 τ v1 v2
def kM_troubleOf_c48 (τ : MS) (v1 : Int32) (v2 : Bool) : Int32 :=
  if (bI v2) = 0 then
    kM_troubleOf_c61 τ v1 v2
  else
    if (bI (τ.2.1 7)) = 0 then
      kM_troubleOf_c61 τ v1 v2
    else
      (2 : Int32)
def kM_troubleOf_c21 (τ : MS) (v1 : Int32) (s0 : Bool) : Int32 :=
  if (τ.1 27) = (49 : Int32) then
    if (7 : Int32) < (((τ.1 25) ^^^ (τ.1 26)) &&& (31 : Int32)) then
      (2 : Int32)
    else
      kM_troubleOf_c48 τ v1 s0
  else
    kM_troubleOf_c48 τ v1 s0
def kM_troubleOf_c20 (τ : MS) (v1 : Int32) : Int32 :=
  kM_troubleOf_c21 τ v1 false
def kM_troubleOf (τ : MS) (a1 : Int32) : Int32 :=
  if (τ.1 27) = (57 : Int32) then
    if (bI (τ.2.1 5)) = 0 then
      kM_troubleOf_c20 τ a1
    else
      kM_troubleOf_c21 τ a1 true
  else
    kM_troubleOf_c20 τ a1
set_option maxRecDepth 100000 in
set_option maxHeartbeats 4000000 in
theorem jM_troubleOf_c180 (l : Launch) (D : va_G) (g qb qg qw : Nat) (cA : ClassId) {p : Program} {e : Env} {s : State} {m : MethodId} {args : Array Value} {below : List Frame} {meth : Method} {c : Code} (S : CallFix p m c bM_troubleOf 4 s args wAll RM) (hR : meth.sig.returnType = (some .int)) (hlk : meth.locks = false) {ls : Array Slot} {H : Heap} {locs : List Loc} (τ : MS) (v1 : Int32) (hl : lv_has ls 4 [(0, .ref g), (1, .int v1)]) (hw : mH D g qb qg qw cA s τ H locs) : W p l e { frames := 1, cells := 0, slots := 0, locals := 22 } s m args below meth c H locs 0 0 (mQi D g qb qg qw cA below args s (kM_troubleOf_c180 τ v1) τ) (F0 m 180 ls []) := by
  have hx := S.1
  have hb := S.2.1
  refine lv_aload_n hx hb dM_troubleOf_180 rfl (lv_at hl 0 rfl) ?_
  refine mget_order S hw dM_troubleOf_181 ?_
  refine lv_bipush (v := 58) hx hb dM_troubleOf_184 (by decide) ?_
  refine lv_icmp_ne (tgt := 217) hx hb dM_troubleOf_186 (by decide) (fun h_186 => ?_) (fun h_186 => ?_)
  · skip
    refine lv_iconst (v := 0) hx hb dM_troubleOf_217 (by decide) ?_
    exact z_iret S hR hlk hw dM_troubleOf_218 (by rw [kM_troubleOf_c180, if_neg h_186])
  · skip
    refine lv_aload_n hx hb dM_troubleOf_189 rfl (lv_at hl 0 rfl) ?_
    refine lv_aload_n hx hb dM_troubleOf_190 rfl (lv_at hl 0 rfl) ?_
    refine mget_instruction S hw dM_troubleOf_191 ?_
    refine lv_bipush (v := 25) hx hb dM_troubleOf_194 (by decide) ?_
    refine lv_ishr hx hb dM_troubleOf_196 ?_
    refine lv_bipush (v := 15) hx hb dM_troubleOf_197 (by decide) ?_
    refine lv_iand hx hb dM_troubleOf_199 ?_
    refine z_calli S (cM_holds l D g qb qg qw cA τ (((τ.1 23) >>> ((25 : Int32) &&& 31)) &&& (15 : Int32))) (qM_holds S.2.2.2.2 ⟨Nat.le_of_ble_eq_true rfl, Nat.le_of_ble_eq_true rfl⟩) hw rfl rfl rfl hl.1 rfl (Nat.le_of_ble_eq_true rfl) dM_troubleOf_200 (fun H locs hw => ?_)
    refine lv_if_eq (tgt := 217) hx hb dM_troubleOf_203 (by decide) (fun h_203 => ?_) (fun h_203 => ?_)
    · skip
      refine lv_iconst (v := 0) hx hb dM_troubleOf_217 (by decide) ?_
      exact z_iret S hR hlk hw dM_troubleOf_218 (by rw [kM_troubleOf_c180, if_pos h_186, if_pos h_203])
    · skip
      refine lv_sipush (v := 128) hx hb dM_troubleOf_206 (by decide) ?_
      refine lv_iload_n hx hb dM_troubleOf_209 rfl (lv_at hl 1 rfl) ?_
      refine lv_bipush (v := 127) hx hb dM_troubleOf_210 (by decide) ?_
      refine lv_iand hx hb dM_troubleOf_212 ?_
      refine lv_iadd hx hb dM_troubleOf_213 ?_
      refine lv_goto (tgt := 218) hx hb dM_troubleOf_214 (by decide) ?_
      exact z_iret S hR hlk hw dM_troubleOf_218 (by rw [kM_troubleOf_c180, if_pos h_186, if_neg h_203])
set_option maxRecDepth 100000 in
set_option maxHeartbeats 4000000 in
theorem jM_troubleOf_c162 (l : Launch) (D : va_G) (g qb qg qw : Nat) (cA : ClassId) {p : Program} {e : Env} {s : State} {m : MethodId} {args : Array Value} {below : List Frame} {meth : Method} {c : Code} (S : CallFix p m c bM_troubleOf 4 s args wAll RM) (hR : meth.sig.returnType = (some .int)) (hlk : meth.locks = false) {ls : Array Slot} {H : Heap} {locs : List Loc} (τ : MS) (v1 : Int32) (hl : lv_has ls 4 [(0, .ref g), (1, .int v1)]) (hw : mH D g qb qg qw cA s τ H locs) : W p l e { frames := 1, cells := 0, slots := 0, locals := 22 } s m args below meth c H locs 0 0 (mQi D g qb qg qw cA below args s (kM_troubleOf_c162 τ v1) τ) (F0 m 162 ls []) := by
  have hx := S.1
  have hb := S.2.1
  refine lv_aload_n hx hb dM_troubleOf_162 rfl (lv_at hl 0 rfl) ?_
  refine mget_order S hw dM_troubleOf_163 ?_
  refine lv_bipush (v := 56) hx hb dM_troubleOf_166 (by decide) ?_
  refine lv_icmp_ne (tgt := 180) hx hb dM_troubleOf_168 (by decide) (fun h_168 => ?_) (fun h_168 => ?_)
  · skip
    rw [show kM_troubleOf_c162 τ v1 = kM_troubleOf_c180 τ v1 from (by rw [kM_troubleOf_c162, if_neg h_168])]
    exact jM_troubleOf_c180 l D g qb qg qw cA S hR hlk τ v1  (lv_sub hl [0, 1] rfl) hw
  · skip
    refine lv_iload_n hx hb dM_troubleOf_171 rfl (lv_at hl 1 rfl) ?_
    refine lv_iconst (v := 3) hx hb dM_troubleOf_172 (by decide) ?_
    refine lv_iand hx hb dM_troubleOf_173 ?_
    refine lv_if_eq (tgt := 180) hx hb dM_troubleOf_174 (by decide) (fun h_174 => ?_) (fun h_174 => ?_)
    · skip
      rw [show kM_troubleOf_c162 τ v1 = kM_troubleOf_c180 τ v1 from (by rw [kM_troubleOf_c162, if_pos h_168, if_pos h_174])]
      exact jM_troubleOf_c180 l D g qb qg qw cA S hR hlk τ v1  (lv_sub hl [0, 1] rfl) hw
    · skip
      refine lv_bipush (v := 7) hx hb dM_troubleOf_177 (by decide) ?_
      exact z_iret S hR hlk hw dM_troubleOf_179 (by rw [kM_troubleOf_c162, if_pos h_168, if_neg h_174])
set_option maxRecDepth 100000 in
set_option maxHeartbeats 4000000 in
theorem jM_troubleOf_c134 (l : Launch) (D : va_G) (g qb qg qw : Nat) (cA : ClassId) {p : Program} {e : Env} {s : State} {m : MethodId} {args : Array Value} {below : List Frame} {meth : Method} {c : Code} (S : CallFix p m c bM_troubleOf 4 s args wAll RM) (hR : meth.sig.returnType = (some .int)) (hlk : meth.locks = false) {ls : Array Slot} {H : Heap} {locs : List Loc} (τ : MS) (v1 : Int32) (v3 : Int32) (hl : lv_has ls 4 [(0, .ref g), (1, .int v1), (3, .int v3)]) (hw : mH D g qb qg qw cA s τ H locs) : W p l e { frames := 1, cells := 0, slots := 0, locals := 22 } s m args below meth c H locs 0 0 (mQi D g qb qg qw cA below args s (kM_troubleOf_c134 τ v1 v3) τ) (F0 m 134 ls []) := by
  have hx := S.1
  have hb := S.2.1
  refine lv_aload_n hx hb dM_troubleOf_134 rfl (lv_at hl 0 rfl) ?_
  refine mget_invalid S hw dM_troubleOf_135 ?_
  refine lv_iload_n hx hb dM_troubleOf_138 rfl (lv_at hl 2 rfl) ?_
  refine lv_ishr hx hb dM_troubleOf_139 ?_
  refine lv_iconst (v := 1) hx hb dM_troubleOf_140 (by decide) ?_
  refine lv_iand hx hb dM_troubleOf_141 ?_
  refine lv_iconst (v := 1) hx hb dM_troubleOf_142 (by decide) ?_
  refine lv_icmp_ne (tgt := 162) hx hb dM_troubleOf_143 (by decide) (fun h_143 => ?_) (fun h_143 => ?_)
  · skip
    rw [show kM_troubleOf_c134 τ v1 v3 = kM_troubleOf_c162 τ v1 from (by rw [kM_troubleOf_c134, if_neg h_143])]
    exact jM_troubleOf_c162 l D g qb qg qw cA S hR hlk τ v1  (lv_sub hl [0, 1] rfl) hw
  · skip
    refine lv_aload_n hx hb dM_troubleOf_146 rfl (lv_at hl 0 rfl) ?_
    refine mget_order S hw dM_troubleOf_147 ?_
    refine lv_bipush (v := 60) hx hb dM_troubleOf_150 (by decide) ?_
    refine lv_icmp_ne (tgt := 159) hx hb dM_troubleOf_152 (by decide) (fun h_152 => ?_) (fun h_152 => ?_)
    · skip
      refine lv_bipush (v := 6) hx hb dM_troubleOf_159 (by decide) ?_
      exact z_iret S hR hlk hw dM_troubleOf_161 (by rw [kM_troubleOf_c134, if_pos h_143, if_neg h_152])
    · skip
      refine lv_iconst (v := 5) hx hb dM_troubleOf_155 (by decide) ?_
      refine lv_goto (tgt := 161) hx hb dM_troubleOf_156 (by decide) ?_
      exact z_iret S hR hlk hw dM_troubleOf_161 (by rw [kM_troubleOf_c134, if_pos h_143, if_pos h_152])
set_option maxRecDepth 100000 in
set_option maxHeartbeats 4000000 in
theorem jM_troubleOf_c115 (l : Launch) (D : va_G) (g qb qg qw : Nat) (cA : ClassId) {p : Program} {e : Env} {s : State} {m : MethodId} {args : Array Value} {below : List Frame} {meth : Method} {c : Code} (S : CallFix p m c bM_troubleOf 4 s args wAll RM) (hR : meth.sig.returnType = (some .int)) (hlk : meth.locks = false) {ls : Array Slot} {H : Heap} {locs : List Loc} (τ : MS) (v1 : Int32) (s0 : Int32) (hl : lv_has ls 4 [(0, .ref g), (1, .int v1)]) (hw : mH D g qb qg qw cA s τ H locs) : W p l e { frames := 1, cells := 0, slots := 0, locals := 22 } s m args below meth c H locs 0 0 (mQi D g qb qg qw cA below args s (kM_troubleOf_c115 τ v1 s0) τ) (F0 m 115 ls [.int s0]) := by
  have hx := S.1
  have hb := S.2.1
  refine lv_istore_n (lv' := [(3, .int s0), (0, .ref g), (1, .int v1)]) hx hb dM_troubleOf_115 rfl hl (by decide) rfl (fun ls hl => ?_)
  refine lv_aload_n hx hb dM_troubleOf_116 rfl (lv_at hl 1 rfl) ?_
  refine mget_order S hw dM_troubleOf_117 ?_
  refine lv_bipush (v := 60) hx hb dM_troubleOf_120 (by decide) ?_
  refine lv_icmp_eq (tgt := 134) hx hb dM_troubleOf_122 (by decide) (fun h_122 => ?_) (fun h_122 => ?_)
  · skip
    rw [show kM_troubleOf_c115 τ v1 s0 = kM_troubleOf_c134 τ v1 s0 from (by rw [kM_troubleOf_c115, if_pos h_122])]
    exact jM_troubleOf_c134 l D g qb qg qw cA S hR hlk τ v1 s0  (lv_sub hl [1, 2, 0] rfl) hw
  · skip
    refine lv_aload_n hx hb dM_troubleOf_125 rfl (lv_at hl 1 rfl) ?_
    refine mget_order S hw dM_troubleOf_126 ?_
    refine lv_bipush (v := 61) hx hb dM_troubleOf_129 (by decide) ?_
    refine lv_icmp_ne (tgt := 162) hx hb dM_troubleOf_131 (by decide) (fun h_131 => ?_) (fun h_131 => ?_)
    · skip
      rw [show kM_troubleOf_c115 τ v1 s0 = kM_troubleOf_c162 τ v1 from (by rw [kM_troubleOf_c115, if_neg h_122, if_neg h_131])]
      exact jM_troubleOf_c162 l D g qb qg qw cA S hR hlk τ v1  (lv_sub hl [1, 2] rfl) hw
    · skip
      rw [show kM_troubleOf_c115 τ v1 s0 = kM_troubleOf_c134 τ v1 s0 from (by rw [kM_troubleOf_c115, if_neg h_122, if_pos h_131])]
      exact jM_troubleOf_c134 l D g qb qg qw cA S hR hlk τ v1 s0  (lv_sub hl [1, 2, 0] rfl) hw
set_option maxRecDepth 100000 in
set_option maxHeartbeats 4000000 in
theorem jM_troubleOf_c78 (l : Launch) (D : va_G) (g qb qg qw : Nat) (cA : ClassId) {p : Program} {e : Env} {s : State} {m : MethodId} {args : Array Value} {below : List Frame} {meth : Method} {c : Code} (S : CallFix p m c bM_troubleOf 4 s args wAll RM) (hR : meth.sig.returnType = (some .int)) (hlk : meth.locks = false) {ls : Array Slot} {H : Heap} {locs : List Loc} (τ : MS) (v1 : Int32) (v2 : Bool) (hl : lv_has ls 4 [(0, .ref g), (1, .int v1), (2, .int (bI v2))]) (hw : mH D g qb qg qw cA s τ H locs) : W p l e { frames := 1, cells := 0, slots := 0, locals := 22 } s m args below meth c H locs 0 0 (mQi D g qb qg qw cA below args s (kM_troubleOf_c78 τ v1 v2) τ) (F0 m 78 ls []) := by
  have hx := S.1
  have hb := S.2.1
  refine lv_iload_n hx hb dM_troubleOf_78 rfl (lv_at hl 2 rfl) ?_
  refine lv_if_eq (tgt := 84) hx hb dM_troubleOf_79 (by decide) (fun h_79 => ?_) (fun h_79 => ?_)
  · skip
    refine lv_aload_n hx hb dM_troubleOf_84 rfl (lv_at hl 0 rfl) ?_
    refine mget_order S hw dM_troubleOf_85 ?_
    refine lv_bipush (v := 60) hx hb dM_troubleOf_88 (by decide) ?_
    refine lv_icmp_ne (tgt := 106) hx hb dM_troubleOf_90 (by decide) (fun h_90 => ?_) (fun h_90 => ?_)
    · skip
      refine lv_aload_n hx hb dM_troubleOf_106 rfl (lv_at hl 0 rfl) ?_
      refine mget_window S hw dM_troubleOf_107 ?_
      refine lv_iconst (v := 1) hx hb dM_troubleOf_110 (by decide) ?_
      refine lv_iadd hx hb dM_troubleOf_111 ?_
      refine lv_bipush (v := 8) hx hb dM_troubleOf_112 (by decide) ?_
      refine lv_irem hx hb dM_troubleOf_114 (by decide) ?_
      rw [show kM_troubleOf_c78 τ v1 v2 = kM_troubleOf_c115 τ v1 (((τ.1 4) + (1 : Int32)) - ((τ.1 4) + (1 : Int32)) / (8 : Int32) * (8 : Int32)) from (by rw [kM_troubleOf_c78, if_pos h_79, if_neg h_90])]
      exact jM_troubleOf_c115 l D g qb qg qw cA S hR hlk τ v1 (((τ.1 4) + (1 : Int32)) - ((τ.1 4) + (1 : Int32)) / (8 : Int32) * (8 : Int32))  (lv_sub hl [0, 1] rfl) hw
    · skip
      refine lv_aload_n hx hb dM_troubleOf_93 rfl (lv_at hl 0 rfl) ?_
      refine mget_window S hw dM_troubleOf_94 ?_
      refine lv_bipush (v := 7) hx hb dM_troubleOf_97 (by decide) ?_
      refine lv_iadd hx hb dM_troubleOf_99 ?_
      refine lv_bipush (v := 8) hx hb dM_troubleOf_100 (by decide) ?_
      refine lv_irem hx hb dM_troubleOf_102 (by decide) ?_
      refine lv_goto (tgt := 115) hx hb dM_troubleOf_103 (by decide) ?_
      rw [show kM_troubleOf_c78 τ v1 v2 = kM_troubleOf_c115 τ v1 (((τ.1 4) + (7 : Int32)) - ((τ.1 4) + (7 : Int32)) / (8 : Int32) * (8 : Int32)) from (by rw [kM_troubleOf_c78, if_pos h_79, if_pos h_90])]
      exact jM_troubleOf_c115 l D g qb qg qw cA S hR hlk τ v1 (((τ.1 4) + (7 : Int32)) - ((τ.1 4) + (7 : Int32)) / (8 : Int32) * (8 : Int32))  (lv_sub hl [0, 1] rfl) hw
  · skip
    refine lv_iconst (v := 3) hx hb dM_troubleOf_82 (by decide) ?_
    exact z_iret S hR hlk hw dM_troubleOf_83 (by rw [kM_troubleOf_c78, if_neg h_79])
set_option maxRecDepth 100000 in
set_option maxHeartbeats 4000000 in
theorem jM_troubleOf_c61 (l : Launch) (D : va_G) (g qb qg qw : Nat) (cA : ClassId) {p : Program} {e : Env} {s : State} {m : MethodId} {args : Array Value} {below : List Frame} {meth : Method} {c : Code} (S : CallFix p m c bM_troubleOf 4 s args wAll RM) (hR : meth.sig.returnType = (some .int)) (hlk : meth.locks = false) {ls : Array Slot} {H : Heap} {locs : List Loc} (τ : MS) (v1 : Int32) (v2 : Bool) (hl : lv_has ls 4 [(0, .ref g), (1, .int v1), (2, .int (bI v2))]) (hw : mH D g qb qg qw cA s τ H locs) : W p l e { frames := 1, cells := 0, slots := 0, locals := 22 } s m args below meth c H locs 0 0 (mQi D g qb qg qw cA below args s (kM_troubleOf_c61 τ v1 v2) τ) (F0 m 61 ls []) := by
  have hx := S.1
  have hb := S.2.1
  refine lv_aload_n hx hb dM_troubleOf_61 rfl (lv_at hl 0 rfl) ?_
  refine mget_order S hw dM_troubleOf_62 ?_
  refine s_calli S (cM_isControl l D (τ.1 27)) (qM_isControl S.2.2.2.2 ⟨Nat.le_of_ble_eq_true rfl, Nat.le_of_ble_eq_true rfl⟩) hw rfl hl.1 rfl (Nat.le_of_ble_eq_true rfl) dM_troubleOf_65 (fun H locs hw => ?_)
  refine lv_if_eq (tgt := 78) hx hb dM_troubleOf_68 (by decide) (fun h_68 => ?_) (fun h_68 => ?_)
  · skip
    rw [show kM_troubleOf_c61 τ v1 v2 = kM_troubleOf_c78 τ v1 v2 from (by rw [kM_troubleOf_c61, if_pos h_68])]
    exact jM_troubleOf_c78 l D g qb qg qw cA S hR hlk τ v1 v2  (lv_sub hl [0, 1, 2] rfl) hw
  · skip
    refine lv_aload_n hx hb dM_troubleOf_71 rfl (lv_at hl 0 rfl) ?_
    refine mget_kernel S hw dM_troubleOf_72 ?_
    refine lv_if_eq (tgt := 82) hx hb dM_troubleOf_75 (by decide) (fun h_75 => ?_) (fun h_75 => ?_)
    · skip
      refine lv_iconst (v := 3) hx hb dM_troubleOf_82 (by decide) ?_
      exact z_iret S hR hlk hw dM_troubleOf_83 (by rw [kM_troubleOf_c61, if_neg h_68, if_pos h_75])
    · skip
      rw [show kM_troubleOf_c61 τ v1 v2 = kM_troubleOf_c78 τ v1 v2 from (by rw [kM_troubleOf_c61, if_neg h_68, if_neg h_75])]
      exact jM_troubleOf_c78 l D g qb qg qw cA S hR hlk τ v1 v2  (lv_sub hl [0, 1, 2] rfl) hw
set_option maxRecDepth 100000 in
set_option maxHeartbeats 4000000 in
theorem jM_troubleOf_c48 (l : Launch) (D : va_G) (g qb qg qw : Nat) (cA : ClassId) {p : Program} {e : Env} {s : State} {m : MethodId} {args : Array Value} {below : List Frame} {meth : Method} {c : Code} (S : CallFix p m c bM_troubleOf 4 s args wAll RM) (hR : meth.sig.returnType = (some .int)) (hlk : meth.locks = false) {ls : Array Slot} {H : Heap} {locs : List Loc} (τ : MS) (v1 : Int32) (v2 : Bool) (hl : lv_has ls 4 [(0, .ref g), (1, .int v1), (2, .int (bI v2))]) (hw : mH D g qb qg qw cA s τ H locs) : W p l e { frames := 1, cells := 0, slots := 0, locals := 22 } s m args below meth c H locs 0 0 (mQi D g qb qg qw cA below args s (kM_troubleOf_c48 τ v1 v2) τ) (F0 m 48 ls []) := by
  have hx := S.1
  have hb := S.2.1
  refine lv_iload_n hx hb dM_troubleOf_48 rfl (lv_at hl 2 rfl) ?_
  refine lv_if_eq (tgt := 61) hx hb dM_troubleOf_49 (by decide) (fun h_49 => ?_) (fun h_49 => ?_)
  · skip
    rw [show kM_troubleOf_c48 τ v1 v2 = kM_troubleOf_c61 τ v1 v2 from (by rw [kM_troubleOf_c48, if_pos h_49])]
    exact jM_troubleOf_c61 l D g qb qg qw cA S hR hlk τ v1 v2  (lv_sub hl [0, 1, 2] rfl) hw
  · skip
    refine lv_aload_n hx hb dM_troubleOf_52 rfl (lv_at hl 0 rfl) ?_
    refine mget_kernel S hw dM_troubleOf_53 ?_
    refine lv_if_eq (tgt := 61) hx hb dM_troubleOf_56 (by decide) (fun h_56 => ?_) (fun h_56 => ?_)
    · skip
      rw [show kM_troubleOf_c48 τ v1 v2 = kM_troubleOf_c61 τ v1 v2 from (by rw [kM_troubleOf_c48, if_neg h_49, if_pos h_56])]
      exact jM_troubleOf_c61 l D g qb qg qw cA S hR hlk τ v1 v2  (lv_sub hl [0, 1, 2] rfl) hw
    · skip
      refine lv_iconst (v := 2) hx hb dM_troubleOf_59 (by decide) ?_
      exact z_iret S hR hlk hw dM_troubleOf_60 (by rw [kM_troubleOf_c48, if_neg h_49, if_neg h_56])
set_option maxRecDepth 100000 in
set_option maxHeartbeats 4000000 in
theorem jM_troubleOf_c21 (l : Launch) (D : va_G) (g qb qg qw : Nat) (cA : ClassId) {p : Program} {e : Env} {s : State} {m : MethodId} {args : Array Value} {below : List Frame} {meth : Method} {c : Code} (S : CallFix p m c bM_troubleOf 4 s args wAll RM) (hR : meth.sig.returnType = (some .int)) (hlk : meth.locks = false) {ls : Array Slot} {H : Heap} {locs : List Loc} (τ : MS) (v1 : Int32) (s0 : Bool) (hl : lv_has ls 4 [(0, .ref g), (1, .int v1)]) (hw : mH D g qb qg qw cA s τ H locs) : W p l e { frames := 1, cells := 0, slots := 0, locals := 22 } s m args below meth c H locs 0 0 (mQi D g qb qg qw cA below args s (kM_troubleOf_c21 τ v1 s0) τ) (F0 m 21 ls [.int (bI s0)]) := by
  have hx := S.1
  have hb := S.2.1
  refine lv_istore_n (lv' := [(2, .int (bI s0)), (0, .ref g), (1, .int v1)]) hx hb dM_troubleOf_21 rfl hl (by decide) rfl (fun ls hl => ?_)
  refine lv_aload_n hx hb dM_troubleOf_22 rfl (lv_at hl 1 rfl) ?_
  refine mget_order S hw dM_troubleOf_23 ?_
  refine lv_bipush (v := 49) hx hb dM_troubleOf_26 (by decide) ?_
  refine lv_icmp_ne (tgt := 48) hx hb dM_troubleOf_28 (by decide) (fun h_28 => ?_) (fun h_28 => ?_)
  · skip
    rw [show kM_troubleOf_c21 τ v1 s0 = kM_troubleOf_c48 τ v1 s0 from (by rw [kM_troubleOf_c21, if_neg h_28])]
    exact jM_troubleOf_c48 l D g qb qg qw cA S hR hlk τ v1 s0  (lv_sub hl [1, 2, 0] rfl) hw
  · skip
    refine lv_aload_n hx hb dM_troubleOf_31 rfl (lv_at hl 1 rfl) ?_
    refine mget_a S hw dM_troubleOf_32 ?_
    refine lv_aload_n hx hb dM_troubleOf_35 rfl (lv_at hl 1 rfl) ?_
    refine mget_b S hw dM_troubleOf_36 ?_
    refine lv_ixor hx hb dM_troubleOf_39 ?_
    refine lv_bipush (v := 31) hx hb dM_troubleOf_40 (by decide) ?_
    refine lv_iand hx hb dM_troubleOf_42 ?_
    refine lv_bipush (v := 7) hx hb dM_troubleOf_43 (by decide) ?_
    refine lv_icmp_gt (tgt := 59) hx hb dM_troubleOf_45 (by decide) (fun h_45 => ?_) (fun h_45 => ?_)
    · skip
      refine lv_iconst (v := 2) hx hb dM_troubleOf_59 (by decide) ?_
      exact z_iret S hR hlk hw dM_troubleOf_60 (by rw [kM_troubleOf_c21, if_pos h_28, if_pos h_45])
    · skip
      rw [show kM_troubleOf_c21 τ v1 s0 = kM_troubleOf_c48 τ v1 s0 from (by rw [kM_troubleOf_c21, if_pos h_28, if_neg h_45])]
      exact jM_troubleOf_c48 l D g qb qg qw cA S hR hlk τ v1 s0  (lv_sub hl [1, 2, 0] rfl) hw
set_option maxRecDepth 100000 in
set_option maxHeartbeats 4000000 in
theorem jM_troubleOf_c20 (l : Launch) (D : va_G) (g qb qg qw : Nat) (cA : ClassId) {p : Program} {e : Env} {s : State} {m : MethodId} {args : Array Value} {below : List Frame} {meth : Method} {c : Code} (S : CallFix p m c bM_troubleOf 4 s args wAll RM) (hR : meth.sig.returnType = (some .int)) (hlk : meth.locks = false) {ls : Array Slot} {H : Heap} {locs : List Loc} (τ : MS) (v1 : Int32) (hl : lv_has ls 4 [(0, .ref g), (1, .int v1)]) (hw : mH D g qb qg qw cA s τ H locs) : W p l e { frames := 1, cells := 0, slots := 0, locals := 22 } s m args below meth c H locs 0 0 (mQi D g qb qg qw cA below args s (kM_troubleOf_c20 τ v1) τ) (F0 m 20 ls []) := by
  have hx := S.1
  have hb := S.2.1
  refine lv_iconst (v := 0) hx hb dM_troubleOf_20 (by decide) ?_
  rw [show kM_troubleOf_c20 τ v1 = kM_troubleOf_c21 τ v1 false from rfl]
  exact jM_troubleOf_c21 l D g qb qg qw cA S hR hlk τ v1 false  (lv_sub hl [0, 1] rfl) hw
set_option maxRecDepth 100000 in
set_option maxHeartbeats 4000000 in
theorem cM_troubleOf (l : Launch) (D : va_G) (g qb qg qw : Nat) (cA : ClassId) (τ : MS) (a1 : Int32) : mMi l yM_troubleOf (.code yM_troubleOf bM_troubleOf 4 (some .int) :: wAll) { frames := 1, cells := 0, slots := 0, locals := 22 } D g qb qg qw cA [.ref g, .int a1] τ (kM_troubleOf τ a1) τ := by
  refine z_entryi (cc := bM_troubleOf) (nL := 4) (by decide) rfl rfl (Nat.le_of_ble_eq_true rfl) (fun p e s m args below meth c S hR hlk ls H locs hl hw => ?_)
  have hx := S.1
  have hb := S.2.1
  have hl : lv_has ls 4 [(0, .ref g), (1, .int a1)] := hl
  refine lv_aload_n hx hb dM_troubleOf_0 rfl (lv_at hl 0 rfl) ?_
  refine mget_order S hw dM_troubleOf_1 ?_
  refine lv_bipush (v := 57) hx hb dM_troubleOf_4 (by decide) ?_
  refine lv_icmp_ne (tgt := 20) hx hb dM_troubleOf_6 (by decide) (fun h_6 => ?_) (fun h_6 => ?_)
  · skip
    rw [show kM_troubleOf τ a1 = kM_troubleOf_c20 τ a1 from (by rw [kM_troubleOf, if_neg h_6])]
    exact jM_troubleOf_c20 l D g qb qg qw cA S hR hlk τ a1  (lv_sub hl [0, 1] rfl) hw
  · skip
    refine lv_aload_n hx hb dM_troubleOf_9 rfl (lv_at hl 0 rfl) ?_
    refine mget_traps S hw dM_troubleOf_10 ?_
    refine lv_if_eq (tgt := 20) hx hb dM_troubleOf_13 (by decide) (fun h_13 => ?_) (fun h_13 => ?_)
    · skip
      rw [show kM_troubleOf τ a1 = kM_troubleOf_c20 τ a1 from (by rw [kM_troubleOf, if_pos h_6, if_pos h_13])]
      exact jM_troubleOf_c20 l D g qb qg qw cA S hR hlk τ a1  (lv_sub hl [0, 1] rfl) hw
    · skip
      refine lv_iconst (v := 1) hx hb dM_troubleOf_16 (by decide) ?_
      refine lv_goto (tgt := 21) hx hb dM_troubleOf_17 (by decide) ?_
      rw [show kM_troubleOf τ a1 = kM_troubleOf_c21 τ a1 true from (by rw [kM_troubleOf, if_pos h_6, if_neg h_13])]
      exact jM_troubleOf_c21 l D g qb qg qw cA S hR hlk τ a1 true  (lv_sub hl [0, 1] rfl) hw
def kM_trouble_c67 (τ : MS) (v2 : Int32) : Int32 :=
  if (v2 &&& ((kM_moved (τ.1 27)) - (1 : Int32))) = 0 then
    if (bI (kM_inMemory v2 (kM_moved (τ.1 27)))) = 0 then
      (9 : Int32)
    else
      (0 : Int32)
  else
    (7 : Int32)
def kM_trouble_c55 (τ : MS) (v2 : Int32) : Int32 :=
  if ((τ.1 24) - (τ.1 24) / (2 : Int32) * (2 : Int32)) = (1 : Int32) then
    (2 : Int32)
  else
    kM_trouble_c67 τ v2
def kM_trouble (τ : MS) (a1 : Int32) : Int32 :=
  if (bI (kM_isKnown τ a1)) = 0 then
    (2 : Int32)
  else
    if a1 = (2 : Int32) then
      (kM_troubleOf τ ((τ.1 25) + (τ.1 26)))
    else
      if (2 : Int32) ≤ a1 then
        if (τ.1 27) = (3 : Int32) then
          kM_trouble_c55 τ ((τ.1 25) + (τ.1 26))
        else
          if (τ.1 27) = (7 : Int32) then
            kM_trouble_c55 τ ((τ.1 25) + (τ.1 26))
          else
            kM_trouble_c67 τ ((τ.1 25) + (τ.1 26))
      else
        (0 : Int32)
set_option maxRecDepth 100000 in
set_option maxHeartbeats 4000000 in
theorem jM_trouble_c67 (l : Launch) (D : va_G) (g qb qg qw : Nat) (cA : ClassId) {p : Program} {e : Env} {s : State} {m : MethodId} {args : Array Value} {below : List Frame} {meth : Method} {c : Code} (S : CallFix p m c bM_trouble 3 s args wAll RM) (hR : meth.sig.returnType = (some .int)) (hlk : meth.locks = false) {ls : Array Slot} {H : Heap} {locs : List Loc} (τ : MS) (v2 : Int32) (hl : lv_has ls 3 [(0, .ref g), (2, .int v2)]) (hw : mH D g qb qg qw cA s τ H locs) : W p l e { frames := 2, cells := 0, slots := 0, locals := 45 } s m args below meth c H locs 0 0 (mQi D g qb qg qw cA below args s (kM_trouble_c67 τ v2) τ) (F0 m 67 ls []) := by
  have hx := S.1
  have hb := S.2.1
  refine lv_iload_n hx hb dM_trouble_67 rfl (lv_at hl 1 rfl) ?_
  refine lv_aload_n hx hb dM_trouble_68 rfl (lv_at hl 0 rfl) ?_
  refine mget_order S hw dM_trouble_69 ?_
  refine s_calli S (cM_moved l D (τ.1 27)) (qM_moved S.2.2.2.2 ⟨Nat.le_of_ble_eq_true rfl, Nat.le_of_ble_eq_true rfl⟩) hw rfl hl.1 rfl (Nat.le_of_ble_eq_true rfl) dM_trouble_72 (fun H locs hw => ?_)
  refine lv_iconst (v := 1) hx hb dM_trouble_75 (by decide) ?_
  refine lv_isub hx hb dM_trouble_76 ?_
  refine lv_iand hx hb dM_trouble_77 ?_
  refine lv_if_eq (tgt := 84) hx hb dM_trouble_78 (by decide) (fun h_78 => ?_) (fun h_78 => ?_)
  · skip
    refine lv_iload_n hx hb dM_trouble_84 rfl (lv_at hl 1 rfl) ?_
    refine lv_aload_n hx hb dM_trouble_85 rfl (lv_at hl 0 rfl) ?_
    refine mget_order S hw dM_trouble_86 ?_
    refine s_calli S (cM_moved l D (τ.1 27)) (qM_moved S.2.2.2.2 ⟨Nat.le_of_ble_eq_true rfl, Nat.le_of_ble_eq_true rfl⟩) hw rfl hl.1 rfl (Nat.le_of_ble_eq_true rfl) dM_trouble_89 (fun H locs hw => ?_)
    refine s_calli S (cM_inMemory l D v2 (kM_moved (τ.1 27))) (qM_inMemory S.2.2.2.2 ⟨Nat.le_of_ble_eq_true rfl, Nat.le_of_ble_eq_true rfl⟩) hw rfl hl.1 rfl (Nat.le_of_ble_eq_true rfl) dM_trouble_92 (fun H locs hw => ?_)
    refine lv_if_eq (tgt := 102) hx hb dM_trouble_95 (by decide) (fun h_95 => ?_) (fun h_95 => ?_)
    · skip
      refine lv_bipush (v := 9) hx hb dM_trouble_102 (by decide) ?_
      exact z_iret S hR hlk hw dM_trouble_104 (by rw [kM_trouble_c67, if_pos h_78, if_pos h_95])
    · skip
      refine lv_iconst (v := 0) hx hb dM_trouble_98 (by decide) ?_
      refine lv_goto (tgt := 104) hx hb dM_trouble_99 (by decide) ?_
      exact z_iret S hR hlk hw dM_trouble_104 (by rw [kM_trouble_c67, if_pos h_78, if_neg h_95])
  · skip
    refine lv_bipush (v := 7) hx hb dM_trouble_81 (by decide) ?_
    exact z_iret S hR hlk hw dM_trouble_83 (by rw [kM_trouble_c67, if_neg h_78])
set_option maxRecDepth 100000 in
set_option maxHeartbeats 4000000 in
theorem jM_trouble_c55 (l : Launch) (D : va_G) (g qb qg qw : Nat) (cA : ClassId) {p : Program} {e : Env} {s : State} {m : MethodId} {args : Array Value} {below : List Frame} {meth : Method} {c : Code} (S : CallFix p m c bM_trouble 3 s args wAll RM) (hR : meth.sig.returnType = (some .int)) (hlk : meth.locks = false) {ls : Array Slot} {H : Heap} {locs : List Loc} (τ : MS) (v2 : Int32) (hl : lv_has ls 3 [(0, .ref g), (2, .int v2)]) (hw : mH D g qb qg qw cA s τ H locs) : W p l e { frames := 2, cells := 0, slots := 0, locals := 45 } s m args below meth c H locs 0 0 (mQi D g qb qg qw cA below args s (kM_trouble_c55 τ v2) τ) (F0 m 55 ls []) := by
  have hx := S.1
  have hb := S.2.1
  refine lv_aload_n hx hb dM_trouble_55 rfl (lv_at hl 0 rfl) ?_
  refine mget_d S hw dM_trouble_56 ?_
  refine lv_iconst (v := 2) hx hb dM_trouble_59 (by decide) ?_
  refine lv_irem hx hb dM_trouble_60 (by decide) ?_
  refine lv_iconst (v := 1) hx hb dM_trouble_61 (by decide) ?_
  refine lv_icmp_ne (tgt := 67) hx hb dM_trouble_62 (by decide) (fun h_62 => ?_) (fun h_62 => ?_)
  · skip
    rw [show kM_trouble_c55 τ v2 = kM_trouble_c67 τ v2 from (by rw [kM_trouble_c55, if_neg h_62])]
    exact jM_trouble_c67 l D g qb qg qw cA S hR hlk τ v2  (lv_sub hl [0, 1] rfl) hw
  · skip
    refine lv_iconst (v := 2) hx hb dM_trouble_65 (by decide) ?_
    exact z_iret S hR hlk hw dM_trouble_66 (by rw [kM_trouble_c55, if_pos h_62])
set_option maxRecDepth 100000 in
set_option maxHeartbeats 4000000 in
theorem cM_trouble (l : Launch) (D : va_G) (g qb qg qw : Nat) (cA : ClassId) (τ : MS) (a1 : Int32) : mMi l yM_trouble (.code yM_trouble bM_trouble 3 (some .int) :: wAll) { frames := 2, cells := 0, slots := 0, locals := 45 } D g qb qg qw cA [.ref g, .int a1] τ (kM_trouble τ a1) τ := by
  refine z_entryi (cc := bM_trouble) (nL := 3) (by decide) rfl rfl (Nat.le_of_ble_eq_true rfl) (fun p e s m args below meth c S hR hlk ls H locs hl hw => ?_)
  have hx := S.1
  have hb := S.2.1
  have hl : lv_has ls 3 [(0, .ref g), (1, .int a1)] := hl
  refine lv_aload_n hx hb dM_trouble_0 rfl (lv_at hl 0 rfl) ?_
  refine lv_iload_n hx hb dM_trouble_1 rfl (lv_at hl 1 rfl) ?_
  refine z_calli S (cM_isKnown l D g qb qg qw cA τ a1) (qM_isKnown S.2.2.2.2 ⟨Nat.le_of_ble_eq_true rfl, Nat.le_of_ble_eq_true rfl⟩) hw rfl rfl rfl hl.1 rfl (Nat.le_of_ble_eq_true rfl) dM_trouble_2 (fun H locs hw => ?_)
  refine lv_if_ne (tgt := 10) hx hb dM_trouble_5 (by decide) (fun h_5 => ?_) (fun h_5 => ?_)
  · skip
    refine lv_aload_n hx hb dM_trouble_10 rfl (lv_at hl 0 rfl) ?_
    refine mget_a S hw dM_trouble_11 ?_
    refine lv_aload_n hx hb dM_trouble_14 rfl (lv_at hl 0 rfl) ?_
    refine mget_b S hw dM_trouble_15 ?_
    refine lv_iadd hx hb dM_trouble_18 ?_
    refine lv_istore_n (lv' := [(2, .int ((τ.1 25) + (τ.1 26))), (0, .ref g), (1, .int a1)]) hx hb dM_trouble_19 rfl hl (by decide) rfl (fun ls hl => ?_)
    refine lv_iload_n hx hb dM_trouble_20 rfl (lv_at hl 2 rfl) ?_
    refine lv_iconst (v := 2) hx hb dM_trouble_21 (by decide) ?_
    refine lv_icmp_ne (tgt := 31) hx hb dM_trouble_22 (by decide) (fun h_22 => ?_) (fun h_22 => ?_)
    · skip
      refine lv_iload_n hx hb dM_trouble_31 rfl (lv_at hl 2 rfl) ?_
      refine lv_iconst (v := 2) hx hb dM_trouble_32 (by decide) ?_
      refine lv_icmp_ge (tgt := 38) hx hb dM_trouble_33 (by decide) (fun h_33 => ?_) (fun h_33 => ?_)
      · skip
        refine lv_aload_n hx hb dM_trouble_38 rfl (lv_at hl 1 rfl) ?_
        refine mget_order S hw dM_trouble_39 ?_
        refine lv_iconst (v := 3) hx hb dM_trouble_42 (by decide) ?_
        refine lv_icmp_eq (tgt := 55) hx hb dM_trouble_43 (by decide) (fun h_43 => ?_) (fun h_43 => ?_)
        · skip
          rw [show kM_trouble τ a1 = kM_trouble_c55 τ ((τ.1 25) + (τ.1 26)) from (by rw [kM_trouble, if_neg h_5, if_neg h_22, if_pos h_33, if_pos h_43])]
          exact jM_trouble_c55 l D g qb qg qw cA S hR hlk τ ((τ.1 25) + (τ.1 26))  (lv_sub hl [1, 0] rfl) hw
        · skip
          refine lv_aload_n hx hb dM_trouble_46 rfl (lv_at hl 1 rfl) ?_
          refine mget_order S hw dM_trouble_47 ?_
          refine lv_bipush (v := 7) hx hb dM_trouble_50 (by decide) ?_
          refine lv_icmp_ne (tgt := 67) hx hb dM_trouble_52 (by decide) (fun h_52 => ?_) (fun h_52 => ?_)
          · skip
            rw [show kM_trouble τ a1 = kM_trouble_c67 τ ((τ.1 25) + (τ.1 26)) from (by rw [kM_trouble, if_neg h_5, if_neg h_22, if_pos h_33, if_neg h_43, if_neg h_52])]
            exact jM_trouble_c67 l D g qb qg qw cA S hR hlk τ ((τ.1 25) + (τ.1 26))  (lv_sub hl [1, 0] rfl) hw
          · skip
            rw [show kM_trouble τ a1 = kM_trouble_c55 τ ((τ.1 25) + (τ.1 26)) from (by rw [kM_trouble, if_neg h_5, if_neg h_22, if_pos h_33, if_neg h_43, if_pos h_52])]
            exact jM_trouble_c55 l D g qb qg qw cA S hR hlk τ ((τ.1 25) + (τ.1 26))  (lv_sub hl [1, 0] rfl) hw
      · skip
        refine lv_iconst (v := 0) hx hb dM_trouble_36 (by decide) ?_
        exact z_iret S hR hlk hw dM_trouble_37 (by rw [kM_trouble, if_neg h_5, if_neg h_22, if_neg h_33])
    · skip
      refine lv_aload_n hx hb dM_trouble_25 rfl (lv_at hl 1 rfl) ?_
      refine lv_iload_n hx hb dM_trouble_26 rfl (lv_at hl 0 rfl) ?_
      refine z_calli S (cM_troubleOf l D g qb qg qw cA τ ((τ.1 25) + (τ.1 26))) (qM_troubleOf S.2.2.2.2 ⟨Nat.le_of_ble_eq_true rfl, Nat.le_of_ble_eq_true rfl⟩) hw rfl rfl rfl hl.1 rfl (Nat.le_of_ble_eq_true rfl) dM_trouble_27 (fun H locs hw => ?_)
      exact z_iret S hR hlk hw dM_trouble_30 (by rw [kM_trouble, if_neg h_5, if_pos h_22])
  · skip
    refine lv_iconst (v := 2) hx hb dM_trouble_8 (by decide) ?_
    exact z_iret S hR hlk hw dM_trouble_9 (by rw [kM_trouble, if_pos h_5])
def kM_request_c19 (τ : MS) (v1 : Int32) (s0 : Bool) : Int32 × MS :=
  if (bI s0) = 0 then
    ((0 : Int32), τ)
  else
    ((τ.1 20), (mI τ 20 v1))
def kM_request_c16 (τ : MS) (v1 : Int32) (s0 : Bool) : Int32 × MS :=
  kM_request_c19 ((kM_goes τ s0).2) v1 ((kM_goes τ s0).1)
def kM_request_c15 (τ : MS) (v1 : Int32) : Int32 × MS :=
  kM_request_c16 τ v1 false
def kM_request (τ : MS) (a1 : Int32) : Int32 × MS :=
  if a1 < 0 then
    kM_request_c15 τ a1
  else
    if (15 : Int32) < a1 then
      kM_request_c15 τ a1
    else
      kM_request_c16 τ a1 true
set_option maxRecDepth 100000 in
set_option maxHeartbeats 4000000 in
theorem jM_request_c19 (l : Launch) (D : va_G) (g qb qg qw : Nat) (cA : ClassId) {p : Program} {e : Env} {s : State} {m : MethodId} {args : Array Value} {below : List Frame} {meth : Method} {c : Code} (S : CallFix p m c bM_request 3 s args wAll RM) (hR : meth.sig.returnType = (some .int)) (hlk : meth.locks = false) {ls : Array Slot} {H : Heap} {locs : List Loc} (τ : MS) (v1 : Int32) (s0 : Bool) (hl : lv_has ls 3 [(0, .ref g), (1, .int v1)]) (hw : mH D g qb qg qw cA s τ H locs) : W p l e { frames := 1, cells := 0, slots := 0, locals := 21 } s m args below meth c H locs 0 0 (mQi D g qb qg qw cA below args s ((kM_request_c19 τ v1 s0).1) (kM_request_c19 τ v1 s0).2) (F0 m 19 ls [.int (bI s0)]) := by
  have hx := S.1
  have hb := S.2.1
  refine lv_if_ne (tgt := 24) hx hb dM_request_19 (by decide) (fun h_19 => ?_) (fun h_19 => ?_)
  · skip
    refine lv_aload_n hx hb dM_request_24 rfl (lv_at hl 0 rfl) ?_
    refine mget_asked S hw dM_request_25 ?_
    refine lv_istore_n (lv' := [(2, .int (τ.1 20)), (0, .ref g), (1, .int v1)]) hx hb dM_request_28 rfl hl (by decide) rfl (fun ls hl => ?_)
    refine lv_aload_n hx hb dM_request_29 rfl (lv_at hl 1 rfl) ?_
    refine lv_iload_n hx hb dM_request_30 rfl (lv_at hl 2 rfl) ?_
    refine mput_asked S hw dM_request_31 (fun H locs hw => ?_)
    refine lv_iload_n hx hb dM_request_34 rfl (lv_at hl 0 rfl) ?_
    exact z_iretP S hR hlk hw dM_request_35 (by rw [kM_request_c19, if_neg h_19])
  · skip
    refine lv_iconst (v := 0) hx hb dM_request_22 (by decide) ?_
    exact z_iretP S hR hlk hw dM_request_23 (by rw [kM_request_c19, if_pos h_19])
set_option maxRecDepth 100000 in
set_option maxHeartbeats 4000000 in
theorem jM_request_c16 (l : Launch) (D : va_G) (g qb qg qw : Nat) (cA : ClassId) {p : Program} {e : Env} {s : State} {m : MethodId} {args : Array Value} {below : List Frame} {meth : Method} {c : Code} (S : CallFix p m c bM_request 3 s args wAll RM) (hR : meth.sig.returnType = (some .int)) (hlk : meth.locks = false) {ls : Array Slot} {H : Heap} {locs : List Loc} (τ : MS) (v1 : Int32) (s0 : Bool) (hl : lv_has ls 3 [(0, .ref g), (1, .int v1)]) (hw : mH D g qb qg qw cA s τ H locs) : W p l e { frames := 1, cells := 0, slots := 0, locals := 21 } s m args below meth c H locs 0 0 (mQi D g qb qg qw cA below args s ((kM_request_c16 τ v1 s0).1) (kM_request_c16 τ v1 s0).2) (F0 m 16 ls [.int (bI s0), .ref g]) := by
  have hx := S.1
  have hb := S.2.1
  refine z_calli S (cM_goes l D g qb qg qw cA τ s0) (qM_goes S.2.2.2.2 ⟨Nat.le_of_ble_eq_true rfl, Nat.le_of_ble_eq_true rfl⟩) hw rfl rfl rfl hl.1 rfl (Nat.le_of_ble_eq_true rfl) dM_request_16 (fun H locs hw => ?_)
  rw [show kM_request_c16 τ v1 s0 = kM_request_c19 ((kM_goes τ s0).2) v1 ((kM_goes τ s0).1) from rfl]
  exact jM_request_c19 l D g qb qg qw cA S hR hlk ((kM_goes τ s0).2) v1 ((kM_goes τ s0).1)  (lv_sub hl [0, 1] rfl) hw
set_option maxRecDepth 100000 in
set_option maxHeartbeats 4000000 in
theorem jM_request_c15 (l : Launch) (D : va_G) (g qb qg qw : Nat) (cA : ClassId) {p : Program} {e : Env} {s : State} {m : MethodId} {args : Array Value} {below : List Frame} {meth : Method} {c : Code} (S : CallFix p m c bM_request 3 s args wAll RM) (hR : meth.sig.returnType = (some .int)) (hlk : meth.locks = false) {ls : Array Slot} {H : Heap} {locs : List Loc} (τ : MS) (v1 : Int32) (hl : lv_has ls 3 [(0, .ref g), (1, .int v1)]) (hw : mH D g qb qg qw cA s τ H locs) : W p l e { frames := 1, cells := 0, slots := 0, locals := 21 } s m args below meth c H locs 0 0 (mQi D g qb qg qw cA below args s ((kM_request_c15 τ v1).1) (kM_request_c15 τ v1).2) (F0 m 15 ls [.ref g]) := by
  have hx := S.1
  have hb := S.2.1
  refine lv_iconst (v := 0) hx hb dM_request_15 (by decide) ?_
  rw [show kM_request_c15 τ v1 = kM_request_c16 τ v1 false from rfl]
  exact jM_request_c16 l D g qb qg qw cA S hR hlk τ v1 false  (lv_sub hl [0, 1] rfl) hw
set_option maxRecDepth 100000 in
set_option maxHeartbeats 4000000 in
theorem cM_request (l : Launch) (D : va_G) (g qb qg qw : Nat) (cA : ClassId) (τ : MS) (a1 : Int32) : mMi l yM_request (.code yM_request bM_request 3 (some .int) :: wAll) { frames := 1, cells := 0, slots := 0, locals := 21 } D g qb qg qw cA [.ref g, .int a1] τ ((kM_request τ a1).1) (kM_request τ a1).2 := by
  refine z_entryi (cc := bM_request) (nL := 3) (by decide) rfl rfl (Nat.le_of_ble_eq_true rfl) (fun p e s m args below meth c S hR hlk ls H locs hl hw => ?_)
  have hx := S.1
  have hb := S.2.1
  have hl : lv_has ls 3 [(0, .ref g), (1, .int a1)] := hl
  refine lv_aload_n hx hb dM_request_0 rfl (lv_at hl 0 rfl) ?_
  refine lv_iload_n hx hb dM_request_1 rfl (lv_at hl 1 rfl) ?_
  refine lv_if_lt (tgt := 15) hx hb dM_request_2 (by decide) (fun h_2 => ?_) (fun h_2 => ?_)
  · skip
    rw [show kM_request τ a1 = kM_request_c15 τ a1 from (by rw [kM_request, if_pos h_2])]
    exact jM_request_c15 l D g qb qg qw cA S hR hlk τ a1  (lv_sub hl [0, 1] rfl) hw
  · skip
    refine lv_iload_n hx hb dM_request_5 rfl (lv_at hl 1 rfl) ?_
    refine lv_bipush (v := 15) hx hb dM_request_6 (by decide) ?_
    refine lv_icmp_gt (tgt := 15) hx hb dM_request_8 (by decide) (fun h_8 => ?_) (fun h_8 => ?_)
    · skip
      rw [show kM_request τ a1 = kM_request_c15 τ a1 from (by rw [kM_request, if_neg h_2, if_pos h_8])]
      exact jM_request_c15 l D g qb qg qw cA S hR hlk τ a1  (lv_sub hl [0, 1] rfl) hw
    · skip
      refine lv_iconst (v := 1) hx hb dM_request_11 (by decide) ?_
      refine lv_goto (tgt := 16) hx hb dM_request_12 (by decide) ?_
      rw [show kM_request τ a1 = kM_request_c16 τ a1 true from (by rw [kM_request, if_neg h_2, if_neg h_8])]
      exact jM_request_c16 l D g qb qg qw cA S hR hlk τ a1 true  (lv_sub hl [0, 1] rfl) hw
def kM_look_c19 (τ : MS) (v1 : Int32) (s0 : Bool) : Int32 × MS :=
  if (bI s0) = 0 then
    ((0 : Int32), τ)
  else
    ((kM_seen τ v1), τ)
def kM_look_c16 (τ : MS) (v1 : Int32) (s0 : Bool) : Int32 × MS :=
  kM_look_c19 ((kM_goes τ s0).2) v1 ((kM_goes τ s0).1)
def kM_look_c15 (τ : MS) (v1 : Int32) : Int32 × MS :=
  kM_look_c16 τ v1 false
def kM_look (τ : MS) (a1 : Int32) : Int32 × MS :=
  if a1 < 0 then
    kM_look_c15 τ a1
  else
    if (9 : Int32) < a1 then
      kM_look_c15 τ a1
    else
      kM_look_c16 τ a1 true
set_option maxRecDepth 100000 in
set_option maxHeartbeats 4000000 in
theorem jM_look_c19 (l : Launch) (D : va_G) (g qb qg qw : Nat) (cA : ClassId) {p : Program} {e : Env} {s : State} {m : MethodId} {args : Array Value} {below : List Frame} {meth : Method} {c : Code} (S : CallFix p m c bM_look 2 s args wAll RM) (hR : meth.sig.returnType = (some .int)) (hlk : meth.locks = false) {ls : Array Slot} {H : Heap} {locs : List Loc} (τ : MS) (v1 : Int32) (s0 : Bool) (hl : lv_has ls 2 [(0, .ref g), (1, .int v1)]) (hw : mH D g qb qg qw cA s τ H locs) : W p l e { frames := 3, cells := 0, slots := 0, locals := 62 } s m args below meth c H locs 0 0 (mQi D g qb qg qw cA below args s ((kM_look_c19 τ v1 s0).1) (kM_look_c19 τ v1 s0).2) (F0 m 19 ls [.int (bI s0)]) := by
  have hx := S.1
  have hb := S.2.1
  refine lv_if_eq (tgt := 30) hx hb dM_look_19 (by decide) (fun h_19 => ?_) (fun h_19 => ?_)
  · skip
    refine lv_iconst (v := 0) hx hb dM_look_30 (by decide) ?_
    exact z_iretP S hR hlk hw dM_look_31 (by rw [kM_look_c19, if_pos h_19])
  · skip
    refine lv_aload_n hx hb dM_look_22 rfl (lv_at hl 0 rfl) ?_
    refine lv_iload_n hx hb dM_look_23 rfl (lv_at hl 1 rfl) ?_
    refine z_calli S (cM_seen l D g qb qg qw cA τ v1) (qM_seen S.2.2.2.2 ⟨Nat.le_of_ble_eq_true rfl, Nat.le_of_ble_eq_true rfl⟩) hw rfl rfl rfl hl.1 rfl (Nat.le_of_ble_eq_true rfl) dM_look_24 (fun H locs hw => ?_)
    refine lv_goto (tgt := 31) hx hb dM_look_27 (by decide) ?_
    exact z_iretP S hR hlk hw dM_look_31 (by rw [kM_look_c19, if_neg h_19])
set_option maxRecDepth 100000 in
set_option maxHeartbeats 4000000 in
theorem jM_look_c16 (l : Launch) (D : va_G) (g qb qg qw : Nat) (cA : ClassId) {p : Program} {e : Env} {s : State} {m : MethodId} {args : Array Value} {below : List Frame} {meth : Method} {c : Code} (S : CallFix p m c bM_look 2 s args wAll RM) (hR : meth.sig.returnType = (some .int)) (hlk : meth.locks = false) {ls : Array Slot} {H : Heap} {locs : List Loc} (τ : MS) (v1 : Int32) (s0 : Bool) (hl : lv_has ls 2 [(0, .ref g), (1, .int v1)]) (hw : mH D g qb qg qw cA s τ H locs) : W p l e { frames := 3, cells := 0, slots := 0, locals := 62 } s m args below meth c H locs 0 0 (mQi D g qb qg qw cA below args s ((kM_look_c16 τ v1 s0).1) (kM_look_c16 τ v1 s0).2) (F0 m 16 ls [.int (bI s0), .ref g]) := by
  have hx := S.1
  have hb := S.2.1
  refine z_calli S (cM_goes l D g qb qg qw cA τ s0) (qM_goes S.2.2.2.2 ⟨Nat.le_of_ble_eq_true rfl, Nat.le_of_ble_eq_true rfl⟩) hw rfl rfl rfl hl.1 rfl (Nat.le_of_ble_eq_true rfl) dM_look_16 (fun H locs hw => ?_)
  rw [show kM_look_c16 τ v1 s0 = kM_look_c19 ((kM_goes τ s0).2) v1 ((kM_goes τ s0).1) from rfl]
  exact jM_look_c19 l D g qb qg qw cA S hR hlk ((kM_goes τ s0).2) v1 ((kM_goes τ s0).1)  (lv_sub hl [0, 1] rfl) hw
set_option maxRecDepth 100000 in
set_option maxHeartbeats 4000000 in
theorem jM_look_c15 (l : Launch) (D : va_G) (g qb qg qw : Nat) (cA : ClassId) {p : Program} {e : Env} {s : State} {m : MethodId} {args : Array Value} {below : List Frame} {meth : Method} {c : Code} (S : CallFix p m c bM_look 2 s args wAll RM) (hR : meth.sig.returnType = (some .int)) (hlk : meth.locks = false) {ls : Array Slot} {H : Heap} {locs : List Loc} (τ : MS) (v1 : Int32) (hl : lv_has ls 2 [(0, .ref g), (1, .int v1)]) (hw : mH D g qb qg qw cA s τ H locs) : W p l e { frames := 3, cells := 0, slots := 0, locals := 62 } s m args below meth c H locs 0 0 (mQi D g qb qg qw cA below args s ((kM_look_c15 τ v1).1) (kM_look_c15 τ v1).2) (F0 m 15 ls [.ref g]) := by
  have hx := S.1
  have hb := S.2.1
  refine lv_iconst (v := 0) hx hb dM_look_15 (by decide) ?_
  rw [show kM_look_c15 τ v1 = kM_look_c16 τ v1 false from rfl]
  exact jM_look_c16 l D g qb qg qw cA S hR hlk τ v1 false  (lv_sub hl [0, 1] rfl) hw
set_option maxRecDepth 100000 in
set_option maxHeartbeats 4000000 in
theorem cM_look (l : Launch) (D : va_G) (g qb qg qw : Nat) (cA : ClassId) (τ : MS) (a1 : Int32) : mMi l yM_look (.code yM_look bM_look 2 (some .int) :: wAll) { frames := 3, cells := 0, slots := 0, locals := 62 } D g qb qg qw cA [.ref g, .int a1] τ ((kM_look τ a1).1) (kM_look τ a1).2 := by
  refine z_entryi (cc := bM_look) (nL := 2) (by decide) rfl rfl (Nat.le_of_ble_eq_true rfl) (fun p e s m args below meth c S hR hlk ls H locs hl hw => ?_)
  have hx := S.1
  have hb := S.2.1
  have hl : lv_has ls 2 [(0, .ref g), (1, .int a1)] := hl
  refine lv_aload_n hx hb dM_look_0 rfl (lv_at hl 0 rfl) ?_
  refine lv_iload_n hx hb dM_look_1 rfl (lv_at hl 1 rfl) ?_
  refine lv_if_lt (tgt := 15) hx hb dM_look_2 (by decide) (fun h_2 => ?_) (fun h_2 => ?_)
  · skip
    rw [show kM_look τ a1 = kM_look_c15 τ a1 from (by rw [kM_look, if_pos h_2])]
    exact jM_look_c15 l D g qb qg qw cA S hR hlk τ a1  (lv_sub hl [0, 1] rfl) hw
  · skip
    refine lv_iload_n hx hb dM_look_5 rfl (lv_at hl 1 rfl) ?_
    refine lv_bipush (v := 9) hx hb dM_look_6 (by decide) ?_
    refine lv_icmp_gt (tgt := 15) hx hb dM_look_8 (by decide) (fun h_8 => ?_) (fun h_8 => ?_)
    · skip
      rw [show kM_look τ a1 = kM_look_c15 τ a1 from (by rw [kM_look, if_neg h_2, if_pos h_8])]
      exact jM_look_c15 l D g qb qg qw cA S hR hlk τ a1  (lv_sub hl [0, 1] rfl) hw
    · skip
      refine lv_iconst (v := 1) hx hb dM_look_11 (by decide) ?_
      refine lv_goto (tgt := 16) hx hb dM_look_12 (by decide) ?_
      rw [show kM_look τ a1 = kM_look_c16 τ a1 true from (by rw [kM_look, if_neg h_2, if_neg h_8])]
      exact jM_look_c16 l D g qb qg qw cA S hR hlk τ a1 true  (lv_sub hl [0, 1] rfl) hw
def kM_control_c115 (τ : MS) (v3 : Int32) : Int32 × MS :=
  (v3, (mB τ 19 false))
def kM_control_c110 (τ : MS) (v3 : Int32) : Int32 × MS :=
  kM_control_c115 (mB τ 18 false) v3
def kM_control_c99 (τ : MS) (v3 : Int32) : Int32 × MS :=
  kM_control_c110 τ v3
def kM_control_c83 (τ : MS) (v3 : Int32) : Int32 × MS :=
  kM_control_c110 τ v3
def kM_control_c72 (τ : MS) (v2 : Int32) (v3 : Int32) : Int32 × MS :=
  kM_control_c83 (mI τ 15 ((v2 >>> ((4 : Int32) &&& 31)) &&& (255 : Int32))) v3
def kM_control_c55 (τ : MS) (v3 : Int32) : Int32 × MS :=
  kM_control_c110 τ v3
def kM_control_c38 (τ : MS) (v3 : Int32) : Int32 × MS :=
  kM_control_c110 τ v3
def kM_control_c18 (τ : MS) (v1 : Int32) (v2 : Int32) (s0 : Bool) : Int32 × MS :=
  if (bI s0) = 0 then
    ((0 : Int32), τ)
  else
    if v1 = 0 then
      kM_control_c38 (kM_setStatus τ v2) (kM_seen τ v1)
    else
      if v1 = (1 : Int32) then
        kM_control_c55 (mI τ 13 (v2 &&& (255 : Int32))) (kM_seen τ v1)
      else
        if v1 = (2 : Int32) then
          kM_control_c72 (mI τ 14 (v2 &&& (-4096 : Int32))) v2 (kM_seen τ v1)
        else
          if v1 = (3 : Int32) then
            kM_control_c99 (mI τ 16 (v2 &&& (-4 : Int32))) (kM_seen τ v1)
          else
            kM_control_c110 (mI τ 17 (v2 &&& (-4 : Int32))) (kM_seen τ v1)
def kM_control_c15 (τ : MS) (v1 : Int32) (v2 : Int32) (s0 : Bool) : Int32 × MS :=
  kM_control_c18 ((kM_goes τ s0).2) v1 v2 ((kM_goes τ s0).1)
def kM_control_c14 (τ : MS) (v1 : Int32) (v2 : Int32) : Int32 × MS :=
  kM_control_c15 τ v1 v2 false
def kM_control (τ : MS) (a1 : Int32) (a2 : Int32) : Int32 × MS :=
  if a1 < 0 then
    kM_control_c14 τ a1 a2
  else
    if (4 : Int32) < a1 then
      kM_control_c14 τ a1 a2
    else
      kM_control_c15 τ a1 a2 true
set_option maxRecDepth 100000 in
set_option maxHeartbeats 4000000 in
theorem jM_control_c115 (l : Launch) (D : va_G) (g qb qg qw : Nat) (cA : ClassId) {p : Program} {e : Env} {s : State} {m : MethodId} {args : Array Value} {below : List Frame} {meth : Method} {c : Code} (S : CallFix p m c bM_control 4 s args wAll RM) (hR : meth.sig.returnType = (some .int)) (hlk : meth.locks = false) {ls : Array Slot} {H : Heap} {locs : List Loc} (τ : MS) (v3 : Int32) (hl : lv_has ls 4 [(0, .ref g), (3, .int v3)]) (hw : mH D g qb qg qw cA s τ H locs) : W p l e { frames := 3, cells := 0, slots := 0, locals := 62 } s m args below meth c H locs 0 0 (mQi D g qb qg qw cA below args s ((kM_control_c115 τ v3).1) (kM_control_c115 τ v3).2) (F0 m 115 ls []) := by
  have hx := S.1
  have hb := S.2.1
  refine lv_aload_n hx hb dM_control_115 rfl (lv_at hl 0 rfl) ?_
  refine lv_iconst (v := 0) hx hb dM_control_116 (by decide) ?_
  refine mput_stopped (v := false) S hw dM_control_117 (fun H locs hw => ?_)
  refine lv_iload_n hx hb dM_control_120 rfl (lv_at hl 1 rfl) ?_
  exact z_iretP S hR hlk hw dM_control_121 rfl
set_option maxRecDepth 100000 in
set_option maxHeartbeats 4000000 in
theorem jM_control_c110 (l : Launch) (D : va_G) (g qb qg qw : Nat) (cA : ClassId) {p : Program} {e : Env} {s : State} {m : MethodId} {args : Array Value} {below : List Frame} {meth : Method} {c : Code} (S : CallFix p m c bM_control 4 s args wAll RM) (hR : meth.sig.returnType = (some .int)) (hlk : meth.locks = false) {ls : Array Slot} {H : Heap} {locs : List Loc} (τ : MS) (v3 : Int32) (hl : lv_has ls 4 [(0, .ref g), (3, .int v3)]) (hw : mH D g qb qg qw cA s τ H locs) : W p l e { frames := 3, cells := 0, slots := 0, locals := 62 } s m args below meth c H locs 0 0 (mQi D g qb qg qw cA below args s ((kM_control_c110 τ v3).1) (kM_control_c110 τ v3).2) (F0 m 110 ls []) := by
  have hx := S.1
  have hb := S.2.1
  refine lv_aload_n hx hb dM_control_110 rfl (lv_at hl 0 rfl) ?_
  refine lv_iconst (v := 0) hx hb dM_control_111 (by decide) ?_
  refine mput_annulled (v := false) S hw dM_control_112 (fun H locs hw => ?_)
  rw [show kM_control_c110 τ v3 = kM_control_c115 (mB τ 18 false) v3 from rfl]
  exact jM_control_c115 l D g qb qg qw cA S hR hlk (mB τ 18 false) v3  (lv_sub hl [0, 1] rfl) hw
set_option maxRecDepth 100000 in
set_option maxHeartbeats 4000000 in
theorem jM_control_c99 (l : Launch) (D : va_G) (g qb qg qw : Nat) (cA : ClassId) {p : Program} {e : Env} {s : State} {m : MethodId} {args : Array Value} {below : List Frame} {meth : Method} {c : Code} (S : CallFix p m c bM_control 4 s args wAll RM) (hR : meth.sig.returnType = (some .int)) (hlk : meth.locks = false) {ls : Array Slot} {H : Heap} {locs : List Loc} (τ : MS) (v3 : Int32) (hl : lv_has ls 4 [(0, .ref g), (3, .int v3)]) (hw : mH D g qb qg qw cA s τ H locs) : W p l e { frames := 3, cells := 0, slots := 0, locals := 62 } s m args below meth c H locs 0 0 (mQi D g qb qg qw cA below args s ((kM_control_c99 τ v3).1) (kM_control_c99 τ v3).2) (F0 m 99 ls []) := by
  have hx := S.1
  have hb := S.2.1
  refine lv_goto (tgt := 110) hx hb dM_control_99 (by decide) ?_
  rw [show kM_control_c99 τ v3 = kM_control_c110 τ v3 from rfl]
  exact jM_control_c110 l D g qb qg qw cA S hR hlk τ v3  (lv_sub hl [0, 1] rfl) hw
set_option maxRecDepth 100000 in
set_option maxHeartbeats 4000000 in
theorem jM_control_c83 (l : Launch) (D : va_G) (g qb qg qw : Nat) (cA : ClassId) {p : Program} {e : Env} {s : State} {m : MethodId} {args : Array Value} {below : List Frame} {meth : Method} {c : Code} (S : CallFix p m c bM_control 4 s args wAll RM) (hR : meth.sig.returnType = (some .int)) (hlk : meth.locks = false) {ls : Array Slot} {H : Heap} {locs : List Loc} (τ : MS) (v3 : Int32) (hl : lv_has ls 4 [(0, .ref g), (3, .int v3)]) (hw : mH D g qb qg qw cA s τ H locs) : W p l e { frames := 3, cells := 0, slots := 0, locals := 62 } s m args below meth c H locs 0 0 (mQi D g qb qg qw cA below args s ((kM_control_c83 τ v3).1) (kM_control_c83 τ v3).2) (F0 m 83 ls []) := by
  have hx := S.1
  have hb := S.2.1
  refine lv_goto (tgt := 110) hx hb dM_control_83 (by decide) ?_
  rw [show kM_control_c83 τ v3 = kM_control_c110 τ v3 from rfl]
  exact jM_control_c110 l D g qb qg qw cA S hR hlk τ v3  (lv_sub hl [0, 1] rfl) hw
set_option maxRecDepth 100000 in
set_option maxHeartbeats 4000000 in
theorem jM_control_c72 (l : Launch) (D : va_G) (g qb qg qw : Nat) (cA : ClassId) {p : Program} {e : Env} {s : State} {m : MethodId} {args : Array Value} {below : List Frame} {meth : Method} {c : Code} (S : CallFix p m c bM_control 4 s args wAll RM) (hR : meth.sig.returnType = (some .int)) (hlk : meth.locks = false) {ls : Array Slot} {H : Heap} {locs : List Loc} (τ : MS) (v2 : Int32) (v3 : Int32) (hl : lv_has ls 4 [(0, .ref g), (2, .int v2), (3, .int v3)]) (hw : mH D g qb qg qw cA s τ H locs) : W p l e { frames := 3, cells := 0, slots := 0, locals := 62 } s m args below meth c H locs 0 0 (mQi D g qb qg qw cA below args s ((kM_control_c72 τ v2 v3).1) (kM_control_c72 τ v2 v3).2) (F0 m 72 ls []) := by
  have hx := S.1
  have hb := S.2.1
  refine lv_aload_n hx hb dM_control_72 rfl (lv_at hl 0 rfl) ?_
  refine lv_iload_n hx hb dM_control_73 rfl (lv_at hl 1 rfl) ?_
  refine lv_iconst (v := 4) hx hb dM_control_74 (by decide) ?_
  refine lv_ishr hx hb dM_control_75 ?_
  refine lv_sipush (v := 255) hx hb dM_control_76 (by decide) ?_
  refine lv_iand hx hb dM_control_79 ?_
  refine mput_type S hw dM_control_80 (fun H locs hw => ?_)
  rw [show kM_control_c72 τ v2 v3 = kM_control_c83 (mI τ 15 ((v2 >>> ((4 : Int32) &&& 31)) &&& (255 : Int32))) v3 from rfl]
  exact jM_control_c83 l D g qb qg qw cA S hR hlk (mI τ 15 ((v2 >>> ((4 : Int32) &&& 31)) &&& (255 : Int32))) v3  (lv_sub hl [0, 2] rfl) hw
set_option maxRecDepth 100000 in
set_option maxHeartbeats 4000000 in
theorem jM_control_c55 (l : Launch) (D : va_G) (g qb qg qw : Nat) (cA : ClassId) {p : Program} {e : Env} {s : State} {m : MethodId} {args : Array Value} {below : List Frame} {meth : Method} {c : Code} (S : CallFix p m c bM_control 4 s args wAll RM) (hR : meth.sig.returnType = (some .int)) (hlk : meth.locks = false) {ls : Array Slot} {H : Heap} {locs : List Loc} (τ : MS) (v3 : Int32) (hl : lv_has ls 4 [(0, .ref g), (3, .int v3)]) (hw : mH D g qb qg qw cA s τ H locs) : W p l e { frames := 3, cells := 0, slots := 0, locals := 62 } s m args below meth c H locs 0 0 (mQi D g qb qg qw cA below args s ((kM_control_c55 τ v3).1) (kM_control_c55 τ v3).2) (F0 m 55 ls []) := by
  have hx := S.1
  have hb := S.2.1
  refine lv_goto (tgt := 110) hx hb dM_control_55 (by decide) ?_
  rw [show kM_control_c55 τ v3 = kM_control_c110 τ v3 from rfl]
  exact jM_control_c110 l D g qb qg qw cA S hR hlk τ v3  (lv_sub hl [0, 1] rfl) hw
set_option maxRecDepth 100000 in
set_option maxHeartbeats 4000000 in
theorem jM_control_c38 (l : Launch) (D : va_G) (g qb qg qw : Nat) (cA : ClassId) {p : Program} {e : Env} {s : State} {m : MethodId} {args : Array Value} {below : List Frame} {meth : Method} {c : Code} (S : CallFix p m c bM_control 4 s args wAll RM) (hR : meth.sig.returnType = (some .int)) (hlk : meth.locks = false) {ls : Array Slot} {H : Heap} {locs : List Loc} (τ : MS) (v3 : Int32) (hl : lv_has ls 4 [(0, .ref g), (3, .int v3)]) (hw : mH D g qb qg qw cA s τ H locs) : W p l e { frames := 3, cells := 0, slots := 0, locals := 62 } s m args below meth c H locs 0 0 (mQi D g qb qg qw cA below args s ((kM_control_c38 τ v3).1) (kM_control_c38 τ v3).2) (F0 m 38 ls []) := by
  have hx := S.1
  have hb := S.2.1
  refine lv_goto (tgt := 110) hx hb dM_control_38 (by decide) ?_
  rw [show kM_control_c38 τ v3 = kM_control_c110 τ v3 from rfl]
  exact jM_control_c110 l D g qb qg qw cA S hR hlk τ v3  (lv_sub hl [0, 1] rfl) hw
set_option maxRecDepth 100000 in
set_option maxHeartbeats 4000000 in
theorem jM_control_c18 (l : Launch) (D : va_G) (g qb qg qw : Nat) (cA : ClassId) {p : Program} {e : Env} {s : State} {m : MethodId} {args : Array Value} {below : List Frame} {meth : Method} {c : Code} (S : CallFix p m c bM_control 4 s args wAll RM) (hR : meth.sig.returnType = (some .int)) (hlk : meth.locks = false) {ls : Array Slot} {H : Heap} {locs : List Loc} (τ : MS) (v1 : Int32) (v2 : Int32) (s0 : Bool) (hl : lv_has ls 4 [(0, .ref g), (1, .int v1), (2, .int v2)]) (hw : mH D g qb qg qw cA s τ H locs) : W p l e { frames := 3, cells := 0, slots := 0, locals := 62 } s m args below meth c H locs 0 0 (mQi D g qb qg qw cA below args s ((kM_control_c18 τ v1 v2 s0).1) (kM_control_c18 τ v1 v2 s0).2) (F0 m 18 ls [.int (bI s0)]) := by
  have hx := S.1
  have hb := S.2.1
  refine lv_if_ne (tgt := 23) hx hb dM_control_18 (by decide) (fun h_18 => ?_) (fun h_18 => ?_)
  · skip
    refine lv_aload_n hx hb dM_control_23 rfl (lv_at hl 0 rfl) ?_
    refine lv_iload_n hx hb dM_control_24 rfl (lv_at hl 1 rfl) ?_
    refine z_calli S (cM_seen l D g qb qg qw cA τ v1) (qM_seen S.2.2.2.2 ⟨Nat.le_of_ble_eq_true rfl, Nat.le_of_ble_eq_true rfl⟩) hw rfl rfl rfl hl.1 rfl (Nat.le_of_ble_eq_true rfl) dM_control_25 (fun H locs hw => ?_)
    refine lv_istore_n (lv' := [(3, .int (kM_seen τ v1)), (0, .ref g), (1, .int v1), (2, .int v2)]) hx hb dM_control_28 rfl hl (by decide) rfl (fun ls hl => ?_)
    refine lv_iload_n hx hb dM_control_29 rfl (lv_at hl 2 rfl) ?_
    refine lv_if_ne (tgt := 41) hx hb dM_control_30 (by decide) (fun h_30 => ?_) (fun h_30 => ?_)
    · skip
      refine lv_iload_n hx hb dM_control_41 rfl (lv_at hl 2 rfl) ?_
      refine lv_iconst (v := 1) hx hb dM_control_42 (by decide) ?_
      refine lv_icmp_ne (tgt := 58) hx hb dM_control_43 (by decide) (fun h_43 => ?_) (fun h_43 => ?_)
      · skip
        refine lv_iload_n hx hb dM_control_58 rfl (lv_at hl 2 rfl) ?_
        refine lv_iconst (v := 2) hx hb dM_control_59 (by decide) ?_
        refine lv_icmp_ne (tgt := 86) hx hb dM_control_60 (by decide) (fun h_60 => ?_) (fun h_60 => ?_)
        · skip
          refine lv_iload_n hx hb dM_control_86 rfl (lv_at hl 2 rfl) ?_
          refine lv_iconst (v := 3) hx hb dM_control_87 (by decide) ?_
          refine lv_icmp_ne (tgt := 102) hx hb dM_control_88 (by decide) (fun h_88 => ?_) (fun h_88 => ?_)
          · skip
            refine lv_aload_n hx hb dM_control_102 rfl (lv_at hl 1 rfl) ?_
            refine lv_iload_n hx hb dM_control_103 rfl (lv_at hl 3 rfl) ?_
            refine lv_bipush (v := -4) hx hb dM_control_104 (by decide) ?_
            refine lv_iand hx hb dM_control_106 ?_
            refine mput_next S hw dM_control_107 (fun H locs hw => ?_)
            rw [show kM_control_c18 τ v1 v2 s0 = kM_control_c110 (mI τ 17 (v2 &&& (-4 : Int32))) (kM_seen τ v1) from (by rw [kM_control_c18, if_neg h_18, if_neg h_30, if_neg h_43, if_neg h_60, if_neg h_88])]
            exact jM_control_c110 l D g qb qg qw cA S hR hlk (mI τ 17 (v2 &&& (-4 : Int32))) (kM_seen τ v1)  (lv_sub hl [1, 0] rfl) hw
          · skip
            refine lv_aload_n hx hb dM_control_91 rfl (lv_at hl 1 rfl) ?_
            refine lv_iload_n hx hb dM_control_92 rfl (lv_at hl 3 rfl) ?_
            refine lv_bipush (v := -4) hx hb dM_control_93 (by decide) ?_
            refine lv_iand hx hb dM_control_95 ?_
            refine mput_place S hw dM_control_96 (fun H locs hw => ?_)
            rw [show kM_control_c18 τ v1 v2 s0 = kM_control_c99 (mI τ 16 (v2 &&& (-4 : Int32))) (kM_seen τ v1) from (by rw [kM_control_c18, if_neg h_18, if_neg h_30, if_neg h_43, if_neg h_60, if_pos h_88])]
            exact jM_control_c99 l D g qb qg qw cA S hR hlk (mI τ 16 (v2 &&& (-4 : Int32))) (kM_seen τ v1)  (lv_sub hl [1, 0] rfl) hw
        · skip
          refine lv_aload_n hx hb dM_control_63 rfl (lv_at hl 1 rfl) ?_
          refine lv_iload_n hx hb dM_control_64 rfl (lv_at hl 3 rfl) ?_
          refine lv_sipush (v := -4096) hx hb dM_control_65 (by decide) ?_
          refine lv_iand hx hb dM_control_68 ?_
          refine mput_base S hw dM_control_69 (fun H locs hw => ?_)
          rw [show kM_control_c18 τ v1 v2 s0 = kM_control_c72 (mI τ 14 (v2 &&& (-4096 : Int32))) v2 (kM_seen τ v1) from (by rw [kM_control_c18, if_neg h_18, if_neg h_30, if_neg h_43, if_pos h_60])]
          exact jM_control_c72 l D g qb qg qw cA S hR hlk (mI τ 14 (v2 &&& (-4096 : Int32))) v2 (kM_seen τ v1)  (lv_sub hl [1, 3, 0] rfl) hw
      · skip
        refine lv_aload_n hx hb dM_control_46 rfl (lv_at hl 1 rfl) ?_
        refine lv_iload_n hx hb dM_control_47 rfl (lv_at hl 3 rfl) ?_
        refine lv_sipush (v := 255) hx hb dM_control_48 (by decide) ?_
        refine lv_iand hx hb dM_control_51 ?_
        refine mput_invalid S hw dM_control_52 (fun H locs hw => ?_)
        rw [show kM_control_c18 τ v1 v2 s0 = kM_control_c55 (mI τ 13 (v2 &&& (255 : Int32))) (kM_seen τ v1) from (by rw [kM_control_c18, if_neg h_18, if_neg h_30, if_pos h_43])]
        exact jM_control_c55 l D g qb qg qw cA S hR hlk (mI τ 13 (v2 &&& (255 : Int32))) (kM_seen τ v1)  (lv_sub hl [1, 0] rfl) hw
    · skip
      refine lv_aload_n hx hb dM_control_33 rfl (lv_at hl 1 rfl) ?_
      refine lv_iload_n hx hb dM_control_34 rfl (lv_at hl 3 rfl) ?_
      refine z_callv S (cM_setStatus l D g qb qg qw cA τ v2) (qM_setStatus S.2.2.2.2 ⟨Nat.le_of_ble_eq_true rfl, Nat.le_of_ble_eq_true rfl⟩) hw rfl rfl rfl hl.1 rfl (Nat.le_of_ble_eq_true rfl) dM_control_35 (fun H locs hw => ?_)
      rw [show kM_control_c18 τ v1 v2 s0 = kM_control_c38 (kM_setStatus τ v2) (kM_seen τ v1) from (by rw [kM_control_c18, if_neg h_18, if_pos h_30])]
      exact jM_control_c38 l D g qb qg qw cA S hR hlk (kM_setStatus τ v2) (kM_seen τ v1)  (lv_sub hl [1, 0] rfl) hw
  · skip
    refine lv_iconst (v := 0) hx hb dM_control_21 (by decide) ?_
    exact z_iretP S hR hlk hw dM_control_22 (by rw [kM_control_c18, if_pos h_18])
set_option maxRecDepth 100000 in
set_option maxHeartbeats 4000000 in
theorem jM_control_c15 (l : Launch) (D : va_G) (g qb qg qw : Nat) (cA : ClassId) {p : Program} {e : Env} {s : State} {m : MethodId} {args : Array Value} {below : List Frame} {meth : Method} {c : Code} (S : CallFix p m c bM_control 4 s args wAll RM) (hR : meth.sig.returnType = (some .int)) (hlk : meth.locks = false) {ls : Array Slot} {H : Heap} {locs : List Loc} (τ : MS) (v1 : Int32) (v2 : Int32) (s0 : Bool) (hl : lv_has ls 4 [(0, .ref g), (1, .int v1), (2, .int v2)]) (hw : mH D g qb qg qw cA s τ H locs) : W p l e { frames := 3, cells := 0, slots := 0, locals := 62 } s m args below meth c H locs 0 0 (mQi D g qb qg qw cA below args s ((kM_control_c15 τ v1 v2 s0).1) (kM_control_c15 τ v1 v2 s0).2) (F0 m 15 ls [.int (bI s0), .ref g]) := by
  have hx := S.1
  have hb := S.2.1
  refine z_calli S (cM_goes l D g qb qg qw cA τ s0) (qM_goes S.2.2.2.2 ⟨Nat.le_of_ble_eq_true rfl, Nat.le_of_ble_eq_true rfl⟩) hw rfl rfl rfl hl.1 rfl (Nat.le_of_ble_eq_true rfl) dM_control_15 (fun H locs hw => ?_)
  rw [show kM_control_c15 τ v1 v2 s0 = kM_control_c18 ((kM_goes τ s0).2) v1 v2 ((kM_goes τ s0).1) from rfl]
  exact jM_control_c18 l D g qb qg qw cA S hR hlk ((kM_goes τ s0).2) v1 v2 ((kM_goes τ s0).1)  (lv_sub hl [0, 1, 2] rfl) hw
set_option maxRecDepth 100000 in
set_option maxHeartbeats 4000000 in
theorem jM_control_c14 (l : Launch) (D : va_G) (g qb qg qw : Nat) (cA : ClassId) {p : Program} {e : Env} {s : State} {m : MethodId} {args : Array Value} {below : List Frame} {meth : Method} {c : Code} (S : CallFix p m c bM_control 4 s args wAll RM) (hR : meth.sig.returnType = (some .int)) (hlk : meth.locks = false) {ls : Array Slot} {H : Heap} {locs : List Loc} (τ : MS) (v1 : Int32) (v2 : Int32) (hl : lv_has ls 4 [(0, .ref g), (1, .int v1), (2, .int v2)]) (hw : mH D g qb qg qw cA s τ H locs) : W p l e { frames := 3, cells := 0, slots := 0, locals := 62 } s m args below meth c H locs 0 0 (mQi D g qb qg qw cA below args s ((kM_control_c14 τ v1 v2).1) (kM_control_c14 τ v1 v2).2) (F0 m 14 ls [.ref g]) := by
  have hx := S.1
  have hb := S.2.1
  refine lv_iconst (v := 0) hx hb dM_control_14 (by decide) ?_
  rw [show kM_control_c14 τ v1 v2 = kM_control_c15 τ v1 v2 false from rfl]
  exact jM_control_c15 l D g qb qg qw cA S hR hlk τ v1 v2 false  (lv_sub hl [0, 1, 2] rfl) hw
set_option maxRecDepth 100000 in
set_option maxHeartbeats 4000000 in
theorem cM_control (l : Launch) (D : va_G) (g qb qg qw : Nat) (cA : ClassId) (τ : MS) (a1 : Int32) (a2 : Int32) : mMi l yM_control (.code yM_control bM_control 4 (some .int) :: wAll) { frames := 3, cells := 0, slots := 0, locals := 62 } D g qb qg qw cA [.ref g, .int a1, .int a2] τ ((kM_control τ a1 a2).1) (kM_control τ a1 a2).2 := by
  refine z_entryi (cc := bM_control) (nL := 4) (by decide) rfl rfl (Nat.le_of_ble_eq_true rfl) (fun p e s m args below meth c S hR hlk ls H locs hl hw => ?_)
  have hx := S.1
  have hb := S.2.1
  have hl : lv_has ls 4 [(0, .ref g), (1, .int a1), (2, .int a2)] := hl
  refine lv_aload_n hx hb dM_control_0 rfl (lv_at hl 0 rfl) ?_
  refine lv_iload_n hx hb dM_control_1 rfl (lv_at hl 1 rfl) ?_
  refine lv_if_lt (tgt := 14) hx hb dM_control_2 (by decide) (fun h_2 => ?_) (fun h_2 => ?_)
  · skip
    rw [show kM_control τ a1 a2 = kM_control_c14 τ a1 a2 from (by rw [kM_control, if_pos h_2])]
    exact jM_control_c14 l D g qb qg qw cA S hR hlk τ a1 a2  (lv_sub hl [0, 1, 2] rfl) hw
  · skip
    refine lv_iload_n hx hb dM_control_5 rfl (lv_at hl 1 rfl) ?_
    refine lv_iconst (v := 4) hx hb dM_control_6 (by decide) ?_
    refine lv_icmp_gt (tgt := 14) hx hb dM_control_7 (by decide) (fun h_7 => ?_) (fun h_7 => ?_)
    · skip
      rw [show kM_control τ a1 a2 = kM_control_c14 τ a1 a2 from (by rw [kM_control, if_neg h_2, if_pos h_7])]
      exact jM_control_c14 l D g qb qg qw cA S hR hlk τ a1 a2  (lv_sub hl [0, 1, 2] rfl) hw
    · skip
      refine lv_iconst (v := 1) hx hb dM_control_10 (by decide) ?_
      refine lv_goto (tgt := 15) hx hb dM_control_11 (by decide) ?_
      rw [show kM_control τ a1 a2 = kM_control_c15 τ a1 a2 true from (by rw [kM_control, if_neg h_2, if_neg h_7])]
      exact jM_control_c15 l D g qb qg qw cA S hR hlk τ a1 a2 true  (lv_sub hl [0, 1, 2] rfl) hw
