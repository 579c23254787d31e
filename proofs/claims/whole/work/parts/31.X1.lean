/-! contracts of WindowCore: laid by my program -/
def kX_has (σ : XS) (a1 : Int32) : Bool :=
  if ((σ.1 2) &&& a1) = 0 then
    false
  else
    true
set_option maxRecDepth 100000 in
set_option maxHeartbeats 4000000 in
theorem cX_has (l : Launch) (D : va_G) (h qm qr : Nat) (cA : ClassId) (σ : XS) (a1 : Int32) : xMi l yX_has (.code yX_has bX_has 2 (some .boolean) :: wAll) { frames := 0, cells := 0, slots := 0, locals := 0 } D h qm qr cA [.ref h, .int a1] σ (bI (kX_has σ a1)) σ := by
  refine z_entryi (cc := bX_has) (nL := 2) (by decide) rfl rfl (Nat.le_of_ble_eq_true rfl) (fun p e s m args below meth c S hR hlk ls H locs hl hw => ?_)
  have hx := S.1
  have hb := S.2.1
  have hl : lv_has ls 2 [(0, .ref h), (1, .int a1)] := hl
  refine lv_aload_n hx hb dX_has_0 rfl (lv_at hl 0 rfl) ?_
  refine xget_status S hw dX_has_1 ?_
  refine lv_iload_n hx hb dX_has_4 rfl (lv_at hl 1 rfl) ?_
  refine lv_iand hx hb dX_has_5 ?_
  refine lv_if_eq (tgt := 13) hx hb dX_has_6 (by decide) (fun h_6 => ?_) (fun h_6 => ?_)
  · skip
    refine lv_iconst (v := 0) hx hb dX_has_13 (by decide) ?_
    exact z_zret (v := false) S hR hlk hw dX_has_14 (by rw [kX_has, if_pos h_6])
  · skip
    refine lv_iconst (v := 1) hx hb dX_has_9 (by decide) ?_
    refine lv_goto (tgt := 14) hx hb dX_has_10 (by decide) ?_
    exact z_zret (v := true) S hR hlk hw dX_has_14 (by rw [kX_has, if_neg h_6])
def kX_isRegister (a0 : Int32) (a1 : Int32) : Bool :=
  if a0 < 0 then
    false
  else
    if (8 : Int32) ≤ a0 then
      false
    else
      if a1 < 0 then
        false
      else
        if (32 : Int32) ≤ a1 then
          false
        else
          true
set_option maxRecDepth 100000 in
set_option maxHeartbeats 4000000 in
theorem cX_isRegister (l : Launch) (D : va_G) (a0 : Int32) (a1 : Int32) : sMi l yX_isRegister (.code yX_isRegister bX_isRegister 2 (some .boolean) :: wAll) { frames := 0, cells := 0, slots := 0, locals := 0 } D [.int a0, .int a1] (bI (kX_isRegister a0 a1))  := by
  refine z_entryi (cc := bX_isRegister) (nL := 2) (by decide) rfl rfl (Nat.le_of_ble_eq_true rfl) (fun p e s m args below meth c S hR hlk ls H locs hl hw => ?_)
  have hx := S.1
  have hb := S.2.1
  have hl : lv_has ls 2 [(0, .int a0), (1, .int a1)] := hl
  refine lv_iload_n hx hb dX_isRegister_0 rfl (lv_at hl 0 rfl) ?_
  refine lv_if_lt (tgt := 24) hx hb dX_isRegister_1 (by decide) (fun h_1 => ?_) (fun h_1 => ?_)
  · skip
    refine lv_iconst (v := 0) hx hb dX_isRegister_24 (by decide) ?_
    exact z_zret (v := false) S hR hlk hw dX_isRegister_25 (by rw [kX_isRegister, if_pos h_1])
  · skip
    refine lv_iload_n hx hb dX_isRegister_4 rfl (lv_at hl 0 rfl) ?_
    refine lv_bipush (v := 8) hx hb dX_isRegister_5 (by decide) ?_
    refine lv_icmp_ge (tgt := 24) hx hb dX_isRegister_7 (by decide) (fun h_7 => ?_) (fun h_7 => ?_)
    · skip
      refine lv_iconst (v := 0) hx hb dX_isRegister_24 (by decide) ?_
      exact z_zret (v := false) S hR hlk hw dX_isRegister_25 (by rw [kX_isRegister, if_neg h_1, if_pos h_7])
    · skip
      refine lv_iload_n hx hb dX_isRegister_10 rfl (lv_at hl 1 rfl) ?_
      refine lv_if_lt (tgt := 24) hx hb dX_isRegister_11 (by decide) (fun h_11 => ?_) (fun h_11 => ?_)
      · skip
        refine lv_iconst (v := 0) hx hb dX_isRegister_24 (by decide) ?_
        exact z_zret (v := false) S hR hlk hw dX_isRegister_25 (by rw [kX_isRegister, if_neg h_1, if_neg h_7, if_pos h_11])
      · skip
        refine lv_iload_n hx hb dX_isRegister_14 rfl (lv_at hl 1 rfl) ?_
        refine lv_bipush (v := 32) hx hb dX_isRegister_15 (by decide) ?_
        refine lv_icmp_ge (tgt := 24) hx hb dX_isRegister_17 (by decide) (fun h_17 => ?_) (fun h_17 => ?_)
        · skip
          refine lv_iconst (v := 0) hx hb dX_isRegister_24 (by decide) ?_
          exact z_zret (v := false) S hR hlk hw dX_isRegister_25 (by rw [kX_isRegister, if_neg h_1, if_neg h_7, if_neg h_11, if_pos h_17])
        · skip
          refine lv_iconst (v := 1) hx hb dX_isRegister_20 (by decide) ?_
          refine lv_goto (tgt := 25) hx hb dX_isRegister_21 (by decide) ?_
          exact z_zret (v := true) S hR hlk hw dX_isRegister_25 (by rw [kX_isRegister, if_neg h_1, if_neg h_7, if_neg h_11, if_neg h_17])
def kX_slot (a0 : Int32) (a1 : Int32) : Int32 :=
  if (8 : Int32) ≤ a1 then
    ((8 : Int32) + ((((a0 * (16 : Int32)) + a1) - (8 : Int32)) &&& (127 : Int32)))
  else
    a1
set_option maxRecDepth 100000 in
set_option maxHeartbeats 4000000 in
theorem cX_slot (l : Launch) (D : va_G) (a0 : Int32) (a1 : Int32) : sMi l yX_slot (.code yX_slot bX_slot 3 (some .int) :: wAll) { frames := 0, cells := 0, slots := 0, locals := 0 } D [.int a0, .int a1] (kX_slot a0 a1)  := by
  refine z_entryi (cc := bX_slot) (nL := 3) (by decide) rfl rfl (Nat.le_of_ble_eq_true rfl) (fun p e s m args below meth c S hR hlk ls H locs hl hw => ?_)
  have hx := S.1
  have hb := S.2.1
  have hl : lv_has ls 3 [(0, .int a0), (1, .int a1)] := hl
  refine lv_iload_n hx hb dX_slot_0 rfl (lv_at hl 1 rfl) ?_
  refine lv_bipush (v := 8) hx hb dX_slot_1 (by decide) ?_
  refine lv_icmp_ge (tgt := 8) hx hb dX_slot_3 (by decide) (fun h_3 => ?_) (fun h_3 => ?_)
  · skip
    refine lv_iload_n hx hb dX_slot_8 rfl (lv_at hl 0 rfl) ?_
    refine lv_bipush (v := 16) hx hb dX_slot_9 (by decide) ?_
    refine lv_imul hx hb dX_slot_11 ?_
    refine lv_iload_n hx hb dX_slot_12 rfl (lv_at hl 1 rfl) ?_
    refine lv_iadd hx hb dX_slot_13 ?_
    refine lv_bipush (v := 8) hx hb dX_slot_14 (by decide) ?_
    refine lv_isub hx hb dX_slot_16 ?_
    refine lv_istore_n (lv' := [(2, .int (((a0 * (16 : Int32)) + a1) - (8 : Int32))), (0, .int a0), (1, .int a1)]) hx hb dX_slot_17 rfl hl (by decide) rfl (fun ls hl => ?_)
    refine lv_bipush (v := 8) hx hb dX_slot_18 (by decide) ?_
    refine lv_iload_n hx hb dX_slot_20 rfl (lv_at hl 0 rfl) ?_
    refine lv_bipush (v := 127) hx hb dX_slot_21 (by decide) ?_
    refine lv_iand hx hb dX_slot_23 ?_
    refine lv_iadd hx hb dX_slot_24 ?_
    exact z_iret S hR hlk hw dX_slot_25 (by rw [kX_slot, if_pos h_3])
  · skip
    refine lv_iload_n hx hb dX_slot_6 rfl (lv_at hl 1 rfl) ?_
    exact z_iret S hR hlk hw dX_slot_7 (by rw [kX_slot, if_neg h_3])
def kX_window (σ : XS) : Int32 :=
  ((σ.1 2) &&& (7 : Int32))
set_option maxRecDepth 100000 in
set_option maxHeartbeats 4000000 in
theorem cX_window (l : Launch) (D : va_G) (h qm qr : Nat) (cA : ClassId) (σ : XS) : xMi l yX_window (.code yX_window bX_window 1 (some .int) :: wAll) { frames := 0, cells := 0, slots := 0, locals := 0 } D h qm qr cA [.ref h] σ (kX_window σ) σ := by
  refine z_entryi (cc := bX_window) (nL := 1) (by decide) rfl rfl (Nat.le_of_ble_eq_true rfl) (fun p e s m args below meth c S hR hlk ls H locs hl hw => ?_)
  have hx := S.1
  have hb := S.2.1
  have hl : lv_has ls 1 [(0, .ref h)] := hl
  refine lv_aload_n hx hb dX_window_0 rfl (lv_at hl 0 rfl) ?_
  refine xget_status S hw dX_window_1 ?_
  refine lv_bipush (v := 7) hx hb dX_window_4 (by decide) ?_
  refine lv_iand hx hb dX_window_6 ?_
  exact z_iret S hR hlk hw dX_window_7 rfl
def kX_windowBeside (σ : XS) (a1 : Int32) : Int32 :=
  (((kX_window σ) + a1) &&& (7 : Int32))
set_option maxRecDepth 100000 in
set_option maxHeartbeats 4000000 in
theorem cX_windowBeside (l : Launch) (D : va_G) (h qm qr : Nat) (cA : ClassId) (σ : XS) (a1 : Int32) : xMi l yX_windowBeside (.code yX_windowBeside bX_windowBeside 2 (some .int) :: wAll) { frames := 1, cells := 0, slots := 0, locals := 20 } D h qm qr cA [.ref h, .int a1] σ (kX_windowBeside σ a1) σ := by
  refine z_entryi (cc := bX_windowBeside) (nL := 2) (by decide) rfl rfl (Nat.le_of_ble_eq_true rfl) (fun p e s m args below meth c S hR hlk ls H locs hl hw => ?_)
  have hx := S.1
  have hb := S.2.1
  have hl : lv_has ls 2 [(0, .ref h), (1, .int a1)] := hl
  refine lv_aload_n hx hb dX_windowBeside_0 rfl (lv_at hl 0 rfl) ?_
  refine z_calli S (cX_window l D h qm qr cA σ) (qX_window S.2.2.2.2 ⟨Nat.le_of_ble_eq_true rfl, Nat.le_of_ble_eq_true rfl⟩) hw rfl rfl rfl hl.1 rfl (Nat.le_of_ble_eq_true rfl) dX_windowBeside_1 (fun H locs hw => ?_)
  refine lv_iload_n hx hb dX_windowBeside_4 rfl (lv_at hl 1 rfl) ?_
  refine lv_iadd hx hb dX_windowBeside_5 ?_
  refine lv_bipush (v := 7) hx hb dX_windowBeside_6 (by decide) ?_
  refine lv_iand hx hb dX_windowBeside_8 ?_
  exact z_iret S hR hlk hw dX_windowBeside_9 rfl
def kX_turnTo (σ : XS) (a1 : Int32) : XS :=
  (xI σ 2 (((σ.1 2) &&& (-32 : Int32)) ||| (a1 &&& (7 : Int32))))
set_option maxRecDepth 100000 in
set_option maxHeartbeats 4000000 in
theorem cX_turnTo (l : Launch) (D : va_G) (h qm qr : Nat) (cA : ClassId) (σ : XS) (a1 : Int32) : xMv l yX_turnTo (.code yX_turnTo bX_turnTo 2 none :: wAll) { frames := 0, cells := 0, slots := 0, locals := 0 } D h qm qr cA [.ref h, .int a1] σ (kX_turnTo σ a1) := by
  refine z_entryv (cc := bX_turnTo) (nL := 2) (by decide) rfl rfl (Nat.le_of_ble_eq_true rfl) (fun p e s m args below meth c S hR hlk ls H locs hl hw => ?_)
  have hx := S.1
  have hb := S.2.1
  have hl : lv_has ls 2 [(0, .ref h), (1, .int a1)] := hl
  refine lv_aload_n hx hb dX_turnTo_0 rfl (lv_at hl 0 rfl) ?_
  refine lv_aload_n hx hb dX_turnTo_1 rfl (lv_at hl 0 rfl) ?_
  refine xget_status S hw dX_turnTo_2 ?_
  refine lv_bipush (v := -32) hx hb dX_turnTo_5 (by decide) ?_
  refine lv_iand hx hb dX_turnTo_7 ?_
  refine lv_iload_n hx hb dX_turnTo_8 rfl (lv_at hl 1 rfl) ?_
  refine lv_bipush (v := 7) hx hb dX_turnTo_9 (by decide) ?_
  refine lv_iand hx hb dX_turnTo_11 ?_
  refine lv_ior hx hb dX_turnTo_12 ?_
  refine xput_status S hw dX_turnTo_13 (fun H locs hw => ?_)
  exact z_vret S hR hlk hw dX_turnTo_16 rfl
def kX_isInvalid (σ : XS) (a1 : Int32) : Bool :=
  if ((uS (σ.1 3) a1) &&& (1 : Int32)) = 0 then
    false
  else
    true
set_option maxRecDepth 100000 in
set_option maxHeartbeats 4000000 in
theorem cX_isInvalid (l : Launch) (D : va_G) (h qm qr : Nat) (cA : ClassId) (σ : XS) (a1 : Int32) : xMi l yX_isInvalid (.code yX_isInvalid bX_isInvalid 2 (some .boolean) :: wAll) { frames := 0, cells := 0, slots := 0, locals := 0 } D h qm qr cA [.ref h, .int a1] σ (bI (kX_isInvalid σ a1)) σ := by
  refine z_entryi (cc := bX_isInvalid) (nL := 2) (by decide) rfl rfl (Nat.le_of_ble_eq_true rfl) (fun p e s m args below meth c S hR hlk ls H locs hl hw => ?_)
  have hx := S.1
  have hb := S.2.1
  have hl : lv_has ls 2 [(0, .ref h), (1, .int a1)] := hl
  refine lv_aload_n hx hb dX_isInvalid_0 rfl (lv_at hl 0 rfl) ?_
  refine xget_invalid S hw dX_isInvalid_1 ?_
  refine lv_iload_n hx hb dX_isInvalid_4 rfl (lv_at hl 1 rfl) ?_
  refine lv_iushr (v := (uS (σ.1 3) a1)) hx hb dX_isInvalid_5 rfl ?_
  refine lv_iconst (v := 1) hx hb dX_isInvalid_6 (by decide) ?_
  refine lv_iand hx hb dX_isInvalid_7 ?_
  refine lv_if_eq (tgt := 15) hx hb dX_isInvalid_8 (by decide) (fun h_8 => ?_) (fun h_8 => ?_)
  · skip
    refine lv_iconst (v := 0) hx hb dX_isInvalid_15 (by decide) ?_
    exact z_zret (v := false) S hR hlk hw dX_isInvalid_16 (by rw [kX_isInvalid, if_pos h_8])
  · skip
    refine lv_iconst (v := 1) hx hb dX_isInvalid_11 (by decide) ?_
    refine lv_goto (tgt := 16) hx hb dX_isInvalid_12 (by decide) ?_
    exact z_zret (v := true) S hR hlk hw dX_isInvalid_16 (by rw [kX_isInvalid, if_neg h_8])
def kX_isInMemory (a0 : Int32) : Bool :=
  if a0 < 0 then
    false
  else
    if (4096 : Int32) ≤ a0 then
      false
    else
      true
set_option maxRecDepth 100000 in
set_option maxHeartbeats 4000000 in
theorem cX_isInMemory (l : Launch) (D : va_G) (a0 : Int32) : sMi l yX_isInMemory (.code yX_isInMemory bX_isInMemory 1 (some .boolean) :: wAll) { frames := 0, cells := 0, slots := 0, locals := 0 } D [.int a0] (bI (kX_isInMemory a0))  := by
  refine z_entryi (cc := bX_isInMemory) (nL := 1) (by decide) rfl rfl (Nat.le_of_ble_eq_true rfl) (fun p e s m args below meth c S hR hlk ls H locs hl hw => ?_)
  have hx := S.1
  have hb := S.2.1
  have hl : lv_has ls 1 [(0, .int a0)] := hl
  refine lv_iload_n hx hb dX_isInMemory_0 rfl (lv_at hl 0 rfl) ?_
  refine lv_if_lt (tgt := 15) hx hb dX_isInMemory_1 (by decide) (fun h_1 => ?_) (fun h_1 => ?_)
  · skip
    refine lv_iconst (v := 0) hx hb dX_isInMemory_15 (by decide) ?_
    exact z_zret (v := false) S hR hlk hw dX_isInMemory_16 (by rw [kX_isInMemory, if_pos h_1])
  · skip
    refine lv_iload_n hx hb dX_isInMemory_4 rfl (lv_at hl 0 rfl) ?_
    refine lv_sipush (v := 4096) hx hb dX_isInMemory_5 (by decide) ?_
    refine lv_icmp_ge (tgt := 15) hx hb dX_isInMemory_8 (by decide) (fun h_8 => ?_) (fun h_8 => ?_)
    · skip
      refine lv_iconst (v := 0) hx hb dX_isInMemory_15 (by decide) ?_
      exact z_zret (v := false) S hR hlk hw dX_isInMemory_16 (by rw [kX_isInMemory, if_neg h_1, if_pos h_8])
    · skip
      refine lv_iconst (v := 1) hx hb dX_isInMemory_11 (by decide) ?_
      refine lv_goto (tgt := 16) hx hb dX_isInMemory_12 (by decide) ?_
      exact z_zret (v := true) S hR hlk hw dX_isInMemory_16 (by rw [kX_isInMemory, if_neg h_1, if_neg h_8])
def kX_isWordOfMemory (a0 : Int32) : Bool :=
  if (bI (kX_isInMemory a0)) = 0 then
    false
  else
    if (a0 &&& (3 : Int32)) = 0 then
      true
    else
      false
set_option maxRecDepth 100000 in
set_option maxHeartbeats 4000000 in
theorem cX_isWordOfMemory (l : Launch) (D : va_G) (a0 : Int32) : sMi l yX_isWordOfMemory (.code yX_isWordOfMemory bX_isWordOfMemory 1 (some .boolean) :: wAll) { frames := 1, cells := 0, slots := 0, locals := 20 } D [.int a0] (bI (kX_isWordOfMemory a0))  := by
  refine z_entryi (cc := bX_isWordOfMemory) (nL := 1) (by decide) rfl rfl (Nat.le_of_ble_eq_true rfl) (fun p e s m args below meth c S hR hlk ls H locs hl hw => ?_)
  have hx := S.1
  have hb := S.2.1
  have hl : lv_has ls 1 [(0, .int a0)] := hl
  refine lv_iload_n hx hb dX_isWordOfMemory_0 rfl (lv_at hl 0 rfl) ?_
  refine s_calli S (cX_isInMemory l D a0) (qX_isInMemory S.2.2.2.2 ⟨Nat.le_of_ble_eq_true rfl, Nat.le_of_ble_eq_true rfl⟩) hw rfl hl.1 rfl (Nat.le_of_ble_eq_true rfl) dX_isWordOfMemory_1 (fun H locs hw => ?_)
  refine lv_if_eq (tgt := 17) hx hb dX_isWordOfMemory_4 (by decide) (fun h_4 => ?_) (fun h_4 => ?_)
  · skip
    refine lv_iconst (v := 0) hx hb dX_isWordOfMemory_17 (by decide) ?_
    exact z_zret (v := false) S hR hlk hw dX_isWordOfMemory_18 (by rw [kX_isWordOfMemory, if_pos h_4])
  · skip
    refine lv_iload_n hx hb dX_isWordOfMemory_7 rfl (lv_at hl 0 rfl) ?_
    refine lv_iconst (v := 3) hx hb dX_isWordOfMemory_8 (by decide) ?_
    refine lv_iand hx hb dX_isWordOfMemory_9 ?_
    refine lv_if_ne (tgt := 17) hx hb dX_isWordOfMemory_10 (by decide) (fun h_10 => ?_) (fun h_10 => ?_)
    · skip
      refine lv_iconst (v := 0) hx hb dX_isWordOfMemory_17 (by decide) ?_
      exact z_zret (v := false) S hR hlk hw dX_isWordOfMemory_18 (by rw [kX_isWordOfMemory, if_neg h_4, if_neg h_10])
    · skip
      refine lv_iconst (v := 1) hx hb dX_isWordOfMemory_13 (by decide) ?_
      refine lv_goto (tgt := 18) hx hb dX_isWordOfMemory_14 (by decide) ?_
      exact z_zret (v := true) S hR hlk hw dX_isWordOfMemory_18 (by rw [kX_isWordOfMemory, if_neg h_4, if_pos h_10])
def kX_shiftOfPart (a0 : Int32) (a1 : Int32) : Int32 :=
  ((8 : Int32) * (((4 : Int32) - a1) - (a0 &&& (3 : Int32))))
set_option maxRecDepth 100000 in
set_option maxHeartbeats 4000000 in
theorem cX_shiftOfPart (l : Launch) (D : va_G) (a0 : Int32) (a1 : Int32) : sMi l yX_shiftOfPart (.code yX_shiftOfPart bX_shiftOfPart 2 (some .int) :: wAll) { frames := 0, cells := 0, slots := 0, locals := 0 } D [.int a0, .int a1] (kX_shiftOfPart a0 a1)  := by
  refine z_entryi (cc := bX_shiftOfPart) (nL := 2) (by decide) rfl rfl (Nat.le_of_ble_eq_true rfl) (fun p e s m args below meth c S hR hlk ls H locs hl hw => ?_)
  have hx := S.1
  have hb := S.2.1
  have hl : lv_has ls 2 [(0, .int a0), (1, .int a1)] := hl
  refine lv_bipush (v := 8) hx hb dX_shiftOfPart_0 (by decide) ?_
  refine lv_iconst (v := 4) hx hb dX_shiftOfPart_2 (by decide) ?_
  refine lv_iload_n hx hb dX_shiftOfPart_3 rfl (lv_at hl 1 rfl) ?_
  refine lv_isub hx hb dX_shiftOfPart_4 ?_
  refine lv_iload_n hx hb dX_shiftOfPart_5 rfl (lv_at hl 0 rfl) ?_
  refine lv_iconst (v := 3) hx hb dX_shiftOfPart_6 (by decide) ?_
  refine lv_iand hx hb dX_shiftOfPart_7 ?_
  refine lv_isub hx hb dX_shiftOfPart_8 ?_
  refine lv_imul hx hb dX_shiftOfPart_9 ?_
  exact z_iret S hR hlk hw dX_shiftOfPart_10 rfl
def kX_maskOfPart (a0 : Int32) : Int32 :=
  (uS (-1 : Int32) ((32 : Int32) - ((8 : Int32) * a0)))
set_option maxRecDepth 100000 in
set_option maxHeartbeats 4000000 in
theorem cX_maskOfPart (l : Launch) (D : va_G) (a0 : Int32) : sMi l yX_maskOfPart (.code yX_maskOfPart bX_maskOfPart 1 (some .int) :: wAll) { frames := 0, cells := 0, slots := 0, locals := 0 } D [.int a0] (kX_maskOfPart a0)  := by
  refine z_entryi (cc := bX_maskOfPart) (nL := 1) (by decide) rfl rfl (Nat.le_of_ble_eq_true rfl) (fun p e s m args below meth c S hR hlk ls H locs hl hw => ?_)
  have hx := S.1
  have hb := S.2.1
  have hl : lv_has ls 1 [(0, .int a0)] := hl
  refine lv_iconst (v := -1) hx hb dX_maskOfPart_0 (by decide) ?_
  refine lv_bipush (v := 32) hx hb dX_maskOfPart_1 (by decide) ?_
  refine lv_bipush (v := 8) hx hb dX_maskOfPart_3 (by decide) ?_
  refine lv_iload_n hx hb dX_maskOfPart_5 rfl (lv_at hl 0 rfl) ?_
  refine lv_imul hx hb dX_maskOfPart_6 ?_
  refine lv_isub hx hb dX_maskOfPart_7 ?_
  refine lv_iushr (v := (uS (-1 : Int32) ((32 : Int32) - ((8 : Int32) * a0)))) hx hb dX_maskOfPart_8 rfl ?_
  exact z_iret S hR hlk hw dX_maskOfPart_9 rfl
def kX_isInterrupted (σ : XS) : Bool :=
  if (bI (kX_has σ (32 : Int32))) = 0 then
    false
  else
    if (σ.1 7) = (15 : Int32) then
      true
    else
      if (σ.1 7) ≤ ((uS (σ.1 2) (8 : Int32)) &&& (15 : Int32)) then
        false
      else
        true
set_option maxRecDepth 100000 in
set_option maxHeartbeats 4000000 in
theorem cX_isInterrupted (l : Launch) (D : va_G) (h qm qr : Nat) (cA : ClassId) (σ : XS) : xMi l yX_isInterrupted (.code yX_isInterrupted bX_isInterrupted 2 (some .boolean) :: wAll) { frames := 1, cells := 0, slots := 0, locals := 21 } D h qm qr cA [.ref h] σ (bI (kX_isInterrupted σ)) σ := by
  refine z_entryi (cc := bX_isInterrupted) (nL := 2) (by decide) rfl rfl (Nat.le_of_ble_eq_true rfl) (fun p e s m args below meth c S hR hlk ls H locs hl hw => ?_)
  have hx := S.1
  have hb := S.2.1
  have hl : lv_has ls 2 [(0, .ref h)] := hl
  refine lv_aload_n hx hb dX_isInterrupted_0 rfl (lv_at hl 0 rfl) ?_
  refine xget_status S hw dX_isInterrupted_1 ?_
  refine lv_bipush (v := 8) hx hb dX_isInterrupted_4 (by decide) ?_
  refine lv_iushr (v := (uS (σ.1 2) (8 : Int32))) hx hb dX_isInterrupted_6 rfl ?_
  refine lv_bipush (v := 15) hx hb dX_isInterrupted_7 (by decide) ?_
  refine lv_iand hx hb dX_isInterrupted_9 ?_
  refine lv_istore_n (lv' := [(1, .int ((uS (σ.1 2) (8 : Int32)) &&& (15 : Int32))), (0, .ref h)]) hx hb dX_isInterrupted_10 rfl hl (by decide) rfl (fun ls hl => ?_)
  refine lv_aload_n hx hb dX_isInterrupted_11 rfl (lv_at hl 1 rfl) ?_
  refine lv_bipush (v := 32) hx hb dX_isInterrupted_12 (by decide) ?_
  refine z_calli S (cX_has l D h qm qr cA σ (32 : Int32)) (qX_has S.2.2.2.2 ⟨Nat.le_of_ble_eq_true rfl, Nat.le_of_ble_eq_true rfl⟩) hw rfl rfl rfl hl.1 rfl (Nat.le_of_ble_eq_true rfl) dX_isInterrupted_14 (fun H locs hw => ?_)
  refine lv_if_eq (tgt := 41) hx hb dX_isInterrupted_17 (by decide) (fun h_17 => ?_) (fun h_17 => ?_)
  · skip
    refine lv_iconst (v := 0) hx hb dX_isInterrupted_41 (by decide) ?_
    exact z_zret (v := false) S hR hlk hw dX_isInterrupted_42 (by rw [kX_isInterrupted, if_pos h_17])
  · skip
    refine lv_aload_n hx hb dX_isInterrupted_20 rfl (lv_at hl 1 rfl) ?_
    refine xget_requested S hw dX_isInterrupted_21 ?_
    refine lv_bipush (v := 15) hx hb dX_isInterrupted_24 (by decide) ?_
    refine lv_icmp_eq (tgt := 37) hx hb dX_isInterrupted_26 (by decide) (fun h_26 => ?_) (fun h_26 => ?_)
    · skip
      refine lv_iconst (v := 1) hx hb dX_isInterrupted_37 (by decide) ?_
      refine lv_goto (tgt := 42) hx hb dX_isInterrupted_38 (by decide) ?_
      exact z_zret (v := true) S hR hlk hw dX_isInterrupted_42 (by rw [kX_isInterrupted, if_neg h_17, if_pos h_26])
    · skip
      refine lv_aload_n hx hb dX_isInterrupted_29 rfl (lv_at hl 1 rfl) ?_
      refine xget_requested S hw dX_isInterrupted_30 ?_
      refine lv_iload_n hx hb dX_isInterrupted_33 rfl (lv_at hl 0 rfl) ?_
      refine lv_icmp_le (tgt := 41) hx hb dX_isInterrupted_34 (by decide) (fun h_34 => ?_) (fun h_34 => ?_)
      · skip
        refine lv_iconst (v := 0) hx hb dX_isInterrupted_41 (by decide) ?_
        exact z_zret (v := false) S hR hlk hw dX_isInterrupted_42 (by rw [kX_isInterrupted, if_neg h_17, if_neg h_26, if_pos h_34])
      · skip
        refine lv_iconst (v := 1) hx hb dX_isInterrupted_37 (by decide) ?_
        refine lv_goto (tgt := 42) hx hb dX_isInterrupted_38 (by decide) ?_
        exact z_zret (v := true) S hR hlk hw dX_isInterrupted_42 (by rw [kX_isInterrupted, if_neg h_17, if_neg h_26, if_neg h_34])
def kX_goTo_c8 (σ : XS) (v1 : Int32) : Int32 × XS :=
  ((0 : Int32), (xI σ 6 v1))
def kX_goTo (σ : XS) (a1 : Int32) : Int32 × XS :=
  kX_goTo_c8 (xI σ 5 (σ.1 6)) a1
set_option maxRecDepth 100000 in
set_option maxHeartbeats 4000000 in
theorem jX_goTo_c8 (l : Launch) (D : va_G) (h qm qr : Nat) (cA : ClassId) {p : Program} {e : Env} {s : State} {m : MethodId} {args : Array Value} {below : List Frame} {meth : Method} {c : Code} (S : CallFix p m c bX_goTo 2 s args wAll RX) (hR : meth.sig.returnType = (some .int)) (hlk : meth.locks = false) {ls : Array Slot} {H : Heap} {locs : List Loc} (σ : XS) (v1 : Int32) (hl : lv_has ls 2 [(0, .ref h), (1, .int v1)]) (hw : xH D h qm qr cA s σ H locs) : W p l e { frames := 0, cells := 0, slots := 0, locals := 0 } s m args below meth c H locs 0 0 (xQi D h qm qr cA below args s ((kX_goTo_c8 σ v1).1) (kX_goTo_c8 σ v1).2) (F0 m 8 ls []) := by
  have hx := S.1
  have hb := S.2.1
  refine lv_aload_n hx hb dX_goTo_8 rfl (lv_at hl 0 rfl) ?_
  refine lv_iload_n hx hb dX_goTo_9 rfl (lv_at hl 1 rfl) ?_
  refine xput_next S hw dX_goTo_10 (fun H locs hw => ?_)
  refine lv_iconst (v := 0) hx hb dX_goTo_13 (by decide) ?_
  exact z_iretP S hR hlk hw dX_goTo_14 rfl
set_option maxRecDepth 100000 in
set_option maxHeartbeats 4000000 in
theorem cX_goTo (l : Launch) (D : va_G) (h qm qr : Nat) (cA : ClassId) (σ : XS) (a1 : Int32) : xMi l yX_goTo (.code yX_goTo bX_goTo 2 (some .int) :: wAll) { frames := 0, cells := 0, slots := 0, locals := 0 } D h qm qr cA [.ref h, .int a1] σ ((kX_goTo σ a1).1) (kX_goTo σ a1).2 := by
  refine z_entryi (cc := bX_goTo) (nL := 2) (by decide) rfl rfl (Nat.le_of_ble_eq_true rfl) (fun p e s m args below meth c S hR hlk ls H locs hl hw => ?_)
  have hx := S.1
  have hb := S.2.1
  have hl : lv_has ls 2 [(0, .ref h), (1, .int a1)] := hl
  refine lv_aload_n hx hb dX_goTo_0 rfl (lv_at hl 0 rfl) ?_
  refine lv_aload_n hx hb dX_goTo_1 rfl (lv_at hl 0 rfl) ?_
  refine xget_next S hw dX_goTo_2 ?_
  refine xput_place S hw dX_goTo_5 (fun H locs hw => ?_)
  rw [show kX_goTo σ a1 = kX_goTo_c8 (xI σ 5 (σ.1 6)) a1 from rfl]
  exact jX_goTo_c8 l D h qm qr cA S hR hlk (xI σ 5 (σ.1 6)) a1  (lv_sub hl [0, 1] rfl) hw
def kX_goOn (σ : XS) : Int32 × XS :=
  ((kX_goTo σ ((σ.1 6) + (4 : Int32))).1, (kX_goTo σ ((σ.1 6) + (4 : Int32))).2)
set_option maxRecDepth 100000 in
set_option maxHeartbeats 4000000 in
theorem cX_goOn (l : Launch) (D : va_G) (h qm qr : Nat) (cA : ClassId) (σ : XS) : xMi l yX_goOn (.code yX_goOn bX_goOn 1 (some .int) :: wAll) { frames := 1, cells := 0, slots := 0, locals := 21 } D h qm qr cA [.ref h] σ ((kX_goOn σ).1) (kX_goOn σ).2 := by
  refine z_entryi (cc := bX_goOn) (nL := 1) (by decide) rfl rfl (Nat.le_of_ble_eq_true rfl) (fun p e s m args below meth c S hR hlk ls H locs hl hw => ?_)
  have hx := S.1
  have hb := S.2.1
  have hl : lv_has ls 1 [(0, .ref h)] := hl
  refine lv_aload_n hx hb dX_goOn_0 rfl (lv_at hl 0 rfl) ?_
  refine lv_aload_n hx hb dX_goOn_1 rfl (lv_at hl 0 rfl) ?_
  refine xget_next S hw dX_goOn_2 ?_
  refine lv_iconst (v := 4) hx hb dX_goOn_5 (by decide) ?_
  refine lv_iadd hx hb dX_goOn_6 ?_
  refine z_calli S (cX_goTo l D h qm qr cA σ ((σ.1 6) + (4 : Int32))) (qX_goTo S.2.2.2.2 ⟨Nat.le_of_ble_eq_true rfl, Nat.le_of_ble_eq_true rfl⟩) hw rfl rfl rfl hl.1 rfl (Nat.le_of_ble_eq_true rfl) dX_goOn_7 (fun H locs hw => ?_)
  exact z_iretP S hR hlk hw dX_goOn_10 rfl
def kX_halt (σ : XS) : Int32 × XS :=
  ((2 : Int32), (xB σ 11 true))
set_option maxRecDepth 100000 in
set_option maxHeartbeats 4000000 in
theorem cX_halt (l : Launch) (D : va_G) (h qm qr : Nat) (cA : ClassId) (σ : XS) : xMi l yX_halt (.code yX_halt bX_halt 1 (some .int) :: wAll) { frames := 0, cells := 0, slots := 0, locals := 0 } D h qm qr cA [.ref h] σ ((kX_halt σ).1) (kX_halt σ).2 := by
  refine z_entryi (cc := bX_halt) (nL := 1) (by decide) rfl rfl (Nat.le_of_ble_eq_true rfl) (fun p e s m args below meth c S hR hlk ls H locs hl hw => ?_)
  have hx := S.1
  have hb := S.2.1
  have hl : lv_has ls 1 [(0, .ref h)] := hl
  refine lv_aload_n hx hb dX_halt_0 rfl (lv_at hl 0 rfl) ?_
  refine lv_iconst (v := 1) hx hb dX_halt_1 (by decide) ?_
  refine xput_stopped (v := true) S hw dX_halt_2 (fun H locs hw => ?_)
  refine lv_iconst (v := 2) hx hb dX_halt_5 (by decide) ?_
  exact z_iretP S hR hlk hw dX_halt_6 rfl
def kX_numberOfD (a0 : Int32) : Int32 :=
  ((uS a0 (25 : Int32)) &&& (31 : Int32))
set_option maxRecDepth 100000 in
set_option maxHeartbeats 4000000 in
theorem cX_numberOfD (l : Launch) (D : va_G) (a0 : Int32) : sMi l yX_numberOfD (.code yX_numberOfD bX_numberOfD 1 (some .int) :: wAll) { frames := 0, cells := 0, slots := 0, locals := 0 } D [.int a0] (kX_numberOfD a0)  := by
  refine z_entryi (cc := bX_numberOfD) (nL := 1) (by decide) rfl rfl (Nat.le_of_ble_eq_true rfl) (fun p e s m args below meth c S hR hlk ls H locs hl hw => ?_)
  have hx := S.1
  have hb := S.2.1
  have hl : lv_has ls 1 [(0, .int a0)] := hl
  refine lv_iload_n hx hb dX_numberOfD_0 rfl (lv_at hl 0 rfl) ?_
  refine lv_bipush (v := 25) hx hb dX_numberOfD_1 (by decide) ?_
  refine lv_iushr (v := (uS a0 (25 : Int32))) hx hb dX_numberOfD_3 rfl ?_
  refine lv_bipush (v := 31) hx hb dX_numberOfD_4 (by decide) ?_
  refine lv_iand hx hb dX_numberOfD_6 ?_
  exact z_iret S hR hlk hw dX_numberOfD_7 rfl
def kX_conditionOf (a0 : Int32) : Int32 :=
  ((uS a0 (25 : Int32)) &&& (15 : Int32))
set_option maxRecDepth 100000 in
set_option maxHeartbeats 4000000 in
theorem cX_conditionOf (l : Launch) (D : va_G) (a0 : Int32) : sMi l yX_conditionOf (.code yX_conditionOf bX_conditionOf 1 (some .int) :: wAll) { frames := 0, cells := 0, slots := 0, locals := 0 } D [.int a0] (kX_conditionOf a0)  := by
  refine z_entryi (cc := bX_conditionOf) (nL := 1) (by decide) rfl rfl (Nat.le_of_ble_eq_true rfl) (fun p e s m args below meth c S hR hlk ls H locs hl hw => ?_)
  have hx := S.1
  have hb := S.2.1
  have hl : lv_has ls 1 [(0, .int a0)] := hl
  refine lv_iload_n hx hb dX_conditionOf_0 rfl (lv_at hl 0 rfl) ?_
  refine lv_bipush (v := 25) hx hb dX_conditionOf_1 (by decide) ?_
  refine lv_iushr (v := (uS a0 (25 : Int32))) hx hb dX_conditionOf_3 rfl ?_
  refine lv_bipush (v := 15) hx hb dX_conditionOf_4 (by decide) ?_
  refine lv_iand hx hb dX_conditionOf_6 ?_
  exact z_iret S hR hlk hw dX_conditionOf_7 rfl
def kX_kindOf (a0 : Int32) : Int32 :=
  ((uS a0 (19 : Int32)) &&& (63 : Int32))
set_option maxRecDepth 100000 in
set_option maxHeartbeats 4000000 in
theorem cX_kindOf (l : Launch) (D : va_G) (a0 : Int32) : sMi l yX_kindOf (.code yX_kindOf bX_kindOf 1 (some .int) :: wAll) { frames := 0, cells := 0, slots := 0, locals := 0 } D [.int a0] (kX_kindOf a0)  := by
  refine z_entryi (cc := bX_kindOf) (nL := 1) (by decide) rfl rfl (Nat.le_of_ble_eq_true rfl) (fun p e s m args below meth c S hR hlk ls H locs hl hw => ?_)
  have hx := S.1
  have hb := S.2.1
  have hl : lv_has ls 1 [(0, .int a0)] := hl
  refine lv_iload_n hx hb dX_kindOf_0 rfl (lv_at hl 0 rfl) ?_
  refine lv_bipush (v := 19) hx hb dX_kindOf_1 (by decide) ?_
  refine lv_iushr (v := (uS a0 (19 : Int32))) hx hb dX_kindOf_3 rfl ?_
  refine lv_bipush (v := 63) hx hb dX_kindOf_4 (by decide) ?_
  refine lv_iand hx hb dX_kindOf_6 ?_
  exact z_iret S hR hlk hw dX_kindOf_7 rfl
def kX_shown (σ : XS) (a1 : Int32) : Int32 :=
  if a1 = (0 : Int32) then
    (σ.1 2)
  else
    if a1 = (1 : Int32) then
      (σ.1 3)
    else
      if a1 = (2 : Int32) then
        (σ.1 4)
      else
        if a1 = (3 : Int32) then
          (σ.1 5)
        else
          if a1 = (4 : Int32) then
            (σ.1 6)
          else
            if a1 = (5 : Int32) then
              if (bI (σ.2.1 10)) = 0 then
                (0 : Int32)
              else
                (1 : Int32)
            else
              if a1 = (6 : Int32) then
                if (bI (σ.2.1 11)) = 0 then
                  (0 : Int32)
                else
                  (1 : Int32)
              else
                if a1 = (7 : Int32) then
                  (σ.1 8)
                else
                  if a1 = (8 : Int32) then
                    (σ.1 9)
                  else
                    (σ.1 7)
set_option maxRecDepth 100000 in
set_option maxHeartbeats 4000000 in
theorem cX_shown (l : Launch) (D : va_G) (h qm qr : Nat) (cA : ClassId) (σ : XS) (a1 : Int32) : xMi l yX_shown (.code yX_shown bX_shown 2 (some .int) :: wAll) { frames := 0, cells := 0, slots := 0, locals := 0 } D h qm qr cA [.ref h, .int a1] σ (kX_shown σ a1) σ := by
  refine z_entryi (cc := bX_shown) (nL := 2) (by decide) rfl rfl (Nat.le_of_ble_eq_true rfl) (fun p e s m args below meth c S hR hlk ls H locs hl hw => ?_)
  have hx := S.1
  have hb := S.2.1
  have hl : lv_has ls 2 [(0, .ref h), (1, .int a1)] := hl
  refine lv_iload_n hx hb dX_shown_0 rfl (lv_at hl 1 rfl) ?_
  by_cases h_1_0 : a1 = (0 : Int32)
  · refine z_tsC (tgt := 52) hx hb dX_shown_1 h_1_0 (by decide) (by decide) rfl (by decide) ?_
    refine lv_aload_n hx hb dX_shown_52 rfl (lv_at hl 0 rfl) ?_
    refine xget_status S hw dX_shown_53 ?_
    exact z_iret S hR hlk hw dX_shown_56 (by rw [kX_shown, if_pos h_1_0])
  by_cases h_1_1 : a1 = (1 : Int32)
  · refine z_tsC (tgt := 57) hx hb dX_shown_1 h_1_1 (by decide) (by decide) rfl (by decide) ?_
    refine lv_aload_n hx hb dX_shown_57 rfl (lv_at hl 0 rfl) ?_
    refine xget_invalid S hw dX_shown_58 ?_
    exact z_iret S hR hlk hw dX_shown_61 (by rw [kX_shown, if_neg h_1_0, if_pos h_1_1])
  by_cases h_1_2 : a1 = (2 : Int32)
  · refine z_tsC (tgt := 62) hx hb dX_shown_1 h_1_2 (by decide) (by decide) rfl (by decide) ?_
    refine lv_aload_n hx hb dX_shown_62 rfl (lv_at hl 0 rfl) ?_
    refine xget_table S hw dX_shown_63 ?_
    exact z_iret S hR hlk hw dX_shown_66 (by rw [kX_shown, if_neg h_1_0, if_neg h_1_1, if_pos h_1_2])
  by_cases h_1_3 : a1 = (3 : Int32)
  · refine z_tsC (tgt := 67) hx hb dX_shown_1 h_1_3 (by decide) (by decide) rfl (by decide) ?_
    refine lv_aload_n hx hb dX_shown_67 rfl (lv_at hl 0 rfl) ?_
    refine xget_place S hw dX_shown_68 ?_
    exact z_iret S hR hlk hw dX_shown_71 (by rw [kX_shown, if_neg h_1_0, if_neg h_1_1, if_neg h_1_2, if_pos h_1_3])
  by_cases h_1_4 : a1 = (4 : Int32)
  · refine z_tsC (tgt := 72) hx hb dX_shown_1 h_1_4 (by decide) (by decide) rfl (by decide) ?_
    refine lv_aload_n hx hb dX_shown_72 rfl (lv_at hl 0 rfl) ?_
    refine xget_next S hw dX_shown_73 ?_
    exact z_iret S hR hlk hw dX_shown_76 (by rw [kX_shown, if_neg h_1_0, if_neg h_1_1, if_neg h_1_2, if_neg h_1_3, if_pos h_1_4])
  by_cases h_1_5 : a1 = (5 : Int32)
  · refine z_tsC (tgt := 77) hx hb dX_shown_1 h_1_5 (by decide) (by decide) rfl (by decide) ?_
    refine lv_aload_n hx hb dX_shown_77 rfl (lv_at hl 0 rfl) ?_
    refine xget_annulled S hw dX_shown_78 ?_
    refine lv_if_eq (tgt := 88) hx hb dX_shown_81 (by decide) (fun h_81 => ?_) (fun h_81 => ?_)
    · skip
      refine lv_iconst (v := 0) hx hb dX_shown_88 (by decide) ?_
      exact z_iret S hR hlk hw dX_shown_89 (by rw [kX_shown, if_neg h_1_0, if_neg h_1_1, if_neg h_1_2, if_neg h_1_3, if_neg h_1_4, if_pos h_1_5, if_pos h_81])
    · skip
      refine lv_iconst (v := 1) hx hb dX_shown_84 (by decide) ?_
      refine lv_goto (tgt := 89) hx hb dX_shown_85 (by decide) ?_
      exact z_iret S hR hlk hw dX_shown_89 (by rw [kX_shown, if_neg h_1_0, if_neg h_1_1, if_neg h_1_2, if_neg h_1_3, if_neg h_1_4, if_pos h_1_5, if_neg h_81])
  by_cases h_1_6 : a1 = (6 : Int32)
  · refine z_tsC (tgt := 90) hx hb dX_shown_1 h_1_6 (by decide) (by decide) rfl (by decide) ?_
    refine lv_aload_n hx hb dX_shown_90 rfl (lv_at hl 0 rfl) ?_
    refine xget_stopped S hw dX_shown_91 ?_
    refine lv_if_eq (tgt := 101) hx hb dX_shown_94 (by decide) (fun h_94 => ?_) (fun h_94 => ?_)
    · skip
      refine lv_iconst (v := 0) hx hb dX_shown_101 (by decide) ?_
      exact z_iret S hR hlk hw dX_shown_102 (by rw [kX_shown, if_neg h_1_0, if_neg h_1_1, if_neg h_1_2, if_neg h_1_3, if_neg h_1_4, if_neg h_1_5, if_pos h_1_6, if_pos h_94])
    · skip
      refine lv_iconst (v := 1) hx hb dX_shown_97 (by decide) ?_
      refine lv_goto (tgt := 102) hx hb dX_shown_98 (by decide) ?_
      exact z_iret S hR hlk hw dX_shown_102 (by rw [kX_shown, if_neg h_1_0, if_neg h_1_1, if_neg h_1_2, if_neg h_1_3, if_neg h_1_4, if_neg h_1_5, if_pos h_1_6, if_neg h_94])
  by_cases h_1_7 : a1 = (7 : Int32)
  · refine z_tsC (tgt := 103) hx hb dX_shown_1 h_1_7 (by decide) (by decide) rfl (by decide) ?_
    refine lv_aload_n hx hb dX_shown_103 rfl (lv_at hl 0 rfl) ?_
    refine xget_steps S hw dX_shown_104 ?_
    exact z_iret S hR hlk hw dX_shown_107 (by rw [kX_shown, if_neg h_1_0, if_neg h_1_1, if_neg h_1_2, if_neg h_1_3, if_neg h_1_4, if_neg h_1_5, if_neg h_1_6, if_pos h_1_7])
  by_cases h_1_8 : a1 = (8 : Int32)
  · refine z_tsC (tgt := 108) hx hb dX_shown_1 h_1_8 (by decide) (by decide) rfl (by decide) ?_
    refine lv_aload_n hx hb dX_shown_108 rfl (lv_at hl 0 rfl) ?_
    refine xget_traps S hw dX_shown_109 ?_
    exact z_iret S hR hlk hw dX_shown_112 (by rw [kX_shown, if_neg h_1_0, if_neg h_1_1, if_neg h_1_2, if_neg h_1_3, if_neg h_1_4, if_neg h_1_5, if_neg h_1_6, if_neg h_1_7, if_pos h_1_8])
  refine z_tsD (tgt := 113) (xs := [(0 : Int32), (1 : Int32), (2 : Int32), (3 : Int32), (4 : Int32), (5 : Int32), (6 : Int32), (7 : Int32), (8 : Int32)]) hx hb dX_shown_1 (by simp only [List.forall_mem_cons, List.not_mem_nil, false_imp_iff, implies_true, and_true]; exact ⟨h_1_0, h_1_1, h_1_2, h_1_3, h_1_4, h_1_5, h_1_6, h_1_7, h_1_8⟩) (by decide) (by decide) ?_
  refine lv_aload_n hx hb dX_shown_113 rfl (lv_at hl 0 rfl) ?_
  refine xget_requested S hw dX_shown_114 ?_
  exact z_iret S hR hlk hw dX_shown_117 (by rw [kX_shown, if_neg h_1_0, if_neg h_1_1, if_neg h_1_2, if_neg h_1_3, if_neg h_1_4, if_neg h_1_5, if_neg h_1_6, if_neg h_1_7, if_neg h_1_8])
def kX_change_c40 (σ : XS) (v2 : Int32) : XS :=
  (kX_turnTo σ v2)
def kX_change (σ : XS) (a1 : Int32) (a2 : Int32) : XS :=
  if a1 = (0 : Int32) then
    kX_change_c40 (xI σ 2 (a2 &&& (15732735 : Int32))) a2
  else
    if a1 = (1 : Int32) then
      (xI σ 3 (a2 &&& (255 : Int32)))
    else
      if a1 = (2 : Int32) then
        (xI σ 4 (a2 &&& (-16 : Int32)))
      else
        if a1 = (3 : Int32) then
          (xI σ 5 (a2 &&& (-4 : Int32)))
        else
          (xI σ 6 (a2 &&& (-4 : Int32)))
set_option maxRecDepth 100000 in
set_option maxHeartbeats 4000000 in
theorem jX_change_c40 (l : Launch) (D : va_G) (h qm qr : Nat) (cA : ClassId) {p : Program} {e : Env} {s : State} {m : MethodId} {args : Array Value} {below : List Frame} {meth : Method} {c : Code} (S : CallFix p m c bX_change 3 s args wAll RX) (hR : meth.sig.returnType = none) (hlk : meth.locks = false) {ls : Array Slot} {H : Heap} {locs : List Loc} (σ : XS) (v2 : Int32) (hl : lv_has ls 3 [(0, .ref h), (2, .int v2)]) (hw : xH D h qm qr cA s σ H locs) : W p l e { frames := 1, cells := 0, slots := 0, locals := 21 } s m args below meth c H locs 0 0 (xQv D h qm qr cA below args s (kX_change_c40 σ v2)) (F0 m 40 ls []) := by
  have hx := S.1
  have hb := S.2.1
  refine lv_aload_n hx hb dX_change_40 rfl (lv_at hl 0 rfl) ?_
  refine lv_iload_n hx hb dX_change_41 rfl (lv_at hl 1 rfl) ?_
  refine z_callv S (cX_turnTo l D h qm qr cA σ v2) (qX_turnTo S.2.2.2.2 ⟨Nat.le_of_ble_eq_true rfl, Nat.le_of_ble_eq_true rfl⟩) hw rfl rfl rfl hl.1 rfl (Nat.le_of_ble_eq_true rfl) dX_change_42 (fun H locs hw => ?_)
  refine lv_goto (tgt := 90) hx hb dX_change_45 (by decide) ?_
  exact z_vret S hR hlk hw dX_change_90 rfl
set_option maxRecDepth 100000 in
set_option maxHeartbeats 4000000 in
theorem cX_change (l : Launch) (D : va_G) (h qm qr : Nat) (cA : ClassId) (σ : XS) (a1 : Int32) (a2 : Int32) : xMv l yX_change (.code yX_change bX_change 3 none :: wAll) { frames := 1, cells := 0, slots := 0, locals := 21 } D h qm qr cA [.ref h, .int a1, .int a2] σ (kX_change σ a1 a2) := by
  refine z_entryv (cc := bX_change) (nL := 3) (by decide) rfl rfl (Nat.le_of_ble_eq_true rfl) (fun p e s m args below meth c S hR hlk ls H locs hl hw => ?_)
  have hx := S.1
  have hb := S.2.1
  have hl : lv_has ls 3 [(0, .ref h), (1, .int a1), (2, .int a2)] := hl
  refine lv_iload_n hx hb dX_change_0 rfl (lv_at hl 1 rfl) ?_
  by_cases h_1_0 : a1 = (0 : Int32)
  · refine z_tsC (tgt := 32) hx hb dX_change_1 h_1_0 (by decide) (by decide) rfl (by decide) ?_
    refine lv_aload_n hx hb dX_change_32 rfl (lv_at hl 0 rfl) ?_
    refine lv_iload_n hx hb dX_change_33 rfl (lv_at hl 2 rfl) ?_
    refine lv_ldc (v := 15732735) hx hb S.2.2.2.1 (S.2.2.2.2 _ (List.mem_append_left _ (List.mem_append_right _ (List.mem_append_left _ (List.mem_append_left _ (List.mem_append_right _ (List.mem_append_left _ (List.mem_of_getElem? (i := 3) rfl)))))))) dX_change_34 ?_
    refine lv_iand hx hb dX_change_36 ?_
    refine xput_status S hw dX_change_37 (fun H locs hw => ?_)
    rw [show kX_change σ a1 a2 = kX_change_c40 (xI σ 2 (a2 &&& (15732735 : Int32))) a2 from (by rw [kX_change, if_pos h_1_0])]
    exact jX_change_c40 l D h qm qr cA S hR hlk (xI σ 2 (a2 &&& (15732735 : Int32))) a2  (lv_sub hl [0, 2] rfl) hw
  by_cases h_1_1 : a1 = (1 : Int32)
  · refine z_tsC (tgt := 48) hx hb dX_change_1 h_1_1 (by decide) (by decide) rfl (by decide) ?_
    refine lv_aload_n hx hb dX_change_48 rfl (lv_at hl 0 rfl) ?_
    refine lv_iload_n hx hb dX_change_49 rfl (lv_at hl 2 rfl) ?_
    refine lv_sipush (v := 255) hx hb dX_change_50 (by decide) ?_
    refine lv_iand hx hb dX_change_53 ?_
    refine xput_invalid S hw dX_change_54 (fun H locs hw => ?_)
    refine lv_goto (tgt := 90) hx hb dX_change_57 (by decide) ?_
    exact z_vret S hR hlk hw dX_change_90 (by rw [kX_change, if_neg h_1_0, if_pos h_1_1])
  by_cases h_1_2 : a1 = (2 : Int32)
  · refine z_tsC (tgt := 60) hx hb dX_change_1 h_1_2 (by decide) (by decide) rfl (by decide) ?_
    refine lv_aload_n hx hb dX_change_60 rfl (lv_at hl 0 rfl) ?_
    refine lv_iload_n hx hb dX_change_61 rfl (lv_at hl 2 rfl) ?_
    refine lv_bipush (v := -16) hx hb dX_change_62 (by decide) ?_
    refine lv_iand hx hb dX_change_64 ?_
    refine xput_table S hw dX_change_65 (fun H locs hw => ?_)
    refine lv_goto (tgt := 90) hx hb dX_change_68 (by decide) ?_
    exact z_vret S hR hlk hw dX_change_90 (by rw [kX_change, if_neg h_1_0, if_neg h_1_1, if_pos h_1_2])
  by_cases h_1_3 : a1 = (3 : Int32)
  · refine z_tsC (tgt := 71) hx hb dX_change_1 h_1_3 (by decide) (by decide) rfl (by decide) ?_
    refine lv_aload_n hx hb dX_change_71 rfl (lv_at hl 0 rfl) ?_
    refine lv_iload_n hx hb dX_change_72 rfl (lv_at hl 2 rfl) ?_
    refine lv_bipush (v := -4) hx hb dX_change_73 (by decide) ?_
    refine lv_iand hx hb dX_change_75 ?_
    refine xput_place S hw dX_change_76 (fun H locs hw => ?_)
    refine lv_goto (tgt := 90) hx hb dX_change_79 (by decide) ?_
    exact z_vret S hR hlk hw dX_change_90 (by rw [kX_change, if_neg h_1_0, if_neg h_1_1, if_neg h_1_2, if_pos h_1_3])
  refine z_tsD (tgt := 82) (xs := [(0 : Int32), (1 : Int32), (2 : Int32), (3 : Int32)]) hx hb dX_change_1 (by simp only [List.forall_mem_cons, List.not_mem_nil, false_imp_iff, implies_true, and_true]; exact ⟨h_1_0, h_1_1, h_1_2, h_1_3⟩) (by decide) (by decide) ?_
  refine lv_aload_n hx hb dX_change_82 rfl (lv_at hl 0 rfl) ?_
  refine lv_iload_n hx hb dX_change_83 rfl (lv_at hl 2 rfl) ?_
  refine lv_bipush (v := -4) hx hb dX_change_84 (by decide) ?_
  refine lv_iand hx hb dX_change_86 ?_
  refine xput_next S hw dX_change_87 (fun H locs hw => ?_)
  exact z_vret S hR hlk hw dX_change_90 (by rw [kX_change, if_neg h_1_0, if_neg h_1_1, if_neg h_1_2, if_neg h_1_3])
def kX_holdsPlainly_c20 (σ : XS) (v1 : Int32) (s0 : Bool) : Bool :=
  if v1 = (1 : Int32) then
    (kX_has σ (4194304 : Int32))
  else
    if v1 = (2 : Int32) then
      if (bI (kX_has σ (4194304 : Int32))) = 0 then
        if (bI s0) = 0 then
          false
        else
          true
      else
        true
    else
      if v1 = (3 : Int32) then
        s0
      else
        if v1 = (4 : Int32) then
          if (bI (kX_has σ (1048576 : Int32))) = 0 then
            if (bI (kX_has σ (4194304 : Int32))) = 0 then
              false
            else
              true
          else
            true
        else
          if v1 = (5 : Int32) then
            (kX_has σ (1048576 : Int32))
          else
            if v1 = (6 : Int32) then
              (kX_has σ (8388608 : Int32))
            else
              if v1 = (7 : Int32) then
                (kX_has σ (2097152 : Int32))
              else
                false
def kX_holdsPlainly (σ : XS) (a1 : Int32) : Bool :=
  if (bI (kX_has σ (8388608 : Int32))) = (bI (kX_has σ (2097152 : Int32))) then
    kX_holdsPlainly_c20 σ a1 false
  else
    kX_holdsPlainly_c20 σ a1 true
set_option maxRecDepth 100000 in
set_option maxHeartbeats 4000000 in
theorem jX_holdsPlainly_c20 (l : Launch) (D : va_G) (h qm qr : Nat) (cA : ClassId) {p : Program} {e : Env} {s : State} {m : MethodId} {args : Array Value} {below : List Frame} {meth : Method} {c : Code} (S : CallFix p m c bX_holdsPlainly 3 s args wAll RX) (hR : meth.sig.returnType = (some .boolean)) (hlk : meth.locks = false) {ls : Array Slot} {H : Heap} {locs : List Loc} (σ : XS) (v1 : Int32) (s0 : Bool) (hl : lv_has ls 3 [(0, .ref h), (1, .int v1)]) (hw : xH D h qm qr cA s σ H locs) : W p l e { frames := 1, cells := 0, slots := 0, locals := 21 } s m args below meth c H locs 0 0 (xQi D h qm qr cA below args s (bI (kX_holdsPlainly_c20 σ v1 s0)) σ) (F0 m 20 ls [.int (bI s0)]) := by
  have hx := S.1
  have hb := S.2.1
  refine lv_istore_n (lv' := [(2, .int (bI s0)), (0, .ref h), (1, .int v1)]) hx hb dX_holdsPlainly_20 rfl hl (by decide) rfl (fun ls hl => ?_)
  refine lv_iload_n hx hb dX_holdsPlainly_21 rfl (lv_at hl 2 rfl) ?_
  by_cases h_22_1 : v1 = (1 : Int32)
  · refine z_tsC (tgt := 64) hx hb dX_holdsPlainly_22 h_22_1 (by decide) (by decide) rfl (by decide) ?_
    refine lv_aload_n hx hb dX_holdsPlainly_64 rfl (lv_at hl 1 rfl) ?_
    refine lv_ldc (v := 4194304) hx hb S.2.2.2.1 (S.2.2.2.2 _ (List.mem_append_left _ (List.mem_append_left _ (List.mem_append_right _ (List.mem_append_right _ (List.mem_append_left _ (List.mem_append_left _ (List.mem_of_getElem? (i := 3) rfl)))))))) dX_holdsPlainly_65 ?_
    refine z_calli S (cX_has l D h qm qr cA σ (4194304 : Int32)) (qX_has S.2.2.2.2 ⟨Nat.le_of_ble_eq_true rfl, Nat.le_of_ble_eq_true rfl⟩) hw rfl rfl rfl hl.1 rfl (Nat.le_of_ble_eq_true rfl) dX_holdsPlainly_67 (fun H locs hw => ?_)
    exact z_zret (v := (kX_has σ (4194304 : Int32))) S hR hlk hw dX_holdsPlainly_70 (by rw [kX_holdsPlainly_c20, if_pos h_22_1])
  by_cases h_22_2 : v1 = (2 : Int32)
  · refine z_tsC (tgt := 71) hx hb dX_holdsPlainly_22 h_22_2 (by decide) (by decide) rfl (by decide) ?_
    refine lv_aload_n hx hb dX_holdsPlainly_71 rfl (lv_at hl 1 rfl) ?_
    refine lv_ldc (v := 4194304) hx hb S.2.2.2.1 (S.2.2.2.2 _ (List.mem_append_left _ (List.mem_append_left _ (List.mem_append_right _ (List.mem_append_right _ (List.mem_append_left _ (List.mem_append_left _ (List.mem_of_getElem? (i := 3) rfl)))))))) dX_holdsPlainly_72 ?_
    refine z_calli S (cX_has l D h qm qr cA σ (4194304 : Int32)) (qX_has S.2.2.2.2 ⟨Nat.le_of_ble_eq_true rfl, Nat.le_of_ble_eq_true rfl⟩) hw rfl rfl rfl hl.1 rfl (Nat.le_of_ble_eq_true rfl) dX_holdsPlainly_74 (fun H locs hw => ?_)
    refine lv_if_ne (tgt := 84) hx hb dX_holdsPlainly_77 (by decide) (fun h_77 => ?_) (fun h_77 => ?_)
    · skip
      refine lv_iconst (v := 1) hx hb dX_holdsPlainly_84 (by decide) ?_
      refine lv_goto (tgt := 89) hx hb dX_holdsPlainly_85 (by decide) ?_
      exact z_zret (v := true) S hR hlk hw dX_holdsPlainly_89 (by rw [kX_holdsPlainly_c20, if_neg h_22_1, if_pos h_22_2, if_neg h_77])
    · skip
      refine lv_iload_n hx hb dX_holdsPlainly_80 rfl (lv_at hl 0 rfl) ?_
      refine lv_if_eq (tgt := 88) hx hb dX_holdsPlainly_81 (by decide) (fun h_81 => ?_) (fun h_81 => ?_)
      · skip
        refine lv_iconst (v := 0) hx hb dX_holdsPlainly_88 (by decide) ?_
        exact z_zret (v := false) S hR hlk hw dX_holdsPlainly_89 (by rw [kX_holdsPlainly_c20, if_neg h_22_1, if_pos h_22_2, if_pos h_77, if_pos h_81])
      · skip
        refine lv_iconst (v := 1) hx hb dX_holdsPlainly_84 (by decide) ?_
        refine lv_goto (tgt := 89) hx hb dX_holdsPlainly_85 (by decide) ?_
        exact z_zret (v := true) S hR hlk hw dX_holdsPlainly_89 (by rw [kX_holdsPlainly_c20, if_neg h_22_1, if_pos h_22_2, if_pos h_77, if_neg h_81])
  by_cases h_22_3 : v1 = (3 : Int32)
  · refine z_tsC (tgt := 90) hx hb dX_holdsPlainly_22 h_22_3 (by decide) (by decide) rfl (by decide) ?_
    refine lv_iload_n hx hb dX_holdsPlainly_90 rfl (lv_at hl 0 rfl) ?_
    exact z_zret (v := s0) S hR hlk hw dX_holdsPlainly_91 (by rw [kX_holdsPlainly_c20, if_neg h_22_1, if_neg h_22_2, if_pos h_22_3])
  by_cases h_22_4 : v1 = (4 : Int32)
  · refine z_tsC (tgt := 92) hx hb dX_holdsPlainly_22 h_22_4 (by decide) (by decide) rfl (by decide) ?_
    refine lv_aload_n hx hb dX_holdsPlainly_92 rfl (lv_at hl 1 rfl) ?_
    refine lv_ldc (v := 1048576) hx hb S.2.2.2.1 (S.2.2.2.2 _ (List.mem_append_left _ (List.mem_append_left _ (List.mem_append_right _ (List.mem_append_right _ (List.mem_append_left _ (List.mem_append_left _ (List.mem_of_getElem? (i := 4) rfl)))))))) dX_holdsPlainly_93 ?_
    refine z_calli S (cX_has l D h qm qr cA σ (1048576 : Int32)) (qX_has S.2.2.2.2 ⟨Nat.le_of_ble_eq_true rfl, Nat.le_of_ble_eq_true rfl⟩) hw rfl rfl rfl hl.1 rfl (Nat.le_of_ble_eq_true rfl) dX_holdsPlainly_95 (fun H locs hw => ?_)
    refine lv_if_ne (tgt := 110) hx hb dX_holdsPlainly_98 (by decide) (fun h_98 => ?_) (fun h_98 => ?_)
    · skip
      refine lv_iconst (v := 1) hx hb dX_holdsPlainly_110 (by decide) ?_
      refine lv_goto (tgt := 115) hx hb dX_holdsPlainly_111 (by decide) ?_
      exact z_zret (v := true) S hR hlk hw dX_holdsPlainly_115 (by rw [kX_holdsPlainly_c20, if_neg h_22_1, if_neg h_22_2, if_neg h_22_3, if_pos h_22_4, if_neg h_98])
    · skip
      refine lv_aload_n hx hb dX_holdsPlainly_101 rfl (lv_at hl 1 rfl) ?_
      refine lv_ldc (v := 4194304) hx hb S.2.2.2.1 (S.2.2.2.2 _ (List.mem_append_left _ (List.mem_append_left _ (List.mem_append_right _ (List.mem_append_right _ (List.mem_append_left _ (List.mem_append_left _ (List.mem_of_getElem? (i := 3) rfl)))))))) dX_holdsPlainly_102 ?_
      refine z_calli S (cX_has l D h qm qr cA σ (4194304 : Int32)) (qX_has S.2.2.2.2 ⟨Nat.le_of_ble_eq_true rfl, Nat.le_of_ble_eq_true rfl⟩) hw rfl rfl rfl hl.1 rfl (Nat.le_of_ble_eq_true rfl) dX_holdsPlainly_104 (fun H locs hw => ?_)
      refine lv_if_eq (tgt := 114) hx hb dX_holdsPlainly_107 (by decide) (fun h_107 => ?_) (fun h_107 => ?_)
      · skip
        refine lv_iconst (v := 0) hx hb dX_holdsPlainly_114 (by decide) ?_
        exact z_zret (v := false) S hR hlk hw dX_holdsPlainly_115 (by rw [kX_holdsPlainly_c20, if_neg h_22_1, if_neg h_22_2, if_neg h_22_3, if_pos h_22_4, if_pos h_98, if_pos h_107])
      · skip
        refine lv_iconst (v := 1) hx hb dX_holdsPlainly_110 (by decide) ?_
        refine lv_goto (tgt := 115) hx hb dX_holdsPlainly_111 (by decide) ?_
        exact z_zret (v := true) S hR hlk hw dX_holdsPlainly_115 (by rw [kX_holdsPlainly_c20, if_neg h_22_1, if_neg h_22_2, if_neg h_22_3, if_pos h_22_4, if_pos h_98, if_neg h_107])
  by_cases h_22_5 : v1 = (5 : Int32)
  · refine z_tsC (tgt := 116) hx hb dX_holdsPlainly_22 h_22_5 (by decide) (by decide) rfl (by decide) ?_
    refine lv_aload_n hx hb dX_holdsPlainly_116 rfl (lv_at hl 1 rfl) ?_
    refine lv_ldc (v := 1048576) hx hb S.2.2.2.1 (S.2.2.2.2 _ (List.mem_append_left _ (List.mem_append_left _ (List.mem_append_right _ (List.mem_append_right _ (List.mem_append_left _ (List.mem_append_left _ (List.mem_of_getElem? (i := 4) rfl)))))))) dX_holdsPlainly_117 ?_
    refine z_calli S (cX_has l D h qm qr cA σ (1048576 : Int32)) (qX_has S.2.2.2.2 ⟨Nat.le_of_ble_eq_true rfl, Nat.le_of_ble_eq_true rfl⟩) hw rfl rfl rfl hl.1 rfl (Nat.le_of_ble_eq_true rfl) dX_holdsPlainly_119 (fun H locs hw => ?_)
    exact z_zret (v := (kX_has σ (1048576 : Int32))) S hR hlk hw dX_holdsPlainly_122 (by rw [kX_holdsPlainly_c20, if_neg h_22_1, if_neg h_22_2, if_neg h_22_3, if_neg h_22_4, if_pos h_22_5])
  by_cases h_22_6 : v1 = (6 : Int32)
  · refine z_tsC (tgt := 123) hx hb dX_holdsPlainly_22 h_22_6 (by decide) (by decide) rfl (by decide) ?_
    refine lv_aload_n hx hb dX_holdsPlainly_123 rfl (lv_at hl 1 rfl) ?_
    refine lv_ldc (v := 8388608) hx hb S.2.2.2.1 (S.2.2.2.2 _ (List.mem_append_left _ (List.mem_append_left _ (List.mem_append_right _ (List.mem_append_right _ (List.mem_append_left _ (List.mem_append_left _ (List.mem_of_getElem? (i := 1) rfl)))))))) dX_holdsPlainly_124 ?_
    refine z_calli S (cX_has l D h qm qr cA σ (8388608 : Int32)) (qX_has S.2.2.2.2 ⟨Nat.le_of_ble_eq_true rfl, Nat.le_of_ble_eq_true rfl⟩) hw rfl rfl rfl hl.1 rfl (Nat.le_of_ble_eq_true rfl) dX_holdsPlainly_126 (fun H locs hw => ?_)
    exact z_zret (v := (kX_has σ (8388608 : Int32))) S hR hlk hw dX_holdsPlainly_129 (by rw [kX_holdsPlainly_c20, if_neg h_22_1, if_neg h_22_2, if_neg h_22_3, if_neg h_22_4, if_neg h_22_5, if_pos h_22_6])
  by_cases h_22_7 : v1 = (7 : Int32)
  · refine z_tsC (tgt := 130) hx hb dX_holdsPlainly_22 h_22_7 (by decide) (by decide) rfl (by decide) ?_
    refine lv_aload_n hx hb dX_holdsPlainly_130 rfl (lv_at hl 1 rfl) ?_
    refine lv_ldc (v := 2097152) hx hb S.2.2.2.1 (S.2.2.2.2 _ (List.mem_append_left _ (List.mem_append_left _ (List.mem_append_right _ (List.mem_append_right _ (List.mem_append_left _ (List.mem_append_left _ (List.mem_of_getElem? (i := 2) rfl)))))))) dX_holdsPlainly_131 ?_
    refine z_calli S (cX_has l D h qm qr cA σ (2097152 : Int32)) (qX_has S.2.2.2.2 ⟨Nat.le_of_ble_eq_true rfl, Nat.le_of_ble_eq_true rfl⟩) hw rfl rfl rfl hl.1 rfl (Nat.le_of_ble_eq_true rfl) dX_holdsPlainly_133 (fun H locs hw => ?_)
    exact z_zret (v := (kX_has σ (2097152 : Int32))) S hR hlk hw dX_holdsPlainly_136 (by rw [kX_holdsPlainly_c20, if_neg h_22_1, if_neg h_22_2, if_neg h_22_3, if_neg h_22_4, if_neg h_22_5, if_neg h_22_6, if_pos h_22_7])
  refine z_tsD (tgt := 137) (xs := [(1 : Int32), (2 : Int32), (3 : Int32), (4 : Int32), (5 : Int32), (6 : Int32), (7 : Int32)]) hx hb dX_holdsPlainly_22 (by simp only [List.forall_mem_cons, List.not_mem_nil, false_imp_iff, implies_true, and_true]; exact ⟨h_22_1, h_22_2, h_22_3, h_22_4, h_22_5, h_22_6, h_22_7⟩) (by decide) (by decide) ?_
  refine lv_iconst (v := 0) hx hb dX_holdsPlainly_137 (by decide) ?_
  exact z_zret (v := false) S hR hlk hw dX_holdsPlainly_138 (by rw [kX_holdsPlainly_c20, if_neg h_22_1, if_neg h_22_2, if_neg h_22_3, if_neg h_22_4, if_neg h_22_5, if_neg h_22_6, if_neg h_22_7])
set_option maxRecDepth 100000 in
set_option maxHeartbeats 4000000 in
theorem cX_holdsPlainly (l : Launch) (D : va_G) (h qm qr : Nat) (cA : ClassId) (σ : XS) (a1 : Int32) : xMi l yX_holdsPlainly (.code yX_holdsPlainly bX_holdsPlainly 3 (some .boolean) :: wAll) { frames := 1, cells := 0, slots := 0, locals := 21 } D h qm qr cA [.ref h, .int a1] σ (bI (kX_holdsPlainly σ a1)) σ := by
  refine z_entryi (cc := bX_holdsPlainly) (nL := 3) (by decide) rfl rfl (Nat.le_of_ble_eq_true rfl) (fun p e s m args below meth c S hR hlk ls H locs hl hw => ?_)
  have hx := S.1
  have hb := S.2.1
  have hl : lv_has ls 3 [(0, .ref h), (1, .int a1)] := hl
  refine lv_aload_n hx hb dX_holdsPlainly_0 rfl (lv_at hl 0 rfl) ?_
  refine lv_ldc (v := 8388608) hx hb S.2.2.2.1 (S.2.2.2.2 _ (List.mem_append_left _ (List.mem_append_left _ (List.mem_append_right _ (List.mem_append_right _ (List.mem_append_left _ (List.mem_append_left _ (List.mem_of_getElem? (i := 1) rfl)))))))) dX_holdsPlainly_1 ?_
  refine z_calli S (cX_has l D h qm qr cA σ (8388608 : Int32)) (qX_has S.2.2.2.2 ⟨Nat.le_of_ble_eq_true rfl, Nat.le_of_ble_eq_true rfl⟩) hw rfl rfl rfl hl.1 rfl (Nat.le_of_ble_eq_true rfl) dX_holdsPlainly_3 (fun H locs hw => ?_)
  refine lv_aload_n hx hb dX_holdsPlainly_6 rfl (lv_at hl 0 rfl) ?_
  refine lv_ldc (v := 2097152) hx hb S.2.2.2.1 (S.2.2.2.2 _ (List.mem_append_left _ (List.mem_append_left _ (List.mem_append_right _ (List.mem_append_right _ (List.mem_append_left _ (List.mem_append_left _ (List.mem_of_getElem? (i := 2) rfl)))))))) dX_holdsPlainly_7 ?_
  refine z_calli S (cX_has l D h qm qr cA σ (2097152 : Int32)) (qX_has S.2.2.2.2 ⟨Nat.le_of_ble_eq_true rfl, Nat.le_of_ble_eq_true rfl⟩) hw rfl rfl rfl hl.1 rfl (Nat.le_of_ble_eq_true rfl) dX_holdsPlainly_9 (fun H locs hw => ?_)
  refine lv_icmp_eq (tgt := 19) hx hb dX_holdsPlainly_12 (by decide) (fun h_12 => ?_) (fun h_12 => ?_)
  · skip
    refine lv_iconst (v := 0) hx hb dX_holdsPlainly_19 (by decide) ?_
    rw [show kX_holdsPlainly σ a1 = kX_holdsPlainly_c20 σ a1 false from (by rw [kX_holdsPlainly, if_pos h_12])]
    exact jX_holdsPlainly_c20 l D h qm qr cA S hR hlk σ a1 false  (lv_sub hl [0, 1] rfl) hw
  · skip
    refine lv_iconst (v := 1) hx hb dX_holdsPlainly_15 (by decide) ?_
    refine lv_goto (tgt := 20) hx hb dX_holdsPlainly_16 (by decide) ?_
    rw [show kX_holdsPlainly σ a1 = kX_holdsPlainly_c20 σ a1 true from (by rw [kX_holdsPlainly, if_neg h_12])]
    exact jX_holdsPlainly_c20 l D h qm qr cA S hR hlk σ a1 true  (lv_sub hl [0, 1] rfl) hw
def kX_holds_c11 (σ : XS) (v1 : Int32) (s0 : Bool) : Bool :=
  if (bI (kX_holdsPlainly σ (v1 &&& (7 : Int32)))) = (bI s0) then
    false
  else
    true
def kX_holds (σ : XS) (a1 : Int32) : Bool :=
  if a1 < (8 : Int32) then
    kX_holds_c11 σ a1 false
  else
    kX_holds_c11 σ a1 true
set_option maxRecDepth 100000 in
set_option maxHeartbeats 4000000 in
theorem jX_holds_c11 (l : Launch) (D : va_G) (h qm qr : Nat) (cA : ClassId) {p : Program} {e : Env} {s : State} {m : MethodId} {args : Array Value} {below : List Frame} {meth : Method} {c : Code} (S : CallFix p m c bX_holds 3 s args wAll RX) (hR : meth.sig.returnType = (some .boolean)) (hlk : meth.locks = false) {ls : Array Slot} {H : Heap} {locs : List Loc} (σ : XS) (v1 : Int32) (s0 : Bool) (hl : lv_has ls 3 [(0, .ref h), (1, .int v1)]) (hw : xH D h qm qr cA s σ H locs) : W p l e { frames := 2, cells := 0, slots := 0, locals := 43 } s m args below meth c H locs 0 0 (xQi D h qm qr cA below args s (bI (kX_holds_c11 σ v1 s0)) σ) (F0 m 11 ls [.int (bI s0)]) := by
  have hx := S.1
  have hb := S.2.1
  refine lv_istore_n (lv' := [(2, .int (bI s0)), (0, .ref h), (1, .int v1)]) hx hb dX_holds_11 rfl hl (by decide) rfl (fun ls hl => ?_)
  refine lv_aload_n hx hb dX_holds_12 rfl (lv_at hl 1 rfl) ?_
  refine lv_iload_n hx hb dX_holds_13 rfl (lv_at hl 2 rfl) ?_
  refine lv_bipush (v := 7) hx hb dX_holds_14 (by decide) ?_
  refine lv_iand hx hb dX_holds_16 ?_
  refine z_calli S (cX_holdsPlainly l D h qm qr cA σ (v1 &&& (7 : Int32))) (qX_holdsPlainly S.2.2.2.2 ⟨Nat.le_of_ble_eq_true rfl, Nat.le_of_ble_eq_true rfl⟩) hw rfl rfl rfl hl.1 rfl (Nat.le_of_ble_eq_true rfl) dX_holds_17 (fun H locs hw => ?_)
  refine lv_iload_n hx hb dX_holds_20 rfl (lv_at hl 0 rfl) ?_
  refine lv_icmp_eq (tgt := 28) hx hb dX_holds_21 (by decide) (fun h_21 => ?_) (fun h_21 => ?_)
  · skip
    refine lv_iconst (v := 0) hx hb dX_holds_28 (by decide) ?_
    exact z_zret (v := false) S hR hlk hw dX_holds_29 (by rw [kX_holds_c11, if_pos h_21])
  · skip
    refine lv_iconst (v := 1) hx hb dX_holds_24 (by decide) ?_
    refine lv_goto (tgt := 29) hx hb dX_holds_25 (by decide) ?_
    exact z_zret (v := true) S hR hlk hw dX_holds_29 (by rw [kX_holds_c11, if_neg h_21])
set_option maxRecDepth 100000 in
set_option maxHeartbeats 4000000 in
theorem cX_holds (l : Launch) (D : va_G) (h qm qr : Nat) (cA : ClassId) (σ : XS) (a1 : Int32) : xMi l yX_holds (.code yX_holds bX_holds 3 (some .boolean) :: wAll) { frames := 2, cells := 0, slots := 0, locals := 43 } D h qm qr cA [.ref h, .int a1] σ (bI (kX_holds σ a1)) σ := by
  refine z_entryi (cc := bX_holds) (nL := 3) (by decide) rfl rfl (Nat.le_of_ble_eq_true rfl) (fun p e s m args below meth c S hR hlk ls H locs hl hw => ?_)
  have hx := S.1
  have hb := S.2.1
  have hl : lv_has ls 3 [(0, .ref h), (1, .int a1)] := hl
  refine lv_iload_n hx hb dX_holds_0 rfl (lv_at hl 1 rfl) ?_
  refine lv_bipush (v := 8) hx hb dX_holds_1 (by decide) ?_
  refine lv_icmp_lt (tgt := 10) hx hb dX_holds_3 (by decide) (fun h_3 => ?_) (fun h_3 => ?_)
  · skip
    refine lv_iconst (v := 0) hx hb dX_holds_10 (by decide) ?_
    rw [show kX_holds σ a1 = kX_holds_c11 σ a1 false from (by rw [kX_holds, if_pos h_3])]
    exact jX_holds_c11 l D h qm qr cA S hR hlk σ a1 false  (lv_sub hl [0, 1] rfl) hw
  · skip
    refine lv_iconst (v := 1) hx hb dX_holds_6 (by decide) ?_
    refine lv_goto (tgt := 11) hx hb dX_holds_7 (by decide) ?_
    rw [show kX_holds σ a1 = kX_holds_c11 σ a1 true from (by rw [kX_holds, if_neg h_3])]
    exact jX_holds_c11 l D h qm qr cA S hR hlk σ a1 true  (lv_sub hl [0, 1] rfl) hw
def kX_resultOf (a0 : Int32) (a1 : Int32) (a2 : Int32) (a3 : Int32) : Int32 :=
  if a0 = (1 : Int32) then
    (a1 &&& a2)
  else
    if a0 = (2 : Int32) then
      (a1 ||| a2)
    else
      if a0 = (3 : Int32) then
        (a1 ^^^ a2)
      else
        if a0 = (4 : Int32) then
          ((a1 - a2) - a3)
        else
          if a0 = (5 : Int32) then
            (a1 &&& (a2 ^^^ (-1 : Int32)))
          else
            if a0 = (6 : Int32) then
              (a1 ||| (a2 ^^^ (-1 : Int32)))
            else
              if a0 = (7 : Int32) then
                (a1 ^^^ (a2 ^^^ (-1 : Int32)))
              else
                if a0 = (12 : Int32) then
                  ((a1 - a2) - a3)
                else
                  ((a1 + a2) + a3)
set_option maxRecDepth 100000 in
set_option maxHeartbeats 4000000 in
theorem cX_resultOf (l : Launch) (D : va_G) (a0 : Int32) (a1 : Int32) (a2 : Int32) (a3 : Int32) : sMi l yX_resultOf (.code yX_resultOf bX_resultOf 4 (some .int) :: wAll) { frames := 0, cells := 0, slots := 0, locals := 0 } D [.int a0, .int a1, .int a2, .int a3] (kX_resultOf a0 a1 a2 a3)  := by
  refine z_entryi (cc := bX_resultOf) (nL := 4) (by decide) rfl rfl (Nat.le_of_ble_eq_true rfl) (fun p e s m args below meth c S hR hlk ls H locs hl hw => ?_)
  have hx := S.1
  have hb := S.2.1
  have hl : lv_has ls 4 [(0, .int a0), (1, .int a1), (2, .int a2), (3, .int a3)] := hl
  refine lv_iload_n hx hb dX_resultOf_0 rfl (lv_at hl 0 rfl) ?_
  by_cases h_1_1 : a0 = (1 : Int32)
  · refine z_tsC (tgt := 64) hx hb dX_resultOf_1 h_1_1 (by decide) (by decide) rfl (by decide) ?_
    refine lv_iload_n hx hb dX_resultOf_64 rfl (lv_at hl 1 rfl) ?_
    refine lv_iload_n hx hb dX_resultOf_65 rfl (lv_at hl 2 rfl) ?_
    refine lv_iand hx hb dX_resultOf_66 ?_
    exact z_iret S hR hlk hw dX_resultOf_67 (by rw [kX_resultOf, if_pos h_1_1])
  by_cases h_1_2 : a0 = (2 : Int32)
  · refine z_tsC (tgt := 68) hx hb dX_resultOf_1 h_1_2 (by decide) (by decide) rfl (by decide) ?_
    refine lv_iload_n hx hb dX_resultOf_68 rfl (lv_at hl 1 rfl) ?_
    refine lv_iload_n hx hb dX_resultOf_69 rfl (lv_at hl 2 rfl) ?_
    refine lv_ior hx hb dX_resultOf_70 ?_
    exact z_iret S hR hlk hw dX_resultOf_71 (by rw [kX_resultOf, if_neg h_1_1, if_pos h_1_2])
  by_cases h_1_3 : a0 = (3 : Int32)
  · refine z_tsC (tgt := 72) hx hb dX_resultOf_1 h_1_3 (by decide) (by decide) rfl (by decide) ?_
    refine lv_iload_n hx hb dX_resultOf_72 rfl (lv_at hl 1 rfl) ?_
    refine lv_iload_n hx hb dX_resultOf_73 rfl (lv_at hl 2 rfl) ?_
    refine lv_ixor hx hb dX_resultOf_74 ?_
    exact z_iret S hR hlk hw dX_resultOf_75 (by rw [kX_resultOf, if_neg h_1_1, if_neg h_1_2, if_pos h_1_3])
  by_cases h_1_4 : a0 = (4 : Int32)
  · refine z_tsC (tgt := 94) hx hb dX_resultOf_1 h_1_4 (by decide) (by decide) rfl (by decide) ?_
    refine lv_iload_n hx hb dX_resultOf_94 rfl (lv_at hl 1 rfl) ?_
    refine lv_iload_n hx hb dX_resultOf_95 rfl (lv_at hl 2 rfl) ?_
    refine lv_isub hx hb dX_resultOf_96 ?_
    refine lv_iload_n hx hb dX_resultOf_97 rfl (lv_at hl 3 rfl) ?_
    refine lv_isub hx hb dX_resultOf_98 ?_
    exact z_iret S hR hlk hw dX_resultOf_99 (by rw [kX_resultOf, if_neg h_1_1, if_neg h_1_2, if_neg h_1_3, if_pos h_1_4])
  by_cases h_1_5 : a0 = (5 : Int32)
  · refine z_tsC (tgt := 76) hx hb dX_resultOf_1 h_1_5 (by decide) (by decide) rfl (by decide) ?_
    refine lv_iload_n hx hb dX_resultOf_76 rfl (lv_at hl 1 rfl) ?_
    refine lv_iload_n hx hb dX_resultOf_77 rfl (lv_at hl 2 rfl) ?_
    refine lv_iconst (v := -1) hx hb dX_resultOf_78 (by decide) ?_
    refine lv_ixor hx hb dX_resultOf_79 ?_
    refine lv_iand hx hb dX_resultOf_80 ?_
    exact z_iret S hR hlk hw dX_resultOf_81 (by rw [kX_resultOf, if_neg h_1_1, if_neg h_1_2, if_neg h_1_3, if_neg h_1_4, if_pos h_1_5])
  by_cases h_1_6 : a0 = (6 : Int32)
  · refine z_tsC (tgt := 82) hx hb dX_resultOf_1 h_1_6 (by decide) (by decide) rfl (by decide) ?_
    refine lv_iload_n hx hb dX_resultOf_82 rfl (lv_at hl 1 rfl) ?_
    refine lv_iload_n hx hb dX_resultOf_83 rfl (lv_at hl 2 rfl) ?_
    refine lv_iconst (v := -1) hx hb dX_resultOf_84 (by decide) ?_
    refine lv_ixor hx hb dX_resultOf_85 ?_
    refine lv_ior hx hb dX_resultOf_86 ?_
    exact z_iret S hR hlk hw dX_resultOf_87 (by rw [kX_resultOf, if_neg h_1_1, if_neg h_1_2, if_neg h_1_3, if_neg h_1_4, if_neg h_1_5, if_pos h_1_6])
  by_cases h_1_7 : a0 = (7 : Int32)
  · refine z_tsC (tgt := 88) hx hb dX_resultOf_1 h_1_7 (by decide) (by decide) rfl (by decide) ?_
    refine lv_iload_n hx hb dX_resultOf_88 rfl (lv_at hl 1 rfl) ?_
    refine lv_iload_n hx hb dX_resultOf_89 rfl (lv_at hl 2 rfl) ?_
    refine lv_iconst (v := -1) hx hb dX_resultOf_90 (by decide) ?_
    refine lv_ixor hx hb dX_resultOf_91 ?_
    refine lv_ixor hx hb dX_resultOf_92 ?_
    exact z_iret S hR hlk hw dX_resultOf_93 (by rw [kX_resultOf, if_neg h_1_1, if_neg h_1_2, if_neg h_1_3, if_neg h_1_4, if_neg h_1_5, if_neg h_1_6, if_pos h_1_7])
  by_cases h_1_12 : a0 = (12 : Int32)
  · refine z_tsC (tgt := 94) hx hb dX_resultOf_1 h_1_12 (by decide) (by decide) rfl (by decide) ?_
    refine lv_iload_n hx hb dX_resultOf_94 rfl (lv_at hl 1 rfl) ?_
    refine lv_iload_n hx hb dX_resultOf_95 rfl (lv_at hl 2 rfl) ?_
    refine lv_isub hx hb dX_resultOf_96 ?_
    refine lv_iload_n hx hb dX_resultOf_97 rfl (lv_at hl 3 rfl) ?_
    refine lv_isub hx hb dX_resultOf_98 ?_
    exact z_iret S hR hlk hw dX_resultOf_99 (by rw [kX_resultOf, if_neg h_1_1, if_neg h_1_2, if_neg h_1_3, if_neg h_1_4, if_neg h_1_5, if_neg h_1_6, if_neg h_1_7, if_pos h_1_12])
  refine z_tsD (tgt := 100) (xs := [(1 : Int32), (2 : Int32), (3 : Int32), (4 : Int32), (5 : Int32), (6 : Int32), (7 : Int32), (12 : Int32)]) hx hb dX_resultOf_1 (by simp only [List.forall_mem_cons, List.not_mem_nil, false_imp_iff, implies_true, and_true]; exact ⟨h_1_1, h_1_2, h_1_3, h_1_4, h_1_5, h_1_6, h_1_7, h_1_12⟩) (by decide) (by decide) ?_
  refine lv_iload_n hx hb dX_resultOf_100 rfl (lv_at hl 1 rfl) ?_
  refine lv_iload_n hx hb dX_resultOf_101 rfl (lv_at hl 2 rfl) ?_
  refine lv_iadd hx hb dX_resultOf_102 ?_
  refine lv_iload_n hx hb dX_resultOf_103 rfl (lv_at hl 3 rfl) ?_
  refine lv_iadd hx hb dX_resultOf_104 ?_
  exact z_iret S hR hlk hw dX_resultOf_105 (by rw [kX_resultOf, if_neg h_1_1, if_neg h_1_2, if_neg h_1_3, if_neg h_1_4, if_neg h_1_5, if_neg h_1_6, if_neg h_1_7, if_neg h_1_12])
def kX_flagsOfResult (a0 : Int32) : Int32 :=
  if a0 = 0 then
    (4194304 : Int32)
  else
    if 0 ≤ a0 then
      (0 : Int32)
    else
      (8388608 : Int32)
set_option maxRecDepth 100000 in
set_option maxHeartbeats 4000000 in
theorem cX_flagsOfResult (l : Launch) (D : va_G) (a0 : Int32) : sMi l yX_flagsOfResult (.code yX_flagsOfResult bX_flagsOfResult 1 (some .int) :: wAll) { frames := 0, cells := 0, slots := 0, locals := 0 } D [.int a0] (kX_flagsOfResult a0)  := by
  refine z_entryi (cc := bX_flagsOfResult) (nL := 1) (by decide) rfl rfl (Nat.le_of_ble_eq_true rfl) (fun p e s m args below meth c S hR hlk ls H locs hl hw => ?_)
  have hx := S.1
  have hb := S.2.1
  have hl : lv_has ls 1 [(0, .int a0)] := hl
  refine lv_iload_n hx hb dX_flagsOfResult_0 rfl (lv_at hl 0 rfl) ?_
  refine lv_if_ne (tgt := 7) hx hb dX_flagsOfResult_1 (by decide) (fun h_1 => ?_) (fun h_1 => ?_)
  · skip
    refine lv_iload_n hx hb dX_flagsOfResult_7 rfl (lv_at hl 0 rfl) ?_
    refine lv_if_ge (tgt := 16) hx hb dX_flagsOfResult_8 (by decide) (fun h_8 => ?_) (fun h_8 => ?_)
    · skip
      refine lv_iconst (v := 0) hx hb dX_flagsOfResult_16 (by decide) ?_
      exact z_iret S hR hlk hw dX_flagsOfResult_17 (by rw [kX_flagsOfResult, if_neg h_1, if_pos h_8])
    · skip
      refine lv_ldc (v := 8388608) hx hb S.2.2.2.1 (S.2.2.2.2 _ (List.mem_append_left _ (List.mem_append_left _ (List.mem_append_right _ (List.mem_append_right _ (List.mem_append_left _ (List.mem_append_left _ (List.mem_of_getElem? (i := 1) rfl)))))))) dX_flagsOfResult_11 ?_
      refine lv_goto (tgt := 17) hx hb dX_flagsOfResult_13 (by decide) ?_
      exact z_iret S hR hlk hw dX_flagsOfResult_17 (by rw [kX_flagsOfResult, if_neg h_1, if_neg h_8])
  · skip
    refine lv_ldc (v := 4194304) hx hb S.2.2.2.1 (S.2.2.2.2 _ (List.mem_append_left _ (List.mem_append_left _ (List.mem_append_right _ (List.mem_append_right _ (List.mem_append_left _ (List.mem_append_left _ (List.mem_of_getElem? (i := 3) rfl)))))))) dX_flagsOfResult_4 ?_
    exact z_iret S hR hlk hw dX_flagsOfResult_6 (by rw [kX_flagsOfResult, if_pos h_1])
def kX_total (a0 : Bool) (a1 : Int64) (a3 : Int64) : Int64 :=
  if (bI a0) = 0 then
    (a1 - a3)
  else
    (a1 + a3)
set_option maxRecDepth 100000 in
set_option maxHeartbeats 4000000 in
theorem cX_total (l : Launch) (D : va_G) (a0 : Bool) (a1 : Int64) (a3 : Int64) : sMl l yX_total (.code yX_total bX_total 5 (some .long) :: wAll) { frames := 0, cells := 0, slots := 0, locals := 0 } D [.int (bI a0), .long a1, .long a3] (kX_total a0 a1 a3)  := by
  refine z_entryl (cc := bX_total) (nL := 5) (by decide) rfl rfl (Nat.le_of_ble_eq_true rfl) (fun p e s m args below meth c S hR hlk ls H locs hl hw => ?_)
  have hx := S.1
  have hb := S.2.1
  have hl : lv_has ls 5 [(0, .int (bI a0)), (1, .long a1), (3, .long a3)] := hl
  refine lv_iload_n hx hb dX_total_0 rfl (lv_at hl 0 rfl) ?_
  refine lv_if_eq (tgt := 10) hx hb dX_total_1 (by decide) (fun h_1 => ?_) (fun h_1 => ?_)
  · skip
    refine lv_lload_n hx hb dX_total_10 rfl (lv_at hl 1 rfl) ?_
    refine lv_lload_n hx hb dX_total_11 rfl (lv_at hl 2 rfl) ?_
    refine lv_lsub hx hb dX_total_12 ?_
    exact z_lret S hR hlk hw dX_total_13 (by rw [kX_total, if_pos h_1])
  · skip
    refine lv_lload_n hx hb dX_total_4 rfl (lv_at hl 1 rfl) ?_
    refine lv_lload_n hx hb dX_total_5 rfl (lv_at hl 2 rfl) ?_
    refine lv_ladd hx hb dX_total_6 ?_
    refine lv_goto (tgt := 13) hx hb dX_total_7 (by decide) ?_
    exact z_lret S hR hlk hw dX_total_13 (by rw [kX_total, if_neg h_1])
def kX_unsigned (a0 : Int32) : Int64 :=
  ((a0.toInt64) &&& (4294967295 : Int64))
set_option maxRecDepth 100000 in
set_option maxHeartbeats 4000000 in
theorem cX_unsigned (l : Launch) (D : va_G) (a0 : Int32) : sMl l yX_unsigned (.code yX_unsigned bX_unsigned 1 (some .long) :: wAll) { frames := 0, cells := 0, slots := 0, locals := 0 } D [.int a0] (kX_unsigned a0)  := by
  refine z_entryl (cc := bX_unsigned) (nL := 1) (by decide) rfl rfl (Nat.le_of_ble_eq_true rfl) (fun p e s m args below meth c S hR hlk ls H locs hl hw => ?_)
  have hx := S.1
  have hb := S.2.1
  have hl : lv_has ls 1 [(0, .int a0)] := hl
  refine lv_iload_n hx hb dX_unsigned_0 rfl (lv_at hl 0 rfl) ?_
  refine lv_i2l (v := a0.toInt64) hx hb dX_unsigned_1 rfl ?_
  refine lv_ldc2 (v := 4294967295) hx hb S.2.2.2.1 (S.2.2.2.2 _ (List.mem_append_left _ (List.mem_append_right _ (List.mem_append_left _ (List.mem_append_left _ (List.mem_append_left _ (List.mem_append_left _ (List.mem_of_getElem? (i := 5) rfl)))))))) dX_unsigned_2 ?_
  refine lv_land hx hb dX_unsigned_5 ?_
  exact z_lret S hR hlk hw dX_unsigned_6 rfl
def kX_flagsOfCarrying_c115 (v10 : Int32) (s0 : Int32) : Int32 :=
  (v10 ||| s0)
def kX_flagsOfCarrying_c95 (v8 : Int64) (s0 : Int32) : Int32 :=
  if (lg_cmp v8 (kX_unsigned (v8.toInt32))) = 0 then
    kX_flagsOfCarrying_c115 s0 (0 : Int32)
  else
    kX_flagsOfCarrying_c115 s0 (1048576 : Int32)
def kX_flagsOfCarrying_c47 (v1 : Int32) (v2 : Int32) (v3 : Int32) (v4 : Bool) : Int32 :=
  if (lg_cmp (kX_total v4 (v1.toInt64) ((v2.toInt64) + (v3.toInt64))) (((kX_total v4 (v1.toInt64) ((v2.toInt64) + (v3.toInt64))).toInt32).toInt64)) = 0 then
    kX_flagsOfCarrying_c95 (kX_total v4 (kX_unsigned v1) ((kX_unsigned v2) + (v3.toInt64))) (0 : Int32)
  else
    kX_flagsOfCarrying_c95 (kX_total v4 (kX_unsigned v1) ((kX_unsigned v2) + (v3.toInt64))) (2097152 : Int32)
def kX_flagsOfCarrying_c33 (v1 : Int32) (v2 : Int32) (v3 : Int32) (v4 : Bool) (s0 : Bool) : Int32 :=
  if (bI v4) = 0 then
    if (bI s0) = 0 then
      (0 : Int32)
    else
      kX_flagsOfCarrying_c47 v1 v2 v3 v4
  else
    kX_flagsOfCarrying_c47 v1 v2 v3 v4
def kX_flagsOfCarrying_c28 (v1 : Int32) (v2 : Int32) (v3 : Int32) (v4 : Bool) : Int32 :=
  kX_flagsOfCarrying_c33 v1 v2 v3 v4 true
def kX_flagsOfCarrying_c15 (v0 : Int32) (v1 : Int32) (v2 : Int32) (v3 : Int32) (s0 : Bool) : Int32 :=
  if v0 = (4 : Int32) then
    kX_flagsOfCarrying_c28 v1 v2 v3 s0
  else
    if v0 = (12 : Int32) then
      kX_flagsOfCarrying_c28 v1 v2 v3 s0
    else
      kX_flagsOfCarrying_c33 v1 v2 v3 s0 false
def kX_flagsOfCarrying_c10 (v0 : Int32) (v1 : Int32) (v2 : Int32) (v3 : Int32) : Int32 :=
  kX_flagsOfCarrying_c15 v0 v1 v2 v3 true
def kX_flagsOfCarrying (a0 : Int32) (a1 : Int32) (a2 : Int32) (a3 : Int32) : Int32 :=
  if a0 = 0 then
    kX_flagsOfCarrying_c10 a0 a1 a2 a3
  else
    if a0 = (8 : Int32) then
      kX_flagsOfCarrying_c10 a0 a1 a2 a3
    else
      kX_flagsOfCarrying_c15 a0 a1 a2 a3 false
set_option maxRecDepth 100000 in
set_option maxHeartbeats 4000000 in
theorem jX_flagsOfCarrying_c115 (l : Launch) (D : va_G) {p : Program} {e : Env} {s : State} {m : MethodId} {args : Array Value} {below : List Frame} {meth : Method} {c : Code} (S : CallFix p m c bX_flagsOfCarrying 12 s args wAll RX) (hR : meth.sig.returnType = (some .int)) (hlk : meth.locks = false) {ls : Array Slot} {H : Heap} {locs : List Loc} (v10 : Int32) (s0 : Int32) (hl : lv_has ls 12 [(10, .int v10)]) (hw : sH D s H locs) : W p l e { frames := 1, cells := 0, slots := 0, locals := 24 } s m args below meth c H locs 0 0 (sQi D below args s (kX_flagsOfCarrying_c115 v10 s0)) (F0 m 115 ls [.int s0]) := by
  have hx := S.1
  have hb := S.2.1
  refine lv_istore (lv' := [(11, .int s0), (10, .int v10)]) hx hb dX_flagsOfCarrying_115 hl (by decide) rfl (fun ls hl => ?_)
  refine lv_iload hx hb dX_flagsOfCarrying_117 (lv_at hl 1 rfl) ?_
  refine lv_iload hx hb dX_flagsOfCarrying_119 (lv_at hl 0 rfl) ?_
  refine lv_ior hx hb dX_flagsOfCarrying_121 ?_
  exact z_iret S hR hlk hw dX_flagsOfCarrying_122 rfl
set_option maxRecDepth 100000 in
set_option maxHeartbeats 4000000 in
theorem jX_flagsOfCarrying_c95 (l : Launch) (D : va_G) {p : Program} {e : Env} {s : State} {m : MethodId} {args : Array Value} {below : List Frame} {meth : Method} {c : Code} (S : CallFix p m c bX_flagsOfCarrying 12 s args wAll RX) (hR : meth.sig.returnType = (some .int)) (hlk : meth.locks = false) {ls : Array Slot} {H : Heap} {locs : List Loc} (v8 : Int64) (s0 : Int32) (hl : lv_has ls 12 [(8, .long v8)]) (hw : sH D s H locs) : W p l e { frames := 1, cells := 0, slots := 0, locals := 24 } s m args below meth c H locs 0 0 (sQi D below args s (kX_flagsOfCarrying_c95 v8 s0)) (F0 m 95 ls [.int s0]) := by
  have hx := S.1
  have hb := S.2.1
  refine lv_istore (lv' := [(10, .int s0), (8, .long v8)]) hx hb dX_flagsOfCarrying_95 hl (by decide) rfl (fun ls hl => ?_)
  refine lv_lload hx hb dX_flagsOfCarrying_97 (lv_at hl 1 rfl) ?_
  refine lv_lload hx hb dX_flagsOfCarrying_99 (lv_at hl 1 rfl) ?_
  refine lv_l2i (v := v8.toInt32) hx hb dX_flagsOfCarrying_101 rfl ?_
  refine s_calll S (cX_unsigned l D (v8.toInt32)) (qX_unsigned S.2.2.2.2 ⟨Nat.le_of_ble_eq_true rfl, Nat.le_of_ble_eq_true rfl⟩) hw rfl hl.1 rfl (Nat.le_of_ble_eq_true rfl) dX_flagsOfCarrying_102 (fun H locs hw => ?_)
  refine W.lcmp hx hb dX_flagsOfCarrying_105 ?_
  refine lv_if_eq (tgt := 114) hx hb dX_flagsOfCarrying_106 (by decide) (fun h_106 => ?_) (fun h_106 => ?_)
  · skip
    refine lv_iconst (v := 0) hx hb dX_flagsOfCarrying_114 (by decide) ?_
    rw [show kX_flagsOfCarrying_c95 v8 s0 = kX_flagsOfCarrying_c115 s0 (0 : Int32) from (by rw [kX_flagsOfCarrying_c95, if_pos h_106])]
    exact jX_flagsOfCarrying_c115 l D S hR hlk s0 (0 : Int32)  (lv_sub hl [0] rfl) hw
  · skip
    refine lv_ldc (v := 1048576) hx hb S.2.2.2.1 (S.2.2.2.2 _ (List.mem_append_left _ (List.mem_append_left _ (List.mem_append_right _ (List.mem_append_right _ (List.mem_append_left _ (List.mem_append_left _ (List.mem_of_getElem? (i := 4) rfl)))))))) dX_flagsOfCarrying_109 ?_
    refine lv_goto (tgt := 115) hx hb dX_flagsOfCarrying_111 (by decide) ?_
    rw [show kX_flagsOfCarrying_c95 v8 s0 = kX_flagsOfCarrying_c115 s0 (1048576 : Int32) from (by rw [kX_flagsOfCarrying_c95, if_neg h_106])]
    exact jX_flagsOfCarrying_c115 l D S hR hlk s0 (1048576 : Int32)  (lv_sub hl [0] rfl) hw
set_option maxRecDepth 100000 in
set_option maxHeartbeats 4000000 in
theorem jX_flagsOfCarrying_c47 (l : Launch) (D : va_G) {p : Program} {e : Env} {s : State} {m : MethodId} {args : Array Value} {below : List Frame} {meth : Method} {c : Code} (S : CallFix p m c bX_flagsOfCarrying 12 s args wAll RX) (hR : meth.sig.returnType = (some .int)) (hlk : meth.locks = false) {ls : Array Slot} {H : Heap} {locs : List Loc} (v1 : Int32) (v2 : Int32) (v3 : Int32) (v4 : Bool) (hl : lv_has ls 12 [(1, .int v1), (2, .int v2), (3, .int v3), (4, .int (bI v4))]) (hw : sH D s H locs) : W p l e { frames := 1, cells := 0, slots := 0, locals := 24 } s m args below meth c H locs 0 0 (sQi D below args s (kX_flagsOfCarrying_c47 v1 v2 v3 v4)) (F0 m 47 ls []) := by
  have hx := S.1
  have hb := S.2.1
  refine lv_iload hx hb dX_flagsOfCarrying_47 (lv_at hl 3 rfl) ?_
  refine lv_iload_n hx hb dX_flagsOfCarrying_49 rfl (lv_at hl 0 rfl) ?_
  refine lv_i2l (v := v1.toInt64) hx hb dX_flagsOfCarrying_50 rfl ?_
  refine lv_iload_n hx hb dX_flagsOfCarrying_51 rfl (lv_at hl 1 rfl) ?_
  refine lv_i2l (v := v2.toInt64) hx hb dX_flagsOfCarrying_52 rfl ?_
  refine lv_iload_n hx hb dX_flagsOfCarrying_53 rfl (lv_at hl 2 rfl) ?_
  refine lv_i2l (v := v3.toInt64) hx hb dX_flagsOfCarrying_54 rfl ?_
  refine lv_ladd hx hb dX_flagsOfCarrying_55 ?_
  refine s_calll S (cX_total l D v4 (v1.toInt64) ((v2.toInt64) + (v3.toInt64))) (qX_total S.2.2.2.2 ⟨Nat.le_of_ble_eq_true rfl, Nat.le_of_ble_eq_true rfl⟩) hw rfl hl.1 rfl (Nat.le_of_ble_eq_true rfl) dX_flagsOfCarrying_56 (fun H locs hw => ?_)
  refine lv_lstore (lv' := [(6, .long (kX_total v4 (v1.toInt64) ((v2.toInt64) + (v3.toInt64)))), (1, .int v1), (2, .int v2), (3, .int v3), (4, .int (bI v4))]) hx hb dX_flagsOfCarrying_59 hl (by decide) rfl (fun ls hl => ?_)
  refine lv_iload hx hb dX_flagsOfCarrying_61 (lv_at hl 4 rfl) ?_
  refine lv_iload_n hx hb dX_flagsOfCarrying_63 rfl (lv_at hl 1 rfl) ?_
  refine s_calll S (cX_unsigned l D v1) (qX_unsigned S.2.2.2.2 ⟨Nat.le_of_ble_eq_true rfl, Nat.le_of_ble_eq_true rfl⟩) hw rfl hl.1 rfl (Nat.le_of_ble_eq_true rfl) dX_flagsOfCarrying_64 (fun H locs hw => ?_)
  refine lv_iload_n hx hb dX_flagsOfCarrying_67 rfl (lv_at hl 2 rfl) ?_
  refine s_calll S (cX_unsigned l D v2) (qX_unsigned S.2.2.2.2 ⟨Nat.le_of_ble_eq_true rfl, Nat.le_of_ble_eq_true rfl⟩) hw rfl hl.1 rfl (Nat.le_of_ble_eq_true rfl) dX_flagsOfCarrying_68 (fun H locs hw => ?_)
  refine lv_iload_n hx hb dX_flagsOfCarrying_71 rfl (lv_at hl 3 rfl) ?_
  refine lv_i2l (v := v3.toInt64) hx hb dX_flagsOfCarrying_72 rfl ?_
  refine lv_ladd hx hb dX_flagsOfCarrying_73 ?_
  refine s_calll S (cX_total l D v4 (kX_unsigned v1) ((kX_unsigned v2) + (v3.toInt64))) (qX_total S.2.2.2.2 ⟨Nat.le_of_ble_eq_true rfl, Nat.le_of_ble_eq_true rfl⟩) hw rfl hl.1 rfl (Nat.le_of_ble_eq_true rfl) dX_flagsOfCarrying_74 (fun H locs hw => ?_)
  refine lv_lstore (lv' := [(8, .long (kX_total v4 (kX_unsigned v1) ((kX_unsigned v2) + (v3.toInt64)))), (6, .long (kX_total v4 (v1.toInt64) ((v2.toInt64) + (v3.toInt64)))), (1, .int v1), (2, .int v2), (3, .int v3), (4, .int (bI v4))]) hx hb dX_flagsOfCarrying_77 hl (by decide) rfl (fun ls hl => ?_)
  refine lv_lload hx hb dX_flagsOfCarrying_79 (lv_at hl 1 rfl) ?_
  refine lv_lload hx hb dX_flagsOfCarrying_81 (lv_at hl 1 rfl) ?_
  refine lv_l2i (v := (kX_total v4 (v1.toInt64) ((v2.toInt64) + (v3.toInt64))).toInt32) hx hb dX_flagsOfCarrying_83 rfl ?_
  refine lv_i2l (v := ((kX_total v4 (v1.toInt64) ((v2.toInt64) + (v3.toInt64))).toInt32).toInt64) hx hb dX_flagsOfCarrying_84 rfl ?_
  refine W.lcmp hx hb dX_flagsOfCarrying_85 ?_
  refine lv_if_eq (tgt := 94) hx hb dX_flagsOfCarrying_86 (by decide) (fun h_86 => ?_) (fun h_86 => ?_)
  · skip
    refine lv_iconst (v := 0) hx hb dX_flagsOfCarrying_94 (by decide) ?_
    rw [show kX_flagsOfCarrying_c47 v1 v2 v3 v4 = kX_flagsOfCarrying_c95 (kX_total v4 (kX_unsigned v1) ((kX_unsigned v2) + (v3.toInt64))) (0 : Int32) from (by rw [kX_flagsOfCarrying_c47, if_pos h_86])]
    exact jX_flagsOfCarrying_c95 l D S hR hlk (kX_total v4 (kX_unsigned v1) ((kX_unsigned v2) + (v3.toInt64))) (0 : Int32)  (lv_sub hl [0] rfl) hw
  · skip
    refine lv_ldc (v := 2097152) hx hb S.2.2.2.1 (S.2.2.2.2 _ (List.mem_append_left _ (List.mem_append_left _ (List.mem_append_right _ (List.mem_append_right _ (List.mem_append_left _ (List.mem_append_left _ (List.mem_of_getElem? (i := 2) rfl)))))))) dX_flagsOfCarrying_89 ?_
    refine lv_goto (tgt := 95) hx hb dX_flagsOfCarrying_91 (by decide) ?_
    rw [show kX_flagsOfCarrying_c47 v1 v2 v3 v4 = kX_flagsOfCarrying_c95 (kX_total v4 (kX_unsigned v1) ((kX_unsigned v2) + (v3.toInt64))) (2097152 : Int32) from (by rw [kX_flagsOfCarrying_c47, if_neg h_86])]
    exact jX_flagsOfCarrying_c95 l D S hR hlk (kX_total v4 (kX_unsigned v1) ((kX_unsigned v2) + (v3.toInt64))) (2097152 : Int32)  (lv_sub hl [0] rfl) hw
set_option maxRecDepth 100000 in
set_option maxHeartbeats 4000000 in
theorem jX_flagsOfCarrying_c33 (l : Launch) (D : va_G) {p : Program} {e : Env} {s : State} {m : MethodId} {args : Array Value} {below : List Frame} {meth : Method} {c : Code} (S : CallFix p m c bX_flagsOfCarrying 12 s args wAll RX) (hR : meth.sig.returnType = (some .int)) (hlk : meth.locks = false) {ls : Array Slot} {H : Heap} {locs : List Loc} (v1 : Int32) (v2 : Int32) (v3 : Int32) (v4 : Bool) (s0 : Bool) (hl : lv_has ls 12 [(1, .int v1), (2, .int v2), (3, .int v3), (4, .int (bI v4))]) (hw : sH D s H locs) : W p l e { frames := 1, cells := 0, slots := 0, locals := 24 } s m args below meth c H locs 0 0 (sQi D below args s (kX_flagsOfCarrying_c33 v1 v2 v3 v4 s0)) (F0 m 33 ls [.int (bI s0)]) := by
  have hx := S.1
  have hb := S.2.1
  refine lv_istore (lv' := [(5, .int (bI s0)), (1, .int v1), (2, .int v2), (3, .int v3), (4, .int (bI v4))]) hx hb dX_flagsOfCarrying_33 hl (by decide) rfl (fun ls hl => ?_)
  refine lv_iload hx hb dX_flagsOfCarrying_35 (lv_at hl 4 rfl) ?_
  refine lv_if_ne (tgt := 47) hx hb dX_flagsOfCarrying_37 (by decide) (fun h_37 => ?_) (fun h_37 => ?_)
  · skip
    rw [show kX_flagsOfCarrying_c33 v1 v2 v3 v4 s0 = kX_flagsOfCarrying_c47 v1 v2 v3 v4 from (by rw [kX_flagsOfCarrying_c33, if_neg h_37])]
    exact jX_flagsOfCarrying_c47 l D S hR hlk v1 v2 v3 v4  (lv_sub hl [1, 2, 3, 4] rfl) hw
  · skip
    refine lv_iload hx hb dX_flagsOfCarrying_40 (lv_at hl 0 rfl) ?_
    refine lv_if_ne (tgt := 47) hx hb dX_flagsOfCarrying_42 (by decide) (fun h_42 => ?_) (fun h_42 => ?_)
    · skip
      rw [show kX_flagsOfCarrying_c33 v1 v2 v3 v4 s0 = kX_flagsOfCarrying_c47 v1 v2 v3 v4 from (by rw [kX_flagsOfCarrying_c33, if_pos h_37, if_neg h_42])]
      exact jX_flagsOfCarrying_c47 l D S hR hlk v1 v2 v3 v4  (lv_sub hl [1, 2, 3, 4] rfl) hw
    · skip
      refine lv_iconst (v := 0) hx hb dX_flagsOfCarrying_45 (by decide) ?_
      exact z_iret S hR hlk hw dX_flagsOfCarrying_46 (by rw [kX_flagsOfCarrying_c33, if_pos h_37, if_pos h_42])
set_option maxRecDepth 100000 in
set_option maxHeartbeats 4000000 in
theorem jX_flagsOfCarrying_c28 (l : Launch) (D : va_G) {p : Program} {e : Env} {s : State} {m : MethodId} {args : Array Value} {below : List Frame} {meth : Method} {c : Code} (S : CallFix p m c bX_flagsOfCarrying 12 s args wAll RX) (hR : meth.sig.returnType = (some .int)) (hlk : meth.locks = false) {ls : Array Slot} {H : Heap} {locs : List Loc} (v1 : Int32) (v2 : Int32) (v3 : Int32) (v4 : Bool) (hl : lv_has ls 12 [(1, .int v1), (2, .int v2), (3, .int v3), (4, .int (bI v4))]) (hw : sH D s H locs) : W p l e { frames := 1, cells := 0, slots := 0, locals := 24 } s m args below meth c H locs 0 0 (sQi D below args s (kX_flagsOfCarrying_c28 v1 v2 v3 v4)) (F0 m 28 ls []) := by
  have hx := S.1
  have hb := S.2.1
  refine lv_iconst (v := 1) hx hb dX_flagsOfCarrying_28 (by decide) ?_
  refine lv_goto (tgt := 33) hx hb dX_flagsOfCarrying_29 (by decide) ?_
  rw [show kX_flagsOfCarrying_c28 v1 v2 v3 v4 = kX_flagsOfCarrying_c33 v1 v2 v3 v4 true from rfl]
  exact jX_flagsOfCarrying_c33 l D S hR hlk v1 v2 v3 v4 true  (lv_sub hl [0, 1, 2, 3] rfl) hw
set_option maxRecDepth 100000 in
set_option maxHeartbeats 4000000 in
theorem jX_flagsOfCarrying_c15 (l : Launch) (D : va_G) {p : Program} {e : Env} {s : State} {m : MethodId} {args : Array Value} {below : List Frame} {meth : Method} {c : Code} (S : CallFix p m c bX_flagsOfCarrying 12 s args wAll RX) (hR : meth.sig.returnType = (some .int)) (hlk : meth.locks = false) {ls : Array Slot} {H : Heap} {locs : List Loc} (v0 : Int32) (v1 : Int32) (v2 : Int32) (v3 : Int32) (s0 : Bool) (hl : lv_has ls 12 [(0, .int v0), (1, .int v1), (2, .int v2), (3, .int v3)]) (hw : sH D s H locs) : W p l e { frames := 1, cells := 0, slots := 0, locals := 24 } s m args below meth c H locs 0 0 (sQi D below args s (kX_flagsOfCarrying_c15 v0 v1 v2 v3 s0)) (F0 m 15 ls [.int (bI s0)]) := by
  have hx := S.1
  have hb := S.2.1
  refine lv_istore (lv' := [(4, .int (bI s0)), (0, .int v0), (1, .int v1), (2, .int v2), (3, .int v3)]) hx hb dX_flagsOfCarrying_15 hl (by decide) rfl (fun ls hl => ?_)
  refine lv_iload_n hx hb dX_flagsOfCarrying_17 rfl (lv_at hl 1 rfl) ?_
  refine lv_iconst (v := 4) hx hb dX_flagsOfCarrying_18 (by decide) ?_
  refine lv_icmp_eq (tgt := 28) hx hb dX_flagsOfCarrying_19 (by decide) (fun h_19 => ?_) (fun h_19 => ?_)
  · skip
    rw [show kX_flagsOfCarrying_c15 v0 v1 v2 v3 s0 = kX_flagsOfCarrying_c28 v1 v2 v3 s0 from (by rw [kX_flagsOfCarrying_c15, if_pos h_19])]
    exact jX_flagsOfCarrying_c28 l D S hR hlk v1 v2 v3 s0  (lv_sub hl [2, 3, 4, 0] rfl) hw
  · skip
    refine lv_iload_n hx hb dX_flagsOfCarrying_22 rfl (lv_at hl 1 rfl) ?_
    refine lv_bipush (v := 12) hx hb dX_flagsOfCarrying_23 (by decide) ?_
    refine lv_icmp_ne (tgt := 32) hx hb dX_flagsOfCarrying_25 (by decide) (fun h_25 => ?_) (fun h_25 => ?_)
    · skip
      refine lv_iconst (v := 0) hx hb dX_flagsOfCarrying_32 (by decide) ?_
      rw [show kX_flagsOfCarrying_c15 v0 v1 v2 v3 s0 = kX_flagsOfCarrying_c33 v1 v2 v3 s0 false from (by rw [kX_flagsOfCarrying_c15, if_neg h_19, if_neg h_25])]
      exact jX_flagsOfCarrying_c33 l D S hR hlk v1 v2 v3 s0 false  (lv_sub hl [2, 3, 4, 0] rfl) hw
    · skip
      rw [show kX_flagsOfCarrying_c15 v0 v1 v2 v3 s0 = kX_flagsOfCarrying_c28 v1 v2 v3 s0 from (by rw [kX_flagsOfCarrying_c15, if_neg h_19, if_pos h_25])]
      exact jX_flagsOfCarrying_c28 l D S hR hlk v1 v2 v3 s0  (lv_sub hl [2, 3, 4, 0] rfl) hw
set_option maxRecDepth 100000 in
set_option maxHeartbeats 4000000 in
theorem jX_flagsOfCarrying_c10 (l : Launch) (D : va_G) {p : Program} {e : Env} {s : State} {m : MethodId} {args : Array Value} {below : List Frame} {meth : Method} {c : Code} (S : CallFix p m c bX_flagsOfCarrying 12 s args wAll RX) (hR : meth.sig.returnType = (some .int)) (hlk : meth.locks = false) {ls : Array Slot} {H : Heap} {locs : List Loc} (v0 : Int32) (v1 : Int32) (v2 : Int32) (v3 : Int32) (hl : lv_has ls 12 [(0, .int v0), (1, .int v1), (2, .int v2), (3, .int v3)]) (hw : sH D s H locs) : W p l e { frames := 1, cells := 0, slots := 0, locals := 24 } s m args below meth c H locs 0 0 (sQi D below args s (kX_flagsOfCarrying_c10 v0 v1 v2 v3)) (F0 m 10 ls []) := by
  have hx := S.1
  have hb := S.2.1
  refine lv_iconst (v := 1) hx hb dX_flagsOfCarrying_10 (by decide) ?_
  refine lv_goto (tgt := 15) hx hb dX_flagsOfCarrying_11 (by decide) ?_
  rw [show kX_flagsOfCarrying_c10 v0 v1 v2 v3 = kX_flagsOfCarrying_c15 v0 v1 v2 v3 true from rfl]
  exact jX_flagsOfCarrying_c15 l D S hR hlk v0 v1 v2 v3 true  (lv_sub hl [0, 1, 2, 3] rfl) hw
set_option maxRecDepth 100000 in
set_option maxHeartbeats 4000000 in
theorem cX_flagsOfCarrying (l : Launch) (D : va_G) (a0 : Int32) (a1 : Int32) (a2 : Int32) (a3 : Int32) : sMi l yX_flagsOfCarrying (.code yX_flagsOfCarrying bX_flagsOfCarrying 12 (some .int) :: wAll) { frames := 1, cells := 0, slots := 0, locals := 24 } D [.int a0, .int a1, .int a2, .int a3] (kX_flagsOfCarrying a0 a1 a2 a3)  := by
  refine z_entryi (cc := bX_flagsOfCarrying) (nL := 12) (by decide) rfl rfl (Nat.le_of_ble_eq_true rfl) (fun p e s m args below meth c S hR hlk ls H locs hl hw => ?_)
  have hx := S.1
  have hb := S.2.1
  have hl : lv_has ls 12 [(0, .int a0), (1, .int a1), (2, .int a2), (3, .int a3)] := hl
  refine lv_iload_n hx hb dX_flagsOfCarrying_0 rfl (lv_at hl 0 rfl) ?_
  refine lv_if_eq (tgt := 10) hx hb dX_flagsOfCarrying_1 (by decide) (fun h_1 => ?_) (fun h_1 => ?_)
  · skip
    rw [show kX_flagsOfCarrying a0 a1 a2 a3 = kX_flagsOfCarrying_c10 a0 a1 a2 a3 from (by rw [kX_flagsOfCarrying, if_pos h_1])]
    exact jX_flagsOfCarrying_c10 l D S hR hlk a0 a1 a2 a3  (lv_sub hl [0, 1, 2, 3] rfl) hw
  · skip
    refine lv_iload_n hx hb dX_flagsOfCarrying_4 rfl (lv_at hl 0 rfl) ?_
    refine lv_bipush (v := 8) hx hb dX_flagsOfCarrying_5 (by decide) ?_
    refine lv_icmp_ne (tgt := 14) hx hb dX_flagsOfCarrying_7 (by decide) (fun h_7 => ?_) (fun h_7 => ?_)
    · skip
      refine lv_iconst (v := 0) hx hb dX_flagsOfCarrying_14 (by decide) ?_
      rw [show kX_flagsOfCarrying a0 a1 a2 a3 = kX_flagsOfCarrying_c15 a0 a1 a2 a3 false from (by rw [kX_flagsOfCarrying, if_neg h_1, if_neg h_7])]
      exact jX_flagsOfCarrying_c15 l D S hR hlk a0 a1 a2 a3 false  (lv_sub hl [0, 1, 2, 3] rfl) hw
    · skip
      rw [show kX_flagsOfCarrying a0 a1 a2 a3 = kX_flagsOfCarrying_c10 a0 a1 a2 a3 from (by rw [kX_flagsOfCarrying, if_neg h_1, if_pos h_7])]
      exact jX_flagsOfCarrying_c10 l D S hR hlk a0 a1 a2 a3  (lv_sub hl [0, 1, 2, 3] rfl) hw
def kX_sizeMoved (a0 : Int32) : Int32 :=
  if a0 = (0 : Int32) then
    (4 : Int32)
  else
    if a0 = (1 : Int32) then
      (1 : Int32)
    else
      if a0 = (2 : Int32) then
        (2 : Int32)
      else
        if a0 = (3 : Int32) then
          (8 : Int32)
        else
          if a0 = (4 : Int32) then
            (4 : Int32)
          else
            if a0 = (5 : Int32) then
              (1 : Int32)
            else
              if a0 = (6 : Int32) then
                (2 : Int32)
              else
                if a0 = (7 : Int32) then
                  (8 : Int32)
                else
                  if a0 = (9 : Int32) then
                    (1 : Int32)
                  else
                    if a0 = (10 : Int32) then
                      (2 : Int32)
                    else
                      if a0 = (13 : Int32) then
                        (1 : Int32)
                      else
                        if a0 = (15 : Int32) then
                          (4 : Int32)
                        else
                          (0 : Int32)
set_option maxRecDepth 100000 in
set_option maxHeartbeats 4000000 in
theorem cX_sizeMoved (l : Launch) (D : va_G) (a0 : Int32) : sMi l yX_sizeMoved (.code yX_sizeMoved bX_sizeMoved 1 (some .int) :: wAll) { frames := 0, cells := 0, slots := 0, locals := 0 } D [.int a0] (kX_sizeMoved a0)  := by
  refine z_entryi (cc := bX_sizeMoved) (nL := 1) (by decide) rfl rfl (Nat.le_of_ble_eq_true rfl) (fun p e s m args below meth c S hR hlk ls H locs hl hw => ?_)
  have hx := S.1
  have hb := S.2.1
  have hl : lv_has ls 1 [(0, .int a0)] := hl
  refine lv_iload_n hx hb dX_sizeMoved_0 rfl (lv_at hl 0 rfl) ?_
  by_cases h_1_0 : a0 = (0 : Int32)
  · refine z_tsC (tgt := 84) hx hb dX_sizeMoved_1 h_1_0 (by decide) (by decide) rfl (by decide) ?_
    refine lv_iconst (v := 4) hx hb dX_sizeMoved_84 (by decide) ?_
    exact z_iret S hR hlk hw dX_sizeMoved_85 (by rw [kX_sizeMoved, if_pos h_1_0])
  by_cases h_1_1 : a0 = (1 : Int32)
  · refine z_tsC (tgt := 80) hx hb dX_sizeMoved_1 h_1_1 (by decide) (by decide) rfl (by decide) ?_
    refine lv_iconst (v := 1) hx hb dX_sizeMoved_80 (by decide) ?_
    exact z_iret S hR hlk hw dX_sizeMoved_81 (by rw [kX_sizeMoved, if_neg h_1_0, if_pos h_1_1])
  by_cases h_1_2 : a0 = (2 : Int32)
  · refine z_tsC (tgt := 82) hx hb dX_sizeMoved_1 h_1_2 (by decide) (by decide) rfl (by decide) ?_
    refine lv_iconst (v := 2) hx hb dX_sizeMoved_82 (by decide) ?_
    exact z_iret S hR hlk hw dX_sizeMoved_83 (by rw [kX_sizeMoved, if_neg h_1_0, if_neg h_1_1, if_pos h_1_2])
  by_cases h_1_3 : a0 = (3 : Int32)
  · refine z_tsC (tgt := 86) hx hb dX_sizeMoved_1 h_1_3 (by decide) (by decide) rfl (by decide) ?_
    refine lv_bipush (v := 8) hx hb dX_sizeMoved_86 (by decide) ?_
    exact z_iret S hR hlk hw dX_sizeMoved_88 (by rw [kX_sizeMoved, if_neg h_1_0, if_neg h_1_1, if_neg h_1_2, if_pos h_1_3])
  by_cases h_1_4 : a0 = (4 : Int32)
  · refine z_tsC (tgt := 84) hx hb dX_sizeMoved_1 h_1_4 (by decide) (by decide) rfl (by decide) ?_
    refine lv_iconst (v := 4) hx hb dX_sizeMoved_84 (by decide) ?_
    exact z_iret S hR hlk hw dX_sizeMoved_85 (by rw [kX_sizeMoved, if_neg h_1_0, if_neg h_1_1, if_neg h_1_2, if_neg h_1_3, if_pos h_1_4])
  by_cases h_1_5 : a0 = (5 : Int32)
  · refine z_tsC (tgt := 80) hx hb dX_sizeMoved_1 h_1_5 (by decide) (by decide) rfl (by decide) ?_
    refine lv_iconst (v := 1) hx hb dX_sizeMoved_80 (by decide) ?_
    exact z_iret S hR hlk hw dX_sizeMoved_81 (by rw [kX_sizeMoved, if_neg h_1_0, if_neg h_1_1, if_neg h_1_2, if_neg h_1_3, if_neg h_1_4, if_pos h_1_5])
  by_cases h_1_6 : a0 = (6 : Int32)
  · refine z_tsC (tgt := 82) hx hb dX_sizeMoved_1 h_1_6 (by decide) (by decide) rfl (by decide) ?_
    refine lv_iconst (v := 2) hx hb dX_sizeMoved_82 (by decide) ?_
    exact z_iret S hR hlk hw dX_sizeMoved_83 (by rw [kX_sizeMoved, if_neg h_1_0, if_neg h_1_1, if_neg h_1_2, if_neg h_1_3, if_neg h_1_4, if_neg h_1_5, if_pos h_1_6])
  by_cases h_1_7 : a0 = (7 : Int32)
  · refine z_tsC (tgt := 86) hx hb dX_sizeMoved_1 h_1_7 (by decide) (by decide) rfl (by decide) ?_
    refine lv_bipush (v := 8) hx hb dX_sizeMoved_86 (by decide) ?_
    exact z_iret S hR hlk hw dX_sizeMoved_88 (by rw [kX_sizeMoved, if_neg h_1_0, if_neg h_1_1, if_neg h_1_2, if_neg h_1_3, if_neg h_1_4, if_neg h_1_5, if_neg h_1_6, if_pos h_1_7])
  by_cases h_1_9 : a0 = (9 : Int32)
  · refine z_tsC (tgt := 80) hx hb dX_sizeMoved_1 h_1_9 (by decide) (by decide) rfl (by decide) ?_
    refine lv_iconst (v := 1) hx hb dX_sizeMoved_80 (by decide) ?_
    exact z_iret S hR hlk hw dX_sizeMoved_81 (by rw [kX_sizeMoved, if_neg h_1_0, if_neg h_1_1, if_neg h_1_2, if_neg h_1_3, if_neg h_1_4, if_neg h_1_5, if_neg h_1_6, if_neg h_1_7, if_pos h_1_9])
  by_cases h_1_10 : a0 = (10 : Int32)
  · refine z_tsC (tgt := 82) hx hb dX_sizeMoved_1 h_1_10 (by decide) (by decide) rfl (by decide) ?_
    refine lv_iconst (v := 2) hx hb dX_sizeMoved_82 (by decide) ?_
    exact z_iret S hR hlk hw dX_sizeMoved_83 (by rw [kX_sizeMoved, if_neg h_1_0, if_neg h_1_1, if_neg h_1_2, if_neg h_1_3, if_neg h_1_4, if_neg h_1_5, if_neg h_1_6, if_neg h_1_7, if_neg h_1_9, if_pos h_1_10])
  by_cases h_1_13 : a0 = (13 : Int32)
  · refine z_tsC (tgt := 80) hx hb dX_sizeMoved_1 h_1_13 (by decide) (by decide) rfl (by decide) ?_
    refine lv_iconst (v := 1) hx hb dX_sizeMoved_80 (by decide) ?_
    exact z_iret S hR hlk hw dX_sizeMoved_81 (by rw [kX_sizeMoved, if_neg h_1_0, if_neg h_1_1, if_neg h_1_2, if_neg h_1_3, if_neg h_1_4, if_neg h_1_5, if_neg h_1_6, if_neg h_1_7, if_neg h_1_9, if_neg h_1_10, if_pos h_1_13])
  by_cases h_1_15 : a0 = (15 : Int32)
  · refine z_tsC (tgt := 84) hx hb dX_sizeMoved_1 h_1_15 (by decide) (by decide) rfl (by decide) ?_
    refine lv_iconst (v := 4) hx hb dX_sizeMoved_84 (by decide) ?_
    exact z_iret S hR hlk hw dX_sizeMoved_85 (by rw [kX_sizeMoved, if_neg h_1_0, if_neg h_1_1, if_neg h_1_2, if_neg h_1_3, if_neg h_1_4, if_neg h_1_5, if_neg h_1_6, if_neg h_1_7, if_neg h_1_9, if_neg h_1_10, if_neg h_1_13, if_pos h_1_15])
  refine z_tsD (tgt := 89) (xs := [(0 : Int32), (1 : Int32), (2 : Int32), (3 : Int32), (4 : Int32), (5 : Int32), (6 : Int32), (7 : Int32), (9 : Int32), (10 : Int32), (13 : Int32), (15 : Int32)]) hx hb dX_sizeMoved_1 (by simp only [List.forall_mem_cons, List.not_mem_nil, false_imp_iff, implies_true, and_true]; exact ⟨h_1_0, h_1_1, h_1_2, h_1_3, h_1_4, h_1_5, h_1_6, h_1_7, h_1_9, h_1_10, h_1_13, h_1_15⟩) (by decide) (by decide) ?_
  refine lv_iconst (v := 0) hx hb dX_sizeMoved_89 (by decide) ?_
  exact z_iret S hR hlk hw dX_sizeMoved_90 (by rw [kX_sizeMoved, if_neg h_1_0, if_neg h_1_1, if_neg h_1_2, if_neg h_1_3, if_neg h_1_4, if_neg h_1_5, if_neg h_1_6, if_neg h_1_7, if_neg h_1_9, if_neg h_1_10, if_neg h_1_13, if_neg h_1_15])
def kX_withSign (a0 : Int32) (a1 : Int32) : Int32 :=
  ((a0 <<< (((32 : Int32) - ((8 : Int32) * a1)) &&& 31)) >>> (((32 : Int32) - ((8 : Int32) * a1)) &&& 31))
set_option maxRecDepth 100000 in
set_option maxHeartbeats 4000000 in
theorem cX_withSign (l : Launch) (D : va_G) (a0 : Int32) (a1 : Int32) : sMi l yX_withSign (.code yX_withSign bX_withSign 3 (some .int) :: wAll) { frames := 0, cells := 0, slots := 0, locals := 0 } D [.int a0, .int a1] (kX_withSign a0 a1)  := by
  refine z_entryi (cc := bX_withSign) (nL := 3) (by decide) rfl rfl (Nat.le_of_ble_eq_true rfl) (fun p e s m args below meth c S hR hlk ls H locs hl hw => ?_)
  have hx := S.1
  have hb := S.2.1
  have hl : lv_has ls 3 [(0, .int a0), (1, .int a1)] := hl
  refine lv_bipush (v := 32) hx hb dX_withSign_0 (by decide) ?_
  refine lv_bipush (v := 8) hx hb dX_withSign_2 (by decide) ?_
  refine lv_iload_n hx hb dX_withSign_4 rfl (lv_at hl 1 rfl) ?_
  refine lv_imul hx hb dX_withSign_5 ?_
  refine lv_isub hx hb dX_withSign_6 ?_
  refine lv_istore_n (lv' := [(2, .int ((32 : Int32) - ((8 : Int32) * a1))), (0, .int a0), (1, .int a1)]) hx hb dX_withSign_7 rfl hl (by decide) rfl (fun ls hl => ?_)
  refine lv_iload_n hx hb dX_withSign_8 rfl (lv_at hl 1 rfl) ?_
  refine lv_iload_n hx hb dX_withSign_9 rfl (lv_at hl 0 rfl) ?_
  refine lv_ishl hx hb dX_withSign_10 ?_
  refine lv_iload_n hx hb dX_withSign_11 rfl (lv_at hl 0 rfl) ?_
  refine lv_ishr hx hb dX_withSign_12 ?_
  exact z_iret S hR hlk hw dX_withSign_13 rfl
