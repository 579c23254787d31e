/-! contracts of WindowCore: laid by my program -/
def kX_put (σ : XS) (a1 : Int32) (a2 : Int32) : Option (Int32 × XS) :=
  if (bI (kX_isWordOfMemory a1)) = 0 then
    none
  else
    some ((σ.2.2.1 (uS a1 (2 : Int32)).toNatClampNeg), (xM σ (uS a1 (2 : Int32)).toNatClampNeg a2))
set_option maxRecDepth 100000 in
set_option maxHeartbeats 4000000 in
theorem cX_put (l : Launch) (D : va_G) (h qm qr : Nat) (cA : ClassId) (hst : l.stackTraces = false) (σ : XS) (a1 : Int32) (a2 : Int32) : xMX nsE l yX_put (.code yX_put bX_put 4 (some .int) :: wAll) { frames := 7, cells := 1, slots := 6, locals := 110 } D h qm qr cA [.ref h, .int a1, .int a2] σ (kX_put σ a1 a2) := by
  refine zx_entry (cc := bX_put) (nL := 4) (by decide) rfl rfl (Nat.le_of_ble_eq_true rfl) (fun p e s m args below meth c S hR hlk hex htz ls H locs hl hw hz => ?_)
  have hx := S.1
  have hb := S.2.1
  have hl : lv_has ls 4 [(0, .ref h), (1, .int a1), (2, .int a2)] := hl
  refine lv_iload_n hx hb dX_put_0 rfl (lv_at hl 1 rfl) ?_
  refine s_calliZ S (cX_isWordOfMemory l D a1) (qX_isWordOfMemory S.2.2.2.2 ⟨Nat.le_of_ble_eq_true rfl, Nat.le_of_ble_eq_true rfl⟩) hw hz rfl hl.1 rfl (Nat.le_of_ble_eq_true rfl) dX_put_1 (fun H locs hw hz => ?_)
  refine lv_if_ne (tgt := 15) hx hb dX_put_4 (by decide) (fun h_4 => ?_) (fun h_4 => ?_)
  · skip
    refine lv_aload_n hx hb dX_put_15 rfl (lv_at hl 0 rfl) ?_
    refine xget_memory S hw dX_put_16 ?_
    refine lv_iload_n hx hb dX_put_19 rfl (lv_at hl 1 rfl) ?_
    refine lv_iconst (v := 2) hx hb dX_put_20 (by decide) ?_
    refine lv_iushr (v := (uS a1 (2 : Int32))) hx hb dX_put_21 rfl ?_
    refine va_iald hx hb hw.2.2.2 hw.1 1 0 rfl rfl (x_wm_in h_4) dX_put_22 ?_
    refine lv_istore_n (lv' := [(3, .int (σ.2.2.1 (uS a1 (2 : Int32)).toNatClampNeg)), (0, .ref h), (1, .int a1), (2, .int a2)]) hx hb dX_put_23 rfl hl (by decide) rfl (fun ls hl => ?_)
    refine lv_aload_n hx hb dX_put_24 rfl (lv_at hl 1 rfl) ?_
    refine xget_memory S hw dX_put_25 ?_
    refine lv_iload_n hx hb dX_put_28 rfl (lv_at hl 2 rfl) ?_
    refine lv_iconst (v := 2) hx hb dX_put_29 (by decide) ?_
    refine lv_iushr (v := (uS a1 (2 : Int32))) hx hb dX_put_30 rfl ?_
    refine lv_iload_n hx hb dX_put_31 rfl (lv_at hl 3 rfl) ?_
    refine xast_qm S hw (x_wm_in h_4) dX_put_32 (fun H locs hw => ?_)
    refine lv_iload_n hx hb dX_put_33 rfl (lv_at hl 0 rfl) ?_
    exact zx_iret S hR hlk hw dX_put_34 (by rw [kX_put, if_neg h_4])
  · skip
    exact zx_throw (ik := 23) (ic := 25) S hst hlk hex htz t_at_ns (by decide +kernel) (List.mem_append_left _ (List.mem_append_right _ (List.mem_append_left _ (List.mem_append_right _ (List.mem_append_right _ (List.mem_append_right _ (List.mem_append_right _ (List.mem_of_getElem? (i := 6) rfl)))))))) (List.mem_append_left _ (List.mem_append_right _ (List.mem_append_left _ (List.mem_append_right _ (List.mem_append_right _ (List.mem_append_right _ (List.mem_append_right _ (List.mem_of_getElem? (i := 7) rfl)))))))) (List.mem_append_left _ (List.mem_append_left _ (List.mem_append_left _ (List.mem_append_left _ (List.mem_append_left _ (List.mem_append_left _ (List.mem_of_getElem? (i := 7) rfl))))))) hz hl.1 dX_put_7 dX_put_10 dX_put_11 dX_put_14 (by decide) (by decide) (by decide) (by decide) (by rw [kX_put, if_pos h_4])
def kX_word (σ : XS) (a1 : Int32) : Option (Int32 × XS) :=
  if (bI (kX_isWordOfMemory a1)) = 0 then
    none
  else
    some ((σ.2.2.1 (uS a1 (2 : Int32)).toNatClampNeg), σ)
set_option maxRecDepth 100000 in
set_option maxHeartbeats 4000000 in
theorem cX_word (l : Launch) (D : va_G) (h qm qr : Nat) (cA : ClassId) (hst : l.stackTraces = false) (σ : XS) (a1 : Int32) : xMX nsE l yX_word (.code yX_word bX_word 2 (some .int) :: wAll) { frames := 7, cells := 1, slots := 6, locals := 110 } D h qm qr cA [.ref h, .int a1] σ (kX_word σ a1) := by
  refine zx_entry (cc := bX_word) (nL := 2) (by decide) rfl rfl (Nat.le_of_ble_eq_true rfl) (fun p e s m args below meth c S hR hlk hex htz ls H locs hl hw hz => ?_)
  have hx := S.1
  have hb := S.2.1
  have hl : lv_has ls 2 [(0, .ref h), (1, .int a1)] := hl
  refine lv_iload_n hx hb dX_word_0 rfl (lv_at hl 1 rfl) ?_
  refine s_calliZ S (cX_isWordOfMemory l D a1) (qX_isWordOfMemory S.2.2.2.2 ⟨Nat.le_of_ble_eq_true rfl, Nat.le_of_ble_eq_true rfl⟩) hw hz rfl hl.1 rfl (Nat.le_of_ble_eq_true rfl) dX_word_1 (fun H locs hw hz => ?_)
  refine lv_if_ne (tgt := 15) hx hb dX_word_4 (by decide) (fun h_4 => ?_) (fun h_4 => ?_)
  · skip
    refine lv_aload_n hx hb dX_word_15 rfl (lv_at hl 0 rfl) ?_
    refine xget_memory S hw dX_word_16 ?_
    refine lv_iload_n hx hb dX_word_19 rfl (lv_at hl 1 rfl) ?_
    refine lv_iconst (v := 2) hx hb dX_word_20 (by decide) ?_
    refine lv_iushr (v := (uS a1 (2 : Int32))) hx hb dX_word_21 rfl ?_
    refine va_iald hx hb hw.2.2.2 hw.1 1 0 rfl rfl (x_wm_in h_4) dX_word_22 ?_
    exact zx_iret S hR hlk hw dX_word_23 (by rw [kX_word, if_neg h_4])
  · skip
    exact zx_throw (ik := 23) (ic := 25) S hst hlk hex htz t_at_ns (by decide +kernel) (List.mem_append_left _ (List.mem_append_right _ (List.mem_append_left _ (List.mem_append_right _ (List.mem_append_right _ (List.mem_append_right _ (List.mem_append_right _ (List.mem_of_getElem? (i := 6) rfl)))))))) (List.mem_append_left _ (List.mem_append_right _ (List.mem_append_left _ (List.mem_append_right _ (List.mem_append_right _ (List.mem_append_right _ (List.mem_append_right _ (List.mem_of_getElem? (i := 7) rfl)))))))) (List.mem_append_left _ (List.mem_append_left _ (List.mem_append_left _ (List.mem_append_left _ (List.mem_append_left _ (List.mem_append_left _ (List.mem_of_getElem? (i := 7) rfl))))))) hz hl.1 dX_word_7 dX_word_10 dX_word_11 dX_word_14 (by decide) (by decide) (by decide) (by decide) (by rw [kX_word, if_pos h_4])
def kX_set (σ : XS) (a1 : Int32) (a2 : Int32) (a3 : Int32) : Option (Int32 × XS) :=
  if (bI (kX_isRegister a1 a2)) = 0 then
    none
  else
    if a2 = 0 then
      some ((σ.2.2.2 (kX_slot a1 a2).toNatClampNeg), σ)
    else
      some ((σ.2.2.2 (kX_slot a1 a2).toNatClampNeg), (xR σ (kX_slot a1 a2).toNatClampNeg a3))
set_option maxRecDepth 100000 in
set_option maxHeartbeats 4000000 in
theorem cX_set (l : Launch) (D : va_G) (h qm qr : Nat) (cA : ClassId) (hst : l.stackTraces = false) (σ : XS) (a1 : Int32) (a2 : Int32) (a3 : Int32) : xMX nsE l yX_set (.code yX_set bX_set 5 (some .int) :: wAll) { frames := 7, cells := 1, slots := 6, locals := 110 } D h qm qr cA [.ref h, .int a1, .int a2, .int a3] σ (kX_set σ a1 a2 a3) := by
  refine zx_entry (cc := bX_set) (nL := 5) (by decide) rfl rfl (Nat.le_of_ble_eq_true rfl) (fun p e s m args below meth c S hR hlk hex htz ls H locs hl hw hz => ?_)
  have hx := S.1
  have hb := S.2.1
  have hl : lv_has ls 5 [(0, .ref h), (1, .int a1), (2, .int a2), (3, .int a3)] := hl
  refine lv_iload_n hx hb dX_set_0 rfl (lv_at hl 1 rfl) ?_
  refine lv_iload_n hx hb dX_set_1 rfl (lv_at hl 2 rfl) ?_
  refine s_calliZ S (cX_isRegister l D a1 a2) (qX_isRegister S.2.2.2.2 ⟨Nat.le_of_ble_eq_true rfl, Nat.le_of_ble_eq_true rfl⟩) hw hz rfl hl.1 rfl (Nat.le_of_ble_eq_true rfl) dX_set_2 (fun H locs hw hz => ?_)
  refine lv_if_ne (tgt := 16) hx hb dX_set_5 (by decide) (fun h_5 => ?_) (fun h_5 => ?_)
  · skip
    refine lv_aload_n hx hb dX_set_16 rfl (lv_at hl 0 rfl) ?_
    refine xget_registers S hw dX_set_17 ?_
    refine lv_iload_n hx hb dX_set_20 rfl (lv_at hl 1 rfl) ?_
    refine lv_iload_n hx hb dX_set_21 rfl (lv_at hl 2 rfl) ?_
    refine s_calliZ S (cX_slot l D a1 a2) (qX_slot S.2.2.2.2 ⟨Nat.le_of_ble_eq_true rfl, Nat.le_of_ble_eq_true rfl⟩) hw hz rfl hl.1 rfl (Nat.le_of_ble_eq_true rfl) dX_set_22 (fun H locs hw hz => ?_)
    refine va_iald hx hb hw.2.2.2 hw.1 2 0 rfl rfl (x_slot_in (x_reg_in h_5).1 (x_reg_in h_5).2) dX_set_25 ?_
    refine lv_istore (lv' := [(4, .int (σ.2.2.2 (kX_slot a1 a2).toNatClampNeg)), (0, .ref h), (1, .int a1), (2, .int a2), (3, .int a3)]) hx hb dX_set_26 hl (by decide) rfl (fun ls hl => ?_)
    refine lv_iload_n hx hb dX_set_28 rfl (lv_at hl 3 rfl) ?_
    refine lv_if_eq (tgt := 43) hx hb dX_set_29 (by decide) (fun h_29 => ?_) (fun h_29 => ?_)
    · skip
      refine lv_iload hx hb dX_set_43 (lv_at hl 0 rfl) ?_
      exact zx_iret S hR hlk hw dX_set_45 (by rw [kX_set, if_neg h_5, if_pos h_29])
    · skip
      refine lv_aload_n hx hb dX_set_32 rfl (lv_at hl 1 rfl) ?_
      refine xget_registers S hw dX_set_33 ?_
      refine lv_iload_n hx hb dX_set_36 rfl (lv_at hl 2 rfl) ?_
      refine lv_iload_n hx hb dX_set_37 rfl (lv_at hl 3 rfl) ?_
      refine s_calliZ S (cX_slot l D a1 a2) (qX_slot S.2.2.2.2 ⟨Nat.le_of_ble_eq_true rfl, Nat.le_of_ble_eq_true rfl⟩) hw hz rfl hl.1 rfl (Nat.le_of_ble_eq_true rfl) dX_set_38 (fun H locs hw hz => ?_)
      refine lv_iload_n hx hb dX_set_41 rfl (lv_at hl 4 rfl) ?_
      refine xast_qr S hw (x_slot_in (x_reg_in h_5).1 (x_reg_in h_5).2) dX_set_42 (fun H locs hw => ?_)
      refine lv_iload hx hb dX_set_43 (lv_at hl 0 rfl) ?_
      exact zx_iret S hR hlk hw dX_set_45 (by rw [kX_set, if_neg h_5, if_neg h_29])
  · skip
    exact zx_throw (ik := 23) (ic := 25) S hst hlk hex htz t_at_ns (by decide +kernel) (List.mem_append_left _ (List.mem_append_right _ (List.mem_append_left _ (List.mem_append_right _ (List.mem_append_right _ (List.mem_append_right _ (List.mem_append_right _ (List.mem_of_getElem? (i := 6) rfl)))))))) (List.mem_append_left _ (List.mem_append_right _ (List.mem_append_left _ (List.mem_append_right _ (List.mem_append_right _ (List.mem_append_right _ (List.mem_append_right _ (List.mem_of_getElem? (i := 7) rfl)))))))) (List.mem_append_left _ (List.mem_append_left _ (List.mem_append_left _ (List.mem_append_left _ (List.mem_append_left _ (List.mem_append_left _ (List.mem_of_getElem? (i := 7) rfl))))))) hz hl.1 dX_set_8 dX_set_11 dX_set_12 dX_set_15 (by decide) (by decide) (by decide) (by decide) (by rw [kX_set, if_pos h_5])
def kX_register (σ : XS) (a1 : Int32) (a2 : Int32) : Option (Int32 × XS) :=
  if (bI (kX_isRegister a1 a2)) = 0 then
    none
  else
    some ((σ.2.2.2 (kX_slot a1 a2).toNatClampNeg), σ)
set_option maxRecDepth 100000 in
set_option maxHeartbeats 4000000 in
theorem cX_register (l : Launch) (D : va_G) (h qm qr : Nat) (cA : ClassId) (hst : l.stackTraces = false) (σ : XS) (a1 : Int32) (a2 : Int32) : xMX nsE l yX_register (.code yX_register bX_register 3 (some .int) :: wAll) { frames := 7, cells := 1, slots := 6, locals := 110 } D h qm qr cA [.ref h, .int a1, .int a2] σ (kX_register σ a1 a2) := by
  refine zx_entry (cc := bX_register) (nL := 3) (by decide) rfl rfl (Nat.le_of_ble_eq_true rfl) (fun p e s m args below meth c S hR hlk hex htz ls H locs hl hw hz => ?_)
  have hx := S.1
  have hb := S.2.1
  have hl : lv_has ls 3 [(0, .ref h), (1, .int a1), (2, .int a2)] := hl
  refine lv_iload_n hx hb dX_register_0 rfl (lv_at hl 1 rfl) ?_
  refine lv_iload_n hx hb dX_register_1 rfl (lv_at hl 2 rfl) ?_
  refine s_calliZ S (cX_isRegister l D a1 a2) (qX_isRegister S.2.2.2.2 ⟨Nat.le_of_ble_eq_true rfl, Nat.le_of_ble_eq_true rfl⟩) hw hz rfl hl.1 rfl (Nat.le_of_ble_eq_true rfl) dX_register_2 (fun H locs hw hz => ?_)
  refine lv_if_ne (tgt := 16) hx hb dX_register_5 (by decide) (fun h_5 => ?_) (fun h_5 => ?_)
  · skip
    refine lv_aload_n hx hb dX_register_16 rfl (lv_at hl 0 rfl) ?_
    refine xget_registers S hw dX_register_17 ?_
    refine lv_iload_n hx hb dX_register_20 rfl (lv_at hl 1 rfl) ?_
    refine lv_iload_n hx hb dX_register_21 rfl (lv_at hl 2 rfl) ?_
    refine s_calliZ S (cX_slot l D a1 a2) (qX_slot S.2.2.2.2 ⟨Nat.le_of_ble_eq_true rfl, Nat.le_of_ble_eq_true rfl⟩) hw hz rfl hl.1 rfl (Nat.le_of_ble_eq_true rfl) dX_register_22 (fun H locs hw hz => ?_)
    refine va_iald hx hb hw.2.2.2 hw.1 2 0 rfl rfl (x_slot_in (x_reg_in h_5).1 (x_reg_in h_5).2) dX_register_25 ?_
    exact zx_iret S hR hlk hw dX_register_26 (by rw [kX_register, if_neg h_5])
  · skip
    exact zx_throw (ik := 23) (ic := 25) S hst hlk hex htz t_at_ns (by decide +kernel) (List.mem_append_left _ (List.mem_append_right _ (List.mem_append_left _ (List.mem_append_right _ (List.mem_append_right _ (List.mem_append_right _ (List.mem_append_right _ (List.mem_of_getElem? (i := 6) rfl)))))))) (List.mem_append_left _ (List.mem_append_right _ (List.mem_append_left _ (List.mem_append_right _ (List.mem_append_right _ (List.mem_append_right _ (List.mem_append_right _ (List.mem_of_getElem? (i := 7) rfl)))))))) (List.mem_append_left _ (List.mem_append_left _ (List.mem_append_left _ (List.mem_append_left _ (List.mem_append_left _ (List.mem_append_left _ (List.mem_of_getElem? (i := 7) rfl))))))) hz hl.1 dX_register_8 dX_register_11 dX_register_12 dX_register_15 (by decide) (by decide) (by decide) (by decide) (by rw [kX_register, if_pos h_5])
def kX_control_c34 (σ : XS) (v3 : Int32) : Option (Int32 × XS) :=
  some (v3, (xB σ 11 false))
def kX_control_c29 (σ : XS) (v3 : Int32) : Option (Int32 × XS) :=
  kX_control_c34 (xB σ 10 false) v3
def kX_control (σ : XS) (a1 : Int32) (a2 : Int32) : Option (Int32 × XS) :=
  if a1 < 0 then
    none
  else
    if a1 ≤ (4 : Int32) then
      kX_control_c29 (kX_change σ a1 a2) (kX_shown σ a1)
    else
      none
set_option maxRecDepth 100000 in
set_option maxHeartbeats 4000000 in
theorem jX_control_c34 (l : Launch) (D : va_G) (h qm qr : Nat) (cA : ClassId) {p : Program} {e : Env} {s : State} {m : MethodId} {args : Array Value} {below : List Frame} {meth : Method} {c : Code} (S : CallFix p m c bX_control 4 s args wAll RX) (hR : meth.sig.returnType = (some .int)) (hlk : meth.locks = false) {ls : Array Slot} {H : Heap} {locs : List Loc} (σ : XS) (v3 : Int32) (hl : lv_has ls 4 [(0, .ref h), (3, .int v3)]) (hw : xH D h qm qr cA s σ H locs) : W p l e { frames := 7, cells := 1, slots := 6, locals := 110 } s m args below meth c H locs 0 0 (xQX nsE D h qm qr cA below args s (kX_control_c34 σ v3)) (F0 m 34 ls []) := by
  have hx := S.1
  have hb := S.2.1
  refine lv_aload_n hx hb dX_control_34 rfl (lv_at hl 0 rfl) ?_
  refine lv_iconst (v := 0) hx hb dX_control_35 (by decide) ?_
  refine xput_stopped (v := false) S hw dX_control_36 (fun H locs hw => ?_)
  refine lv_iload_n hx hb dX_control_39 rfl (lv_at hl 1 rfl) ?_
  exact zx_iret S hR hlk hw dX_control_40 rfl
set_option maxRecDepth 100000 in
set_option maxHeartbeats 4000000 in
theorem jX_control_c29 (l : Launch) (D : va_G) (h qm qr : Nat) (cA : ClassId) {p : Program} {e : Env} {s : State} {m : MethodId} {args : Array Value} {below : List Frame} {meth : Method} {c : Code} (S : CallFix p m c bX_control 4 s args wAll RX) (hR : meth.sig.returnType = (some .int)) (hlk : meth.locks = false) {ls : Array Slot} {H : Heap} {locs : List Loc} (σ : XS) (v3 : Int32) (hl : lv_has ls 4 [(0, .ref h), (3, .int v3)]) (hw : xH D h qm qr cA s σ H locs) : W p l e { frames := 7, cells := 1, slots := 6, locals := 110 } s m args below meth c H locs 0 0 (xQX nsE D h qm qr cA below args s (kX_control_c29 σ v3)) (F0 m 29 ls []) := by
  have hx := S.1
  have hb := S.2.1
  refine lv_aload_n hx hb dX_control_29 rfl (lv_at hl 0 rfl) ?_
  refine lv_iconst (v := 0) hx hb dX_control_30 (by decide) ?_
  refine xput_annulled (v := false) S hw dX_control_31 (fun H locs hw => ?_)
  rw [show kX_control_c29 σ v3 = kX_control_c34 (xB σ 10 false) v3 from rfl]
  exact jX_control_c34 l D h qm qr cA S hR hlk (xB σ 10 false) v3  (lv_sub hl [0, 1] rfl) hw
set_option maxRecDepth 100000 in
set_option maxHeartbeats 4000000 in
theorem cX_control (l : Launch) (D : va_G) (h qm qr : Nat) (cA : ClassId) (hst : l.stackTraces = false) (σ : XS) (a1 : Int32) (a2 : Int32) : xMX nsE l yX_control (.code yX_control bX_control 4 (some .int) :: wAll) { frames := 7, cells := 1, slots := 6, locals := 110 } D h qm qr cA [.ref h, .int a1, .int a2] σ (kX_control σ a1 a2) := by
  refine zx_entry (cc := bX_control) (nL := 4) (by decide) rfl rfl (Nat.le_of_ble_eq_true rfl) (fun p e s m args below meth c S hR hlk hex htz ls H locs hl hw hz => ?_)
  have hx := S.1
  have hb := S.2.1
  have hl : lv_has ls 4 [(0, .ref h), (1, .int a1), (2, .int a2)] := hl
  refine lv_iload_n hx hb dX_control_0 rfl (lv_at hl 1 rfl) ?_
  refine lv_if_lt (tgt := 9) hx hb dX_control_1 (by decide) (fun h_1 => ?_) (fun h_1 => ?_)
  · skip
    exact zx_throw (ik := 23) (ic := 25) S hst hlk hex htz t_at_ns (by decide +kernel) (List.mem_append_left _ (List.mem_append_right _ (List.mem_append_left _ (List.mem_append_right _ (List.mem_append_right _ (List.mem_append_right _ (List.mem_append_right _ (List.mem_of_getElem? (i := 6) rfl)))))))) (List.mem_append_left _ (List.mem_append_right _ (List.mem_append_left _ (List.mem_append_right _ (List.mem_append_right _ (List.mem_append_right _ (List.mem_append_right _ (List.mem_of_getElem? (i := 7) rfl)))))))) (List.mem_append_left _ (List.mem_append_left _ (List.mem_append_left _ (List.mem_append_left _ (List.mem_append_left _ (List.mem_append_left _ (List.mem_of_getElem? (i := 7) rfl))))))) hz hl.1 dX_control_9 dX_control_12 dX_control_13 dX_control_16 (by decide) (by decide) (by decide) (by decide) (by rw [kX_control, if_pos h_1])
  · skip
    refine lv_iload_n hx hb dX_control_4 rfl (lv_at hl 1 rfl) ?_
    refine lv_iconst (v := 4) hx hb dX_control_5 (by decide) ?_
    refine lv_icmp_le (tgt := 17) hx hb dX_control_6 (by decide) (fun h_6 => ?_) (fun h_6 => ?_)
    · skip
      refine lv_aload_n hx hb dX_control_17 rfl (lv_at hl 0 rfl) ?_
      refine lv_iload_n hx hb dX_control_18 rfl (lv_at hl 1 rfl) ?_
      refine z_calli S (cX_shown l D h qm qr cA σ a1) (qX_shown S.2.2.2.2 ⟨Nat.le_of_ble_eq_true rfl, Nat.le_of_ble_eq_true rfl⟩) hw rfl rfl rfl hl.1 rfl (Nat.le_of_ble_eq_true rfl) dX_control_19 (fun H locs hw => ?_)
      refine lv_istore_n (lv' := [(3, .int (kX_shown σ a1)), (0, .ref h), (1, .int a1), (2, .int a2)]) hx hb dX_control_22 rfl hl (by decide) rfl (fun ls hl => ?_)
      refine lv_aload_n hx hb dX_control_23 rfl (lv_at hl 1 rfl) ?_
      refine lv_iload_n hx hb dX_control_24 rfl (lv_at hl 2 rfl) ?_
      refine lv_iload_n hx hb dX_control_25 rfl (lv_at hl 3 rfl) ?_
      refine z_callv S (cX_change l D h qm qr cA σ a1 a2) (qX_change S.2.2.2.2 ⟨Nat.le_of_ble_eq_true rfl, Nat.le_of_ble_eq_true rfl⟩) hw rfl rfl rfl hl.1 rfl (Nat.le_of_ble_eq_true rfl) dX_control_26 (fun H locs hw => ?_)
      rw [show kX_control σ a1 a2 = kX_control_c29 (kX_change σ a1 a2) (kX_shown σ a1) from (by rw [kX_control, if_neg h_1, if_pos h_6])]
      exact jX_control_c29 l D h qm qr cA S hR hlk (kX_change σ a1 a2) (kX_shown σ a1)  (lv_sub hl [1, 0] rfl) hw
    · skip
      exact zx_throw (ik := 23) (ic := 25) S hst hlk hex htz t_at_ns (by decide +kernel) (List.mem_append_left _ (List.mem_append_right _ (List.mem_append_left _ (List.mem_append_right _ (List.mem_append_right _ (List.mem_append_right _ (List.mem_append_right _ (List.mem_of_getElem? (i := 6) rfl)))))))) (List.mem_append_left _ (List.mem_append_right _ (List.mem_append_left _ (List.mem_append_right _ (List.mem_append_right _ (List.mem_append_right _ (List.mem_append_right _ (List.mem_of_getElem? (i := 7) rfl)))))))) (List.mem_append_left _ (List.mem_append_left _ (List.mem_append_left _ (List.mem_append_left _ (List.mem_append_left _ (List.mem_append_left _ (List.mem_of_getElem? (i := 7) rfl))))))) hz hl.1 dX_control_9 dX_control_12 dX_control_13 dX_control_16 (by decide) (by decide) (by decide) (by decide) (by rw [kX_control, if_neg h_1, if_neg h_6])
def kX_request (σ : XS) (a1 : Int32) : Option (Int32 × XS) :=
  if a1 < 0 then
    none
  else
    if a1 ≤ (15 : Int32) then
      some ((σ.1 7), (xI σ 7 a1))
    else
      none
set_option maxRecDepth 100000 in
set_option maxHeartbeats 4000000 in
theorem cX_request (l : Launch) (D : va_G) (h qm qr : Nat) (cA : ClassId) (hst : l.stackTraces = false) (σ : XS) (a1 : Int32) : xMX iaE l yX_request (.code yX_request bX_request 3 (some .int) :: wAll) { frames := 7, cells := 1, slots := 6, locals := 110 } D h qm qr cA [.ref h, .int a1] σ (kX_request σ a1) := by
  refine zx_entry (cc := bX_request) (nL := 3) (by decide) rfl rfl (Nat.le_of_ble_eq_true rfl) (fun p e s m args below meth c S hR hlk hex htz ls H locs hl hw hz => ?_)
  have hx := S.1
  have hb := S.2.1
  have hl : lv_has ls 3 [(0, .ref h), (1, .int a1)] := hl
  refine lv_iload_n hx hb dX_request_0 rfl (lv_at hl 1 rfl) ?_
  refine lv_if_lt (tgt := 10) hx hb dX_request_1 (by decide) (fun h_1 => ?_) (fun h_1 => ?_)
  · skip
    exact zx_throw (ik := 49) (ic := 51) S hst hlk hex htz t_at_ia (by decide +kernel) (List.mem_append_right _ (List.mem_append_left _ (List.mem_append_left _ (List.mem_append_left _ (List.mem_append_left _ (List.mem_append_left _ (List.mem_of_getElem? (i := 5) rfl))))))) (List.mem_append_right _ (List.mem_append_left _ (List.mem_append_left _ (List.mem_append_left _ (List.mem_append_left _ (List.mem_append_left _ (List.mem_of_getElem? (i := 6) rfl))))))) (List.mem_append_left _ (List.mem_append_left _ (List.mem_append_left _ (List.mem_append_left _ (List.mem_append_left _ (List.mem_append_right _ (List.mem_of_getElem? (i := 0) rfl))))))) hz hl.1 dX_request_10 dX_request_13 dX_request_14 dX_request_17 (by decide) (by decide) (by decide) (by decide) (by rw [kX_request, if_pos h_1])
  · skip
    refine lv_iload_n hx hb dX_request_4 rfl (lv_at hl 1 rfl) ?_
    refine lv_bipush (v := 15) hx hb dX_request_5 (by decide) ?_
    refine lv_icmp_le (tgt := 18) hx hb dX_request_7 (by decide) (fun h_7 => ?_) (fun h_7 => ?_)
    · skip
      refine lv_aload_n hx hb dX_request_18 rfl (lv_at hl 0 rfl) ?_
      refine xget_requested S hw dX_request_19 ?_
      refine lv_istore_n (lv' := [(2, .int (σ.1 7)), (0, .ref h), (1, .int a1)]) hx hb dX_request_22 rfl hl (by decide) rfl (fun ls hl => ?_)
      refine lv_aload_n hx hb dX_request_23 rfl (lv_at hl 1 rfl) ?_
      refine lv_iload_n hx hb dX_request_24 rfl (lv_at hl 2 rfl) ?_
      refine xput_requested S hw dX_request_25 (fun H locs hw => ?_)
      refine lv_iload_n hx hb dX_request_28 rfl (lv_at hl 0 rfl) ?_
      exact zx_iret S hR hlk hw dX_request_29 (by rw [kX_request, if_neg h_1, if_pos h_7])
    · skip
      exact zx_throw (ik := 49) (ic := 51) S hst hlk hex htz t_at_ia (by decide +kernel) (List.mem_append_right _ (List.mem_append_left _ (List.mem_append_left _ (List.mem_append_left _ (List.mem_append_left _ (List.mem_append_left _ (List.mem_of_getElem? (i := 5) rfl))))))) (List.mem_append_right _ (List.mem_append_left _ (List.mem_append_left _ (List.mem_append_left _ (List.mem_append_left _ (List.mem_append_left _ (List.mem_of_getElem? (i := 6) rfl))))))) (List.mem_append_left _ (List.mem_append_left _ (List.mem_append_left _ (List.mem_append_left _ (List.mem_append_left _ (List.mem_append_right _ (List.mem_of_getElem? (i := 0) rfl))))))) hz hl.1 dX_request_10 dX_request_13 dX_request_14 dX_request_17 (by decide) (by decide) (by decide) (by decide) (by rw [kX_request, if_neg h_1, if_neg h_7])
def kX_run_c23 : Nat → XS → Int32 → Int32 → Int32 → Option (Int32 × XS)
  | 0, σ, v1, v2, v3 => none
  | f + 1, σ, v1, v2, v3 =>
    if v1 ≤ v3 then
      some (v2, σ)
    else
      if (bI (σ.2.1 11)) = 0 then
        if (kX_advance σ).1 < (100 : Int32) then
          kX_run_c23 f ((kX_advance σ).2) v1 v2 (v3 + Int32.ofInt 1)
        else
          kX_run_c23 f ((kX_advance σ).2) v1 (v2 + Int32.ofInt 1) (v3 + Int32.ofInt 1)
      else
        some (v2, σ)
def kX_run (σ : XS) (a1 : Int32) : Option (Int32 × XS) :=
  if a1 < 0 then
    none
  else
    if a1 ≤ (5000 : Int32) then
      kX_run_c23 ((Int32.toInt a1 - Int32.toInt (0 : Int32)).toNat + 1) σ a1 (0 : Int32) (0 : Int32)
    else
      none
set_option maxRecDepth 100000 in
set_option maxHeartbeats 4000000 in
theorem jX_run_c23 (l : Launch) (D : va_G) (h qm qr : Nat) (cA : ClassId) {p : Program} {e : Env} {s : State} {m : MethodId} {args : Array Value} {below : List Frame} {meth : Method} {c : Code} (S : CallFix p m c bX_run 4 s args wAll RX) (hR : meth.sig.returnType = (some .int)) (hlk : meth.locks = false) (f : Nat) : ∀ (ls : Array Slot) (H : Heap) (locs : List Loc) (σ : XS) (v1 : Int32) (v2 : Int32) (v3 : Int32) (hk : 0 ≤ Int32.toInt v3) (hf : (Int32.toInt v1 - Int32.toInt v3).toNat < f) (hl : lv_has ls 4 [(0, .ref h), (1, .int v1), (2, .int v2), (3, .int v3)]) (hw : xH D h qm qr cA s σ H locs), W p l e { frames := 7, cells := 1, slots := 6, locals := 157 } s m args below meth c H locs 0 0 (xQX iaE D h qm qr cA below args s (kX_run_c23 f σ v1 v2 v3)) (F0 m 23 ls []) := by
  have hx := S.1
  have hb := S.2.1
  induction f with
  | zero => intro ls H locs σ v1 v2 v3 hk hf; exact absurd hf (Nat.not_lt_zero _)
  | succ f ih =>
  intro ls H locs σ v1 v2 v3 hk hf hl hw
  refine lv_iload_n hx hb dX_run_23 rfl (lv_at hl 3 rfl) ?_
  refine lv_iload_n hx hb dX_run_24 rfl (lv_at hl 1 rfl) ?_
  refine lv_icmp_ge (tgt := 53) hx hb dX_run_25 (by decide) (fun h_25 => ?_) (fun h_25 => ?_)
  · skip
    refine lv_iload_n hx hb dX_run_53 rfl (lv_at hl 2 rfl) ?_
    exact zx_iret S hR hlk hw dX_run_54 (by rw [kX_run_c23, if_pos h_25])
  · skip
    refine lv_aload_n hx hb dX_run_28 rfl (lv_at hl 0 rfl) ?_
    refine xget_stopped S hw dX_run_29 ?_
    refine lv_if_ne (tgt := 53) hx hb dX_run_32 (by decide) (fun h_32 => ?_) (fun h_32 => ?_)
    · skip
      refine lv_iload_n hx hb dX_run_53 rfl (lv_at hl 2 rfl) ?_
      exact zx_iret S hR hlk hw dX_run_54 (by rw [kX_run_c23, if_neg h_25, if_neg h_32])
    · skip
      refine lv_aload_n hx hb dX_run_35 rfl (lv_at hl 0 rfl) ?_
      refine z_calli S (cX_advance l D h qm qr cA σ) (qX_advance S.2.2.2.2 ⟨Nat.le_of_ble_eq_true rfl, Nat.le_of_ble_eq_true rfl⟩) hw rfl rfl rfl hl.1 rfl (Nat.le_of_ble_eq_true rfl) dX_run_36 (fun H locs hw => ?_)
      refine lv_bipush (v := 100) hx hb dX_run_39 (by decide) ?_
      refine lv_icmp_lt (tgt := 47) hx hb dX_run_41 (by decide) (fun h_41 => ?_) (fun h_41 => ?_)
      · skip
        refine lv_iinc (lv' := [(3, .int (v3 + Int32.ofInt 1)), (0, .ref h), (1, .int v1), (2, .int v2)]) (k := 3) hx hb dX_run_47 hl rfl rfl (by decide) rfl (fun ls hl => ?_)
        refine lv_goto (tgt := 23) hx hb dX_run_50 (by decide) ?_
        rw [show kX_run_c23 (f + 1) σ v1 v2 v3 = kX_run_c23 f ((kX_advance σ).2) v1 v2 (v3 + Int32.ofInt 1) from (by rw [kX_run_c23, if_neg h_25, if_pos h_32, if_pos h_41])]
        exact ih _ _ _ ((kX_advance σ).2) v1 v2 (v3 + Int32.ofInt 1) (by first | exact m_inc hk h_25 | decide) (m_dec hk h_25 hf) (lv_sub hl [1, 2, 3, 0] rfl) hw
      · skip
        refine lv_iinc (lv' := [(2, .int (v2 + Int32.ofInt 1)), (0, .ref h), (1, .int v1), (3, .int v3)]) (k := 2) hx hb dX_run_44 hl rfl rfl (by decide) rfl (fun ls hl => ?_)
        refine lv_iinc (lv' := [(3, .int (v3 + Int32.ofInt 1)), (2, .int (v2 + Int32.ofInt 1)), (0, .ref h), (1, .int v1)]) (k := 3) hx hb dX_run_47 hl rfl rfl (by decide) rfl (fun ls hl => ?_)
        refine lv_goto (tgt := 23) hx hb dX_run_50 (by decide) ?_
        rw [show kX_run_c23 (f + 1) σ v1 v2 v3 = kX_run_c23 f ((kX_advance σ).2) v1 (v2 + Int32.ofInt 1) (v3 + Int32.ofInt 1) from (by rw [kX_run_c23, if_neg h_25, if_pos h_32, if_neg h_41])]
        exact ih _ _ _ ((kX_advance σ).2) v1 (v2 + Int32.ofInt 1) (v3 + Int32.ofInt 1) (by first | exact m_inc hk h_25 | decide) (m_dec hk h_25 hf) (lv_sub hl [2, 3, 1, 0] rfl) hw
set_option maxRecDepth 100000 in
set_option maxHeartbeats 4000000 in
theorem cX_run (l : Launch) (D : va_G) (h qm qr : Nat) (cA : ClassId) (hst : l.stackTraces = false) (σ : XS) (a1 : Int32) : xMX iaE l yX_run (.code yX_run bX_run 4 (some .int) :: wAll) { frames := 7, cells := 1, slots := 6, locals := 157 } D h qm qr cA [.ref h, .int a1] σ (kX_run σ a1) := by
  refine zx_entry (cc := bX_run) (nL := 4) (by decide) rfl rfl (Nat.le_of_ble_eq_true rfl) (fun p e s m args below meth c S hR hlk hex htz ls H locs hl hw hz => ?_)
  have hx := S.1
  have hb := S.2.1
  have hl : lv_has ls 4 [(0, .ref h), (1, .int a1)] := hl
  refine lv_iload_n hx hb dX_run_0 rfl (lv_at hl 1 rfl) ?_
  refine lv_if_lt (tgt := 11) hx hb dX_run_1 (by decide) (fun h_1 => ?_) (fun h_1 => ?_)
  · skip
    exact zx_throw (ik := 49) (ic := 51) S hst hlk hex htz t_at_ia (by decide +kernel) (List.mem_append_right _ (List.mem_append_left _ (List.mem_append_left _ (List.mem_append_left _ (List.mem_append_left _ (List.mem_append_left _ (List.mem_of_getElem? (i := 5) rfl))))))) (List.mem_append_right _ (List.mem_append_left _ (List.mem_append_left _ (List.mem_append_left _ (List.mem_append_left _ (List.mem_append_left _ (List.mem_of_getElem? (i := 6) rfl))))))) (List.mem_append_left _ (List.mem_append_left _ (List.mem_append_left _ (List.mem_append_left _ (List.mem_append_left _ (List.mem_append_right _ (List.mem_of_getElem? (i := 0) rfl))))))) hz hl.1 dX_run_11 dX_run_14 dX_run_15 dX_run_18 (by decide) (by decide) (by decide) (by decide) (by rw [kX_run, if_pos h_1])
  · skip
    refine lv_iload_n hx hb dX_run_4 rfl (lv_at hl 1 rfl) ?_
    refine lv_sipush (v := 5000) hx hb dX_run_5 (by decide) ?_
    refine lv_icmp_le (tgt := 19) hx hb dX_run_8 (by decide) (fun h_8 => ?_) (fun h_8 => ?_)
    · skip
      refine lv_iconst (v := 0) hx hb dX_run_19 (by decide) ?_
      refine lv_istore_n (lv' := [(2, .int (0 : Int32)), (0, .ref h), (1, .int a1)]) hx hb dX_run_20 rfl hl (by decide) rfl (fun ls hl => ?_)
      refine lv_iconst (v := 0) hx hb dX_run_21 (by decide) ?_
      refine lv_istore_n (lv' := [(3, .int (0 : Int32)), (2, .int (0 : Int32)), (0, .ref h), (1, .int a1)]) hx hb dX_run_22 rfl hl (by decide) rfl (fun ls hl => ?_)
      rw [show kX_run σ a1 = kX_run_c23 ((Int32.toInt a1 - Int32.toInt (0 : Int32)).toNat + 1) σ a1 (0 : Int32) (0 : Int32) from (by rw [kX_run, if_neg h_1, if_pos h_8])]
      exact jX_run_c23 l D h qm qr cA S hR hlk ((Int32.toInt a1 - Int32.toInt (0 : Int32)).toNat + 1) _ _ _ σ a1 (0 : Int32) (0 : Int32) (by first | exact m_inc hk h_25 | decide) (Nat.lt_succ_self _) (lv_sub hl [2, 3, 1, 0] rfl) hw
    · skip
      exact zx_throw (ik := 49) (ic := 51) S hst hlk hex htz t_at_ia (by decide +kernel) (List.mem_append_right _ (List.mem_append_left _ (List.mem_append_left _ (List.mem_append_left _ (List.mem_append_left _ (List.mem_append_left _ (List.mem_of_getElem? (i := 5) rfl))))))) (List.mem_append_right _ (List.mem_append_left _ (List.mem_append_left _ (List.mem_append_left _ (List.mem_append_left _ (List.mem_append_left _ (List.mem_of_getElem? (i := 6) rfl))))))) (List.mem_append_left _ (List.mem_append_left _ (List.mem_append_left _ (List.mem_append_left _ (List.mem_append_left _ (List.mem_append_right _ (List.mem_of_getElem? (i := 0) rfl))))))) hz hl.1 dX_run_11 dX_run_14 dX_run_15 dX_run_18 (by decide) (by decide) (by decide) (by decide) (by rw [kX_run, if_neg h_1, if_neg h_8])
def kX_look (σ : XS) (a1 : Int32) : Option (Int32 × XS) :=
  if a1 < 0 then
    none
  else
    if a1 ≤ (9 : Int32) then
      some ((kX_shown σ a1), σ)
    else
      none
set_option maxRecDepth 100000 in
set_option maxHeartbeats 4000000 in
theorem cX_look (l : Launch) (D : va_G) (h qm qr : Nat) (cA : ClassId) (hst : l.stackTraces = false) (σ : XS) (a1 : Int32) : xMX nsE l yX_look (.code yX_look bX_look 2 (some .int) :: wAll) { frames := 7, cells := 1, slots := 6, locals := 110 } D h qm qr cA [.ref h, .int a1] σ (kX_look σ a1) := by
  refine zx_entry (cc := bX_look) (nL := 2) (by decide) rfl rfl (Nat.le_of_ble_eq_true rfl) (fun p e s m args below meth c S hR hlk hex htz ls H locs hl hw hz => ?_)
  have hx := S.1
  have hb := S.2.1
  have hl : lv_has ls 2 [(0, .ref h), (1, .int a1)] := hl
  refine lv_iload_n hx hb dX_look_0 rfl (lv_at hl 1 rfl) ?_
  refine lv_if_lt (tgt := 10) hx hb dX_look_1 (by decide) (fun h_1 => ?_) (fun h_1 => ?_)
  · skip
    exact zx_throw (ik := 23) (ic := 25) S hst hlk hex htz t_at_ns (by decide +kernel) (List.mem_append_left _ (List.mem_append_right _ (List.mem_append_left _ (List.mem_append_right _ (List.mem_append_right _ (List.mem_append_right _ (List.mem_append_right _ (List.mem_of_getElem? (i := 6) rfl)))))))) (List.mem_append_left _ (List.mem_append_right _ (List.mem_append_left _ (List.mem_append_right _ (List.mem_append_right _ (List.mem_append_right _ (List.mem_append_right _ (List.mem_of_getElem? (i := 7) rfl)))))))) (List.mem_append_left _ (List.mem_append_left _ (List.mem_append_left _ (List.mem_append_left _ (List.mem_append_left _ (List.mem_append_left _ (List.mem_of_getElem? (i := 7) rfl))))))) hz hl.1 dX_look_10 dX_look_13 dX_look_14 dX_look_17 (by decide) (by decide) (by decide) (by decide) (by rw [kX_look, if_pos h_1])
  · skip
    refine lv_iload_n hx hb dX_look_4 rfl (lv_at hl 1 rfl) ?_
    refine lv_bipush (v := 9) hx hb dX_look_5 (by decide) ?_
    refine lv_icmp_le (tgt := 18) hx hb dX_look_7 (by decide) (fun h_7 => ?_) (fun h_7 => ?_)
    · skip
      refine lv_aload_n hx hb dX_look_18 rfl (lv_at hl 0 rfl) ?_
      refine lv_iload_n hx hb dX_look_19 rfl (lv_at hl 1 rfl) ?_
      refine z_calli S (cX_shown l D h qm qr cA σ a1) (qX_shown S.2.2.2.2 ⟨Nat.le_of_ble_eq_true rfl, Nat.le_of_ble_eq_true rfl⟩) hw rfl rfl rfl hl.1 rfl (Nat.le_of_ble_eq_true rfl) dX_look_20 (fun H locs hw => ?_)
      exact zx_iret S hR hlk hw dX_look_23 (by rw [kX_look, if_neg h_1, if_pos h_7])
    · skip
      exact zx_throw (ik := 23) (ic := 25) S hst hlk hex htz t_at_ns (by decide +kernel) (List.mem_append_left _ (List.mem_append_right _ (List.mem_append_left _ (List.mem_append_right _ (List.mem_append_right _ (List.mem_append_right _ (List.mem_append_right _ (List.mem_of_getElem? (i := 6) rfl)))))))) (List.mem_append_left _ (List.mem_append_right _ (List.mem_append_left _ (List.mem_append_right _ (List.mem_append_right _ (List.mem_append_right _ (List.mem_append_right _ (List.mem_of_getElem? (i := 7) rfl)))))))) (List.mem_append_left _ (List.mem_append_left _ (List.mem_append_left _ (List.mem_append_left _ (List.mem_append_left _ (List.mem_append_left _ (List.mem_of_getElem? (i := 7) rfl))))))) hz hl.1 dX_look_10 dX_look_13 dX_look_14 dX_look_17 (by decide) (by decide) (by decide) (by decide) (by rw [kX_look, if_neg h_1, if_neg h_7])
