/-! contracts of WindowCore: laid by my program -/
def kX_begin_c55 (σ : XS) : XS :=
  (xB σ 11 false)
def kX_begin_c50 (σ : XS) : XS :=
  kX_begin_c55 (xB σ 10 false)
def kX_begin_c45 (σ : XS) : XS :=
  kX_begin_c50 (xI σ 9 (0 : Int32))
def kX_begin_c40 (σ : XS) : XS :=
  kX_begin_c45 (xI σ 8 (0 : Int32))
def kX_begin_c35 (σ : XS) : XS :=
  kX_begin_c40 (xI σ 7 (0 : Int32))
def kX_begin_c30 (σ : XS) : XS :=
  kX_begin_c35 (xI σ 6 (4 : Int32))
def kX_begin_c25 (σ : XS) : XS :=
  kX_begin_c30 (xI σ 5 (0 : Int32))
def kX_begin_c20 (σ : XS) : XS :=
  kX_begin_c25 (xI σ 4 (0 : Int32))
def kX_begin_c15 (σ : XS) : XS :=
  kX_begin_c20 (xI σ 3 (0 : Int32))
def kX_begin_c8 (σ : XS) : XS :=
  kX_begin_c15 (xI σ 2 (128 : Int32))
def kX_begin (σ : XS) : XS :=
  kX_begin_c8 (xFill σ (0 : Int32))
set_option maxRecDepth 100000 in
set_option maxHeartbeats 4000000 in
theorem jX_begin_c55 (l : Launch) (D : va_G) (h qm qr : Nat) (cA : ClassId) {p : Program} {e : Env} {s : State} {m : MethodId} {args : Array Value} {below : List Frame} {meth : Method} {c : Code} (S : CallFix p m c bX_begin 1 s args wAll RX) (hR : meth.sig.returnType = none) (hlk : meth.locks = false) {ls : Array Slot} {H : Heap} {locs : List Loc} (σ : XS) (hl : lv_has ls 1 [(0, .ref h)]) (hw : xH D h qm qr cA s σ H locs) : W p l e { frames := 1, cells := 0, slots := 0, locals := 23 } s m args below meth c H locs 0 0 (xQv D h qm qr cA below args s (kX_begin_c55 σ)) (F0 m 55 ls []) := by
  have hx := S.1
  have hb := S.2.1
  refine lv_aload_n hx hb dX_begin_55 rfl (lv_at hl 0 rfl) ?_
  refine lv_iconst (v := 0) hx hb dX_begin_56 (by decide) ?_
  refine xput_stopped (v := false) S hw dX_begin_57 (fun H locs hw => ?_)
  exact z_vret S hR hlk hw dX_begin_60 rfl
set_option maxRecDepth 100000 in
set_option maxHeartbeats 4000000 in
theorem jX_begin_c50 (l : Launch) (D : va_G) (h qm qr : Nat) (cA : ClassId) {p : Program} {e : Env} {s : State} {m : MethodId} {args : Array Value} {below : List Frame} {meth : Method} {c : Code} (S : CallFix p m c bX_begin 1 s args wAll RX) (hR : meth.sig.returnType = none) (hlk : meth.locks = false) {ls : Array Slot} {H : Heap} {locs : List Loc} (σ : XS) (hl : lv_has ls 1 [(0, .ref h)]) (hw : xH D h qm qr cA s σ H locs) : W p l e { frames := 1, cells := 0, slots := 0, locals := 23 } s m args below meth c H locs 0 0 (xQv D h qm qr cA below args s (kX_begin_c50 σ)) (F0 m 50 ls []) := by
  have hx := S.1
  have hb := S.2.1
  refine lv_aload_n hx hb dX_begin_50 rfl (lv_at hl 0 rfl) ?_
  refine lv_iconst (v := 0) hx hb dX_begin_51 (by decide) ?_
  refine xput_annulled (v := false) S hw dX_begin_52 (fun H locs hw => ?_)
  rw [show kX_begin_c50 σ = kX_begin_c55 (xB σ 10 false) from rfl]
  exact jX_begin_c55 l D h qm qr cA S hR hlk (xB σ 10 false)  (lv_sub hl [0] rfl) hw
set_option maxRecDepth 100000 in
set_option maxHeartbeats 4000000 in
theorem jX_begin_c45 (l : Launch) (D : va_G) (h qm qr : Nat) (cA : ClassId) {p : Program} {e : Env} {s : State} {m : MethodId} {args : Array Value} {below : List Frame} {meth : Method} {c : Code} (S : CallFix p m c bX_begin 1 s args wAll RX) (hR : meth.sig.returnType = none) (hlk : meth.locks = false) {ls : Array Slot} {H : Heap} {locs : List Loc} (σ : XS) (hl : lv_has ls 1 [(0, .ref h)]) (hw : xH D h qm qr cA s σ H locs) : W p l e { frames := 1, cells := 0, slots := 0, locals := 23 } s m args below meth c H locs 0 0 (xQv D h qm qr cA below args s (kX_begin_c45 σ)) (F0 m 45 ls []) := by
  have hx := S.1
  have hb := S.2.1
  refine lv_aload_n hx hb dX_begin_45 rfl (lv_at hl 0 rfl) ?_
  refine lv_iconst (v := 0) hx hb dX_begin_46 (by decide) ?_
  refine xput_traps S hw dX_begin_47 (fun H locs hw => ?_)
  rw [show kX_begin_c45 σ = kX_begin_c50 (xI σ 9 (0 : Int32)) from rfl]
  exact jX_begin_c50 l D h qm qr cA S hR hlk (xI σ 9 (0 : Int32))  (lv_sub hl [0] rfl) hw
set_option maxRecDepth 100000 in
set_option maxHeartbeats 4000000 in
theorem jX_begin_c40 (l : Launch) (D : va_G) (h qm qr : Nat) (cA : ClassId) {p : Program} {e : Env} {s : State} {m : MethodId} {args : Array Value} {below : List Frame} {meth : Method} {c : Code} (S : CallFix p m c bX_begin 1 s args wAll RX) (hR : meth.sig.returnType = none) (hlk : meth.locks = false) {ls : Array Slot} {H : Heap} {locs : List Loc} (σ : XS) (hl : lv_has ls 1 [(0, .ref h)]) (hw : xH D h qm qr cA s σ H locs) : W p l e { frames := 1, cells := 0, slots := 0, locals := 23 } s m args below meth c H locs 0 0 (xQv D h qm qr cA below args s (kX_begin_c40 σ)) (F0 m 40 ls []) := by
  have hx := S.1
  have hb := S.2.1
  refine lv_aload_n hx hb dX_begin_40 rfl (lv_at hl 0 rfl) ?_
  refine lv_iconst (v := 0) hx hb dX_begin_41 (by decide) ?_
  refine xput_steps S hw dX_begin_42 (fun H locs hw => ?_)
  rw [show kX_begin_c40 σ = kX_begin_c45 (xI σ 8 (0 : Int32)) from rfl]
  exact jX_begin_c45 l D h qm qr cA S hR hlk (xI σ 8 (0 : Int32))  (lv_sub hl [0] rfl) hw
set_option maxRecDepth 100000 in
set_option maxHeartbeats 4000000 in
theorem jX_begin_c35 (l : Launch) (D : va_G) (h qm qr : Nat) (cA : ClassId) {p : Program} {e : Env} {s : State} {m : MethodId} {args : Array Value} {below : List Frame} {meth : Method} {c : Code} (S : CallFix p m c bX_begin 1 s args wAll RX) (hR : meth.sig.returnType = none) (hlk : meth.locks = false) {ls : Array Slot} {H : Heap} {locs : List Loc} (σ : XS) (hl : lv_has ls 1 [(0, .ref h)]) (hw : xH D h qm qr cA s σ H locs) : W p l e { frames := 1, cells := 0, slots := 0, locals := 23 } s m args below meth c H locs 0 0 (xQv D h qm qr cA below args s (kX_begin_c35 σ)) (F0 m 35 ls []) := by
  have hx := S.1
  have hb := S.2.1
  refine lv_aload_n hx hb dX_begin_35 rfl (lv_at hl 0 rfl) ?_
  refine lv_iconst (v := 0) hx hb dX_begin_36 (by decide) ?_
  refine xput_requested S hw dX_begin_37 (fun H locs hw => ?_)
  rw [show kX_begin_c35 σ = kX_begin_c40 (xI σ 7 (0 : Int32)) from rfl]
  exact jX_begin_c40 l D h qm qr cA S hR hlk (xI σ 7 (0 : Int32))  (lv_sub hl [0] rfl) hw
set_option maxRecDepth 100000 in
set_option maxHeartbeats 4000000 in
theorem jX_begin_c30 (l : Launch) (D : va_G) (h qm qr : Nat) (cA : ClassId) {p : Program} {e : Env} {s : State} {m : MethodId} {args : Array Value} {below : List Frame} {meth : Method} {c : Code} (S : CallFix p m c bX_begin 1 s args wAll RX) (hR : meth.sig.returnType = none) (hlk : meth.locks = false) {ls : Array Slot} {H : Heap} {locs : List Loc} (σ : XS) (hl : lv_has ls 1 [(0, .ref h)]) (hw : xH D h qm qr cA s σ H locs) : W p l e { frames := 1, cells := 0, slots := 0, locals := 23 } s m args below meth c H locs 0 0 (xQv D h qm qr cA below args s (kX_begin_c30 σ)) (F0 m 30 ls []) := by
  have hx := S.1
  have hb := S.2.1
  refine lv_aload_n hx hb dX_begin_30 rfl (lv_at hl 0 rfl) ?_
  refine lv_iconst (v := 4) hx hb dX_begin_31 (by decide) ?_
  refine xput_next S hw dX_begin_32 (fun H locs hw => ?_)
  rw [show kX_begin_c30 σ = kX_begin_c35 (xI σ 6 (4 : Int32)) from rfl]
  exact jX_begin_c35 l D h qm qr cA S hR hlk (xI σ 6 (4 : Int32))  (lv_sub hl [0] rfl) hw
set_option maxRecDepth 100000 in
set_option maxHeartbeats 4000000 in
theorem jX_begin_c25 (l : Launch) (D : va_G) (h qm qr : Nat) (cA : ClassId) {p : Program} {e : Env} {s : State} {m : MethodId} {args : Array Value} {below : List Frame} {meth : Method} {c : Code} (S : CallFix p m c bX_begin 1 s args wAll RX) (hR : meth.sig.returnType = none) (hlk : meth.locks = false) {ls : Array Slot} {H : Heap} {locs : List Loc} (σ : XS) (hl : lv_has ls 1 [(0, .ref h)]) (hw : xH D h qm qr cA s σ H locs) : W p l e { frames := 1, cells := 0, slots := 0, locals := 23 } s m args below meth c H locs 0 0 (xQv D h qm qr cA below args s (kX_begin_c25 σ)) (F0 m 25 ls []) := by
  have hx := S.1
  have hb := S.2.1
  refine lv_aload_n hx hb dX_begin_25 rfl (lv_at hl 0 rfl) ?_
  refine lv_iconst (v := 0) hx hb dX_begin_26 (by decide) ?_
  refine xput_place S hw dX_begin_27 (fun H locs hw => ?_)
  rw [show kX_begin_c25 σ = kX_begin_c30 (xI σ 5 (0 : Int32)) from rfl]
  exact jX_begin_c30 l D h qm qr cA S hR hlk (xI σ 5 (0 : Int32))  (lv_sub hl [0] rfl) hw
set_option maxRecDepth 100000 in
set_option maxHeartbeats 4000000 in
theorem jX_begin_c20 (l : Launch) (D : va_G) (h qm qr : Nat) (cA : ClassId) {p : Program} {e : Env} {s : State} {m : MethodId} {args : Array Value} {below : List Frame} {meth : Method} {c : Code} (S : CallFix p m c bX_begin 1 s args wAll RX) (hR : meth.sig.returnType = none) (hlk : meth.locks = false) {ls : Array Slot} {H : Heap} {locs : List Loc} (σ : XS) (hl : lv_has ls 1 [(0, .ref h)]) (hw : xH D h qm qr cA s σ H locs) : W p l e { frames := 1, cells := 0, slots := 0, locals := 23 } s m args below meth c H locs 0 0 (xQv D h qm qr cA below args s (kX_begin_c20 σ)) (F0 m 20 ls []) := by
  have hx := S.1
  have hb := S.2.1
  refine lv_aload_n hx hb dX_begin_20 rfl (lv_at hl 0 rfl) ?_
  refine lv_iconst (v := 0) hx hb dX_begin_21 (by decide) ?_
  refine xput_table S hw dX_begin_22 (fun H locs hw => ?_)
  rw [show kX_begin_c20 σ = kX_begin_c25 (xI σ 4 (0 : Int32)) from rfl]
  exact jX_begin_c25 l D h qm qr cA S hR hlk (xI σ 4 (0 : Int32))  (lv_sub hl [0] rfl) hw
set_option maxRecDepth 100000 in
set_option maxHeartbeats 4000000 in
theorem jX_begin_c15 (l : Launch) (D : va_G) (h qm qr : Nat) (cA : ClassId) {p : Program} {e : Env} {s : State} {m : MethodId} {args : Array Value} {below : List Frame} {meth : Method} {c : Code} (S : CallFix p m c bX_begin 1 s args wAll RX) (hR : meth.sig.returnType = none) (hlk : meth.locks = false) {ls : Array Slot} {H : Heap} {locs : List Loc} (σ : XS) (hl : lv_has ls 1 [(0, .ref h)]) (hw : xH D h qm qr cA s σ H locs) : W p l e { frames := 1, cells := 0, slots := 0, locals := 23 } s m args below meth c H locs 0 0 (xQv D h qm qr cA below args s (kX_begin_c15 σ)) (F0 m 15 ls []) := by
  have hx := S.1
  have hb := S.2.1
  refine lv_aload_n hx hb dX_begin_15 rfl (lv_at hl 0 rfl) ?_
  refine lv_iconst (v := 0) hx hb dX_begin_16 (by decide) ?_
  refine xput_invalid S hw dX_begin_17 (fun H locs hw => ?_)
  rw [show kX_begin_c15 σ = kX_begin_c20 (xI σ 3 (0 : Int32)) from rfl]
  exact jX_begin_c20 l D h qm qr cA S hR hlk (xI σ 3 (0 : Int32))  (lv_sub hl [0] rfl) hw
set_option maxRecDepth 100000 in
set_option maxHeartbeats 4000000 in
theorem jX_begin_c8 (l : Launch) (D : va_G) (h qm qr : Nat) (cA : ClassId) {p : Program} {e : Env} {s : State} {m : MethodId} {args : Array Value} {below : List Frame} {meth : Method} {c : Code} (S : CallFix p m c bX_begin 1 s args wAll RX) (hR : meth.sig.returnType = none) (hlk : meth.locks = false) {ls : Array Slot} {H : Heap} {locs : List Loc} (σ : XS) (hl : lv_has ls 1 [(0, .ref h)]) (hw : xH D h qm qr cA s σ H locs) : W p l e { frames := 1, cells := 0, slots := 0, locals := 23 } s m args below meth c H locs 0 0 (xQv D h qm qr cA below args s (kX_begin_c8 σ)) (F0 m 8 ls []) := by
  have hx := S.1
  have hb := S.2.1
  refine lv_aload_n hx hb dX_begin_8 rfl (lv_at hl 0 rfl) ?_
  refine lv_sipush (v := 128) hx hb dX_begin_9 (by decide) ?_
  refine xput_status S hw dX_begin_12 (fun H locs hw => ?_)
  rw [show kX_begin_c8 σ = kX_begin_c15 (xI σ 2 (128 : Int32)) from rfl]
  exact jX_begin_c15 l D h qm qr cA S hR hlk (xI σ 2 (128 : Int32))  (lv_sub hl [0] rfl) hw
set_option maxRecDepth 100000 in
set_option maxHeartbeats 4000000 in
theorem cX_begin (l : Launch) (D : va_G) (h qm qr : Nat) (cA : ClassId) (σ : XS) : xMv l yX_begin (.code yX_begin bX_begin 1 none :: wAll) { frames := 1, cells := 0, slots := 0, locals := 23 } D h qm qr cA [.ref h] σ (kX_begin σ) := by
  refine z_entryv (cc := bX_begin) (nL := 1) (by decide) rfl rfl (Nat.le_of_ble_eq_true rfl) (fun p e s m args below meth c S hR hlk ls H locs hl hw => ?_)
  have hx := S.1
  have hb := S.2.1
  have hl : lv_has ls 1 [(0, .ref h)] := hl
  refine lv_aload_n hx hb dX_begin_0 rfl (lv_at hl 0 rfl) ?_
  refine xget_registers S hw dX_begin_1 ?_
  refine lv_iconst (v := 0) hx hb dX_begin_4 (by decide) ?_
  refine xfill S hw ⟨Nat.le_of_ble_eq_true rfl, Nat.le_of_ble_eq_true rfl⟩ hl.1 (Nat.le_of_ble_eq_true rfl) dX_begin_5 (fun H locs hw => ?_)
  rw [show kX_begin σ = kX_begin_c8 (xFill σ (0 : Int32)) from rfl]
  exact jX_begin_c8 l D h qm qr cA S hR hlk (xFill σ (0 : Int32))  (lv_sub hl [0] rfl) hw
def kX_reset (σ : XS) : XS :=
  (kX_begin σ)
set_option maxRecDepth 100000 in
set_option maxHeartbeats 4000000 in
theorem cX_reset (l : Launch) (D : va_G) (h qm qr : Nat) (cA : ClassId) (σ : XS) : xMv l yX_reset (.code yX_reset bX_reset 1 none :: wAll) { frames := 2, cells := 0, slots := 0, locals := 43 } D h qm qr cA [.ref h] σ (kX_reset σ) := by
  refine z_entryv (cc := bX_reset) (nL := 1) (by decide) rfl rfl (Nat.le_of_ble_eq_true rfl) (fun p e s m args below meth c S hR hlk ls H locs hl hw => ?_)
  have hx := S.1
  have hb := S.2.1
  have hl : lv_has ls 1 [(0, .ref h)] := hl
  refine lv_aload_n hx hb dX_reset_0 rfl (lv_at hl 0 rfl) ?_
  refine z_callv S (cX_begin l D h qm qr cA σ) (qX_begin S.2.2.2.2 ⟨Nat.le_of_ble_eq_true rfl, Nat.le_of_ble_eq_true rfl⟩) hw rfl rfl rfl hl.1 rfl (Nat.le_of_ble_eq_true rfl) dX_reset_1 (fun H locs hw => ?_)
  exact z_vret S hR hlk hw dX_reset_4 rfl
