/-! contracts of WindowCoreModel: laid by my program -/
def kM_oneStep_c306 (τ : MS) : Int32 × MS :=
  ((0 : Int32), (mI τ 17 (τ.1 28)))
def kM_oneStep_c298 (τ : MS) : Int32 × MS :=
  kM_oneStep_c306 (mI τ 16 (τ.1 17))
def kM_oneStep_c293 (τ : MS) (v1 : Int32) : Int32 × MS :=
  kM_oneStep_c298 (kM_act τ v1)
def kM_oneStep_c283 (τ : MS) (v1 : Int32) : Int32 × MS :=
  kM_oneStep_c293 (mI τ 28 ((τ.1 17) + (4 : Int32))) v1
def kM_oneStep_c239 (τ : MS) (v1 : Int32) : Int32 × MS :=
  if (kM_trouble τ v1) ≤ 0 then
    if v1 = (2 : Int32) then
      if (τ.1 27) = (57 : Int32) then
        if (bI (kM_fails τ)) = 0 then
          kM_oneStep_c283 τ v1
        else
          ((2 : Int32), (mB τ 19 true))
      else
        kM_oneStep_c283 τ v1
    else
      kM_oneStep_c283 τ v1
  else
    ((kM_trap τ (kM_trouble τ v1)).1, (kM_trap τ (kM_trouble τ v1)).2)
def kM_oneStep_c236 (τ : MS) (v1 : Int32) (s0 : Int32) : Int32 × MS :=
  kM_oneStep_c239 (mI τ 26 s0) v1
def kM_oneStep_c195 (τ : MS) (v1 : Int32) : Int32 × MS :=
  if (((τ.1 23) >>> ((13 : Int32) &&& 31)) &&& (1 : Int32)) = (1 : Int32) then
    kM_oneStep_c236 τ v1 (kM_signed (τ.1 23) (13 : Int32))
  else
    kM_oneStep_c236 τ v1 (kM_get τ (τ.1 4) ((τ.1 23) &&& (31 : Int32)))
def kM_oneStep_c173 (τ : MS) (v1 : Int32) : Int32 × MS :=
  kM_oneStep_c195 (mI τ 25 (kM_get τ (τ.1 4) (((τ.1 23) >>> ((14 : Int32) &&& 31)) &&& (31 : Int32)))) v1
def kM_oneStep_c170 (τ : MS) (v1 : Int32) (s0 : Int32) : Int32 × MS :=
  kM_oneStep_c173 (mI τ 27 s0) v1
def kM_oneStep_c142 (τ : MS) (v1 : Int32) : Int32 × MS :=
  if v1 = 0 then
    kM_oneStep_c170 τ v1 (((τ.1 23) >>> ((22 : Int32) &&& 31)) &&& (7 : Int32))
  else
    kM_oneStep_c170 τ v1 (((τ.1 23) >>> ((19 : Int32) &&& 31)) &&& (63 : Int32))
def kM_oneStep_c120 (τ : MS) : Int32 × MS :=
  kM_oneStep_c142 (mI τ 24 (((τ.1 23) >>> ((25 : Int32) &&& 31)) &&& (31 : Int32))) (uS (τ.1 23) (30 : Int32))
def kM_oneStep_c90 (τ : MS) : Int32 × MS :=
  if (bI (kM_inMemory (τ.1 16) (4 : Int32))) = 0 then
    ((kM_trap τ (1 : Int32)).1, (kM_trap τ (1 : Int32)).2)
  else
    kM_oneStep_c120 (mI τ 23 (kM_load τ (τ.1 16) (4 : Int32)))
def kM_oneStep_c78 (τ : MS) : Int32 × MS :=
  ((kM_trap τ ((16 : Int32) + (τ.1 20))).1, (kM_trap τ ((16 : Int32) + (τ.1 20))).2)
def kM_oneStep_c39 (τ : MS) : Int32 × MS :=
  ((1 : Int32), (mI τ 17 ((τ.1 17) + (4 : Int32))))
def kM_oneStep_c31 (τ : MS) : Int32 × MS :=
  kM_oneStep_c39 (mI τ 16 (τ.1 17))
def kM_oneStep_c19 (τ : MS) : Int32 × MS :=
  if (bI (τ.2.1 18)) = 0 then
    if (bI (τ.2.1 5)) = 0 then
      kM_oneStep_c90 τ
    else
      if (τ.1 20) = (15 : Int32) then
        kM_oneStep_c78 τ
      else
        if (τ.1 20) ≤ (τ.1 8) then
          kM_oneStep_c90 τ
        else
          kM_oneStep_c78 τ
  else
    kM_oneStep_c31 (mB τ 18 false)
def kM_oneStep (τ : MS) : Int32 × MS :=
  if (bI (τ.2.1 19)) = 0 then
    kM_oneStep_c19 (mI τ 21 ((τ.1 21) + (1 : Int32)))
  else
    ((2 : Int32), τ)
set_option maxRecDepth 100000 in
set_option maxHeartbeats 4000000 in
theorem jM_oneStep_c306 (l : Launch) (D : va_G) (g qb qg qw : Nat) (cA : ClassId) {p : Program} {e : Env} {s : State} {m : MethodId} {args : Array Value} {below : List Frame} {meth : Method} {c : Code} (S : CallFix p m c bM_oneStep 3 s args wAll RM) (hR : meth.sig.returnType = (some .int)) (hlk : meth.locks = false) {ls : Array Slot} {H : Heap} {locs : List Loc} (τ : MS) (hok : mOK τ) (hl : lv_has ls 3 [(0, .ref g)]) (hw : mH D g qb qg qw cA s τ H locs) : W p l e { frames := 4, cells := 0, slots := 0, locals := 92 } s m args below meth c H locs 0 0 (mQi D g qb qg qw cA below args s ((kM_oneStep_c306 τ).1) (kM_oneStep_c306 τ).2) (F0 m 306 ls []) := by
  have hx := S.1
  have hb := S.2.1
  refine lv_aload_n hx hb dM_oneStep_306 rfl (lv_at hl 0 rfl) ?_
  refine lv_aload_n hx hb dM_oneStep_307 rfl (lv_at hl 0 rfl) ?_
  refine mget_target S hw dM_oneStep_308 ?_
  refine mput_next S hw dM_oneStep_311 (fun H locs hw => ?_)
  refine lv_iconst (v := 0) hx hb dM_oneStep_314 (by decide) ?_
  exact z_iretP S hR hlk hw dM_oneStep_315 rfl
set_option maxRecDepth 100000 in
set_option maxHeartbeats 4000000 in
theorem jM_oneStep_c298 (l : Launch) (D : va_G) (g qb qg qw : Nat) (cA : ClassId) {p : Program} {e : Env} {s : State} {m : MethodId} {args : Array Value} {below : List Frame} {meth : Method} {c : Code} (S : CallFix p m c bM_oneStep 3 s args wAll RM) (hR : meth.sig.returnType = (some .int)) (hlk : meth.locks = false) {ls : Array Slot} {H : Heap} {locs : List Loc} (τ : MS) (hok : mOK τ) (hl : lv_has ls 3 [(0, .ref g)]) (hw : mH D g qb qg qw cA s τ H locs) : W p l e { frames := 4, cells := 0, slots := 0, locals := 92 } s m args below meth c H locs 0 0 (mQi D g qb qg qw cA below args s ((kM_oneStep_c298 τ).1) (kM_oneStep_c298 τ).2) (F0 m 298 ls []) := by
  have hx := S.1
  have hb := S.2.1
  refine lv_aload_n hx hb dM_oneStep_298 rfl (lv_at hl 0 rfl) ?_
  refine lv_aload_n hx hb dM_oneStep_299 rfl (lv_at hl 0 rfl) ?_
  refine mget_next S hw dM_oneStep_300 ?_
  refine mput_place S hw dM_oneStep_303 (fun H locs hw => ?_)
  rw [show kM_oneStep_c298 τ = kM_oneStep_c306 (mI τ 16 (τ.1 17)) from rfl]
  exact jM_oneStep_c306 l D g qb qg qw cA S hR hlk (mI τ 16 (τ.1 17)) hok (lv_sub hl [0] rfl) hw
set_option maxRecDepth 100000 in
set_option maxHeartbeats 4000000 in
theorem jM_oneStep_c293 (l : Launch) (D : va_G) (g qb qg qw : Nat) (cA : ClassId) {p : Program} {e : Env} {s : State} {m : MethodId} {args : Array Value} {below : List Frame} {meth : Method} {c : Code} (S : CallFix p m c bM_oneStep 3 s args wAll RM) (hR : meth.sig.returnType = (some .int)) (hlk : meth.locks = false) {ls : Array Slot} {H : Heap} {locs : List Loc} (τ : MS) (v1 : Int32) (hok : mOK τ) (hact : v1 = 3 → lM (τ.1 25 + τ.1 26) (kM_moved (τ.1 27)) ∧ ((τ.1 27 = 3 ∨ τ.1 27 = 7) → vp_in (τ.1 24 + 1) 32)) (hl : lv_has ls 3 [(0, .ref g), (1, .int v1)]) (hw : mH D g qb qg qw cA s τ H locs) : W p l e { frames := 4, cells := 0, slots := 0, locals := 92 } s m args below meth c H locs 0 0 (mQi D g qb qg qw cA below args s ((kM_oneStep_c293 τ v1).1) (kM_oneStep_c293 τ v1).2) (F0 m 293 ls []) := by
  have hx := S.1
  have hb := S.2.1
  refine lv_aload_n hx hb dM_oneStep_293 rfl (lv_at hl 0 rfl) ?_
  refine lv_iload_n hx hb dM_oneStep_294 rfl (lv_at hl 1 rfl) ?_
  refine z_callv S (cM_act l D g qb qg qw cA τ v1 hok hact) (qM_act S.2.2.2.2 ⟨Nat.le_of_ble_eq_true rfl, Nat.le_of_ble_eq_true rfl⟩) hw rfl rfl rfl hl.1 rfl (Nat.le_of_ble_eq_true rfl) dM_oneStep_295 (fun H locs hw => ?_)
  rw [show kM_oneStep_c293 τ v1 = kM_oneStep_c298 (kM_act τ v1) from rfl]
  exact jM_oneStep_c298 l D g qb qg qw cA S hR hlk (kM_act τ v1) (mok_act hok) (lv_sub hl [0] rfl) hw
set_option maxRecDepth 100000 in
set_option maxHeartbeats 4000000 in
theorem jM_oneStep_c283 (l : Launch) (D : va_G) (g qb qg qw : Nat) (cA : ClassId) {p : Program} {e : Env} {s : State} {m : MethodId} {args : Array Value} {below : List Frame} {meth : Method} {c : Code} (S : CallFix p m c bM_oneStep 3 s args wAll RM) (hR : meth.sig.returnType = (some .int)) (hlk : meth.locks = false) {ls : Array Slot} {H : Heap} {locs : List Loc} (τ : MS) (v1 : Int32) (hok : mOK τ) (hact : v1 = 3 → lM (τ.1 25 + τ.1 26) (kM_moved (τ.1 27)) ∧ ((τ.1 27 = 3 ∨ τ.1 27 = 7) → vp_in (τ.1 24 + 1) 32)) (hl : lv_has ls 3 [(0, .ref g), (1, .int v1)]) (hw : mH D g qb qg qw cA s τ H locs) : W p l e { frames := 4, cells := 0, slots := 0, locals := 92 } s m args below meth c H locs 0 0 (mQi D g qb qg qw cA below args s ((kM_oneStep_c283 τ v1).1) (kM_oneStep_c283 τ v1).2) (F0 m 283 ls []) := by
  have hx := S.1
  have hb := S.2.1
  refine lv_aload_n hx hb dM_oneStep_283 rfl (lv_at hl 0 rfl) ?_
  refine lv_aload_n hx hb dM_oneStep_284 rfl (lv_at hl 0 rfl) ?_
  refine mget_next S hw dM_oneStep_285 ?_
  refine lv_iconst (v := 4) hx hb dM_oneStep_288 (by decide) ?_
  refine lv_iadd hx hb dM_oneStep_289 ?_
  refine mput_target S hw dM_oneStep_290 (fun H locs hw => ?_)
  rw [show kM_oneStep_c283 τ v1 = kM_oneStep_c293 (mI τ 28 ((τ.1 17) + (4 : Int32))) v1 from rfl]
  exact jM_oneStep_c293 l D g qb qg qw cA S hR hlk (mI τ 28 ((τ.1 17) + (4 : Int32))) v1 hok hact (lv_sub hl [0, 1] rfl) hw
set_option maxRecDepth 100000 in
set_option maxHeartbeats 4000000 in
theorem jM_oneStep_c239 (l : Launch) (D : va_G) (g qb qg qw : Nat) (cA : ClassId) {p : Program} {e : Env} {s : State} {m : MethodId} {args : Array Value} {below : List Frame} {meth : Method} {c : Code} (S : CallFix p m c bM_oneStep 3 s args wAll RM) (hR : meth.sig.returnType = (some .int)) (hlk : meth.locks = false) {ls : Array Slot} {H : Heap} {locs : List Loc} (τ : MS) (v1 : Int32) (hok : mOK τ) (hl : lv_has ls 3 [(0, .ref g), (1, .int v1)]) (hw : mH D g qb qg qw cA s τ H locs) : W p l e { frames := 4, cells := 0, slots := 0, locals := 92 } s m args below meth c H locs 0 0 (mQi D g qb qg qw cA below args s ((kM_oneStep_c239 τ v1).1) (kM_oneStep_c239 τ v1).2) (F0 m 239 ls []) := by
  have hx := S.1
  have hb := S.2.1
  refine lv_aload_n hx hb dM_oneStep_239 rfl (lv_at hl 0 rfl) ?_
  refine lv_iload_n hx hb dM_oneStep_240 rfl (lv_at hl 1 rfl) ?_
  refine z_calli S (cM_trouble l D g qb qg qw cA τ v1) (qM_trouble S.2.2.2.2 ⟨Nat.le_of_ble_eq_true rfl, Nat.le_of_ble_eq_true rfl⟩) hw rfl rfl rfl hl.1 rfl (Nat.le_of_ble_eq_true rfl) dM_oneStep_241 (fun H locs hw => ?_)
  refine lv_istore_n (lv' := [(2, .int (kM_trouble τ v1)), (0, .ref g), (1, .int v1)]) hx hb dM_oneStep_244 rfl hl (by decide) rfl (fun ls hl => ?_)
  refine lv_iload_n hx hb dM_oneStep_245 rfl (lv_at hl 0 rfl) ?_
  refine lv_if_le (tgt := 255) hx hb dM_oneStep_246 (by decide) (fun h_246 => ?_) (fun h_246 => ?_)
  · skip
    refine lv_iload_n hx hb dM_oneStep_255 rfl (lv_at hl 2 rfl) ?_
    refine lv_iconst (v := 2) hx hb dM_oneStep_256 (by decide) ?_
    refine lv_icmp_ne (tgt := 283) hx hb dM_oneStep_257 (by decide) (fun h_257 => ?_) (fun h_257 => ?_)
    · skip
      rw [show kM_oneStep_c239 τ v1 = kM_oneStep_c283 τ v1 from (by rw [kM_oneStep_c239, if_pos h_246, if_neg h_257])]
      exact jM_oneStep_c283 l D g qb qg qw cA S hR hlk τ v1 hok (m_trouble hok h_246) (lv_sub hl [1, 2] rfl) hw
    · skip
      refine lv_aload_n hx hb dM_oneStep_260 rfl (lv_at hl 1 rfl) ?_
      refine mget_order S hw dM_oneStep_261 ?_
      refine lv_bipush (v := 57) hx hb dM_oneStep_264 (by decide) ?_
      refine lv_icmp_ne (tgt := 283) hx hb dM_oneStep_266 (by decide) (fun h_266 => ?_) (fun h_266 => ?_)
      · skip
        rw [show kM_oneStep_c239 τ v1 = kM_oneStep_c283 τ v1 from (by rw [kM_oneStep_c239, if_pos h_246, if_pos h_257, if_neg h_266])]
        exact jM_oneStep_c283 l D g qb qg qw cA S hR hlk τ v1 hok (m_trouble hok h_246) (lv_sub hl [1, 2] rfl) hw
      · skip
        refine lv_aload_n hx hb dM_oneStep_269 rfl (lv_at hl 1 rfl) ?_
        refine z_calli S (cM_fails l D g qb qg qw cA τ) (qM_fails S.2.2.2.2 ⟨Nat.le_of_ble_eq_true rfl, Nat.le_of_ble_eq_true rfl⟩) hw rfl rfl rfl hl.1 rfl (Nat.le_of_ble_eq_true rfl) dM_oneStep_270 (fun H locs hw => ?_)
        refine lv_if_eq (tgt := 283) hx hb dM_oneStep_273 (by decide) (fun h_273 => ?_) (fun h_273 => ?_)
        · skip
          rw [show kM_oneStep_c239 τ v1 = kM_oneStep_c283 τ v1 from (by rw [kM_oneStep_c239, if_pos h_246, if_pos h_257, if_pos h_266, if_pos h_273])]
          exact jM_oneStep_c283 l D g qb qg qw cA S hR hlk τ v1 hok (m_trouble hok h_246) (lv_sub hl [1, 2] rfl) hw
        · skip
          refine lv_aload_n hx hb dM_oneStep_276 rfl (lv_at hl 1 rfl) ?_
          refine lv_iconst (v := 1) hx hb dM_oneStep_277 (by decide) ?_
          refine mput_stopped (v := true) S hw dM_oneStep_278 (fun H locs hw => ?_)
          refine lv_iconst (v := 2) hx hb dM_oneStep_281 (by decide) ?_
          exact z_iretP S hR hlk hw dM_oneStep_282 (by rw [kM_oneStep_c239, if_pos h_246, if_pos h_257, if_pos h_266, if_neg h_273])
  · skip
    refine lv_aload_n hx hb dM_oneStep_249 rfl (lv_at hl 1 rfl) ?_
    refine lv_iload_n hx hb dM_oneStep_250 rfl (lv_at hl 0 rfl) ?_
    refine z_calli S (cM_trap l D g qb qg qw cA τ (kM_trouble τ v1) hok) (qM_trap S.2.2.2.2 ⟨Nat.le_of_ble_eq_true rfl, Nat.le_of_ble_eq_true rfl⟩) hw rfl rfl rfl hl.1 rfl (Nat.le_of_ble_eq_true rfl) dM_oneStep_251 (fun H locs hw => ?_)
    exact z_iretP S hR hlk hw dM_oneStep_254 (by rw [kM_oneStep_c239, if_neg h_246])
set_option maxRecDepth 100000 in
set_option maxHeartbeats 4000000 in
theorem jM_oneStep_c236 (l : Launch) (D : va_G) (g qb qg qw : Nat) (cA : ClassId) {p : Program} {e : Env} {s : State} {m : MethodId} {args : Array Value} {below : List Frame} {meth : Method} {c : Code} (S : CallFix p m c bM_oneStep 3 s args wAll RM) (hR : meth.sig.returnType = (some .int)) (hlk : meth.locks = false) {ls : Array Slot} {H : Heap} {locs : List Loc} (τ : MS) (v1 : Int32) (s0 : Int32) (hok : mOK τ) (hl : lv_has ls 3 [(0, .ref g), (1, .int v1)]) (hw : mH D g qb qg qw cA s τ H locs) : W p l e { frames := 4, cells := 0, slots := 0, locals := 92 } s m args below meth c H locs 0 0 (mQi D g qb qg qw cA below args s ((kM_oneStep_c236 τ v1 s0).1) (kM_oneStep_c236 τ v1 s0).2) (F0 m 236 ls [.int s0, .ref g]) := by
  have hx := S.1
  have hb := S.2.1
  refine mput_b S hw dM_oneStep_236 (fun H locs hw => ?_)
  rw [show kM_oneStep_c236 τ v1 s0 = kM_oneStep_c239 (mI τ 26 s0) v1 from rfl]
  exact jM_oneStep_c239 l D g qb qg qw cA S hR hlk (mI τ 26 s0) v1 hok (lv_sub hl [0, 1] rfl) hw
set_option maxRecDepth 100000 in
set_option maxHeartbeats 4000000 in
theorem jM_oneStep_c195 (l : Launch) (D : va_G) (g qb qg qw : Nat) (cA : ClassId) {p : Program} {e : Env} {s : State} {m : MethodId} {args : Array Value} {below : List Frame} {meth : Method} {c : Code} (S : CallFix p m c bM_oneStep 3 s args wAll RM) (hR : meth.sig.returnType = (some .int)) (hlk : meth.locks = false) {ls : Array Slot} {H : Heap} {locs : List Loc} (τ : MS) (v1 : Int32) (hok : mOK τ) (hl : lv_has ls 3 [(0, .ref g), (1, .int v1)]) (hw : mH D g qb qg qw cA s τ H locs) : W p l e { frames := 4, cells := 0, slots := 0, locals := 92 } s m args below meth c H locs 0 0 (mQi D g qb qg qw cA below args s ((kM_oneStep_c195 τ v1).1) (kM_oneStep_c195 τ v1).2) (F0 m 195 ls []) := by
  have hx := S.1
  have hb := S.2.1
  refine lv_aload_n hx hb dM_oneStep_195 rfl (lv_at hl 0 rfl) ?_
  refine lv_aload_n hx hb dM_oneStep_196 rfl (lv_at hl 0 rfl) ?_
  refine mget_instruction S hw dM_oneStep_197 ?_
  refine lv_bipush (v := 13) hx hb dM_oneStep_200 (by decide) ?_
  refine lv_ishr hx hb dM_oneStep_202 ?_
  refine lv_iconst (v := 1) hx hb dM_oneStep_203 (by decide) ?_
  refine lv_iand hx hb dM_oneStep_204 ?_
  refine lv_iconst (v := 1) hx hb dM_oneStep_205 (by decide) ?_
  refine lv_icmp_ne (tgt := 221) hx hb dM_oneStep_206 (by decide) (fun h_206 => ?_) (fun h_206 => ?_)
  · skip
    refine lv_aload_n hx hb dM_oneStep_221 rfl (lv_at hl 0 rfl) ?_
    refine lv_aload_n hx hb dM_oneStep_222 rfl (lv_at hl 0 rfl) ?_
    refine mget_window S hw dM_oneStep_223 ?_
    refine lv_aload_n hx hb dM_oneStep_226 rfl (lv_at hl 0 rfl) ?_
    refine mget_instruction S hw dM_oneStep_227 ?_
    refine lv_bipush (v := 31) hx hb dM_oneStep_230 (by decide) ?_
    refine lv_iand hx hb dM_oneStep_232 ?_
    refine z_calli S (cM_get l D g qb qg qw cA τ (τ.1 4) ((τ.1 23) &&& (31 : Int32)) hok.1 (x_and31 _)) (qM_get S.2.2.2.2 ⟨Nat.le_of_ble_eq_true rfl, Nat.le_of_ble_eq_true rfl⟩) hw rfl rfl rfl hl.1 rfl (Nat.le_of_ble_eq_true rfl) dM_oneStep_233 (fun H locs hw => ?_)
    rw [show kM_oneStep_c195 τ v1 = kM_oneStep_c236 τ v1 (kM_get τ (τ.1 4) ((τ.1 23) &&& (31 : Int32))) from (by rw [kM_oneStep_c195, if_neg h_206])]
    exact jM_oneStep_c236 l D g qb qg qw cA S hR hlk τ v1 (kM_get τ (τ.1 4) ((τ.1 23) &&& (31 : Int32))) hok (lv_sub hl [0, 1] rfl) hw
  · skip
    refine lv_aload_n hx hb dM_oneStep_209 rfl (lv_at hl 0 rfl) ?_
    refine mget_instruction S hw dM_oneStep_210 ?_
    refine lv_bipush (v := 13) hx hb dM_oneStep_213 (by decide) ?_
    refine s_calli S (cM_signed l D (τ.1 23) (13 : Int32)) (qM_signed S.2.2.2.2 ⟨Nat.le_of_ble_eq_true rfl, Nat.le_of_ble_eq_true rfl⟩) hw rfl hl.1 rfl (Nat.le_of_ble_eq_true rfl) dM_oneStep_215 (fun H locs hw => ?_)
    refine lv_goto (tgt := 236) hx hb dM_oneStep_218 (by decide) ?_
    rw [show kM_oneStep_c195 τ v1 = kM_oneStep_c236 τ v1 (kM_signed (τ.1 23) (13 : Int32)) from (by rw [kM_oneStep_c195, if_pos h_206])]
    exact jM_oneStep_c236 l D g qb qg qw cA S hR hlk τ v1 (kM_signed (τ.1 23) (13 : Int32)) hok (lv_sub hl [0, 1] rfl) hw
set_option maxRecDepth 100000 in
set_option maxHeartbeats 4000000 in
theorem jM_oneStep_c173 (l : Launch) (D : va_G) (g qb qg qw : Nat) (cA : ClassId) {p : Program} {e : Env} {s : State} {m : MethodId} {args : Array Value} {below : List Frame} {meth : Method} {c : Code} (S : CallFix p m c bM_oneStep 3 s args wAll RM) (hR : meth.sig.returnType = (some .int)) (hlk : meth.locks = false) {ls : Array Slot} {H : Heap} {locs : List Loc} (τ : MS) (v1 : Int32) (hok : mOK τ) (hl : lv_has ls 3 [(0, .ref g), (1, .int v1)]) (hw : mH D g qb qg qw cA s τ H locs) : W p l e { frames := 4, cells := 0, slots := 0, locals := 92 } s m args below meth c H locs 0 0 (mQi D g qb qg qw cA below args s ((kM_oneStep_c173 τ v1).1) (kM_oneStep_c173 τ v1).2) (F0 m 173 ls []) := by
  have hx := S.1
  have hb := S.2.1
  refine lv_aload_n hx hb dM_oneStep_173 rfl (lv_at hl 0 rfl) ?_
  refine lv_aload_n hx hb dM_oneStep_174 rfl (lv_at hl 0 rfl) ?_
  refine lv_aload_n hx hb dM_oneStep_175 rfl (lv_at hl 0 rfl) ?_
  refine mget_window S hw dM_oneStep_176 ?_
  refine lv_aload_n hx hb dM_oneStep_179 rfl (lv_at hl 0 rfl) ?_
  refine mget_instruction S hw dM_oneStep_180 ?_
  refine lv_bipush (v := 14) hx hb dM_oneStep_183 (by decide) ?_
  refine lv_ishr hx hb dM_oneStep_185 ?_
  refine lv_bipush (v := 31) hx hb dM_oneStep_186 (by decide) ?_
  refine lv_iand hx hb dM_oneStep_188 ?_
  refine z_calli S (cM_get l D g qb qg qw cA τ (τ.1 4) (((τ.1 23) >>> ((14 : Int32) &&& 31)) &&& (31 : Int32)) hok.1 (x_and31 _)) (qM_get S.2.2.2.2 ⟨Nat.le_of_ble_eq_true rfl, Nat.le_of_ble_eq_true rfl⟩) hw rfl rfl rfl hl.1 rfl (Nat.le_of_ble_eq_true rfl) dM_oneStep_189 (fun H locs hw => ?_)
  refine mput_a S hw dM_oneStep_192 (fun H locs hw => ?_)
  rw [show kM_oneStep_c173 τ v1 = kM_oneStep_c195 (mI τ 25 (kM_get τ (τ.1 4) (((τ.1 23) >>> ((14 : Int32) &&& 31)) &&& (31 : Int32)))) v1 from rfl]
  exact jM_oneStep_c195 l D g qb qg qw cA S hR hlk (mI τ 25 (kM_get τ (τ.1 4) (((τ.1 23) >>> ((14 : Int32) &&& 31)) &&& (31 : Int32)))) v1 hok (lv_sub hl [0, 1] rfl) hw
set_option maxRecDepth 100000 in
set_option maxHeartbeats 4000000 in
theorem jM_oneStep_c170 (l : Launch) (D : va_G) (g qb qg qw : Nat) (cA : ClassId) {p : Program} {e : Env} {s : State} {m : MethodId} {args : Array Value} {below : List Frame} {meth : Method} {c : Code} (S : CallFix p m c bM_oneStep 3 s args wAll RM) (hR : meth.sig.returnType = (some .int)) (hlk : meth.locks = false) {ls : Array Slot} {H : Heap} {locs : List Loc} (τ : MS) (v1 : Int32) (s0 : Int32) (hok : mOK τ) (hl : lv_has ls 3 [(0, .ref g), (1, .int v1)]) (hw : mH D g qb qg qw cA s τ H locs) : W p l e { frames := 4, cells := 0, slots := 0, locals := 92 } s m args below meth c H locs 0 0 (mQi D g qb qg qw cA below args s ((kM_oneStep_c170 τ v1 s0).1) (kM_oneStep_c170 τ v1 s0).2) (F0 m 170 ls [.int s0, .ref g]) := by
  have hx := S.1
  have hb := S.2.1
  refine mput_order S hw dM_oneStep_170 (fun H locs hw => ?_)
  rw [show kM_oneStep_c170 τ v1 s0 = kM_oneStep_c173 (mI τ 27 s0) v1 from rfl]
  exact jM_oneStep_c173 l D g qb qg qw cA S hR hlk (mI τ 27 s0) v1 hok (lv_sub hl [0, 1] rfl) hw
set_option maxRecDepth 100000 in
set_option maxHeartbeats 4000000 in
theorem jM_oneStep_c142 (l : Launch) (D : va_G) (g qb qg qw : Nat) (cA : ClassId) {p : Program} {e : Env} {s : State} {m : MethodId} {args : Array Value} {below : List Frame} {meth : Method} {c : Code} (S : CallFix p m c bM_oneStep 3 s args wAll RM) (hR : meth.sig.returnType = (some .int)) (hlk : meth.locks = false) {ls : Array Slot} {H : Heap} {locs : List Loc} (τ : MS) (v1 : Int32) (hok : mOK τ) (hl : lv_has ls 3 [(0, .ref g), (1, .int v1)]) (hw : mH D g qb qg qw cA s τ H locs) : W p l e { frames := 4, cells := 0, slots := 0, locals := 92 } s m args below meth c H locs 0 0 (mQi D g qb qg qw cA below args s ((kM_oneStep_c142 τ v1).1) (kM_oneStep_c142 τ v1).2) (F0 m 142 ls []) := by
  have hx := S.1
  have hb := S.2.1
  refine lv_aload_n hx hb dM_oneStep_142 rfl (lv_at hl 0 rfl) ?_
  refine lv_iload_n hx hb dM_oneStep_143 rfl (lv_at hl 1 rfl) ?_
  refine lv_if_ne (tgt := 160) hx hb dM_oneStep_144 (by decide) (fun h_144 => ?_) (fun h_144 => ?_)
  · skip
    refine lv_aload_n hx hb dM_oneStep_160 rfl (lv_at hl 0 rfl) ?_
    refine mget_instruction S hw dM_oneStep_161 ?_
    refine lv_bipush (v := 19) hx hb dM_oneStep_164 (by decide) ?_
    refine lv_ishr hx hb dM_oneStep_166 ?_
    refine lv_bipush (v := 63) hx hb dM_oneStep_167 (by decide) ?_
    refine lv_iand hx hb dM_oneStep_169 ?_
    rw [show kM_oneStep_c142 τ v1 = kM_oneStep_c170 τ v1 (((τ.1 23) >>> ((19 : Int32) &&& 31)) &&& (63 : Int32)) from (by rw [kM_oneStep_c142, if_neg h_144])]
    exact jM_oneStep_c170 l D g qb qg qw cA S hR hlk τ v1 (((τ.1 23) >>> ((19 : Int32) &&& 31)) &&& (63 : Int32)) hok (lv_sub hl [0, 1] rfl) hw
  · skip
    refine lv_aload_n hx hb dM_oneStep_147 rfl (lv_at hl 0 rfl) ?_
    refine mget_instruction S hw dM_oneStep_148 ?_
    refine lv_bipush (v := 22) hx hb dM_oneStep_151 (by decide) ?_
    refine lv_ishr hx hb dM_oneStep_153 ?_
    refine lv_bipush (v := 7) hx hb dM_oneStep_154 (by decide) ?_
    refine lv_iand hx hb dM_oneStep_156 ?_
    refine lv_goto (tgt := 170) hx hb dM_oneStep_157 (by decide) ?_
    rw [show kM_oneStep_c142 τ v1 = kM_oneStep_c170 τ v1 (((τ.1 23) >>> ((22 : Int32) &&& 31)) &&& (7 : Int32)) from (by rw [kM_oneStep_c142, if_pos h_144])]
    exact jM_oneStep_c170 l D g qb qg qw cA S hR hlk τ v1 (((τ.1 23) >>> ((22 : Int32) &&& 31)) &&& (7 : Int32)) hok (lv_sub hl [0, 1] rfl) hw
set_option maxRecDepth 100000 in
set_option maxHeartbeats 4000000 in
theorem jM_oneStep_c120 (l : Launch) (D : va_G) (g qb qg qw : Nat) (cA : ClassId) {p : Program} {e : Env} {s : State} {m : MethodId} {args : Array Value} {below : List Frame} {meth : Method} {c : Code} (S : CallFix p m c bM_oneStep 3 s args wAll RM) (hR : meth.sig.returnType = (some .int)) (hlk : meth.locks = false) {ls : Array Slot} {H : Heap} {locs : List Loc} (τ : MS) (hok : mOK τ) (hl : lv_has ls 3 [(0, .ref g)]) (hw : mH D g qb qg qw cA s τ H locs) : W p l e { frames := 4, cells := 0, slots := 0, locals := 92 } s m args below meth c H locs 0 0 (mQi D g qb qg qw cA below args s ((kM_oneStep_c120 τ).1) (kM_oneStep_c120 τ).2) (F0 m 120 ls []) := by
  have hx := S.1
  have hb := S.2.1
  refine lv_aload_n hx hb dM_oneStep_120 rfl (lv_at hl 0 rfl) ?_
  refine mget_instruction S hw dM_oneStep_121 ?_
  refine lv_bipush (v := 30) hx hb dM_oneStep_124 (by decide) ?_
  refine lv_iushr (v := (uS (τ.1 23) (30 : Int32))) hx hb dM_oneStep_126 rfl ?_
  refine lv_istore_n (lv' := [(1, .int (uS (τ.1 23) (30 : Int32))), (0, .ref g)]) hx hb dM_oneStep_127 rfl hl (by decide) rfl (fun ls hl => ?_)
  refine lv_aload_n hx hb dM_oneStep_128 rfl (lv_at hl 1 rfl) ?_
  refine lv_aload_n hx hb dM_oneStep_129 rfl (lv_at hl 1 rfl) ?_
  refine mget_instruction S hw dM_oneStep_130 ?_
  refine lv_bipush (v := 25) hx hb dM_oneStep_133 (by decide) ?_
  refine lv_ishr hx hb dM_oneStep_135 ?_
  refine lv_bipush (v := 31) hx hb dM_oneStep_136 (by decide) ?_
  refine lv_iand hx hb dM_oneStep_138 ?_
  refine mput_d S hw dM_oneStep_139 (fun H locs hw => ?_)
  rw [show kM_oneStep_c120 τ = kM_oneStep_c142 (mI τ 24 (((τ.1 23) >>> ((25 : Int32) &&& 31)) &&& (31 : Int32))) (uS (τ.1 23) (30 : Int32)) from rfl]
  exact jM_oneStep_c142 l D g qb qg qw cA S hR hlk (mI τ 24 (((τ.1 23) >>> ((25 : Int32) &&& 31)) &&& (31 : Int32))) (uS (τ.1 23) (30 : Int32)) (mok_d hok) (lv_sub hl [1, 0] rfl) hw
set_option maxRecDepth 100000 in
set_option maxHeartbeats 4000000 in
theorem jM_oneStep_c90 (l : Launch) (D : va_G) (g qb qg qw : Nat) (cA : ClassId) {p : Program} {e : Env} {s : State} {m : MethodId} {args : Array Value} {below : List Frame} {meth : Method} {c : Code} (S : CallFix p m c bM_oneStep 3 s args wAll RM) (hR : meth.sig.returnType = (some .int)) (hlk : meth.locks = false) {ls : Array Slot} {H : Heap} {locs : List Loc} (τ : MS) (hok : mOK τ) (hl : lv_has ls 3 [(0, .ref g)]) (hw : mH D g qb qg qw cA s τ H locs) : W p l e { frames := 4, cells := 0, slots := 0, locals := 92 } s m args below meth c H locs 0 0 (mQi D g qb qg qw cA below args s ((kM_oneStep_c90 τ).1) (kM_oneStep_c90 τ).2) (F0 m 90 ls []) := by
  have hx := S.1
  have hb := S.2.1
  refine lv_aload_n hx hb dM_oneStep_90 rfl (lv_at hl 0 rfl) ?_
  refine mget_place S hw dM_oneStep_91 ?_
  refine lv_iconst (v := 4) hx hb dM_oneStep_94 (by decide) ?_
  refine s_calli S (cM_inMemory l D (τ.1 16) (4 : Int32)) (qM_inMemory S.2.2.2.2 ⟨Nat.le_of_ble_eq_true rfl, Nat.le_of_ble_eq_true rfl⟩) hw rfl hl.1 rfl (Nat.le_of_ble_eq_true rfl) dM_oneStep_95 (fun H locs hw => ?_)
  refine lv_if_ne (tgt := 107) hx hb dM_oneStep_98 (by decide) (fun h_98 => ?_) (fun h_98 => ?_)
  · skip
    refine lv_aload_n hx hb dM_oneStep_107 rfl (lv_at hl 0 rfl) ?_
    refine lv_aload_n hx hb dM_oneStep_108 rfl (lv_at hl 0 rfl) ?_
    refine lv_aload_n hx hb dM_oneStep_109 rfl (lv_at hl 0 rfl) ?_
    refine mget_place S hw dM_oneStep_110 ?_
    refine lv_iconst (v := 4) hx hb dM_oneStep_113 (by decide) ?_
    refine z_calli S (cM_load l D g qb qg qw cA τ (τ.1 16) (4 : Int32) (m_inmem4 h_98)) (qM_load S.2.2.2.2 ⟨Nat.le_of_ble_eq_true rfl, Nat.le_of_ble_eq_true rfl⟩) hw rfl rfl rfl hl.1 rfl (Nat.le_of_ble_eq_true rfl) dM_oneStep_114 (fun H locs hw => ?_)
    refine mput_instruction S hw dM_oneStep_117 (fun H locs hw => ?_)
    rw [show kM_oneStep_c90 τ = kM_oneStep_c120 (mI τ 23 (kM_load τ (τ.1 16) (4 : Int32))) from (by rw [kM_oneStep_c90, if_neg h_98])]
    exact jM_oneStep_c120 l D g qb qg qw cA S hR hlk (mI τ 23 (kM_load τ (τ.1 16) (4 : Int32))) hok (lv_sub hl [0] rfl) hw
  · skip
    refine lv_aload_n hx hb dM_oneStep_101 rfl (lv_at hl 0 rfl) ?_
    refine lv_iconst (v := 1) hx hb dM_oneStep_102 (by decide) ?_
    refine z_calli S (cM_trap l D g qb qg qw cA τ (1 : Int32) hok) (qM_trap S.2.2.2.2 ⟨Nat.le_of_ble_eq_true rfl, Nat.le_of_ble_eq_true rfl⟩) hw rfl rfl rfl hl.1 rfl (Nat.le_of_ble_eq_true rfl) dM_oneStep_103 (fun H locs hw => ?_)
    exact z_iretP S hR hlk hw dM_oneStep_106 (by rw [kM_oneStep_c90, if_pos h_98])
set_option maxRecDepth 100000 in
set_option maxHeartbeats 4000000 in
theorem jM_oneStep_c78 (l : Launch) (D : va_G) (g qb qg qw : Nat) (cA : ClassId) {p : Program} {e : Env} {s : State} {m : MethodId} {args : Array Value} {below : List Frame} {meth : Method} {c : Code} (S : CallFix p m c bM_oneStep 3 s args wAll RM) (hR : meth.sig.returnType = (some .int)) (hlk : meth.locks = false) {ls : Array Slot} {H : Heap} {locs : List Loc} (τ : MS) (hok : mOK τ) (hl : lv_has ls 3 [(0, .ref g)]) (hw : mH D g qb qg qw cA s τ H locs) : W p l e { frames := 4, cells := 0, slots := 0, locals := 92 } s m args below meth c H locs 0 0 (mQi D g qb qg qw cA below args s ((kM_oneStep_c78 τ).1) (kM_oneStep_c78 τ).2) (F0 m 78 ls []) := by
  have hx := S.1
  have hb := S.2.1
  refine lv_aload_n hx hb dM_oneStep_78 rfl (lv_at hl 0 rfl) ?_
  refine lv_bipush (v := 16) hx hb dM_oneStep_79 (by decide) ?_
  refine lv_aload_n hx hb dM_oneStep_81 rfl (lv_at hl 0 rfl) ?_
  refine mget_asked S hw dM_oneStep_82 ?_
  refine lv_iadd hx hb dM_oneStep_85 ?_
  refine z_calli S (cM_trap l D g qb qg qw cA τ ((16 : Int32) + (τ.1 20)) hok) (qM_trap S.2.2.2.2 ⟨Nat.le_of_ble_eq_true rfl, Nat.le_of_ble_eq_true rfl⟩) hw rfl rfl rfl hl.1 rfl (Nat.le_of_ble_eq_true rfl) dM_oneStep_86 (fun H locs hw => ?_)
  exact z_iretP S hR hlk hw dM_oneStep_89 rfl
set_option maxRecDepth 100000 in
set_option maxHeartbeats 4000000 in
theorem jM_oneStep_c39 (l : Launch) (D : va_G) (g qb qg qw : Nat) (cA : ClassId) {p : Program} {e : Env} {s : State} {m : MethodId} {args : Array Value} {below : List Frame} {meth : Method} {c : Code} (S : CallFix p m c bM_oneStep 3 s args wAll RM) (hR : meth.sig.returnType = (some .int)) (hlk : meth.locks = false) {ls : Array Slot} {H : Heap} {locs : List Loc} (τ : MS) (hok : mOK τ) (hl : lv_has ls 3 [(0, .ref g)]) (hw : mH D g qb qg qw cA s τ H locs) : W p l e { frames := 4, cells := 0, slots := 0, locals := 92 } s m args below meth c H locs 0 0 (mQi D g qb qg qw cA below args s ((kM_oneStep_c39 τ).1) (kM_oneStep_c39 τ).2) (F0 m 39 ls []) := by
  have hx := S.1
  have hb := S.2.1
  refine lv_aload_n hx hb dM_oneStep_39 rfl (lv_at hl 0 rfl) ?_
  refine lv_aload_n hx hb dM_oneStep_40 rfl (lv_at hl 0 rfl) ?_
  refine mget_next S hw dM_oneStep_41 ?_
  refine lv_iconst (v := 4) hx hb dM_oneStep_44 (by decide) ?_
  refine lv_iadd hx hb dM_oneStep_45 ?_
  refine mput_next S hw dM_oneStep_46 (fun H locs hw => ?_)
  refine lv_iconst (v := 1) hx hb dM_oneStep_49 (by decide) ?_
  exact z_iretP S hR hlk hw dM_oneStep_50 rfl
set_option maxRecDepth 100000 in
set_option maxHeartbeats 4000000 in
theorem jM_oneStep_c31 (l : Launch) (D : va_G) (g qb qg qw : Nat) (cA : ClassId) {p : Program} {e : Env} {s : State} {m : MethodId} {args : Array Value} {below : List Frame} {meth : Method} {c : Code} (S : CallFix p m c bM_oneStep 3 s args wAll RM) (hR : meth.sig.returnType = (some .int)) (hlk : meth.locks = false) {ls : Array Slot} {H : Heap} {locs : List Loc} (τ : MS) (hok : mOK τ) (hl : lv_has ls 3 [(0, .ref g)]) (hw : mH D g qb qg qw cA s τ H locs) : W p l e { frames := 4, cells := 0, slots := 0, locals := 92 } s m args below meth c H locs 0 0 (mQi D g qb qg qw cA below args s ((kM_oneStep_c31 τ).1) (kM_oneStep_c31 τ).2) (F0 m 31 ls []) := by
  have hx := S.1
  have hb := S.2.1
  refine lv_aload_n hx hb dM_oneStep_31 rfl (lv_at hl 0 rfl) ?_
  refine lv_aload_n hx hb dM_oneStep_32 rfl (lv_at hl 0 rfl) ?_
  refine mget_next S hw dM_oneStep_33 ?_
  refine mput_place S hw dM_oneStep_36 (fun H locs hw => ?_)
  rw [show kM_oneStep_c31 τ = kM_oneStep_c39 (mI τ 16 (τ.1 17)) from rfl]
  exact jM_oneStep_c39 l D g qb qg qw cA S hR hlk (mI τ 16 (τ.1 17)) hok (lv_sub hl [0] rfl) hw
set_option maxRecDepth 100000 in
set_option maxHeartbeats 4000000 in
theorem jM_oneStep_c19 (l : Launch) (D : va_G) (g qb qg qw : Nat) (cA : ClassId) {p : Program} {e : Env} {s : State} {m : MethodId} {args : Array Value} {below : List Frame} {meth : Method} {c : Code} (S : CallFix p m c bM_oneStep 3 s args wAll RM) (hR : meth.sig.returnType = (some .int)) (hlk : meth.locks = false) {ls : Array Slot} {H : Heap} {locs : List Loc} (τ : MS) (hok : mOK τ) (hl : lv_has ls 3 [(0, .ref g)]) (hw : mH D g qb qg qw cA s τ H locs) : W p l e { frames := 4, cells := 0, slots := 0, locals := 92 } s m args below meth c H locs 0 0 (mQi D g qb qg qw cA below args s ((kM_oneStep_c19 τ).1) (kM_oneStep_c19 τ).2) (F0 m 19 ls []) := by
  have hx := S.1
  have hb := S.2.1
  refine lv_aload_n hx hb dM_oneStep_19 rfl (lv_at hl 0 rfl) ?_
  refine mget_annulled S hw dM_oneStep_20 ?_
  refine lv_if_eq (tgt := 51) hx hb dM_oneStep_23 (by decide) (fun h_23 => ?_) (fun h_23 => ?_)
  · skip
    refine lv_aload_n hx hb dM_oneStep_51 rfl (lv_at hl 0 rfl) ?_
    refine mget_traps S hw dM_oneStep_52 ?_
    refine lv_if_eq (tgt := 90) hx hb dM_oneStep_55 (by decide) (fun h_55 => ?_) (fun h_55 => ?_)
    · skip
      rw [show kM_oneStep_c19 τ = kM_oneStep_c90 τ from (by rw [kM_oneStep_c19, if_pos h_23, if_pos h_55])]
      exact jM_oneStep_c90 l D g qb qg qw cA S hR hlk τ hok (lv_sub hl [0] rfl) hw
    · skip
      refine lv_aload_n hx hb dM_oneStep_58 rfl (lv_at hl 0 rfl) ?_
      refine mget_asked S hw dM_oneStep_59 ?_
      refine lv_bipush (v := 15) hx hb dM_oneStep_62 (by decide) ?_
      refine lv_icmp_eq (tgt := 78) hx hb dM_oneStep_64 (by decide) (fun h_64 => ?_) (fun h_64 => ?_)
      · skip
        rw [show kM_oneStep_c19 τ = kM_oneStep_c78 τ from (by rw [kM_oneStep_c19, if_pos h_23, if_neg h_55, if_pos h_64])]
        exact jM_oneStep_c78 l D g qb qg qw cA S hR hlk τ hok (lv_sub hl [0] rfl) hw
      · skip
        refine lv_aload_n hx hb dM_oneStep_67 rfl (lv_at hl 0 rfl) ?_
        refine mget_asked S hw dM_oneStep_68 ?_
        refine lv_aload_n hx hb dM_oneStep_71 rfl (lv_at hl 0 rfl) ?_
        refine mget_level S hw dM_oneStep_72 ?_
        refine lv_icmp_le (tgt := 90) hx hb dM_oneStep_75 (by decide) (fun h_75 => ?_) (fun h_75 => ?_)
        · skip
          rw [show kM_oneStep_c19 τ = kM_oneStep_c90 τ from (by rw [kM_oneStep_c19, if_pos h_23, if_neg h_55, if_neg h_64, if_pos h_75])]
          exact jM_oneStep_c90 l D g qb qg qw cA S hR hlk τ hok (lv_sub hl [0] rfl) hw
        · skip
          rw [show kM_oneStep_c19 τ = kM_oneStep_c78 τ from (by rw [kM_oneStep_c19, if_pos h_23, if_neg h_55, if_neg h_64, if_neg h_75])]
          exact jM_oneStep_c78 l D g qb qg qw cA S hR hlk τ hok (lv_sub hl [0] rfl) hw
  · skip
    refine lv_aload_n hx hb dM_oneStep_26 rfl (lv_at hl 0 rfl) ?_
    refine lv_iconst (v := 0) hx hb dM_oneStep_27 (by decide) ?_
    refine mput_annulled (v := false) S hw dM_oneStep_28 (fun H locs hw => ?_)
    rw [show kM_oneStep_c19 τ = kM_oneStep_c31 (mB τ 18 false) from (by rw [kM_oneStep_c19, if_neg h_23])]
    exact jM_oneStep_c31 l D g qb qg qw cA S hR hlk (mB τ 18 false) hok (lv_sub hl [0] rfl) hw
set_option maxRecDepth 100000 in
set_option maxHeartbeats 4000000 in
theorem cM_oneStep (l : Launch) (D : va_G) (g qb qg qw : Nat) (cA : ClassId) (τ : MS) (hok : mOK τ) : mMi l yM_oneStep (.code yM_oneStep bM_oneStep 3 (some .int) :: wAll) { frames := 4, cells := 0, slots := 0, locals := 92 } D g qb qg qw cA [.ref g] τ ((kM_oneStep τ).1) (kM_oneStep τ).2 := by
  refine z_entryi (cc := bM_oneStep) (nL := 3) (by decide) rfl rfl (Nat.le_of_ble_eq_true rfl) (fun p e s m args below meth c S hR hlk ls H locs hl hw => ?_)
  have hx := S.1
  have hb := S.2.1
  have hl : lv_has ls 3 [(0, .ref g)] := hl
  refine lv_aload_n hx hb dM_oneStep_0 rfl (lv_at hl 0 rfl) ?_
  refine mget_stopped S hw dM_oneStep_1 ?_
  refine lv_if_eq (tgt := 9) hx hb dM_oneStep_4 (by decide) (fun h_4 => ?_) (fun h_4 => ?_)
  · skip
    refine lv_aload_n hx hb dM_oneStep_9 rfl (lv_at hl 0 rfl) ?_
    refine lv_dup hx hb dM_oneStep_10 rfl ?_
    refine mget_steps S hw dM_oneStep_11 ?_
    refine lv_iconst (v := 1) hx hb dM_oneStep_14 (by decide) ?_
    refine lv_iadd hx hb dM_oneStep_15 ?_
    refine mput_steps S hw dM_oneStep_16 (fun H locs hw => ?_)
    rw [show kM_oneStep τ = kM_oneStep_c19 (mI τ 21 ((τ.1 21) + (1 : Int32))) from (by rw [kM_oneStep, if_pos h_4])]
    exact jM_oneStep_c19 l D g qb qg qw cA S hR hlk (mI τ 21 ((τ.1 21) + (1 : Int32))) hok (lv_sub hl [0] rfl) hw
  · skip
    refine lv_iconst (v := 2) hx hb dM_oneStep_7 (by decide) ?_
    exact z_iretP S hR hlk hw dM_oneStep_8 (by rw [kM_oneStep, if_neg h_4])
def kM_step_c5 (τ : MS) : Int32 × MS :=
  ((kM_oneStep τ).1, (kM_oneStep τ).2)
def kM_step (τ : MS) : Int32 × MS :=
  kM_step_c5 (mI τ 0 (0 : Int32))
set_option maxRecDepth 100000 in
set_option maxHeartbeats 4000000 in
theorem jM_step_c5 (l : Launch) (D : va_G) (g qb qg qw : Nat) (cA : ClassId) {p : Program} {e : Env} {s : State} {m : MethodId} {args : Array Value} {below : List Frame} {meth : Method} {c : Code} (S : CallFix p m c bM_step 1 s args wAll RM) (hR : meth.sig.returnType = (some .int)) (hlk : meth.locks = false) {ls : Array Slot} {H : Heap} {locs : List Loc} (τ : MS) (hok : mOK τ) (hl : lv_has ls 1 [(0, .ref g)]) (hw : mH D g qb qg qw cA s τ H locs) : W p l e { frames := 5, cells := 0, slots := 0, locals := 114 } s m args below meth c H locs 0 0 (mQi D g qb qg qw cA below args s ((kM_step_c5 τ).1) (kM_step_c5 τ).2) (F0 m 5 ls []) := by
  have hx := S.1
  have hb := S.2.1
  refine lv_aload_n hx hb dM_step_5 rfl (lv_at hl 0 rfl) ?_
  refine z_calli S (cM_oneStep l D g qb qg qw cA τ hok) (qM_oneStep S.2.2.2.2 ⟨Nat.le_of_ble_eq_true rfl, Nat.le_of_ble_eq_true rfl⟩) hw rfl rfl rfl hl.1 rfl (Nat.le_of_ble_eq_true rfl) dM_step_6 (fun H locs hw => ?_)
  exact z_iretP S hR hlk hw dM_step_9 rfl
set_option maxRecDepth 100000 in
set_option maxHeartbeats 4000000 in
theorem cM_step (l : Launch) (D : va_G) (g qb qg qw : Nat) (cA : ClassId) (τ : MS) (hok : mOK τ) : mMi l yM_step (.code yM_step bM_step 1 (some .int) :: wAll) { frames := 5, cells := 0, slots := 0, locals := 114 } D g qb qg qw cA [.ref g] τ ((kM_step τ).1) (kM_step τ).2 := by
  refine z_entryi (cc := bM_step) (nL := 1) (by decide) rfl rfl (Nat.le_of_ble_eq_true rfl) (fun p e s m args below meth c S hR hlk ls H locs hl hw => ?_)
  have hx := S.1
  have hb := S.2.1
  have hl : lv_has ls 1 [(0, .ref g)] := hl
  refine lv_aload_n hx hb dM_step_0 rfl (lv_at hl 0 rfl) ?_
  refine lv_iconst (v := 0) hx hb dM_step_1 (by decide) ?_
  refine mput_thrown S hw dM_step_2 (fun H locs hw => ?_)
  rw [show kM_step τ = kM_step_c5 (mI τ 0 (0 : Int32)) from rfl]
  exact jM_step_c5 l D g qb qg qw cA S hR hlk (mI τ 0 (0 : Int32)) hok (lv_sub hl [0] rfl) hw
