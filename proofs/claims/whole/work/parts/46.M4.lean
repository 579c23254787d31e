/-! contracts of WindowCoreModel: laid by my program -/
def kM_work_c308 (τ : MS) (v5 : Bool) (s0 : Bool) (s1 : Int32) : MS :=
  (kM_flags τ s1 s0 v5)
def kM_work_c284 (τ : MS) (v1 : Int32) (v3 : Int64) (v5 : Bool) (v6 : Int32) : MS :=
  if (τ.1 27) = v1 then
    τ
  else
    if (lg_cmp v3 (v6.toInt64)) = 0 then
      kM_work_c308 τ v5 false v6
    else
      kM_work_c308 τ v5 true v6
def kM_work_c270 (τ : MS) (v1 : Int32) (v3 : Int64) (v5 : Bool) (v6 : Int32) : MS :=
  kM_work_c284 (kM_give τ (τ.1 4) (τ.1 24) v6) v1 v3 v5 v6
def kM_work_c264 (τ : MS) (v1 : Int32) (v5 : Bool) (s0 : Int32) : MS :=
  kM_work_c270 τ v1 (s0.toInt64) v5 s0
def kM_work_c221 (τ : MS) (v1 : Int32) (v5 : Bool) (s0 : Int32) : MS :=
  if (v1 - v1 / (4 : Int32) * (4 : Int32)) = (1 : Int32) then
    kM_work_c264 τ v1 v5 ((τ.1 25) &&& s0)
  else
    if (v1 - v1 / (4 : Int32) * (4 : Int32)) = (2 : Int32) then
      kM_work_c264 τ v1 v5 ((τ.1 25) ||| s0)
    else
      kM_work_c264 τ v1 v5 ((τ.1 25) ^^^ s0)
def kM_work_c185 (τ : MS) (v1 : Int32) (v2 : Bool) (v3 : Int64) (s0 : Bool) : MS :=
  kM_work_c270 τ v1 v3 s0 (((τ.1 25) - (τ.1 26)) - (bI v2))
def kM_work_c144 (τ : MS) (v1 : Int32) (v2 : Bool) : MS :=
  if 0 ≤ (lg_cmp (kM_plain (τ.1 25)) ((kM_plain (τ.1 26)) + ((bI v2).toInt64))) then
    kM_work_c185 τ v1 v2 ((((τ.1 25).toInt64) - ((τ.1 26).toInt64)) - ((bI v2).toInt64)) false
  else
    kM_work_c185 τ v1 v2 ((((τ.1 25).toInt64) - ((τ.1 26).toInt64)) - ((bI v2).toInt64)) true
def kM_work_c115 (τ : MS) (v1 : Int32) (v2 : Bool) (v3 : Int64) (s0 : Bool) : MS :=
  kM_work_c270 τ v1 v3 s0 (((τ.1 25) + (τ.1 26)) + (bI v2))
def kM_work_c70 (τ : MS) (v1 : Int32) (v2 : Bool) : MS :=
  if (lg_cmp (((kM_plain (τ.1 25)) + (kM_plain (τ.1 26))) + ((bI v2).toInt64)) (4294967295 : Int64)) ≤ 0 then
    kM_work_c115 τ v1 v2 ((((τ.1 25).toInt64) + ((τ.1 26).toInt64)) + ((bI v2).toInt64)) false
  else
    kM_work_c115 τ v1 v2 ((((τ.1 25).toInt64) + ((τ.1 26).toInt64)) + ((bI v2).toInt64)) true
def kM_work_c51 (τ : MS) (v1 : Int32) (s0 : Bool) : MS :=
  if v1 = 0 then
    kM_work_c70 τ v1 s0
  else
    if v1 = (8 : Int32) then
      kM_work_c70 τ v1 s0
    else
      if v1 = (4 : Int32) then
        kM_work_c144 τ v1 s0
      else
        if v1 = (12 : Int32) then
          kM_work_c144 τ v1 s0
        else
          if v1 ≤ (4 : Int32) then
            kM_work_c221 τ v1 false (τ.1 26)
          else
            kM_work_c221 τ v1 false ((τ.1 26) ^^^ (-1 : Int32))
def kM_work_c50 (τ : MS) (v1 : Int32) : MS :=
  kM_work_c51 τ v1 false
def kM_work_c32 (τ : MS) (s0 : Int32) : MS :=
  if s0 ≤ (7 : Int32) then
    kM_work_c50 τ s0
  else
    if (bI (τ.2.1 9)) = 0 then
      kM_work_c50 τ s0
    else
      kM_work_c51 τ s0 true
def kM_work_c28 (τ : MS) : MS :=
  kM_work_c32 τ (τ.1 27)
def kM_work (τ : MS) : MS :=
  if (τ.1 27) < (16 : Int32) then
    kM_work_c28 τ
  else
    if (32 : Int32) ≤ (τ.1 27) then
      kM_work_c28 τ
    else
      kM_work_c32 τ ((τ.1 27) - (16 : Int32))
set_option maxRecDepth 100000 in
set_option maxHeartbeats 4000000 in
theorem jM_work_c308 (l : Launch) (D : va_G) (g qb qg qw : Nat) (cA : ClassId) {p : Program} {e : Env} {s : State} {m : MethodId} {args : Array Value} {below : List Frame} {meth : Method} {c : Code} (S : CallFix p m c bM_work 8 s args wAll RM) (hR : meth.sig.returnType = none) (hlk : meth.locks = false) {ls : Array Slot} {H : Heap} {locs : List Loc} (τ : MS) (v5 : Bool) (s0 : Bool) (s1 : Int32) (hok : mOK τ) (hl : lv_has ls 8 [(5, .int (bI v5))]) (hw : mH D g qb qg qw cA s τ H locs) : W p l e { frames := 2, cells := 0, slots := 0, locals := 44 } s m args below meth c H locs 0 0 (mQv D g qb qg qw cA below args s (kM_work_c308 τ v5 s0 s1)) (F0 m 308 ls [.int (bI s0), .int s1, .ref g]) := by
  have hx := S.1
  have hb := S.2.1
  refine lv_iload hx hb dM_work_308 (lv_at hl 0 rfl) ?_
  refine z_callv S (cM_flags l D g qb qg qw cA τ s1 s0 v5) (qM_flags S.2.2.2.2 ⟨Nat.le_of_ble_eq_true rfl, Nat.le_of_ble_eq_true rfl⟩) hw rfl rfl rfl hl.1 rfl (Nat.le_of_ble_eq_true rfl) dM_work_310 (fun H locs hw => ?_)
  exact z_vret S hR hlk hw dM_work_313 rfl
set_option maxRecDepth 100000 in
set_option maxHeartbeats 4000000 in
theorem jM_work_c284 (l : Launch) (D : va_G) (g qb qg qw : Nat) (cA : ClassId) {p : Program} {e : Env} {s : State} {m : MethodId} {args : Array Value} {below : List Frame} {meth : Method} {c : Code} (S : CallFix p m c bM_work 8 s args wAll RM) (hR : meth.sig.returnType = none) (hlk : meth.locks = false) {ls : Array Slot} {H : Heap} {locs : List Loc} (τ : MS) (v1 : Int32) (v3 : Int64) (v5 : Bool) (v6 : Int32) (hok : mOK τ) (hl : lv_has ls 8 [(0, .ref g), (1, .int v1), (3, .long v3), (5, .int (bI v5)), (6, .int v6)]) (hw : mH D g qb qg qw cA s τ H locs) : W p l e { frames := 2, cells := 0, slots := 0, locals := 44 } s m args below meth c H locs 0 0 (mQv D g qb qg qw cA below args s (kM_work_c284 τ v1 v3 v5 v6)) (F0 m 284 ls []) := by
  have hx := S.1
  have hb := S.2.1
  refine lv_aload_n hx hb dM_work_284 rfl (lv_at hl 0 rfl) ?_
  refine mget_order S hw dM_work_285 ?_
  refine lv_iload_n hx hb dM_work_288 rfl (lv_at hl 1 rfl) ?_
  refine lv_icmp_eq (tgt := 313) hx hb dM_work_289 (by decide) (fun h_289 => ?_) (fun h_289 => ?_)
  · skip
    exact z_vret S hR hlk hw dM_work_313 (by rw [kM_work_c284, if_pos h_289])
  · skip
    refine lv_aload_n hx hb dM_work_292 rfl (lv_at hl 0 rfl) ?_
    refine lv_iload hx hb dM_work_293 (lv_at hl 4 rfl) ?_
    refine lv_lload_n hx hb dM_work_295 rfl (lv_at hl 2 rfl) ?_
    refine lv_iload hx hb dM_work_296 (lv_at hl 4 rfl) ?_
    refine lv_i2l (v := v6.toInt64) hx hb dM_work_298 rfl ?_
    refine W.lcmp hx hb dM_work_299 ?_
    refine lv_if_eq (tgt := 307) hx hb dM_work_300 (by decide) (fun h_300 => ?_) (fun h_300 => ?_)
    · skip
      refine lv_iconst (v := 0) hx hb dM_work_307 (by decide) ?_
      rw [show kM_work_c284 τ v1 v3 v5 v6 = kM_work_c308 τ v5 false v6 from (by rw [kM_work_c284, if_neg h_289, if_pos h_300])]
      exact jM_work_c308 l D g qb qg qw cA S hR hlk τ v5 false v6 hok (lv_sub hl [3] rfl) hw
    · skip
      refine lv_iconst (v := 1) hx hb dM_work_303 (by decide) ?_
      refine lv_goto (tgt := 308) hx hb dM_work_304 (by decide) ?_
      rw [show kM_work_c284 τ v1 v3 v5 v6 = kM_work_c308 τ v5 true v6 from (by rw [kM_work_c284, if_neg h_289, if_neg h_300])]
      exact jM_work_c308 l D g qb qg qw cA S hR hlk τ v5 true v6 hok (lv_sub hl [3] rfl) hw
set_option maxRecDepth 100000 in
set_option maxHeartbeats 4000000 in
theorem jM_work_c270 (l : Launch) (D : va_G) (g qb qg qw : Nat) (cA : ClassId) {p : Program} {e : Env} {s : State} {m : MethodId} {args : Array Value} {below : List Frame} {meth : Method} {c : Code} (S : CallFix p m c bM_work 8 s args wAll RM) (hR : meth.sig.returnType = none) (hlk : meth.locks = false) {ls : Array Slot} {H : Heap} {locs : List Loc} (τ : MS) (v1 : Int32) (v3 : Int64) (v5 : Bool) (v6 : Int32) (hok : mOK τ) (hl : lv_has ls 8 [(0, .ref g), (1, .int v1), (3, .long v3), (5, .int (bI v5)), (6, .int v6)]) (hw : mH D g qb qg qw cA s τ H locs) : W p l e { frames := 2, cells := 0, slots := 0, locals := 44 } s m args below meth c H locs 0 0 (mQv D g qb qg qw cA below args s (kM_work_c270 τ v1 v3 v5 v6)) (F0 m 270 ls []) := by
  have hx := S.1
  have hb := S.2.1
  refine lv_aload_n hx hb dM_work_270 rfl (lv_at hl 0 rfl) ?_
  refine lv_aload_n hx hb dM_work_271 rfl (lv_at hl 0 rfl) ?_
  refine mget_window S hw dM_work_272 ?_
  refine lv_aload_n hx hb dM_work_275 rfl (lv_at hl 0 rfl) ?_
  refine mget_d S hw dM_work_276 ?_
  refine lv_iload hx hb dM_work_279 (lv_at hl 4 rfl) ?_
  refine z_callv S (cM_give l D g qb qg qw cA τ (τ.1 4) (τ.1 24) v6 hok.1 hok.2) (qM_give S.2.2.2.2 ⟨Nat.le_of_ble_eq_true rfl, Nat.le_of_ble_eq_true rfl⟩) hw rfl rfl rfl hl.1 rfl (Nat.le_of_ble_eq_true rfl) dM_work_281 (fun H locs hw => ?_)
  rw [show kM_work_c270 τ v1 v3 v5 v6 = kM_work_c284 (kM_give τ (τ.1 4) (τ.1 24) v6) v1 v3 v5 v6 from rfl]
  exact jM_work_c284 l D g qb qg qw cA S hR hlk (kM_give τ (τ.1 4) (τ.1 24) v6) v1 v3 v5 v6 (mok_give hok) (lv_sub hl [0, 1, 2, 3, 4] rfl) hw
set_option maxRecDepth 100000 in
set_option maxHeartbeats 4000000 in
theorem jM_work_c264 (l : Launch) (D : va_G) (g qb qg qw : Nat) (cA : ClassId) {p : Program} {e : Env} {s : State} {m : MethodId} {args : Array Value} {below : List Frame} {meth : Method} {c : Code} (S : CallFix p m c bM_work 8 s args wAll RM) (hR : meth.sig.returnType = none) (hlk : meth.locks = false) {ls : Array Slot} {H : Heap} {locs : List Loc} (τ : MS) (v1 : Int32) (v5 : Bool) (s0 : Int32) (hok : mOK τ) (hl : lv_has ls 8 [(0, .ref g), (1, .int v1), (5, .int (bI v5))]) (hw : mH D g qb qg qw cA s τ H locs) : W p l e { frames := 2, cells := 0, slots := 0, locals := 44 } s m args below meth c H locs 0 0 (mQv D g qb qg qw cA below args s (kM_work_c264 τ v1 v5 s0)) (F0 m 264 ls [.int s0]) := by
  have hx := S.1
  have hb := S.2.1
  refine lv_istore (lv' := [(6, .int s0), (0, .ref g), (1, .int v1), (5, .int (bI v5))]) hx hb dM_work_264 hl (by decide) rfl (fun ls hl => ?_)
  refine lv_iload hx hb dM_work_266 (lv_at hl 0 rfl) ?_
  refine lv_i2l (v := s0.toInt64) hx hb dM_work_268 rfl ?_
  refine lv_lstore_n (lv' := [(3, .long (s0.toInt64)), (6, .int s0), (0, .ref g), (1, .int v1), (5, .int (bI v5))]) hx hb dM_work_269 rfl hl (by decide) rfl (fun ls hl => ?_)
  rw [show kM_work_c264 τ v1 v5 s0 = kM_work_c270 τ v1 (s0.toInt64) v5 s0 from rfl]
  exact jM_work_c270 l D g qb qg qw cA S hR hlk τ v1 (s0.toInt64) v5 s0 hok (lv_sub hl [2, 3, 0, 4, 1] rfl) hw
set_option maxRecDepth 100000 in
set_option maxHeartbeats 4000000 in
theorem jM_work_c221 (l : Launch) (D : va_G) (g qb qg qw : Nat) (cA : ClassId) {p : Program} {e : Env} {s : State} {m : MethodId} {args : Array Value} {below : List Frame} {meth : Method} {c : Code} (S : CallFix p m c bM_work 8 s args wAll RM) (hR : meth.sig.returnType = none) (hlk : meth.locks = false) {ls : Array Slot} {H : Heap} {locs : List Loc} (τ : MS) (v1 : Int32) (v5 : Bool) (s0 : Int32) (hok : mOK τ) (hl : lv_has ls 8 [(0, .ref g), (1, .int v1), (5, .int (bI v5))]) (hw : mH D g qb qg qw cA s τ H locs) : W p l e { frames := 2, cells := 0, slots := 0, locals := 44 } s m args below meth c H locs 0 0 (mQv D g qb qg qw cA below args s (kM_work_c221 τ v1 v5 s0)) (F0 m 221 ls [.int s0]) := by
  have hx := S.1
  have hb := S.2.1
  refine lv_istore (lv' := [(7, .int s0), (0, .ref g), (1, .int v1), (5, .int (bI v5))]) hx hb dM_work_221 hl (by decide) rfl (fun ls hl => ?_)
  refine lv_iload_n hx hb dM_work_223 rfl (lv_at hl 2 rfl) ?_
  refine lv_iconst (v := 4) hx hb dM_work_224 (by decide) ?_
  refine lv_irem hx hb dM_work_225 (by decide) ?_
  refine lv_iconst (v := 1) hx hb dM_work_226 (by decide) ?_
  refine lv_icmp_ne (tgt := 240) hx hb dM_work_227 (by decide) (fun h_227 => ?_) (fun h_227 => ?_)
  · skip
    refine lv_iload_n hx hb dM_work_240 rfl (lv_at hl 2 rfl) ?_
    refine lv_iconst (v := 4) hx hb dM_work_241 (by decide) ?_
    refine lv_irem hx hb dM_work_242 (by decide) ?_
    refine lv_iconst (v := 2) hx hb dM_work_243 (by decide) ?_
    refine lv_icmp_ne (tgt := 257) hx hb dM_work_244 (by decide) (fun h_244 => ?_) (fun h_244 => ?_)
    · skip
      refine lv_aload_n hx hb dM_work_257 rfl (lv_at hl 1 rfl) ?_
      refine mget_a S hw dM_work_258 ?_
      refine lv_iload hx hb dM_work_261 (lv_at hl 0 rfl) ?_
      refine lv_ixor hx hb dM_work_263 ?_
      rw [show kM_work_c221 τ v1 v5 s0 = kM_work_c264 τ v1 v5 ((τ.1 25) ^^^ s0) from (by rw [kM_work_c221, if_neg h_227, if_neg h_244])]
      exact jM_work_c264 l D g qb qg qw cA S hR hlk τ v1 v5 ((τ.1 25) ^^^ s0) hok (lv_sub hl [1, 2, 3] rfl) hw
    · skip
      refine lv_aload_n hx hb dM_work_247 rfl (lv_at hl 1 rfl) ?_
      refine mget_a S hw dM_work_248 ?_
      refine lv_iload hx hb dM_work_251 (lv_at hl 0 rfl) ?_
      refine lv_ior hx hb dM_work_253 ?_
      refine lv_goto (tgt := 264) hx hb dM_work_254 (by decide) ?_
      rw [show kM_work_c221 τ v1 v5 s0 = kM_work_c264 τ v1 v5 ((τ.1 25) ||| s0) from (by rw [kM_work_c221, if_neg h_227, if_pos h_244])]
      exact jM_work_c264 l D g qb qg qw cA S hR hlk τ v1 v5 ((τ.1 25) ||| s0) hok (lv_sub hl [1, 2, 3] rfl) hw
  · skip
    refine lv_aload_n hx hb dM_work_230 rfl (lv_at hl 1 rfl) ?_
    refine mget_a S hw dM_work_231 ?_
    refine lv_iload hx hb dM_work_234 (lv_at hl 0 rfl) ?_
    refine lv_iand hx hb dM_work_236 ?_
    refine lv_goto (tgt := 264) hx hb dM_work_237 (by decide) ?_
    rw [show kM_work_c221 τ v1 v5 s0 = kM_work_c264 τ v1 v5 ((τ.1 25) &&& s0) from (by rw [kM_work_c221, if_pos h_227])]
    exact jM_work_c264 l D g qb qg qw cA S hR hlk τ v1 v5 ((τ.1 25) &&& s0) hok (lv_sub hl [1, 2, 3] rfl) hw
set_option maxRecDepth 100000 in
set_option maxHeartbeats 4000000 in
theorem jM_work_c185 (l : Launch) (D : va_G) (g qb qg qw : Nat) (cA : ClassId) {p : Program} {e : Env} {s : State} {m : MethodId} {args : Array Value} {below : List Frame} {meth : Method} {c : Code} (S : CallFix p m c bM_work 8 s args wAll RM) (hR : meth.sig.returnType = none) (hlk : meth.locks = false) {ls : Array Slot} {H : Heap} {locs : List Loc} (τ : MS) (v1 : Int32) (v2 : Bool) (v3 : Int64) (s0 : Bool) (hok : mOK τ) (hl : lv_has ls 8 [(0, .ref g), (1, .int v1), (2, .int (bI v2)), (3, .long v3)]) (hw : mH D g qb qg qw cA s τ H locs) : W p l e { frames := 2, cells := 0, slots := 0, locals := 44 } s m args below meth c H locs 0 0 (mQv D g qb qg qw cA below args s (kM_work_c185 τ v1 v2 v3 s0)) (F0 m 185 ls [.int (bI s0)]) := by
  have hx := S.1
  have hb := S.2.1
  refine lv_istore (lv' := [(5, .int (bI s0)), (0, .ref g), (1, .int v1), (2, .int (bI v2)), (3, .long v3)]) hx hb dM_work_185 hl (by decide) rfl (fun ls hl => ?_)
  refine lv_aload_n hx hb dM_work_187 rfl (lv_at hl 1 rfl) ?_
  refine mget_a S hw dM_work_188 ?_
  refine lv_aload_n hx hb dM_work_191 rfl (lv_at hl 1 rfl) ?_
  refine mget_b S hw dM_work_192 ?_
  refine lv_isub hx hb dM_work_195 ?_
  refine lv_iload_n hx hb dM_work_196 rfl (lv_at hl 3 rfl) ?_
  refine lv_isub hx hb dM_work_197 ?_
  refine lv_istore (lv' := [(6, .int (((τ.1 25) - (τ.1 26)) - (bI v2))), (5, .int (bI s0)), (0, .ref g), (1, .int v1), (2, .int (bI v2)), (3, .long v3)]) hx hb dM_work_198 hl (by decide) rfl (fun ls hl => ?_)
  refine lv_goto (tgt := 270) hx hb dM_work_200 (by decide) ?_
  rw [show kM_work_c185 τ v1 v2 v3 s0 = kM_work_c270 τ v1 v3 s0 (((τ.1 25) - (τ.1 26)) - (bI v2)) from rfl]
  exact jM_work_c270 l D g qb qg qw cA S hR hlk τ v1 v3 s0 (((τ.1 25) - (τ.1 26)) - (bI v2)) hok (lv_sub hl [2, 3, 5, 1, 0] rfl) hw
set_option maxRecDepth 100000 in
set_option maxHeartbeats 4000000 in
theorem jM_work_c144 (l : Launch) (D : va_G) (g qb qg qw : Nat) (cA : ClassId) {p : Program} {e : Env} {s : State} {m : MethodId} {args : Array Value} {below : List Frame} {meth : Method} {c : Code} (S : CallFix p m c bM_work 8 s args wAll RM) (hR : meth.sig.returnType = none) (hlk : meth.locks = false) {ls : Array Slot} {H : Heap} {locs : List Loc} (τ : MS) (v1 : Int32) (v2 : Bool) (hok : mOK τ) (hl : lv_has ls 8 [(0, .ref g), (1, .int v1), (2, .int (bI v2))]) (hw : mH D g qb qg qw cA s τ H locs) : W p l e { frames := 2, cells := 0, slots := 0, locals := 44 } s m args below meth c H locs 0 0 (mQv D g qb qg qw cA below args s (kM_work_c144 τ v1 v2)) (F0 m 144 ls []) := by
  have hx := S.1
  have hb := S.2.1
  refine lv_aload_n hx hb dM_work_144 rfl (lv_at hl 0 rfl) ?_
  refine mget_a S hw dM_work_145 ?_
  refine lv_i2l (v := (τ.1 25).toInt64) hx hb dM_work_148 rfl ?_
  refine lv_aload_n hx hb dM_work_149 rfl (lv_at hl 0 rfl) ?_
  refine mget_b S hw dM_work_150 ?_
  refine lv_i2l (v := (τ.1 26).toInt64) hx hb dM_work_153 rfl ?_
  refine lv_lsub hx hb dM_work_154 ?_
  refine lv_iload_n hx hb dM_work_155 rfl (lv_at hl 2 rfl) ?_
  refine lv_i2l (v := (bI v2).toInt64) hx hb dM_work_156 rfl ?_
  refine lv_lsub hx hb dM_work_157 ?_
  refine lv_lstore_n (lv' := [(3, .long ((((τ.1 25).toInt64) - ((τ.1 26).toInt64)) - ((bI v2).toInt64))), (0, .ref g), (1, .int v1), (2, .int (bI v2))]) hx hb dM_work_158 rfl hl (by decide) rfl (fun ls hl => ?_)
  refine lv_aload_n hx hb dM_work_159 rfl (lv_at hl 1 rfl) ?_
  refine mget_a S hw dM_work_160 ?_
  refine s_calll S (cM_plain l D (τ.1 25)) (qM_plain S.2.2.2.2 ⟨Nat.le_of_ble_eq_true rfl, Nat.le_of_ble_eq_true rfl⟩) hw rfl hl.1 rfl (Nat.le_of_ble_eq_true rfl) dM_work_163 (fun H locs hw => ?_)
  refine lv_aload_n hx hb dM_work_166 rfl (lv_at hl 1 rfl) ?_
  refine mget_b S hw dM_work_167 ?_
  refine s_calll S (cM_plain l D (τ.1 26)) (qM_plain S.2.2.2.2 ⟨Nat.le_of_ble_eq_true rfl, Nat.le_of_ble_eq_true rfl⟩) hw rfl hl.1 rfl (Nat.le_of_ble_eq_true rfl) dM_work_170 (fun H locs hw => ?_)
  refine lv_iload_n hx hb dM_work_173 rfl (lv_at hl 3 rfl) ?_
  refine lv_i2l (v := (bI v2).toInt64) hx hb dM_work_174 rfl ?_
  refine lv_ladd hx hb dM_work_175 ?_
  refine W.lcmp hx hb dM_work_176 ?_
  refine lv_if_ge (tgt := 184) hx hb dM_work_177 (by decide) (fun h_177 => ?_) (fun h_177 => ?_)
  · skip
    refine lv_iconst (v := 0) hx hb dM_work_184 (by decide) ?_
    rw [show kM_work_c144 τ v1 v2 = kM_work_c185 τ v1 v2 ((((τ.1 25).toInt64) - ((τ.1 26).toInt64)) - ((bI v2).toInt64)) false from (by rw [kM_work_c144, if_pos h_177])]
    exact jM_work_c185 l D g qb qg qw cA S hR hlk τ v1 v2 ((((τ.1 25).toInt64) - ((τ.1 26).toInt64)) - ((bI v2).toInt64)) false hok (lv_sub hl [1, 2, 3, 0] rfl) hw
  · skip
    refine lv_iconst (v := 1) hx hb dM_work_180 (by decide) ?_
    refine lv_goto (tgt := 185) hx hb dM_work_181 (by decide) ?_
    rw [show kM_work_c144 τ v1 v2 = kM_work_c185 τ v1 v2 ((((τ.1 25).toInt64) - ((τ.1 26).toInt64)) - ((bI v2).toInt64)) true from (by rw [kM_work_c144, if_neg h_177])]
    exact jM_work_c185 l D g qb qg qw cA S hR hlk τ v1 v2 ((((τ.1 25).toInt64) - ((τ.1 26).toInt64)) - ((bI v2).toInt64)) true hok (lv_sub hl [1, 2, 3, 0] rfl) hw
set_option maxRecDepth 100000 in
set_option maxHeartbeats 4000000 in
theorem jM_work_c115 (l : Launch) (D : va_G) (g qb qg qw : Nat) (cA : ClassId) {p : Program} {e : Env} {s : State} {m : MethodId} {args : Array Value} {below : List Frame} {meth : Method} {c : Code} (S : CallFix p m c bM_work 8 s args wAll RM) (hR : meth.sig.returnType = none) (hlk : meth.locks = false) {ls : Array Slot} {H : Heap} {locs : List Loc} (τ : MS) (v1 : Int32) (v2 : Bool) (v3 : Int64) (s0 : Bool) (hok : mOK τ) (hl : lv_has ls 8 [(0, .ref g), (1, .int v1), (2, .int (bI v2)), (3, .long v3)]) (hw : mH D g qb qg qw cA s τ H locs) : W p l e { frames := 2, cells := 0, slots := 0, locals := 44 } s m args below meth c H locs 0 0 (mQv D g qb qg qw cA below args s (kM_work_c115 τ v1 v2 v3 s0)) (F0 m 115 ls [.int (bI s0)]) := by
  have hx := S.1
  have hb := S.2.1
  refine lv_istore (lv' := [(5, .int (bI s0)), (0, .ref g), (1, .int v1), (2, .int (bI v2)), (3, .long v3)]) hx hb dM_work_115 hl (by decide) rfl (fun ls hl => ?_)
  refine lv_aload_n hx hb dM_work_117 rfl (lv_at hl 1 rfl) ?_
  refine mget_a S hw dM_work_118 ?_
  refine lv_aload_n hx hb dM_work_121 rfl (lv_at hl 1 rfl) ?_
  refine mget_b S hw dM_work_122 ?_
  refine lv_iadd hx hb dM_work_125 ?_
  refine lv_iload_n hx hb dM_work_126 rfl (lv_at hl 3 rfl) ?_
  refine lv_iadd hx hb dM_work_127 ?_
  refine lv_istore (lv' := [(6, .int (((τ.1 25) + (τ.1 26)) + (bI v2))), (5, .int (bI s0)), (0, .ref g), (1, .int v1), (2, .int (bI v2)), (3, .long v3)]) hx hb dM_work_128 hl (by decide) rfl (fun ls hl => ?_)
  refine lv_goto (tgt := 270) hx hb dM_work_130 (by decide) ?_
  rw [show kM_work_c115 τ v1 v2 v3 s0 = kM_work_c270 τ v1 v3 s0 (((τ.1 25) + (τ.1 26)) + (bI v2)) from rfl]
  exact jM_work_c270 l D g qb qg qw cA S hR hlk τ v1 v3 s0 (((τ.1 25) + (τ.1 26)) + (bI v2)) hok (lv_sub hl [2, 3, 5, 1, 0] rfl) hw
set_option maxRecDepth 100000 in
set_option maxHeartbeats 4000000 in
theorem jM_work_c70 (l : Launch) (D : va_G) (g qb qg qw : Nat) (cA : ClassId) {p : Program} {e : Env} {s : State} {m : MethodId} {args : Array Value} {below : List Frame} {meth : Method} {c : Code} (S : CallFix p m c bM_work 8 s args wAll RM) (hR : meth.sig.returnType = none) (hlk : meth.locks = false) {ls : Array Slot} {H : Heap} {locs : List Loc} (τ : MS) (v1 : Int32) (v2 : Bool) (hok : mOK τ) (hl : lv_has ls 8 [(0, .ref g), (1, .int v1), (2, .int (bI v2))]) (hw : mH D g qb qg qw cA s τ H locs) : W p l e { frames := 2, cells := 0, slots := 0, locals := 44 } s m args below meth c H locs 0 0 (mQv D g qb qg qw cA below args s (kM_work_c70 τ v1 v2)) (F0 m 70 ls []) := by
  have hx := S.1
  have hb := S.2.1
  refine lv_aload_n hx hb dM_work_70 rfl (lv_at hl 0 rfl) ?_
  refine mget_a S hw dM_work_71 ?_
  refine lv_i2l (v := (τ.1 25).toInt64) hx hb dM_work_74 rfl ?_
  refine lv_aload_n hx hb dM_work_75 rfl (lv_at hl 0 rfl) ?_
  refine mget_b S hw dM_work_76 ?_
  refine lv_i2l (v := (τ.1 26).toInt64) hx hb dM_work_79 rfl ?_
  refine lv_ladd hx hb dM_work_80 ?_
  refine lv_iload_n hx hb dM_work_81 rfl (lv_at hl 2 rfl) ?_
  refine lv_i2l (v := (bI v2).toInt64) hx hb dM_work_82 rfl ?_
  refine lv_ladd hx hb dM_work_83 ?_
  refine lv_lstore_n (lv' := [(3, .long ((((τ.1 25).toInt64) + ((τ.1 26).toInt64)) + ((bI v2).toInt64))), (0, .ref g), (1, .int v1), (2, .int (bI v2))]) hx hb dM_work_84 rfl hl (by decide) rfl (fun ls hl => ?_)
  refine lv_aload_n hx hb dM_work_85 rfl (lv_at hl 1 rfl) ?_
  refine mget_a S hw dM_work_86 ?_
  refine s_calll S (cM_plain l D (τ.1 25)) (qM_plain S.2.2.2.2 ⟨Nat.le_of_ble_eq_true rfl, Nat.le_of_ble_eq_true rfl⟩) hw rfl hl.1 rfl (Nat.le_of_ble_eq_true rfl) dM_work_89 (fun H locs hw => ?_)
  refine lv_aload_n hx hb dM_work_92 rfl (lv_at hl 1 rfl) ?_
  refine mget_b S hw dM_work_93 ?_
  refine s_calll S (cM_plain l D (τ.1 26)) (qM_plain S.2.2.2.2 ⟨Nat.le_of_ble_eq_true rfl, Nat.le_of_ble_eq_true rfl⟩) hw rfl hl.1 rfl (Nat.le_of_ble_eq_true rfl) dM_work_96 (fun H locs hw => ?_)
  refine lv_ladd hx hb dM_work_99 ?_
  refine lv_iload_n hx hb dM_work_100 rfl (lv_at hl 3 rfl) ?_
  refine lv_i2l (v := (bI v2).toInt64) hx hb dM_work_101 rfl ?_
  refine lv_ladd hx hb dM_work_102 ?_
  refine lv_ldc2 (v := 4294967295) hx hb S.2.2.2.1 (S.2.2.2.2 _ (List.mem_append_right _ (List.mem_append_right _ (List.mem_append_left _ (List.mem_append_right _ (List.mem_append_right _ (List.mem_append_right _ (List.mem_append_left _ (List.mem_of_getElem? (i := 2) rfl))))))))) dM_work_103 ?_
  refine W.lcmp hx hb dM_work_106 ?_
  refine lv_if_le (tgt := 114) hx hb dM_work_107 (by decide) (fun h_107 => ?_) (fun h_107 => ?_)
  · skip
    refine lv_iconst (v := 0) hx hb dM_work_114 (by decide) ?_
    rw [show kM_work_c70 τ v1 v2 = kM_work_c115 τ v1 v2 ((((τ.1 25).toInt64) + ((τ.1 26).toInt64)) + ((bI v2).toInt64)) false from (by rw [kM_work_c70, if_pos h_107])]
    exact jM_work_c115 l D g qb qg qw cA S hR hlk τ v1 v2 ((((τ.1 25).toInt64) + ((τ.1 26).toInt64)) + ((bI v2).toInt64)) false hok (lv_sub hl [1, 2, 3, 0] rfl) hw
  · skip
    refine lv_iconst (v := 1) hx hb dM_work_110 (by decide) ?_
    refine lv_goto (tgt := 115) hx hb dM_work_111 (by decide) ?_
    rw [show kM_work_c70 τ v1 v2 = kM_work_c115 τ v1 v2 ((((τ.1 25).toInt64) + ((τ.1 26).toInt64)) + ((bI v2).toInt64)) true from (by rw [kM_work_c70, if_neg h_107])]
    exact jM_work_c115 l D g qb qg qw cA S hR hlk τ v1 v2 ((((τ.1 25).toInt64) + ((τ.1 26).toInt64)) + ((bI v2).toInt64)) true hok (lv_sub hl [1, 2, 3, 0] rfl) hw
set_option maxRecDepth 100000 in
set_option maxHeartbeats 4000000 in
theorem jM_work_c51 (l : Launch) (D : va_G) (g qb qg qw : Nat) (cA : ClassId) {p : Program} {e : Env} {s : State} {m : MethodId} {args : Array Value} {below : List Frame} {meth : Method} {c : Code} (S : CallFix p m c bM_work 8 s args wAll RM) (hR : meth.sig.returnType = none) (hlk : meth.locks = false) {ls : Array Slot} {H : Heap} {locs : List Loc} (τ : MS) (v1 : Int32) (s0 : Bool) (hok : mOK τ) (hl : lv_has ls 8 [(0, .ref g), (1, .int v1)]) (hw : mH D g qb qg qw cA s τ H locs) : W p l e { frames := 2, cells := 0, slots := 0, locals := 44 } s m args below meth c H locs 0 0 (mQv D g qb qg qw cA below args s (kM_work_c51 τ v1 s0)) (F0 m 51 ls [.int (bI s0)]) := by
  have hx := S.1
  have hb := S.2.1
  refine lv_istore_n (lv' := [(2, .int (bI s0)), (0, .ref g), (1, .int v1)]) hx hb dM_work_51 rfl hl (by decide) rfl (fun ls hl => ?_)
  refine lv_lconst (v := 0) hx hb dM_work_52 (by decide) ?_
  refine lv_lstore_n (lv' := [(3, .long (0 : Int64)), (2, .int (bI s0)), (0, .ref g), (1, .int v1)]) hx hb dM_work_53 rfl hl (by decide) rfl (fun ls hl => ?_)
  refine lv_iconst (v := 0) hx hb dM_work_54 (by decide) ?_
  refine lv_istore (lv' := [(5, .int (0 : Int32)), (3, .long (0 : Int64)), (2, .int (bI s0)), (0, .ref g), (1, .int v1)]) hx hb dM_work_55 hl (by decide) rfl (fun ls hl => ?_)
  refine lv_iconst (v := 0) hx hb dM_work_57 (by decide) ?_
  refine lv_istore (lv' := [(6, .int (0 : Int32)), (5, .int (0 : Int32)), (3, .long (0 : Int64)), (2, .int (bI s0)), (0, .ref g), (1, .int v1)]) hx hb dM_work_58 hl (by decide) rfl (fun ls hl => ?_)
  refine lv_iload_n hx hb dM_work_60 rfl (lv_at hl 5 rfl) ?_
  refine lv_if_eq (tgt := 70) hx hb dM_work_61 (by decide) (fun h_61 => ?_) (fun h_61 => ?_)
  · skip
    rw [show kM_work_c51 τ v1 s0 = kM_work_c70 τ v1 s0 from (by rw [kM_work_c51, if_pos h_61])]
    exact jM_work_c70 l D g qb qg qw cA S hR hlk τ v1 s0 hok (lv_sub hl [4, 5, 3] rfl) hw
  · skip
    refine lv_iload_n hx hb dM_work_64 rfl (lv_at hl 5 rfl) ?_
    refine lv_bipush (v := 8) hx hb dM_work_65 (by decide) ?_
    refine lv_icmp_ne (tgt := 133) hx hb dM_work_67 (by decide) (fun h_67 => ?_) (fun h_67 => ?_)
    · skip
      refine lv_iload_n hx hb dM_work_133 rfl (lv_at hl 5 rfl) ?_
      refine lv_iconst (v := 4) hx hb dM_work_134 (by decide) ?_
      refine lv_icmp_eq (tgt := 144) hx hb dM_work_135 (by decide) (fun h_135 => ?_) (fun h_135 => ?_)
      · skip
        rw [show kM_work_c51 τ v1 s0 = kM_work_c144 τ v1 s0 from (by rw [kM_work_c51, if_neg h_61, if_neg h_67, if_pos h_135])]
        exact jM_work_c144 l D g qb qg qw cA S hR hlk τ v1 s0 hok (lv_sub hl [4, 5, 3] rfl) hw
      · skip
        refine lv_iload_n hx hb dM_work_138 rfl (lv_at hl 5 rfl) ?_
        refine lv_bipush (v := 12) hx hb dM_work_139 (by decide) ?_
        refine lv_icmp_ne (tgt := 203) hx hb dM_work_141 (by decide) (fun h_141 => ?_) (fun h_141 => ?_)
        · skip
          refine lv_iload_n hx hb dM_work_203 rfl (lv_at hl 5 rfl) ?_
          refine lv_iconst (v := 4) hx hb dM_work_204 (by decide) ?_
          refine lv_icmp_le (tgt := 217) hx hb dM_work_205 (by decide) (fun h_205 => ?_) (fun h_205 => ?_)
          · skip
            refine lv_aload_n hx hb dM_work_217 rfl (lv_at hl 4 rfl) ?_
            refine mget_b S hw dM_work_218 ?_
            rw [show kM_work_c51 τ v1 s0 = kM_work_c221 τ v1 false (τ.1 26) from (by rw [kM_work_c51, if_neg h_61, if_neg h_67, if_neg h_135, if_neg h_141, if_pos h_205])]
            exact jM_work_c221 l D g qb qg qw cA S hR hlk τ v1 false (τ.1 26) hok (lv_sub hl [4, 5, 1] rfl) hw
          · skip
            refine lv_aload_n hx hb dM_work_208 rfl (lv_at hl 4 rfl) ?_
            refine mget_b S hw dM_work_209 ?_
            refine lv_iconst (v := -1) hx hb dM_work_212 (by decide) ?_
            refine lv_ixor hx hb dM_work_213 ?_
            refine lv_goto (tgt := 221) hx hb dM_work_214 (by decide) ?_
            rw [show kM_work_c51 τ v1 s0 = kM_work_c221 τ v1 false ((τ.1 26) ^^^ (-1 : Int32)) from (by rw [kM_work_c51, if_neg h_61, if_neg h_67, if_neg h_135, if_neg h_141, if_neg h_205])]
            exact jM_work_c221 l D g qb qg qw cA S hR hlk τ v1 false ((τ.1 26) ^^^ (-1 : Int32)) hok (lv_sub hl [4, 5, 1] rfl) hw
        · skip
          rw [show kM_work_c51 τ v1 s0 = kM_work_c144 τ v1 s0 from (by rw [kM_work_c51, if_neg h_61, if_neg h_67, if_neg h_135, if_pos h_141])]
          exact jM_work_c144 l D g qb qg qw cA S hR hlk τ v1 s0 hok (lv_sub hl [4, 5, 3] rfl) hw
    · skip
      rw [show kM_work_c51 τ v1 s0 = kM_work_c70 τ v1 s0 from (by rw [kM_work_c51, if_neg h_61, if_pos h_67])]
      exact jM_work_c70 l D g qb qg qw cA S hR hlk τ v1 s0 hok (lv_sub hl [4, 5, 3] rfl) hw
set_option maxRecDepth 100000 in
set_option maxHeartbeats 4000000 in
theorem jM_work_c50 (l : Launch) (D : va_G) (g qb qg qw : Nat) (cA : ClassId) {p : Program} {e : Env} {s : State} {m : MethodId} {args : Array Value} {below : List Frame} {meth : Method} {c : Code} (S : CallFix p m c bM_work 8 s args wAll RM) (hR : meth.sig.returnType = none) (hlk : meth.locks = false) {ls : Array Slot} {H : Heap} {locs : List Loc} (τ : MS) (v1 : Int32) (hok : mOK τ) (hl : lv_has ls 8 [(0, .ref g), (1, .int v1)]) (hw : mH D g qb qg qw cA s τ H locs) : W p l e { frames := 2, cells := 0, slots := 0, locals := 44 } s m args below meth c H locs 0 0 (mQv D g qb qg qw cA below args s (kM_work_c50 τ v1)) (F0 m 50 ls []) := by
  have hx := S.1
  have hb := S.2.1
  refine lv_iconst (v := 0) hx hb dM_work_50 (by decide) ?_
  rw [show kM_work_c50 τ v1 = kM_work_c51 τ v1 false from rfl]
  exact jM_work_c51 l D g qb qg qw cA S hR hlk τ v1 false hok (lv_sub hl [0, 1] rfl) hw
set_option maxRecDepth 100000 in
set_option maxHeartbeats 4000000 in
theorem jM_work_c32 (l : Launch) (D : va_G) (g qb qg qw : Nat) (cA : ClassId) {p : Program} {e : Env} {s : State} {m : MethodId} {args : Array Value} {below : List Frame} {meth : Method} {c : Code} (S : CallFix p m c bM_work 8 s args wAll RM) (hR : meth.sig.returnType = none) (hlk : meth.locks = false) {ls : Array Slot} {H : Heap} {locs : List Loc} (τ : MS) (s0 : Int32) (hok : mOK τ) (hl : lv_has ls 8 [(0, .ref g)]) (hw : mH D g qb qg qw cA s τ H locs) : W p l e { frames := 2, cells := 0, slots := 0, locals := 44 } s m args below meth c H locs 0 0 (mQv D g qb qg qw cA below args s (kM_work_c32 τ s0)) (F0 m 32 ls [.int s0]) := by
  have hx := S.1
  have hb := S.2.1
  refine lv_istore_n (lv' := [(1, .int s0), (0, .ref g)]) hx hb dM_work_32 rfl hl (by decide) rfl (fun ls hl => ?_)
  refine lv_iload_n hx hb dM_work_33 rfl (lv_at hl 0 rfl) ?_
  refine lv_bipush (v := 7) hx hb dM_work_34 (by decide) ?_
  refine lv_icmp_le (tgt := 50) hx hb dM_work_36 (by decide) (fun h_36 => ?_) (fun h_36 => ?_)
  · skip
    rw [show kM_work_c32 τ s0 = kM_work_c50 τ s0 from (by rw [kM_work_c32, if_pos h_36])]
    exact jM_work_c50 l D g qb qg qw cA S hR hlk τ s0 hok (lv_sub hl [1, 0] rfl) hw
  · skip
    refine lv_aload_n hx hb dM_work_39 rfl (lv_at hl 1 rfl) ?_
    refine mget_carry S hw dM_work_40 ?_
    refine lv_if_eq (tgt := 50) hx hb dM_work_43 (by decide) (fun h_43 => ?_) (fun h_43 => ?_)
    · skip
      rw [show kM_work_c32 τ s0 = kM_work_c50 τ s0 from (by rw [kM_work_c32, if_neg h_36, if_pos h_43])]
      exact jM_work_c50 l D g qb qg qw cA S hR hlk τ s0 hok (lv_sub hl [1, 0] rfl) hw
    · skip
      refine lv_iconst (v := 1) hx hb dM_work_46 (by decide) ?_
      refine lv_goto (tgt := 51) hx hb dM_work_47 (by decide) ?_
      rw [show kM_work_c32 τ s0 = kM_work_c51 τ s0 true from (by rw [kM_work_c32, if_neg h_36, if_neg h_43])]
      exact jM_work_c51 l D g qb qg qw cA S hR hlk τ s0 true hok (lv_sub hl [1, 0] rfl) hw
set_option maxRecDepth 100000 in
set_option maxHeartbeats 4000000 in
theorem jM_work_c28 (l : Launch) (D : va_G) (g qb qg qw : Nat) (cA : ClassId) {p : Program} {e : Env} {s : State} {m : MethodId} {args : Array Value} {below : List Frame} {meth : Method} {c : Code} (S : CallFix p m c bM_work 8 s args wAll RM) (hR : meth.sig.returnType = none) (hlk : meth.locks = false) {ls : Array Slot} {H : Heap} {locs : List Loc} (τ : MS) (hok : mOK τ) (hl : lv_has ls 8 [(0, .ref g)]) (hw : mH D g qb qg qw cA s τ H locs) : W p l e { frames := 2, cells := 0, slots := 0, locals := 44 } s m args below meth c H locs 0 0 (mQv D g qb qg qw cA below args s (kM_work_c28 τ)) (F0 m 28 ls []) := by
  have hx := S.1
  have hb := S.2.1
  refine lv_aload_n hx hb dM_work_28 rfl (lv_at hl 0 rfl) ?_
  refine mget_order S hw dM_work_29 ?_
  rw [show kM_work_c28 τ = kM_work_c32 τ (τ.1 27) from rfl]
  exact jM_work_c32 l D g qb qg qw cA S hR hlk τ (τ.1 27) hok (lv_sub hl [0] rfl) hw
set_option maxRecDepth 100000 in
set_option maxHeartbeats 4000000 in
theorem cM_work (l : Launch) (D : va_G) (g qb qg qw : Nat) (cA : ClassId) (τ : MS) (hok : mOK τ) : mMv l yM_work (.code yM_work bM_work 8 none :: wAll) { frames := 2, cells := 0, slots := 0, locals := 44 } D g qb qg qw cA [.ref g] τ (kM_work τ) := by
  refine z_entryv (cc := bM_work) (nL := 8) (by decide) rfl rfl (Nat.le_of_ble_eq_true rfl) (fun p e s m args below meth c S hR hlk ls H locs hl hw => ?_)
  have hx := S.1
  have hb := S.2.1
  have hl : lv_has ls 8 [(0, .ref g)] := hl
  refine lv_aload_n hx hb dM_work_0 rfl (lv_at hl 0 rfl) ?_
  refine mget_order S hw dM_work_1 ?_
  refine lv_bipush (v := 16) hx hb dM_work_4 (by decide) ?_
  refine lv_icmp_lt (tgt := 28) hx hb dM_work_6 (by decide) (fun h_6 => ?_) (fun h_6 => ?_)
  · skip
    rw [show kM_work τ = kM_work_c28 τ from (by rw [kM_work, if_pos h_6])]
    exact jM_work_c28 l D g qb qg qw cA S hR hlk τ hok (lv_sub hl [0] rfl) hw
  · skip
    refine lv_aload_n hx hb dM_work_9 rfl (lv_at hl 0 rfl) ?_
    refine mget_order S hw dM_work_10 ?_
    refine lv_bipush (v := 32) hx hb dM_work_13 (by decide) ?_
    refine lv_icmp_ge (tgt := 28) hx hb dM_work_15 (by decide) (fun h_15 => ?_) (fun h_15 => ?_)
    · skip
      rw [show kM_work τ = kM_work_c28 τ from (by rw [kM_work, if_neg h_6, if_pos h_15])]
      exact jM_work_c28 l D g qb qg qw cA S hR hlk τ hok (lv_sub hl [0] rfl) hw
    · skip
      refine lv_aload_n hx hb dM_work_18 rfl (lv_at hl 0 rfl) ?_
      refine mget_order S hw dM_work_19 ?_
      refine lv_bipush (v := 16) hx hb dM_work_22 (by decide) ?_
      refine lv_isub hx hb dM_work_24 ?_
      refine lv_goto (tgt := 32) hx hb dM_work_25 (by decide) ?_
      rw [show kM_work τ = kM_work_c32 τ ((τ.1 27) - (16 : Int32)) from (by rw [kM_work, if_neg h_6, if_neg h_15])]
      exact jM_work_c32 l D g qb qg qw cA S hR hlk τ ((τ.1 27) - (16 : Int32)) hok (lv_sub hl [0] rfl) hw
def kM_memory_c301 (τ : MS) (s0 : Int32) (s1 : Int32) (s2 : Int32) : MS :=
  (kM_give τ s2 s1 s0)
def kM_memory_c279 (τ : MS) (v1 : Int32) (v2 : Int32) (s0 : Int32) (s1 : Int32) : MS :=
  kM_memory_c301 τ (kM_signed (kM_load τ v1 v2) ((8 : Int32) * v2)) s0 s1
def kM_memory_c236 (τ : MS) (v3 : Int32) : MS :=
  (kM_give τ (τ.1 4) (τ.1 24) v3)
def kM_memory_c190 (τ : MS) (v1 : Int32) : MS :=
  (kM_store τ v1 (1 : Int32) (255 : Int32))
def kM_memory_c144 (τ : MS) (v4 : Int32) : MS :=
  (kM_give τ (τ.1 4) ((τ.1 24) + (1 : Int32)) v4)
def kM_memory_c81 (τ : MS) (v1 : Int32) : MS :=
  (kM_store τ (v1 + (4 : Int32)) (4 : Int32) (kM_get τ (τ.1 4) ((τ.1 24) + (1 : Int32))))
def kM_memory_c33 (τ : MS) (v1 : Int32) (v2 : Int32) : MS :=
  (kM_store τ v1 v2 (kM_get τ (τ.1 4) (τ.1 24)))
def kM_memory (τ : MS) (a1 : Int32) : MS :=
  if (τ.1 27) = (4 : Int32) then
    kM_memory_c33 τ a1 (kM_moved (τ.1 27))
  else
    if (τ.1 27) = (5 : Int32) then
      kM_memory_c33 τ a1 (kM_moved (τ.1 27))
    else
      if (τ.1 27) = (6 : Int32) then
        kM_memory_c33 τ a1 (kM_moved (τ.1 27))
      else
        if (τ.1 27) = (7 : Int32) then
          kM_memory_c81 (kM_store τ a1 (4 : Int32) (kM_get τ (τ.1 4) (τ.1 24))) a1
        else
          if (τ.1 27) = (3 : Int32) then
            kM_memory_c144 (kM_give τ (τ.1 4) (τ.1 24) (kM_load τ a1 (4 : Int32))) (kM_load τ (a1 + (4 : Int32)) (4 : Int32))
          else
            if (τ.1 27) = (13 : Int32) then
              kM_memory_c190 (kM_give τ (τ.1 4) (τ.1 24) (kM_load τ a1 (1 : Int32))) a1
            else
              if (τ.1 27) = (15 : Int32) then
                kM_memory_c236 (kM_store τ a1 (4 : Int32) (kM_get τ (τ.1 4) (τ.1 24))) (kM_load τ a1 (4 : Int32))
              else
                if (τ.1 27) = (9 : Int32) then
                  kM_memory_c279 τ a1 (kM_moved (τ.1 27)) (τ.1 24) (τ.1 4)
                else
                  if (τ.1 27) = (10 : Int32) then
                    kM_memory_c279 τ a1 (kM_moved (τ.1 27)) (τ.1 24) (τ.1 4)
                  else
                    kM_memory_c301 τ (kM_load τ a1 (kM_moved (τ.1 27))) (τ.1 24) (τ.1 4)
set_option maxRecDepth 100000 in
set_option maxHeartbeats 4000000 in
theorem jM_memory_c301 (l : Launch) (D : va_G) (g qb qg qw : Nat) (cA : ClassId) {p : Program} {e : Env} {s : State} {m : MethodId} {args : Array Value} {below : List Frame} {meth : Method} {c : Code} (S : CallFix p m c bM_memory 5 s args wAll RM) (hR : meth.sig.returnType = none) (hlk : meth.locks = false) {ls : Array Slot} {H : Heap} {locs : List Loc} (τ : MS) (s0 : Int32) (s1 : Int32) (s2 : Int32) (hok : mOK τ) (hd1 : (τ.1 27 = 3 ∨ τ.1 27 = 7) → vp_in (τ.1 24 + 1) 32) (hs2 : vp_in s2 8) (hs1 : vp_in s1 32) (hl : lv_has ls 5 []) (hw : mH D g qb qg qw cA s τ H locs) : W p l e { frames := 2, cells := 0, slots := 0, locals := 44 } s m args below meth c H locs 0 0 (mQv D g qb qg qw cA below args s (kM_memory_c301 τ s0 s1 s2)) (F0 m 301 ls [.int s0, .int s1, .int s2, .ref g]) := by
  have hx := S.1
  have hb := S.2.1
  refine z_callv S (cM_give l D g qb qg qw cA τ s2 s1 s0 hs2 hs1) (qM_give S.2.2.2.2 ⟨Nat.le_of_ble_eq_true rfl, Nat.le_of_ble_eq_true rfl⟩) hw rfl rfl rfl hl.1 rfl (Nat.le_of_ble_eq_true rfl) dM_memory_301 (fun H locs hw => ?_)
  exact z_vret S hR hlk hw dM_memory_304 rfl
set_option maxRecDepth 100000 in
set_option maxHeartbeats 4000000 in
theorem jM_memory_c279 (l : Launch) (D : va_G) (g qb qg qw : Nat) (cA : ClassId) {p : Program} {e : Env} {s : State} {m : MethodId} {args : Array Value} {below : List Frame} {meth : Method} {c : Code} (S : CallFix p m c bM_memory 5 s args wAll RM) (hR : meth.sig.returnType = none) (hlk : meth.locks = false) {ls : Array Slot} {H : Heap} {locs : List Loc} (τ : MS) (v1 : Int32) (v2 : Int32) (s0 : Int32) (s1 : Int32) (hok : mOK τ) (hat : lM v1 (kM_moved (τ.1 27))) (hd1 : (τ.1 27 = 3 ∨ τ.1 27 = 7) → vp_in (τ.1 24 + 1) 32) (han : lM v1 v2) (ht1 : vp_in s0 32) (ht2 : vp_in s1 8) (hl : lv_has ls 5 [(0, .ref g), (1, .int v1), (2, .int v2)]) (hw : mH D g qb qg qw cA s τ H locs) : W p l e { frames := 2, cells := 0, slots := 0, locals := 44 } s m args below meth c H locs 0 0 (mQv D g qb qg qw cA below args s (kM_memory_c279 τ v1 v2 s0 s1)) (F0 m 279 ls [.int s0, .int s1, .ref g]) := by
  have hx := S.1
  have hb := S.2.1
  refine lv_aload_n hx hb dM_memory_279 rfl (lv_at hl 0 rfl) ?_
  refine lv_iload_n hx hb dM_memory_280 rfl (lv_at hl 1 rfl) ?_
  refine lv_iload_n hx hb dM_memory_281 rfl (lv_at hl 2 rfl) ?_
  refine z_calli S (cM_load l D g qb qg qw cA τ v1 v2 han) (qM_load S.2.2.2.2 ⟨Nat.le_of_ble_eq_true rfl, Nat.le_of_ble_eq_true rfl⟩) hw rfl rfl rfl hl.1 rfl (Nat.le_of_ble_eq_true rfl) dM_memory_282 (fun H locs hw => ?_)
  refine lv_bipush (v := 8) hx hb dM_memory_285 (by decide) ?_
  refine lv_iload_n hx hb dM_memory_287 rfl (lv_at hl 2 rfl) ?_
  refine lv_imul hx hb dM_memory_288 ?_
  refine s_calli S (cM_signed l D (kM_load τ v1 v2) ((8 : Int32) * v2)) (qM_signed S.2.2.2.2 ⟨Nat.le_of_ble_eq_true rfl, Nat.le_of_ble_eq_true rfl⟩) hw rfl hl.1 rfl (Nat.le_of_ble_eq_true rfl) dM_memory_289 (fun H locs hw => ?_)
  refine lv_goto (tgt := 301) hx hb dM_memory_292 (by decide) ?_
  rw [show kM_memory_c279 τ v1 v2 s0 s1 = kM_memory_c301 τ (kM_signed (kM_load τ v1 v2) ((8 : Int32) * v2)) s0 s1 from rfl]
  exact jM_memory_c301 l D g qb qg qw cA S hR hlk τ (kM_signed (kM_load τ v1 v2) ((8 : Int32) * v2)) s0 s1 hok hd1 (by first | exact ht2 | exact hok.1) (by first | exact ht1 | exact hok.2) (lv_sub hl [] rfl) hw
set_option maxRecDepth 100000 in
set_option maxHeartbeats 4000000 in
theorem jM_memory_c236 (l : Launch) (D : va_G) (g qb qg qw : Nat) (cA : ClassId) {p : Program} {e : Env} {s : State} {m : MethodId} {args : Array Value} {below : List Frame} {meth : Method} {c : Code} (S : CallFix p m c bM_memory 5 s args wAll RM) (hR : meth.sig.returnType = none) (hlk : meth.locks = false) {ls : Array Slot} {H : Heap} {locs : List Loc} (τ : MS) (v3 : Int32) (hok : mOK τ) (hd1 : (τ.1 27 = 3 ∨ τ.1 27 = 7) → vp_in (τ.1 24 + 1) 32) (hl : lv_has ls 5 [(0, .ref g), (3, .int v3)]) (hw : mH D g qb qg qw cA s τ H locs) : W p l e { frames := 2, cells := 0, slots := 0, locals := 44 } s m args below meth c H locs 0 0 (mQv D g qb qg qw cA below args s (kM_memory_c236 τ v3)) (F0 m 236 ls []) := by
  have hx := S.1
  have hb := S.2.1
  refine lv_aload_n hx hb dM_memory_236 rfl (lv_at hl 0 rfl) ?_
  refine lv_aload_n hx hb dM_memory_237 rfl (lv_at hl 0 rfl) ?_
  refine mget_window S hw dM_memory_238 ?_
  refine lv_aload_n hx hb dM_memory_241 rfl (lv_at hl 0 rfl) ?_
  refine mget_d S hw dM_memory_242 ?_
  refine lv_iload_n hx hb dM_memory_245 rfl (lv_at hl 1 rfl) ?_
  refine z_callv S (cM_give l D g qb qg qw cA τ (τ.1 4) (τ.1 24) v3 hok.1 hok.2) (qM_give S.2.2.2.2 ⟨Nat.le_of_ble_eq_true rfl, Nat.le_of_ble_eq_true rfl⟩) hw rfl rfl rfl hl.1 rfl (Nat.le_of_ble_eq_true rfl) dM_memory_246 (fun H locs hw => ?_)
  refine lv_goto (tgt := 304) hx hb dM_memory_249 (by decide) ?_
  exact z_vret S hR hlk hw dM_memory_304 rfl
set_option maxRecDepth 100000 in
set_option maxHeartbeats 4000000 in
theorem jM_memory_c190 (l : Launch) (D : va_G) (g qb qg qw : Nat) (cA : ClassId) {p : Program} {e : Env} {s : State} {m : MethodId} {args : Array Value} {below : List Frame} {meth : Method} {c : Code} (S : CallFix p m c bM_memory 5 s args wAll RM) (hR : meth.sig.returnType = none) (hlk : meth.locks = false) {ls : Array Slot} {H : Heap} {locs : List Loc} (τ : MS) (v1 : Int32) (hok : mOK τ) (hat : lM v1 (kM_moved (τ.1 27))) (hd1 : (τ.1 27 = 3 ∨ τ.1 27 = 7) → vp_in (τ.1 24 + 1) 32) (ha1 : lM v1 1) (hl : lv_has ls 5 [(0, .ref g), (1, .int v1)]) (hw : mH D g qb qg qw cA s τ H locs) : W p l e { frames := 2, cells := 0, slots := 0, locals := 44 } s m args below meth c H locs 0 0 (mQv D g qb qg qw cA below args s (kM_memory_c190 τ v1)) (F0 m 190 ls []) := by
  have hx := S.1
  have hb := S.2.1
  refine lv_aload_n hx hb dM_memory_190 rfl (lv_at hl 0 rfl) ?_
  refine lv_iload_n hx hb dM_memory_191 rfl (lv_at hl 1 rfl) ?_
  refine lv_iconst (v := 1) hx hb dM_memory_192 (by decide) ?_
  refine lv_sipush (v := 255) hx hb dM_memory_193 (by decide) ?_
  refine z_callv S (cM_store l D g qb qg qw cA τ v1 (1 : Int32) (255 : Int32) ha1) (qM_store S.2.2.2.2 ⟨Nat.le_of_ble_eq_true rfl, Nat.le_of_ble_eq_true rfl⟩) hw rfl rfl rfl hl.1 rfl (Nat.le_of_ble_eq_true rfl) dM_memory_196 (fun H locs hw => ?_)
  refine lv_goto (tgt := 304) hx hb dM_memory_199 (by decide) ?_
  exact z_vret S hR hlk hw dM_memory_304 rfl
set_option maxRecDepth 100000 in
set_option maxHeartbeats 4000000 in
theorem jM_memory_c144 (l : Launch) (D : va_G) (g qb qg qw : Nat) (cA : ClassId) {p : Program} {e : Env} {s : State} {m : MethodId} {args : Array Value} {below : List Frame} {meth : Method} {c : Code} (S : CallFix p m c bM_memory 5 s args wAll RM) (hR : meth.sig.returnType = none) (hlk : meth.locks = false) {ls : Array Slot} {H : Heap} {locs : List Loc} (τ : MS) (v4 : Int32) (hok : mOK τ) (hd1 : (τ.1 27 = 3 ∨ τ.1 27 = 7) → vp_in (τ.1 24 + 1) 32) (hdp : vp_in (τ.1 24 + 1) 32) (hl : lv_has ls 5 [(0, .ref g), (4, .int v4)]) (hw : mH D g qb qg qw cA s τ H locs) : W p l e { frames := 2, cells := 0, slots := 0, locals := 44 } s m args below meth c H locs 0 0 (mQv D g qb qg qw cA below args s (kM_memory_c144 τ v4)) (F0 m 144 ls []) := by
  have hx := S.1
  have hb := S.2.1
  refine lv_aload_n hx hb dM_memory_144 rfl (lv_at hl 0 rfl) ?_
  refine lv_aload_n hx hb dM_memory_145 rfl (lv_at hl 0 rfl) ?_
  refine mget_window S hw dM_memory_146 ?_
  refine lv_aload_n hx hb dM_memory_149 rfl (lv_at hl 0 rfl) ?_
  refine mget_d S hw dM_memory_150 ?_
  refine lv_iconst (v := 1) hx hb dM_memory_153 (by decide) ?_
  refine lv_iadd hx hb dM_memory_154 ?_
  refine lv_iload hx hb dM_memory_155 (lv_at hl 1 rfl) ?_
  refine z_callv S (cM_give l D g qb qg qw cA τ (τ.1 4) ((τ.1 24) + (1 : Int32)) v4 hok.1 hdp) (qM_give S.2.2.2.2 ⟨Nat.le_of_ble_eq_true rfl, Nat.le_of_ble_eq_true rfl⟩) hw rfl rfl rfl hl.1 rfl (Nat.le_of_ble_eq_true rfl) dM_memory_157 (fun H locs hw => ?_)
  refine lv_goto (tgt := 304) hx hb dM_memory_160 (by decide) ?_
  exact z_vret S hR hlk hw dM_memory_304 rfl
set_option maxRecDepth 100000 in
set_option maxHeartbeats 4000000 in
theorem jM_memory_c81 (l : Launch) (D : va_G) (g qb qg qw : Nat) (cA : ClassId) {p : Program} {e : Env} {s : State} {m : MethodId} {args : Array Value} {below : List Frame} {meth : Method} {c : Code} (S : CallFix p m c bM_memory 5 s args wAll RM) (hR : meth.sig.returnType = none) (hlk : meth.locks = false) {ls : Array Slot} {H : Heap} {locs : List Loc} (τ : MS) (v1 : Int32) (hok : mOK τ) (hat : lM v1 (kM_moved (τ.1 27))) (hd1 : (τ.1 27 = 3 ∨ τ.1 27 = 7) → vp_in (τ.1 24 + 1) 32) (ha4 : lM (v1 + 4) 4) (hdp : vp_in (τ.1 24 + 1) 32) (hl : lv_has ls 5 [(0, .ref g), (1, .int v1)]) (hw : mH D g qb qg qw cA s τ H locs) : W p l e { frames := 2, cells := 0, slots := 0, locals := 44 } s m args below meth c H locs 0 0 (mQv D g qb qg qw cA below args s (kM_memory_c81 τ v1)) (F0 m 81 ls []) := by
  have hx := S.1
  have hb := S.2.1
  refine lv_aload_n hx hb dM_memory_81 rfl (lv_at hl 0 rfl) ?_
  refine lv_iload_n hx hb dM_memory_82 rfl (lv_at hl 1 rfl) ?_
  refine lv_iconst (v := 4) hx hb dM_memory_83 (by decide) ?_
  refine lv_iadd hx hb dM_memory_84 ?_
  refine lv_iconst (v := 4) hx hb dM_memory_85 (by decide) ?_
  refine lv_aload_n hx hb dM_memory_86 rfl (lv_at hl 0 rfl) ?_
  refine lv_aload_n hx hb dM_memory_87 rfl (lv_at hl 0 rfl) ?_
  refine mget_window S hw dM_memory_88 ?_
  refine lv_aload_n hx hb dM_memory_91 rfl (lv_at hl 0 rfl) ?_
  refine mget_d S hw dM_memory_92 ?_
  refine lv_iconst (v := 1) hx hb dM_memory_95 (by decide) ?_
  refine lv_iadd hx hb dM_memory_96 ?_
  refine z_calli S (cM_get l D g qb qg qw cA τ (τ.1 4) ((τ.1 24) + (1 : Int32)) hok.1 hdp) (qM_get S.2.2.2.2 ⟨Nat.le_of_ble_eq_true rfl, Nat.le_of_ble_eq_true rfl⟩) hw rfl rfl rfl hl.1 rfl (Nat.le_of_ble_eq_true rfl) dM_memory_97 (fun H locs hw => ?_)
  refine z_callv S (cM_store l D g qb qg qw cA τ (v1 + (4 : Int32)) (4 : Int32) (kM_get τ (τ.1 4) ((τ.1 24) + (1 : Int32))) ha4) (qM_store S.2.2.2.2 ⟨Nat.le_of_ble_eq_true rfl, Nat.le_of_ble_eq_true rfl⟩) hw rfl rfl rfl hl.1 rfl (Nat.le_of_ble_eq_true rfl) dM_memory_100 (fun H locs hw => ?_)
  refine lv_goto (tgt := 304) hx hb dM_memory_103 (by decide) ?_
  exact z_vret S hR hlk hw dM_memory_304 rfl
set_option maxRecDepth 100000 in
set_option maxHeartbeats 4000000 in
theorem jM_memory_c33 (l : Launch) (D : va_G) (g qb qg qw : Nat) (cA : ClassId) {p : Program} {e : Env} {s : State} {m : MethodId} {args : Array Value} {below : List Frame} {meth : Method} {c : Code} (S : CallFix p m c bM_memory 5 s args wAll RM) (hR : meth.sig.returnType = none) (hlk : meth.locks = false) {ls : Array Slot} {H : Heap} {locs : List Loc} (τ : MS) (v1 : Int32) (v2 : Int32) (hok : mOK τ) (hat : lM v1 (kM_moved (τ.1 27))) (hd1 : (τ.1 27 = 3 ∨ τ.1 27 = 7) → vp_in (τ.1 24 + 1) 32) (han : lM v1 v2) (hl : lv_has ls 5 [(0, .ref g), (1, .int v1), (2, .int v2)]) (hw : mH D g qb qg qw cA s τ H locs) : W p l e { frames := 2, cells := 0, slots := 0, locals := 44 } s m args below meth c H locs 0 0 (mQv D g qb qg qw cA below args s (kM_memory_c33 τ v1 v2)) (F0 m 33 ls []) := by
  have hx := S.1
  have hb := S.2.1
  refine lv_aload_n hx hb dM_memory_33 rfl (lv_at hl 0 rfl) ?_
  refine lv_iload_n hx hb dM_memory_34 rfl (lv_at hl 1 rfl) ?_
  refine lv_iload_n hx hb dM_memory_35 rfl (lv_at hl 2 rfl) ?_
  refine lv_aload_n hx hb dM_memory_36 rfl (lv_at hl 0 rfl) ?_
  refine lv_aload_n hx hb dM_memory_37 rfl (lv_at hl 0 rfl) ?_
  refine mget_window S hw dM_memory_38 ?_
  refine lv_aload_n hx hb dM_memory_41 rfl (lv_at hl 0 rfl) ?_
  refine mget_d S hw dM_memory_42 ?_
  refine z_calli S (cM_get l D g qb qg qw cA τ (τ.1 4) (τ.1 24) hok.1 hok.2) (qM_get S.2.2.2.2 ⟨Nat.le_of_ble_eq_true rfl, Nat.le_of_ble_eq_true rfl⟩) hw rfl rfl rfl hl.1 rfl (Nat.le_of_ble_eq_true rfl) dM_memory_45 (fun H locs hw => ?_)
  refine z_callv S (cM_store l D g qb qg qw cA τ v1 v2 (kM_get τ (τ.1 4) (τ.1 24)) han) (qM_store S.2.2.2.2 ⟨Nat.le_of_ble_eq_true rfl, Nat.le_of_ble_eq_true rfl⟩) hw rfl rfl rfl hl.1 rfl (Nat.le_of_ble_eq_true rfl) dM_memory_48 (fun H locs hw => ?_)
  refine lv_goto (tgt := 304) hx hb dM_memory_51 (by decide) ?_
  exact z_vret S hR hlk hw dM_memory_304 rfl
set_option maxRecDepth 100000 in
set_option maxHeartbeats 4000000 in
theorem cM_memory (l : Launch) (D : va_G) (g qb qg qw : Nat) (cA : ClassId) (τ : MS) (a1 : Int32) (hok : mOK τ) (hat : lM a1 (kM_moved (τ.1 27))) (hd1 : (τ.1 27 = 3 ∨ τ.1 27 = 7) → vp_in (τ.1 24 + 1) 32) : mMv l yM_memory (.code yM_memory bM_memory 5 none :: wAll) { frames := 2, cells := 0, slots := 0, locals := 44 } D g qb qg qw cA [.ref g, .int a1] τ (kM_memory τ a1) := by
  refine z_entryv (cc := bM_memory) (nL := 5) (by decide) rfl rfl (Nat.le_of_ble_eq_true rfl) (fun p e s m args below meth c S hR hlk ls H locs hl hw => ?_)
  have hx := S.1
  have hb := S.2.1
  have hl : lv_has ls 5 [(0, .ref g), (1, .int a1)] := hl
  refine lv_aload_n hx hb dM_memory_0 rfl (lv_at hl 0 rfl) ?_
  refine mget_order S hw dM_memory_1 ?_
  refine s_calli S (cM_moved l D (τ.1 27)) (qM_moved S.2.2.2.2 ⟨Nat.le_of_ble_eq_true rfl, Nat.le_of_ble_eq_true rfl⟩) hw rfl hl.1 rfl (Nat.le_of_ble_eq_true rfl) dM_memory_4 (fun H locs hw => ?_)
  refine lv_istore_n (lv' := [(2, .int (kM_moved (τ.1 27))), (0, .ref g), (1, .int a1)]) hx hb dM_memory_7 rfl hl (by decide) rfl (fun ls hl => ?_)
  refine lv_aload_n hx hb dM_memory_8 rfl (lv_at hl 1 rfl) ?_
  refine mget_order S hw dM_memory_9 ?_
  refine lv_iconst (v := 4) hx hb dM_memory_12 (by decide) ?_
  refine lv_icmp_eq (tgt := 33) hx hb dM_memory_13 (by decide) (fun h_13 => ?_) (fun h_13 => ?_)
  · skip
    rw [show kM_memory τ a1 = kM_memory_c33 τ a1 (kM_moved (τ.1 27)) from (by rw [kM_memory, if_pos h_13])]
    exact jM_memory_c33 l D g qb qg qw cA S hR hlk τ a1 (kM_moved (τ.1 27)) hok hat hd1 hat (lv_sub hl [1, 2, 0] rfl) hw
  · skip
    refine lv_aload_n hx hb dM_memory_16 rfl (lv_at hl 1 rfl) ?_
    refine mget_order S hw dM_memory_17 ?_
    refine lv_iconst (v := 5) hx hb dM_memory_20 (by decide) ?_
    refine lv_icmp_eq (tgt := 33) hx hb dM_memory_21 (by decide) (fun h_21 => ?_) (fun h_21 => ?_)
    · skip
      rw [show kM_memory τ a1 = kM_memory_c33 τ a1 (kM_moved (τ.1 27)) from (by rw [kM_memory, if_neg h_13, if_pos h_21])]
      exact jM_memory_c33 l D g qb qg qw cA S hR hlk τ a1 (kM_moved (τ.1 27)) hok hat hd1 hat (lv_sub hl [1, 2, 0] rfl) hw
    · skip
      refine lv_aload_n hx hb dM_memory_24 rfl (lv_at hl 1 rfl) ?_
      refine mget_order S hw dM_memory_25 ?_
      refine lv_bipush (v := 6) hx hb dM_memory_28 (by decide) ?_
      refine lv_icmp_ne (tgt := 54) hx hb dM_memory_30 (by decide) (fun h_30 => ?_) (fun h_30 => ?_)
      · skip
        refine lv_aload_n hx hb dM_memory_54 rfl (lv_at hl 1 rfl) ?_
        refine mget_order S hw dM_memory_55 ?_
        refine lv_bipush (v := 7) hx hb dM_memory_58 (by decide) ?_
        refine lv_icmp_ne (tgt := 106) hx hb dM_memory_60 (by decide) (fun h_60 => ?_) (fun h_60 => ?_)
        · skip
          refine lv_aload_n hx hb dM_memory_106 rfl (lv_at hl 1 rfl) ?_
          refine mget_order S hw dM_memory_107 ?_
          refine lv_iconst (v := 3) hx hb dM_memory_110 (by decide) ?_
          refine lv_icmp_ne (tgt := 163) hx hb dM_memory_111 (by decide) (fun h_111 => ?_) (fun h_111 => ?_)
          · skip
            refine lv_aload_n hx hb dM_memory_163 rfl (lv_at hl 1 rfl) ?_
            refine mget_order S hw dM_memory_164 ?_
            refine lv_bipush (v := 13) hx hb dM_memory_167 (by decide) ?_
            refine lv_icmp_ne (tgt := 202) hx hb dM_memory_169 (by decide) (fun h_169 => ?_) (fun h_169 => ?_)
            · skip
              refine lv_aload_n hx hb dM_memory_202 rfl (lv_at hl 1 rfl) ?_
              refine mget_order S hw dM_memory_203 ?_
              refine lv_bipush (v := 15) hx hb dM_memory_206 (by decide) ?_
              refine lv_icmp_ne (tgt := 252) hx hb dM_memory_208 (by decide) (fun h_208 => ?_) (fun h_208 => ?_)
              · skip
                refine lv_aload_n hx hb dM_memory_252 rfl (lv_at hl 1 rfl) ?_
                refine lv_aload_n hx hb dM_memory_253 rfl (lv_at hl 1 rfl) ?_
                refine mget_window S hw dM_memory_254 ?_
                refine lv_aload_n hx hb dM_memory_257 rfl (lv_at hl 1 rfl) ?_
                refine mget_d S hw dM_memory_258 ?_
                refine lv_aload_n hx hb dM_memory_261 rfl (lv_at hl 1 rfl) ?_
                refine mget_order S hw dM_memory_262 ?_
                refine lv_bipush (v := 9) hx hb dM_memory_265 (by decide) ?_
                refine lv_icmp_eq (tgt := 279) hx hb dM_memory_267 (by decide) (fun h_267 => ?_) (fun h_267 => ?_)
                · skip
                  rw [show kM_memory τ a1 = kM_memory_c279 τ a1 (kM_moved (τ.1 27)) (τ.1 24) (τ.1 4) from (by rw [kM_memory, if_neg h_13, if_neg h_21, if_neg h_30, if_neg h_60, if_neg h_111, if_neg h_169, if_neg h_208, if_pos h_267])]
                  exact jM_memory_c279 l D g qb qg qw cA S hR hlk τ a1 (kM_moved (τ.1 27)) (τ.1 24) (τ.1 4) hok hat hd1 hat hok.2 hok.1 (lv_sub hl [1, 2, 0] rfl) hw
                · skip
                  refine lv_aload_n hx hb dM_memory_270 rfl (lv_at hl 1 rfl) ?_
                  refine mget_order S hw dM_memory_271 ?_
                  refine lv_bipush (v := 10) hx hb dM_memory_274 (by decide) ?_
                  refine lv_icmp_ne (tgt := 295) hx hb dM_memory_276 (by decide) (fun h_276 => ?_) (fun h_276 => ?_)
                  · skip
                    refine lv_aload_n hx hb dM_memory_295 rfl (lv_at hl 1 rfl) ?_
                    refine lv_iload_n hx hb dM_memory_296 rfl (lv_at hl 2 rfl) ?_
                    refine lv_iload_n hx hb dM_memory_297 rfl (lv_at hl 0 rfl) ?_
                    refine z_calli S (cM_load l D g qb qg qw cA τ a1 (kM_moved (τ.1 27)) (by first | exact han | exact hat)) (qM_load S.2.2.2.2 ⟨Nat.le_of_ble_eq_true rfl, Nat.le_of_ble_eq_true rfl⟩) hw rfl rfl rfl hl.1 rfl (Nat.le_of_ble_eq_true rfl) dM_memory_298 (fun H locs hw => ?_)
                    rw [show kM_memory τ a1 = kM_memory_c301 τ (kM_load τ a1 (kM_moved (τ.1 27))) (τ.1 24) (τ.1 4) from (by rw [kM_memory, if_neg h_13, if_neg h_21, if_neg h_30, if_neg h_60, if_neg h_111, if_neg h_169, if_neg h_208, if_neg h_267, if_neg h_276])]
                    exact jM_memory_c301 l D g qb qg qw cA S hR hlk τ (kM_load τ a1 (kM_moved (τ.1 27))) (τ.1 24) (τ.1 4) hok hd1 (by first | exact ht2 | exact hok.1) (by first | exact ht1 | exact hok.2) (lv_sub hl [] rfl) hw
                  · skip
                    rw [show kM_memory τ a1 = kM_memory_c279 τ a1 (kM_moved (τ.1 27)) (τ.1 24) (τ.1 4) from (by rw [kM_memory, if_neg h_13, if_neg h_21, if_neg h_30, if_neg h_60, if_neg h_111, if_neg h_169, if_neg h_208, if_neg h_267, if_pos h_276])]
                    exact jM_memory_c279 l D g qb qg qw cA S hR hlk τ a1 (kM_moved (τ.1 27)) (τ.1 24) (τ.1 4) hok hat hd1 hat hok.2 hok.1 (lv_sub hl [1, 2, 0] rfl) hw
              · skip
                refine lv_aload_n hx hb dM_memory_211 rfl (lv_at hl 1 rfl) ?_
                refine lv_iload_n hx hb dM_memory_212 rfl (lv_at hl 2 rfl) ?_
                refine lv_iconst (v := 4) hx hb dM_memory_213 (by decide) ?_
                refine z_calli S (cM_load l D g qb qg qw cA τ a1 (4 : Int32) (m_mv h_208 (by decide) hat)) (qM_load S.2.2.2.2 ⟨Nat.le_of_ble_eq_true rfl, Nat.le_of_ble_eq_true rfl⟩) hw rfl rfl rfl hl.1 rfl (Nat.le_of_ble_eq_true rfl) dM_memory_214 (fun H locs hw => ?_)
                refine lv_istore_n (lv' := [(3, .int (kM_load τ a1 (4 : Int32))), (2, .int (kM_moved (τ.1 27))), (0, .ref g), (1, .int a1)]) hx hb dM_memory_217 rfl hl (by decide) rfl (fun ls hl => ?_)
                refine lv_aload_n hx hb dM_memory_218 rfl (lv_at hl 2 rfl) ?_
                refine lv_iload_n hx hb dM_memory_219 rfl (lv_at hl 3 rfl) ?_
                refine lv_iconst (v := 4) hx hb dM_memory_220 (by decide) ?_
                refine lv_aload_n hx hb dM_memory_221 rfl (lv_at hl 2 rfl) ?_
                refine lv_aload_n hx hb dM_memory_222 rfl (lv_at hl 2 rfl) ?_
                refine mget_window S hw dM_memory_223 ?_
                refine lv_aload_n hx hb dM_memory_226 rfl (lv_at hl 2 rfl) ?_
                refine mget_d S hw dM_memory_227 ?_
                refine z_calli S (cM_get l D g qb qg qw cA τ (τ.1 4) (τ.1 24) hok.1 hok.2) (qM_get S.2.2.2.2 ⟨Nat.le_of_ble_eq_true rfl, Nat.le_of_ble_eq_true rfl⟩) hw rfl rfl rfl hl.1 rfl (Nat.le_of_ble_eq_true rfl) dM_memory_230 (fun H locs hw => ?_)
                refine z_callv S (cM_store l D g qb qg qw cA τ a1 (4 : Int32) (kM_get τ (τ.1 4) (τ.1 24)) (m_mv h_208 (by decide) hat)) (qM_store S.2.2.2.2 ⟨Nat.le_of_ble_eq_true rfl, Nat.le_of_ble_eq_true rfl⟩) hw rfl rfl rfl hl.1 rfl (Nat.le_of_ble_eq_true rfl) dM_memory_233 (fun H locs hw => ?_)
                rw [show kM_memory τ a1 = kM_memory_c236 (kM_store τ a1 (4 : Int32) (kM_get τ (τ.1 4) (τ.1 24))) (kM_load τ a1 (4 : Int32)) from (by rw [kM_memory, if_neg h_13, if_neg h_21, if_neg h_30, if_neg h_60, if_neg h_111, if_neg h_169, if_pos h_208])]
                exact jM_memory_c236 l D g qb qg qw cA S hR hlk (kM_store τ a1 (4 : Int32) (kM_get τ (τ.1 4) (τ.1 24))) (kM_load τ a1 (4 : Int32)) (mok_store hok) (by simpa only [m_store1, m_give1] using hd1) (lv_sub hl [2, 0] rfl) hw
            · skip
              refine lv_aload_n hx hb dM_memory_172 rfl (lv_at hl 1 rfl) ?_
              refine lv_aload_n hx hb dM_memory_173 rfl (lv_at hl 1 rfl) ?_
              refine mget_window S hw dM_memory_174 ?_
              refine lv_aload_n hx hb dM_memory_177 rfl (lv_at hl 1 rfl) ?_
              refine mget_d S hw dM_memory_178 ?_
              refine lv_aload_n hx hb dM_memory_181 rfl (lv_at hl 1 rfl) ?_
              refine lv_iload_n hx hb dM_memory_182 rfl (lv_at hl 2 rfl) ?_
              refine lv_iconst (v := 1) hx hb dM_memory_183 (by decide) ?_
              refine z_calli S (cM_load l D g qb qg qw cA τ a1 (1 : Int32) (m_mv h_169 (by decide) hat)) (qM_load S.2.2.2.2 ⟨Nat.le_of_ble_eq_true rfl, Nat.le_of_ble_eq_true rfl⟩) hw rfl rfl rfl hl.1 rfl (Nat.le_of_ble_eq_true rfl) dM_memory_184 (fun H locs hw => ?_)
              refine z_callv S (cM_give l D g qb qg qw cA τ (τ.1 4) (τ.1 24) (kM_load τ a1 (1 : Int32)) hok.1 hok.2) (qM_give S.2.2.2.2 ⟨Nat.le_of_ble_eq_true rfl, Nat.le_of_ble_eq_true rfl⟩) hw rfl rfl rfl hl.1 rfl (Nat.le_of_ble_eq_true rfl) dM_memory_187 (fun H locs hw => ?_)
              rw [show kM_memory τ a1 = kM_memory_c190 (kM_give τ (τ.1 4) (τ.1 24) (kM_load τ a1 (1 : Int32))) a1 from (by rw [kM_memory, if_neg h_13, if_neg h_21, if_neg h_30, if_neg h_60, if_neg h_111, if_pos h_169])]
              exact jM_memory_c190 l D g qb qg qw cA S hR hlk (kM_give τ (τ.1 4) (τ.1 24) (kM_load τ a1 (1 : Int32))) a1 (mok_give hok) (by simpa only [m_store1, m_give1] using hat) (by simpa only [m_store1, m_give1] using hd1) (m_mv h_169 (by decide) hat) (lv_sub hl [1, 2] rfl) hw
          · skip
            refine lv_aload_n hx hb dM_memory_114 rfl (lv_at hl 1 rfl) ?_
            refine lv_iload_n hx hb dM_memory_115 rfl (lv_at hl 2 rfl) ?_
            refine lv_iconst (v := 4) hx hb dM_memory_116 (by decide) ?_
            refine z_calli S (cM_load l D g qb qg qw cA τ a1 (4 : Int32) (m_l8a (m_mv h_111 (by decide) hat))) (qM_load S.2.2.2.2 ⟨Nat.le_of_ble_eq_true rfl, Nat.le_of_ble_eq_true rfl⟩) hw rfl rfl rfl hl.1 rfl (Nat.le_of_ble_eq_true rfl) dM_memory_117 (fun H locs hw => ?_)
            refine lv_istore_n (lv' := [(3, .int (kM_load τ a1 (4 : Int32))), (2, .int (kM_moved (τ.1 27))), (0, .ref g), (1, .int a1)]) hx hb dM_memory_120 rfl hl (by decide) rfl (fun ls hl => ?_)
            refine lv_aload_n hx hb dM_memory_121 rfl (lv_at hl 2 rfl) ?_
            refine lv_iload_n hx hb dM_memory_122 rfl (lv_at hl 3 rfl) ?_
            refine lv_iconst (v := 4) hx hb dM_memory_123 (by decide) ?_
            refine lv_iadd hx hb dM_memory_124 ?_
            refine lv_iconst (v := 4) hx hb dM_memory_125 (by decide) ?_
            refine z_calli S (cM_load l D g qb qg qw cA τ (a1 + (4 : Int32)) (4 : Int32) (m_l8b (m_mv h_111 (by decide) hat))) (qM_load S.2.2.2.2 ⟨Nat.le_of_ble_eq_true rfl, Nat.le_of_ble_eq_true rfl⟩) hw rfl rfl rfl hl.1 rfl (Nat.le_of_ble_eq_true rfl) dM_memory_126 (fun H locs hw => ?_)
            refine lv_istore (lv' := [(4, .int (kM_load τ (a1 + (4 : Int32)) (4 : Int32))), (3, .int (kM_load τ a1 (4 : Int32))), (2, .int (kM_moved (τ.1 27))), (0, .ref g), (1, .int a1)]) hx hb dM_memory_129 hl (by decide) rfl (fun ls hl => ?_)
            refine lv_aload_n hx hb dM_memory_131 rfl (lv_at hl 3 rfl) ?_
            refine lv_aload_n hx hb dM_memory_132 rfl (lv_at hl 3 rfl) ?_
            refine mget_window S hw dM_memory_133 ?_
            refine lv_aload_n hx hb dM_memory_136 rfl (lv_at hl 3 rfl) ?_
            refine mget_d S hw dM_memory_137 ?_
            refine lv_iload_n hx hb dM_memory_140 rfl (lv_at hl 1 rfl) ?_
            refine z_callv S (cM_give l D g qb qg qw cA τ (τ.1 4) (τ.1 24) (kM_load τ a1 (4 : Int32)) hok.1 hok.2) (qM_give S.2.2.2.2 ⟨Nat.le_of_ble_eq_true rfl, Nat.le_of_ble_eq_true rfl⟩) hw rfl rfl rfl hl.1 rfl (Nat.le_of_ble_eq_true rfl) dM_memory_141 (fun H locs hw => ?_)
            rw [show kM_memory τ a1 = kM_memory_c144 (kM_give τ (τ.1 4) (τ.1 24) (kM_load τ a1 (4 : Int32))) (kM_load τ (a1 + (4 : Int32)) (4 : Int32)) from (by rw [kM_memory, if_neg h_13, if_neg h_21, if_neg h_30, if_neg h_60, if_pos h_111])]
            exact jM_memory_c144 l D g qb qg qw cA S hR hlk (kM_give τ (τ.1 4) (τ.1 24) (kM_load τ a1 (4 : Int32))) (kM_load τ (a1 + (4 : Int32)) (4 : Int32)) (mok_give hok) (by simpa only [m_store1, m_give1] using hd1) (by rw [m_give1]; exact hd1 (Or.inl h_111)) (lv_sub hl [3, 0] rfl) hw
        · skip
          refine lv_aload_n hx hb dM_memory_63 rfl (lv_at hl 1 rfl) ?_
          refine lv_iload_n hx hb dM_memory_64 rfl (lv_at hl 2 rfl) ?_
          refine lv_iconst (v := 4) hx hb dM_memory_65 (by decide) ?_
          refine lv_aload_n hx hb dM_memory_66 rfl (lv_at hl 1 rfl) ?_
          refine lv_aload_n hx hb dM_memory_67 rfl (lv_at hl 1 rfl) ?_
          refine mget_window S hw dM_memory_68 ?_
          refine lv_aload_n hx hb dM_memory_71 rfl (lv_at hl 1 rfl) ?_
          refine mget_d S hw dM_memory_72 ?_
          refine z_calli S (cM_get l D g qb qg qw cA τ (τ.1 4) (τ.1 24) hok.1 hok.2) (qM_get S.2.2.2.2 ⟨Nat.le_of_ble_eq_true rfl, Nat.le_of_ble_eq_true rfl⟩) hw rfl rfl rfl hl.1 rfl (Nat.le_of_ble_eq_true rfl) dM_memory_75 (fun H locs hw => ?_)
          refine z_callv S (cM_store l D g qb qg qw cA τ a1 (4 : Int32) (kM_get τ (τ.1 4) (τ.1 24)) (m_l8a (m_mv h_60 (by decide) hat))) (qM_store S.2.2.2.2 ⟨Nat.le_of_ble_eq_true rfl, Nat.le_of_ble_eq_true rfl⟩) hw rfl rfl rfl hl.1 rfl (Nat.le_of_ble_eq_true rfl) dM_memory_78 (fun H locs hw => ?_)
          rw [show kM_memory τ a1 = kM_memory_c81 (kM_store τ a1 (4 : Int32) (kM_get τ (τ.1 4) (τ.1 24))) a1 from (by rw [kM_memory, if_neg h_13, if_neg h_21, if_neg h_30, if_pos h_60])]
          exact jM_memory_c81 l D g qb qg qw cA S hR hlk (kM_store τ a1 (4 : Int32) (kM_get τ (τ.1 4) (τ.1 24))) a1 (mok_store hok) (by simpa only [m_store1, m_give1] using hat) (by simpa only [m_store1, m_give1] using hd1) (m_l8b (m_mv h_60 (by decide) hat)) (by rw [m_store1]; exact hd1 (Or.inr h_60)) (lv_sub hl [1, 2] rfl) hw
      · skip
        rw [show kM_memory τ a1 = kM_memory_c33 τ a1 (kM_moved (τ.1 27)) from (by rw [kM_memory, if_neg h_13, if_neg h_21, if_pos h_30])]
        exact jM_memory_c33 l D g qb qg qw cA S hR hlk τ a1 (kM_moved (τ.1 27)) hok hat hd1 hat (lv_sub hl [1, 2, 0] rfl) hw
def kM_act (τ : MS) (a1 : Int32) : MS :=
  if (2 : Int32) ≤ a1 then
    if a1 = (3 : Int32) then
      (kM_memory τ ((τ.1 25) + (τ.1 26)))
    else
      if (bI (kM_isWork (τ.1 27))) = 0 then
        if (bI (kM_isControl (τ.1 27))) = 0 then
          (kM_go τ ((τ.1 25) + (τ.1 26)))
        else
          (kM_controls τ)
      else
        if (τ.1 27) ≤ (36 : Int32) then
          (kM_work τ)
        else
          (kM_shift τ)
  else
    (kM_simple τ a1)
set_option maxRecDepth 100000 in
set_option maxHeartbeats 4000000 in
theorem cM_act (l : Launch) (D : va_G) (g qb qg qw : Nat) (cA : ClassId) (τ : MS) (a1 : Int32) (hok : mOK τ) (hact : a1 = 3 → lM (τ.1 25 + τ.1 26) (kM_moved (τ.1 27)) ∧ ((τ.1 27 = 3 ∨ τ.1 27 = 7) → vp_in (τ.1 24 + 1) 32)) : mMv l yM_act (.code yM_act bM_act 2 none :: wAll) { frames := 3, cells := 0, slots := 0, locals := 71 } D g qb qg qw cA [.ref g, .int a1] τ (kM_act τ a1) := by
  refine z_entryv (cc := bM_act) (nL := 2) (by decide) rfl rfl (Nat.le_of_ble_eq_true rfl) (fun p e s m args below meth c S hR hlk ls H locs hl hw => ?_)
  have hx := S.1
  have hb := S.2.1
  have hl : lv_has ls 2 [(0, .ref g), (1, .int a1)] := hl
  refine lv_iload_n hx hb dM_act_0 rfl (lv_at hl 1 rfl) ?_
  refine lv_iconst (v := 2) hx hb dM_act_1 (by decide) ?_
  refine lv_icmp_ge (tgt := 13) hx hb dM_act_2 (by decide) (fun h_2 => ?_) (fun h_2 => ?_)
  · skip
    refine lv_iload_n hx hb dM_act_13 rfl (lv_at hl 1 rfl) ?_
    refine lv_iconst (v := 3) hx hb dM_act_14 (by decide) ?_
    refine lv_icmp_ne (tgt := 34) hx hb dM_act_15 (by decide) (fun h_15 => ?_) (fun h_15 => ?_)
    · skip
      refine lv_aload_n hx hb dM_act_34 rfl (lv_at hl 0 rfl) ?_
      refine mget_order S hw dM_act_35 ?_
      refine s_calli S (cM_isWork l D (τ.1 27)) (qM_isWork S.2.2.2.2 ⟨Nat.le_of_ble_eq_true rfl, Nat.le_of_ble_eq_true rfl⟩) hw rfl hl.1 rfl (Nat.le_of_ble_eq_true rfl) dM_act_38 (fun H locs hw => ?_)
      refine lv_if_eq (tgt := 67) hx hb dM_act_41 (by decide) (fun h_41 => ?_) (fun h_41 => ?_)
      · skip
        refine lv_aload_n hx hb dM_act_67 rfl (lv_at hl 0 rfl) ?_
        refine mget_order S hw dM_act_68 ?_
        refine s_calli S (cM_isControl l D (τ.1 27)) (qM_isControl S.2.2.2.2 ⟨Nat.le_of_ble_eq_true rfl, Nat.le_of_ble_eq_true rfl⟩) hw rfl hl.1 rfl (Nat.le_of_ble_eq_true rfl) dM_act_71 (fun H locs hw => ?_)
        refine lv_if_eq (tgt := 84) hx hb dM_act_74 (by decide) (fun h_74 => ?_) (fun h_74 => ?_)
        · skip
          refine lv_aload_n hx hb dM_act_84 rfl (lv_at hl 0 rfl) ?_
          refine lv_aload_n hx hb dM_act_85 rfl (lv_at hl 0 rfl) ?_
          refine mget_a S hw dM_act_86 ?_
          refine lv_aload_n hx hb dM_act_89 rfl (lv_at hl 0 rfl) ?_
          refine mget_b S hw dM_act_90 ?_
          refine lv_iadd hx hb dM_act_93 ?_
          refine z_callv S (cM_go l D g qb qg qw cA τ ((τ.1 25) + (τ.1 26)) hok) (qM_go S.2.2.2.2 ⟨Nat.le_of_ble_eq_true rfl, Nat.le_of_ble_eq_true rfl⟩) hw rfl rfl rfl hl.1 rfl (Nat.le_of_ble_eq_true rfl) dM_act_94 (fun H locs hw => ?_)
          exact z_vret S hR hlk hw dM_act_97 (by rw [kM_act, if_pos h_2, if_neg h_15, if_pos h_41, if_pos h_74])
        · skip
          refine lv_aload_n hx hb dM_act_77 rfl (lv_at hl 0 rfl) ?_
          refine z_callv S (cM_controls l D g qb qg qw cA τ hok) (qM_controls S.2.2.2.2 ⟨Nat.le_of_ble_eq_true rfl, Nat.le_of_ble_eq_true rfl⟩) hw rfl rfl rfl hl.1 rfl (Nat.le_of_ble_eq_true rfl) dM_act_78 (fun H locs hw => ?_)
          refine lv_goto (tgt := 97) hx hb dM_act_81 (by decide) ?_
          exact z_vret S hR hlk hw dM_act_97 (by rw [kM_act, if_pos h_2, if_neg h_15, if_pos h_41, if_neg h_74])
      · skip
        refine lv_aload_n hx hb dM_act_44 rfl (lv_at hl 0 rfl) ?_
        refine mget_order S hw dM_act_45 ?_
        refine lv_bipush (v := 36) hx hb dM_act_48 (by decide) ?_
        refine lv_icmp_le (tgt := 60) hx hb dM_act_50 (by decide) (fun h_50 => ?_) (fun h_50 => ?_)
        · skip
          refine lv_aload_n hx hb dM_act_60 rfl (lv_at hl 0 rfl) ?_
          refine z_callv S (cM_work l D g qb qg qw cA τ hok) (qM_work S.2.2.2.2 ⟨Nat.le_of_ble_eq_true rfl, Nat.le_of_ble_eq_true rfl⟩) hw rfl rfl rfl hl.1 rfl (Nat.le_of_ble_eq_true rfl) dM_act_61 (fun H locs hw => ?_)
          refine lv_goto (tgt := 97) hx hb dM_act_64 (by decide) ?_
          exact z_vret S hR hlk hw dM_act_97 (by rw [kM_act, if_pos h_2, if_neg h_15, if_neg h_41, if_pos h_50])
        · skip
          refine lv_aload_n hx hb dM_act_53 rfl (lv_at hl 0 rfl) ?_
          refine z_callv S (cM_shift l D g qb qg qw cA τ hok) (qM_shift S.2.2.2.2 ⟨Nat.le_of_ble_eq_true rfl, Nat.le_of_ble_eq_true rfl⟩) hw rfl rfl rfl hl.1 rfl (Nat.le_of_ble_eq_true rfl) dM_act_54 (fun H locs hw => ?_)
          refine lv_goto (tgt := 97) hx hb dM_act_57 (by decide) ?_
          exact z_vret S hR hlk hw dM_act_97 (by rw [kM_act, if_pos h_2, if_neg h_15, if_neg h_41, if_neg h_50])
    · skip
      refine lv_aload_n hx hb dM_act_18 rfl (lv_at hl 0 rfl) ?_
      refine lv_aload_n hx hb dM_act_19 rfl (lv_at hl 0 rfl) ?_
      refine mget_a S hw dM_act_20 ?_
      refine lv_aload_n hx hb dM_act_23 rfl (lv_at hl 0 rfl) ?_
      refine mget_b S hw dM_act_24 ?_
      refine lv_iadd hx hb dM_act_27 ?_
      refine z_callv S (cM_memory l D g qb qg qw cA τ ((τ.1 25) + (τ.1 26)) hok (hact h_15).1 (hact h_15).2) (qM_memory S.2.2.2.2 ⟨Nat.le_of_ble_eq_true rfl, Nat.le_of_ble_eq_true rfl⟩) hw rfl rfl rfl hl.1 rfl (Nat.le_of_ble_eq_true rfl) dM_act_28 (fun H locs hw => ?_)
      refine lv_goto (tgt := 97) hx hb dM_act_31 (by decide) ?_
      exact z_vret S hR hlk hw dM_act_97 (by rw [kM_act, if_pos h_2, if_pos h_15])
  · skip
    refine lv_aload_n hx hb dM_act_5 rfl (lv_at hl 0 rfl) ?_
    refine lv_iload_n hx hb dM_act_6 rfl (lv_at hl 1 rfl) ?_
    refine z_callv S (cM_simple l D g qb qg qw cA τ a1 hok) (qM_simple S.2.2.2.2 ⟨Nat.le_of_ble_eq_true rfl, Nat.le_of_ble_eq_true rfl⟩) hw rfl rfl rfl hl.1 rfl (Nat.le_of_ble_eq_true rfl) dM_act_7 (fun H locs hw => ?_)
    refine lv_goto (tgt := 97) hx hb dM_act_10 (by decide) ?_
    exact z_vret S hR hlk hw dM_act_97 (by rw [kM_act, if_neg h_2])
