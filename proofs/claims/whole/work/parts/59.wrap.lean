/-! the law's wrappers: a call of the class, its answer laid into out[0], an exception caught: 0 or 1 -/
def lwf (h qm qr qo : Nat) (cA cL : ClassId) (u : XS × (Nat → Int64)) : va_W := xw h qm qr cA u.1 ++ [(qo, .inl (cL, 1, .inr (.inl u.2)))]
def lA (h qm qr qo : Nat) (q : Nat) : Prop := xA h qm qr q ∨ q = qo
def kW (K : Option (Int32 × XS)) (u : XS × (Nat → Int64)) : Int32 × (XS × (Nat → Int64)) := match K with
  | some (r, σ) => (0, σ, vp_updL u.2 0 r.toInt64)
  | none => (1, u)
abbrev lP (D : va_G) (h qm qr qo : Nat) (cA cL : ClassId) (u : XS × (Nat → Int64)) (U : State) : Prop := zP D vwCl (lwf h qm qr qo cA cL) (lA h qm qr qo) [(cA, .int), (cL, .long)] u U
abbrev lH (D : va_G) (h qm qr qo : Nat) (cA cL : ClassId) (s : State) (u : XS × (Nat → Int64)) (H : Heap) (locs : List Loc) : Prop := zH D vwCl (lwf h qm qr qo cA cL) (lA h qm qr qo) [(cA, .int), (cL, .long)] s u H locs
abbrev lQc (D : va_G) (h qm qr qo : Nat) (cA cL : ClassId) (K : Int32 × (XS × (Nat → Int64))) : Array Value → State → Outcome → State → Prop := va_Qi (fun r' (_ : Unit) => r' = K.1) (fun _ t => lP D h qm qr qo cA cL K.2 t) (lA h qm qr qo)
def lMW (E : String) (l : Launch) (y : MethodName) (ws : List Cond) (rm : Room) (D : va_G) (h qm qr qo : Nat) (cA cL : ClassId) (av : List Value) (u : XS × (Nat → Int64)) (K : Int32 × (XS × (Nat → Int64))) : Prop :=
  Met l y ws rm (va_Pc av (fun U => lP D h qm qr qo cA cL u U ∧ tz E (lA h qm qr qo) U U.heap)) (lQc D h qm qr qo cA cL K) 1 6 (lA h qm qr qo)
theorem lx_entry {l : Launch} {E : String} {y : MethodName} {ws' ws : List Cond} {cc : ByteArray} {nL : Nat} {hh : List (Nat × Nat × Nat × Nat)} {rm : Room} {own : String} {av : List Value} {D : va_G} {h qm qr qo : Nat} {cA cL : ClassId} {u : XS × (Nat → Int64)} {K : Int32 × (XS × (Nat → Int64))}
    (hy : plainName y.cls = true) (hw : ws = Cond.codeWith y cc nL (some .int) hh :: ws') (hown : y.cls = own) (hav : (lg_sl av).length ≤ nL)
    (body : ∀ (p : Program) (e : Env) (s : State) (m : MethodId) (args : Array Value) (below : List Frame) (meth : Method) (c : Code), CallFix p m c cc nL s args ws' own → meth.sig.returnType = some .int → meth.locks = false → c.exceptionTable.toList.map (fun h => (h.startPc, h.endPc, h.handlerPc, h.catchType)) = hh → tz E (lA h qm qr qo) s s.heap → ∀ (ls : Array Slot) (H : Heap) (locs : List Loc), lv_has ls nL (lv_args 0 av) → lH D h qm qr qo cA cL s u H locs → W p l e rm s m args below meth c H locs 0 0 (MQ below (lQc D h qm qr qo cA cL K) args s 1 6 (lA h qm qr qo)) (F0 m 0 ls [])) :
    lMW E l y ws rm D h qm qr qo cA cL av u K := by
  refine va_MetW (cc := cc) (maxL := nL) (ret := some .int) (hh := hh) hy hw ?_
  intro p e s m args below meth c s₁ B hml hv
  obtain ⟨rfl, ⟨hP, hK, hD⟩, htz⟩ := hv
  have hts := atoms_spec (ws := ws) B.pre
  have hex : c.exceptionTable.toList.map (fun h => (h.startPc, h.endPc, h.handlerPc, h.catchType)) = hh := by
    obtain ⟨m9, meth9, c9, hn9, h1, h2, -, -, h7, -⟩ := Cond.codeWith_spec (hts (Cond.codeWith y cc nL (some .int) hh) (by rw [hw]; exact List.mem_cons_self))
    cases Option.some.inj (hn9.symm.trans B.named)
    cases Option.some.inj (h1.symm.trans B.method)
    cases Option.some.inj (h2.symm.trans (Stand.of_body B).code)
    exact h7
  have hown' : s.vm.findClass own = some m.cls := by rw [← hown]; exact findClass_of_methodNamed B.named
  rw [lg_entry_eq]
  exact body p e s m _ below meth c ⟨B.exec, B.bytes, hml, hown', fun w h => hts w (by rw [hw]; exact List.mem_cons_of_mem _ h)⟩ B.returns B.notSynchronized hex htz _ _ _ (lv_entry av hav) ⟨hP, hD, va_S.rf, hK⟩
section LX
variable {p : Program} {l : Launch} {e : Env} {R : Room} {s : State} {m : MethodId} {args : Array Value} {below : List Frame} {meth : Method} {c : Code} {H : Heap} {locs : List Loc} {Q : State → Prop} {cc bytes : ByteArray} {nL nL' index n pc : Nat} {ls : Array Slot} {D : va_G} {h qm qr qo : Nat} {cA cL : ClassId} {u : XS × (Nat → Int64)}
theorem lx_ret {Ts : List Cond} {own : String} {K : Int32 × (XS × (Nat → Int64))} {v : Int32} (C : CallFix p m c cc nL s args Ts own) (hr : meth.sig.returnType = some .int) (hlk : meth.locks = false) (hw : lH D h qm qr qo cA cL s u H locs) (hdg : decode cc pc = .ok (.ireturn, 1)) (hv : K = (v, u)) : W p l e R s m args below meth c H locs 1 6 (MQ below (lQc D h qm qr qo cA cL K) args s 1 6 (lA h qm qr qo)) (F0 m pc ls [.int v]) := by
  subst hv
  obtain ⟨hP, hD, hS, hK⟩ := hw
  exact W.iret C.1 C.2.1 hr (fun t ht hW => ⟨⟨v, (), rfl, rfl, by rw [ht]; exact hP, va_K.moved hW.alike hK, hD⟩, hS.F ht⟩) hS.2.2 hdg hlk
theorem lx_ast {Ts : List Cond} {own : String} {cells slots : Nat} {x : Int64} {rest : List Value} (C : CallFix p m c cc nL s args Ts own) (hw : lH D h qm qr qo cA cL s u H locs) (hdg : decode cc pc = .ok (.lastore, 1))
    (kk : ∀ (H1 : Heap) (locs1 : List Loc), lH D h qm qr qo cA cL s (u.1, vp_updL u.2 0 x) H1 locs1 → W p l e R s m args below meth c H1 locs1 cells slots Q (F0 m (pc + 1) ls rest)) : W p l e R s m args below meth c H locs cells slots Q (F0 m pc ls (.long x :: .int 0 :: .ref qo :: rest)) :=
  va_last C.1 C.2.1 hw.2.2.2 hw.1 hw.2.1 hw.2.2.1 3 1 rfl rfl (i := 0) (by unfold vp_in; decide) hdg (fun H1 locs1 hP hD hS => kk H1 locs1 ⟨hP, hD, hS, hw.2.2.2⟩)
/-- the three cells of the class out of the four, and back -/
theorem lx_part {s0 : Heap} (hw : lH D h qm qr qo cA cL s u H locs) : va_P D vwCl (xw h qm qr cA u.1) H ∧ va_D (xA h qm qr) (xw h qm qr cA u.1) ∧ va_K D vwCl [(cA, .int)] s := by
  obtain ⟨hP, hD, hS, hK⟩ := hw
  refine ⟨hP.sub [0, 1, 2] rfl, (hD.sub [0, 1, 2] (by decide) rfl).weaken (fun k q hk _ => ?_), hK.sub [0] rfl⟩
  rcases k with _ | _ | _ | k
  · obtain rfl := Option.some.inj hk; exact Or.inl rfl
  · obtain rfl := Option.some.inj hk; exact Or.inr (Or.inl rfl)
  · obtain rfl := Option.some.inj hk; exact Or.inr (Or.inr rfl)
  · cases hk
theorem lx_back {H1 : Heap} {locs1 : List Loc} {σ' : XS} (hw : lH D h qm qr qo cA cL s u H locs) (hP1 : va_P D vwCl (xw h qm qr cA σ') H1) (hk1 : ∀ q : Nat, q < H.size → ¬ xA h qm qr q → H1[q]? = H[q]?) (hS1 : va_S (lA h qm qr qo) s.heap H1 locs1) : lH D h qm qr qo cA cL s (σ', u.2) H1 locs1 := by
  obtain ⟨hP, hD, hS, hK⟩ := hw
  have hqo : ¬ xA h qm qr qo := fun hq => by
    rcases hq with hq | hq | hq
    · exact absurd (hD.1 3 0 _ _ rfl rfl hq) (by decide)
    · exact absurd (hD.1 3 1 _ _ rfl rfl hq) (by decide)
    · exact absurd (hD.1 3 2 _ _ rfl rfl hq) (by decide)
  refine ⟨fun k q hk => ?_, ⟨fun i j a b hi hj hab => ?_, fun k q hk => ?_⟩, hS1, hK⟩
  · rcases k with _ | _ | _ | _ | k
    · exact hP1 0 q hk
    · exact hP1 1 q hk
    · exact hP1 2 q hk
    · obtain rfl := Option.some.inj hk
      exact (hP 3 _ rfl).kept (hk1 qo ((hP 3 _ rfl).lt) hqo)
    · cases hk
  · rcases i with _ | _ | _ | _ | i <;> rcases j with _ | _ | _ | _ | j <;> first | rfl | (cases hi; done) | (cases hj; done) | (obtain rfl := Option.some.inj hi; obtain rfl := Option.some.inj hj; first | exact absurd (hD.1 0 1 _ _ rfl rfl hab) (by decide) | exact absurd (hD.1 0 2 _ _ rfl rfl hab) (by decide) | exact absurd (hD.1 0 3 _ _ rfl rfl hab) (by decide) | exact absurd (hD.1 1 0 _ _ rfl rfl hab) (by decide) | exact absurd (hD.1 1 2 _ _ rfl rfl hab) (by decide) | exact absurd (hD.1 1 3 _ _ rfl rfl hab) (by decide) | exact absurd (hD.1 2 0 _ _ rfl rfl hab) (by decide) | exact absurd (hD.1 2 1 _ _ rfl rfl hab) (by decide) | exact absurd (hD.1 2 3 _ _ rfl rfl hab) (by decide) | exact absurd (hD.1 3 0 _ _ rfl rfl hab) (by decide) | exact absurd (hD.1 3 1 _ _ rfl rfl hab) (by decide) | exact absurd (hD.1 3 2 _ _ rfl rfl hab) (by decide))
  · rcases k with _ | _ | _ | _ | k
    · obtain rfl := Option.some.inj hk; exact Or.inl (Or.inl rfl)
    · obtain rfl := Option.some.inj hk; exact Or.inl (Or.inr (Or.inl rfl))
    · obtain rfl := Option.some.inj hk; exact Or.inl (Or.inr (Or.inr rfl))
    · obtain rfl := Option.some.inj hk; exact Or.inr rfl
    · cases hk
theorem zx_blind {S : Type} {E : String} {cl : List vw_C} {wf : S → va_W} {A : Nat → Prop} {tys : List (ClassId × FieldType)} {av : List Value} {σ : S} : FrameBlind (zPX E D cl wf A tys av σ) := fun a U g mk q => by
  obtain ⟨q0, ⟨qP, qK, qD⟩, qz⟩ := q
  exact ⟨q0, ⟨qP, va_K.moved (u := U) (U := U.calling g mk a) (Vm.Alike.refl U.vm) qK, qD⟩, tz.moved (u := U) (U := U.calling g mk a) (Vm.Alike.refl U.vm) qz⟩
set_option maxHeartbeats 4000000 in
theorem lx_call {E : String} {y : MethodName} {ws : List Cond} {rm : Room} {ret : Option FieldType} {as rest st0 : List Value} {K : Option (Int32 × XS)} {a0 b0 hp ct : Nat} (C : CallFix p m c cc nL s args wAll RL) (hM : xMX E l y ws rm D h qm qr cA (.ref h :: as) u.1 K) (cw : CallW R s args RL RX index y bytes nL' ret ws rm 1 6 n)
    (hw : lH D h qm qr qo cA cL s u H locs) (htz : tz E (lA h qm qr qo) s s.heap) (hn : as.length = n) (hsz : ls.size = nL) (hst : st0 = as.reverse ++ .ref h :: rest) (hW : (rest.map fun v => v.category).sum ≤ 8) (hdg : decode cc pc = .ok (.invokevirtual index, 3)) (hR : 1 ≤ R.cells ∧ 6 ≤ R.slots)
    (hex : c.exceptionTable.toList.map (fun h => (h.startPc, h.endPc, h.handlerPc, h.catchType)) = [(a0, b0, hp, ct)]) (hcov : a0 ≤ pc ∧ pc < b0) (hct : ct ≠ 0) (hlink : Cond.classLink RL ct E ∈ wAll)
    (k1 : ∀ (r : Int32) (σ' : XS) (H1 : Heap) (locs1 : List Loc), K = some (r, σ') → lH D h qm qr qo cA cL s (σ', u.2) H1 locs1 → W p l e R s m args below meth c H1 locs1 1 6 Q (F0 m (pc + 3) ls (.int r :: rest)))
    (k2 : ∀ (q : Nat) (H1 : Heap) (locs1 : List Loc), K = none → lH D h qm qr qo cA cL s u H1 locs1 → W p l e R s m args below meth c H1 locs1 1 6 Q (F0 m hp ls [.ref q])) : W p l e R s m args below meth c H locs 0 0 Q (F0 m pc ls st0) := by
  obtain ⟨hPx, hDx, hKx⟩ := lx_part (s0 := H) hw
  have hzH : tz E (xA h qm qr) s H := (htz.kept hw.2.2.1.2.1).narrow (fun q hq => Or.inl hq)
  have hpre : ∀ U : State, U.heap = H → s.WarmedH U.vm → zPX E D vwCl (xw h qm qr cA) (xA h qm qr) [(cA, .int)] (.ref h :: as) u.1 (Value.ref h :: as).toArray U := fun U hU hW' => ⟨rfl, ⟨by rw [hU]; exact hPx, va_K.moved hW'.alike hKx, hDx⟩, by rw [hU]; exact hzH.moved hW'.alike⟩
  cases K with
  | some ru =>
    obtain ⟨r, σ'⟩ := ru
    have hM' : Met l y ws rm (zPX E D vwCl (xw h qm qr cA) (xA h qm qr) [(cA, .int)] (.ref h :: as) u.1) (va_Qi (fun r' (_ : Unit) => r' = r) (fun _ t => xP D h qm qr cA σ' t) (xA h qm qr)) 1 6 (xA h qm qr) := by
      intro p e ha hc hk s m args below hf happ hP hK
      obtain ⟨n, o, h1, h2, h3, h4⟩ := hM p e ha hc hk s m args below hf happ hP hK
      refine ⟨n, o, h1, h2, h3, ?_⟩
      rcases h4 with ⟨r1, u1, e1, e2, e3, e4, L, e5, e6⟩ | ⟨e1, -⟩
      · cases e1
        exact ⟨⟨⟨r, (), e2, rfl, e3⟩, e4⟩, L, e5, e6⟩
      · cases e1
    refine va_calli (va_runV (As := as) (rest := rest) C hM' cw ⟨zx_blind, va_recv hKx hPx (q0 := 0) (ci := 0) rfl rfl, hpre⟩ rfl hn hsz hst (lv_room hW) hdg ⟨by rw [Nat.zero_add]; exact hR.1, by rw [Nat.zero_add]; exact hR.2⟩) hw.2.2.1 (fun q _ hq => Or.inl hq) (fun q hq => Or.inl hq) (fun r' _ t H1 locs1 ht hvm hr hB hz1 hk1 hS1 => ?_)
    have hr : r' = r := hr
    subst hr
    obtain ⟨hP1, -, -⟩ := hB
    rw [ht] at hP1
    exact k1 r' σ' H1 locs1 rfl (lx_back hw hP1 hk1 hS1)
  | none =>
    intro T hT X
    have hM' : MetFree l y (headSpec ws rm) (zPX E D vwCl (xw h qm qr cA) (xA h qm qr) [(cA, .int)] (.ref h :: as) u.1) (fun _ _ _ _ _ => True) (fun _ st o t => ∃ q : Addr, o = .threw q ∧ thr E st q t) := by
      intro p e ha hc hk s m args below hf happ hP hK
      obtain ⟨n, o, h1, h2, h3, h4⟩ := hM p e ha hc hk s m args below hf happ hP hK
      refine ⟨n, o, h1, h2, h3, ?_⟩
      rcases h4 with ⟨r1, u1, e1, -⟩ | ⟨-, e2⟩
      · cases e1
      · exact e2
    obtain ⟨hx, hb, hml, hown, hts⟩ := C
    obtain ⟨q, T', ce, X', z1, z2, hce, hcv, hcl, st⟩ := tcall X hx hown hM' zx_blind cw (by rw [hT]; exact va_recv hKx hPx (q0 := 0) (ci := 0) rfl rfl) (g := F0 m pc ls st0) rfl (hsz.trans hml.symm) hn hst (lv_room hW) (by rw [hb]; exact hdg) (by rw [Nat.zero_add]; exact hR.1) (by rw [Nat.zero_add]; exact hR.2) (fun vm₁ hW₁ => hpre _ hT hW₁)
    obtain ⟨x, hxl, hx4⟩ : ∃ x : ExceptionTableEntry, c.exceptionTable.toList = [x] ∧ (x.startPc, x.endPc, x.handlerPc, x.catchType) = (a0, b0, hp, ct) := by
      rcases hl : c.exceptionTable.toList with _ | ⟨x, _ | ⟨x2, r⟩⟩
      · rw [hl] at hex; cases hex
      · rw [hl] at hex; exact ⟨x, rfl, by simpa using hex⟩
      · rw [hl] at hex; cases hex
    obtain ⟨e1, e2, e3, e4⟩ : x.startPc = a0 ∧ x.endPc = b0 ∧ x.handlerPc = hp ∧ x.catchType = ct := by simpa using hx4
    obtain ⟨c3, c4, hc3, hc4, hfit⟩ := Cond.castable_spec (va_Nw.use (A := args) rfl htz.1.1)
    cases hc3.symm.trans hcl
    cases hc4.symm.trans hcl
    have h0 : x.catchType ≠ 0 := by rw [e4]; exact hct
    obtain ⟨vm', X2, st2⟩ := t_caught X' (g := { F0 m pc ls st0 with stack := rest }) rfl hown hxl (by show covers x pc = true; simp [covers, e1, e2, hcov.1, hcov.2]) h0 (by rw [e4]; exact hts _ hlink) hcl hce (by rw [hcv]; rfl) hfit st
    rw [hT] at z1 z2
    have hw' : lH D h qm qr qo cA cL s u T'.heap locs := ⟨hw.1.kept (fun k q hq => z2 q.1 ((hw.1 k q hq).lt)), hw.2.1, ⟨Nat.le_trans hw.2.2.1.1 z1, fun q h1 h2 => by rw [z2 q (Nat.lt_of_lt_of_le h1 hw.2.2.1.1)]; exact hw.2.2.1.2.1 q h1 h2, hw.2.2.1.2.2⟩, hw.2.2.2⟩
    obtain ⟨t, a1, b1⟩ := k2 q T'.heap locs rfl hw' (T'.setVm vm') rfl (by simpa using X2)
    refine ⟨t, st2.trans ?_, b1⟩
    rw [e3]
    exact a1
end LX

theorem qL_put {R : Room} {s : State} {args : Array Value} (hts : ∀ w ∈ wAll, w.before args s = true) (hR : 7 + 1 ≤ R.frames ∧ 8 + (4 + 11) + 110 ≤ R.locals) : CallW R s args RL RX 7 yX_put bX_put 4 (some .int) (Cond.code yX_put bX_put 4 (some .int) :: wAll) { frames := 7, cells := 1, slots := 6, locals := 110 } 1 6 2 :=
  cwV 2 hts (z_goodV wAll_good (List.mem_append_left _ (List.mem_append_right _ (List.mem_append_left _ (List.mem_append_right _ (List.mem_append_right _ (List.mem_append_right _ (List.mem_append_right _ (List.mem_of_getElem? (i := 2) rfl)))))))) (List.mem_append_left _ (List.mem_append_right _ (List.mem_append_left _ (List.mem_append_right _ (List.mem_append_right _ (List.mem_append_right _ (List.mem_append_right _ (List.mem_of_getElem? (i := 3) rfl)))))))) (List.mem_append_left _ (List.mem_append_right _ (List.mem_append_left _ (List.mem_append_right _ (List.mem_append_right _ (List.mem_append_right _ (List.mem_append_right _ (List.mem_of_getElem? (i := 4) rfl)))))))) (List.mem_append_left _ (List.mem_append_left _ (List.mem_append_left _ (List.mem_append_left _ (List.mem_append_left _ (List.mem_append_left _ (List.mem_of_getElem? (i := 1) rfl))))))) (List.mem_append_left _ (List.mem_append_right _ (List.mem_append_left _ (List.mem_append_right _ (List.mem_append_right _ (List.mem_append_right _ (List.mem_append_right _ (List.mem_of_getElem? (i := 5) rfl))))))))) rfl rfl rfl (by decide +kernel) hR
set_option maxRecDepth 100000 in
set_option maxHeartbeats 4000000 in
theorem cL_put (l : Launch) (D : va_G) (h qm qr qo : Nat) (cA cL : ClassId) (hst : l.stackTraces = false) (u : XS × (Nat → Int64)) (a1 a2 : Int32) : lMW nsE l yL_put (.codeWith yL_put bL_put 5 (some .int) [(0, 10, 13, 13)] :: wAll) { frames := 8, cells := 1, slots := 6, locals := 133 } D h qm qr qo cA cL [.ref h, .int a1, .int a2, .ref qo] u (kW (kX_put u.1 a1 a2) u) := by
  refine lx_entry (hh := [(0, 10, 13, 13)]) (cc := bL_put) (nL := 5) (by decide) rfl rfl (Nat.le_of_ble_eq_true rfl) (fun p e s m args below meth c S hR hlk hex htz ls H locs hl hw => ?_)
  have hx := S.1
  have hb := S.2.1
  have hl : lv_has ls 5 [(0, .ref h), (1, .int a1), (2, .int a2), (3, .ref qo)] := hl
  refine lv_aload_n hx hb dL_put_0 rfl (lv_at hl 3 rfl) ?_
  refine lv_iconst (v := 0) hx hb dL_put_1 (by decide) ?_
  refine lv_aload_n hx hb dL_put_2 rfl (lv_at hl 0 rfl) ?_
  refine lv_iload_n hx hb dL_put_3 rfl (lv_at hl 1 rfl) ?_
  refine lv_iload_n hx hb dL_put_4 rfl (lv_at hl 2 rfl) ?_
  refine lx_call (hp := 13) (ct := 13) S (cX_put l D h qm qr cA hst u.1 a1 a2) (qL_put S.2.2.2.2 ⟨Nat.le_of_ble_eq_true rfl, Nat.le_of_ble_eq_true rfl⟩) hw htz rfl hl.1 rfl (Nat.le_of_ble_eq_true rfl) dL_put_5 ⟨by decide, by decide⟩ hex (by decide) (by decide) (List.mem_append_left _ (List.mem_append_right _ (List.mem_append_left _ (List.mem_append_right _ (List.mem_append_right _ (List.mem_append_right _ (List.mem_append_right _ (List.mem_of_getElem? (i := 1) rfl)))))))) (fun r σ H locs hK hw => ?_) (fun q H locs hK hw => ?_)
  · refine lv_i2l (v := r.toInt64) hx hb dL_put_8 rfl ?_
    refine lx_ast S hw dL_put_9 (fun H locs hw => ?_)
    refine lv_goto (tgt := 17) hx hb dL_put_10 (by decide) ?_
    refine lv_iconst (v := 0) hx hb dL_put_17 (by decide) ?_
    exact lx_ret S hR hlk hw dL_put_18 (by rw [hK]; rfl)
  · refine lv_astore (lv' := [(4, .ref q), (0, .ref h), (1, .int a1), (2, .int a2), (3, .ref qo)]) hx hb dL_put_13 hl (by decide) rfl (fun ls hl => ?_)
    refine lv_iconst (v := 1) hx hb dL_put_15 (by decide) ?_
    exact lx_ret S hR hlk hw dL_put_16 (by rw [hK]; rfl)
theorem qL_word {R : Room} {s : State} {args : Array Value} (hts : ∀ w ∈ wAll, w.before args s = true) (hR : 7 + 1 ≤ R.frames ∧ 8 + (2 + 11) + 110 ≤ R.locals) : CallW R s args RL RX 15 yX_word bX_word 2 (some .int) (Cond.code yX_word bX_word 2 (some .int) :: wAll) { frames := 7, cells := 1, slots := 6, locals := 110 } 1 6 1 :=
  cwV 1 hts (z_goodV wAll_good (List.mem_append_left _ (List.mem_append_right _ (List.mem_append_right _ (List.mem_append_right _ (List.mem_append_left _ (List.mem_append_left _ (List.mem_of_getElem? (i := 6) rfl))))))) (List.mem_append_left _ (List.mem_append_right _ (List.mem_append_right _ (List.mem_append_right _ (List.mem_append_left _ (List.mem_append_left _ (List.mem_of_getElem? (i := 7) rfl))))))) (List.mem_append_left _ (List.mem_append_right _ (List.mem_append_right _ (List.mem_append_right _ (List.mem_append_left _ (List.mem_append_right _ (List.mem_of_getElem? (i := 0) rfl))))))) (List.mem_append_left _ (List.mem_append_left _ (List.mem_append_left _ (List.mem_append_left _ (List.mem_append_left _ (List.mem_append_left _ (List.mem_of_getElem? (i := 1) rfl))))))) (List.mem_append_left _ (List.mem_append_right _ (List.mem_append_right _ (List.mem_append_right _ (List.mem_append_left _ (List.mem_append_right _ (List.mem_of_getElem? (i := 1) rfl)))))))) rfl rfl rfl (by decide +kernel) hR
set_option maxRecDepth 100000 in
set_option maxHeartbeats 4000000 in
theorem cL_word (l : Launch) (D : va_G) (h qm qr qo : Nat) (cA cL : ClassId) (hst : l.stackTraces = false) (u : XS × (Nat → Int64)) (a1 : Int32) : lMW nsE l yL_word (.codeWith yL_word bL_word 4 (some .int) [(0, 9, 12, 13)] :: wAll) { frames := 8, cells := 1, slots := 6, locals := 131 } D h qm qr qo cA cL [.ref h, .int a1, .ref qo] u (kW (kX_word u.1 a1) u) := by
  refine lx_entry (hh := [(0, 9, 12, 13)]) (cc := bL_word) (nL := 4) (by decide) rfl rfl (Nat.le_of_ble_eq_true rfl) (fun p e s m args below meth c S hR hlk hex htz ls H locs hl hw => ?_)
  have hx := S.1
  have hb := S.2.1
  have hl : lv_has ls 4 [(0, .ref h), (1, .int a1), (2, .ref qo)] := hl
  refine lv_aload_n hx hb dL_word_0 rfl (lv_at hl 2 rfl) ?_
  refine lv_iconst (v := 0) hx hb dL_word_1 (by decide) ?_
  refine lv_aload_n hx hb dL_word_2 rfl (lv_at hl 0 rfl) ?_
  refine lv_iload_n hx hb dL_word_3 rfl (lv_at hl 1 rfl) ?_
  refine lx_call (hp := 12) (ct := 13) S (cX_word l D h qm qr cA hst u.1 a1) (qL_word S.2.2.2.2 ⟨Nat.le_of_ble_eq_true rfl, Nat.le_of_ble_eq_true rfl⟩) hw htz rfl hl.1 rfl (Nat.le_of_ble_eq_true rfl) dL_word_4 ⟨by decide, by decide⟩ hex (by decide) (by decide) (List.mem_append_left _ (List.mem_append_right _ (List.mem_append_left _ (List.mem_append_right _ (List.mem_append_right _ (List.mem_append_right _ (List.mem_append_right _ (List.mem_of_getElem? (i := 1) rfl)))))))) (fun r σ H locs hK hw => ?_) (fun q H locs hK hw => ?_)
  · refine lv_i2l (v := r.toInt64) hx hb dL_word_7 rfl ?_
    refine lx_ast S hw dL_word_8 (fun H locs hw => ?_)
    refine lv_goto (tgt := 15) hx hb dL_word_9 (by decide) ?_
    refine lv_iconst (v := 0) hx hb dL_word_15 (by decide) ?_
    exact lx_ret S hR hlk hw dL_word_16 (by rw [hK]; rfl)
  · refine lv_astore_n (lv' := [(3, .ref q), (0, .ref h), (1, .int a1), (2, .ref qo)]) hx hb dL_word_12 rfl hl (by decide) rfl (fun ls hl => ?_)
    refine lv_iconst (v := 1) hx hb dL_word_13 (by decide) ?_
    exact lx_ret S hR hlk hw dL_word_14 (by rw [hK]; rfl)
theorem qL_set {R : Room} {s : State} {args : Array Value} (hts : ∀ w ∈ wAll, w.before args s = true) (hR : 7 + 1 ≤ R.frames ∧ 8 + (5 + 11) + 110 ≤ R.locals) : CallW R s args RL RX 19 yX_set bX_set 5 (some .int) (Cond.code yX_set bX_set 5 (some .int) :: wAll) { frames := 7, cells := 1, slots := 6, locals := 110 } 1 6 3 :=
  cwV 3 hts (z_goodV wAll_good (List.mem_append_left _ (List.mem_append_right _ (List.mem_append_right _ (List.mem_append_right _ (List.mem_append_left _ (List.mem_append_right _ (List.mem_of_getElem? (i := 5) rfl))))))) (List.mem_append_left _ (List.mem_append_right _ (List.mem_append_right _ (List.mem_append_right _ (List.mem_append_left _ (List.mem_append_right _ (List.mem_of_getElem? (i := 6) rfl))))))) (List.mem_append_left _ (List.mem_append_right _ (List.mem_append_right _ (List.mem_append_right _ (List.mem_append_left _ (List.mem_append_right _ (List.mem_of_getElem? (i := 7) rfl))))))) (List.mem_append_left _ (List.mem_append_left _ (List.mem_append_left _ (List.mem_append_left _ (List.mem_append_left _ (List.mem_append_left _ (List.mem_of_getElem? (i := 1) rfl))))))) (List.mem_append_left _ (List.mem_append_right _ (List.mem_append_right _ (List.mem_append_right _ (List.mem_append_right _ (List.mem_append_left _ (List.mem_of_getElem? (i := 0) rfl)))))))) rfl rfl rfl (by decide +kernel) hR
set_option maxRecDepth 100000 in
set_option maxHeartbeats 4000000 in
theorem cL_set (l : Launch) (D : va_G) (h qm qr qo : Nat) (cA cL : ClassId) (hst : l.stackTraces = false) (u : XS × (Nat → Int64)) (a1 a2 a3 : Int32) : lMW nsE l yL_set (.codeWith yL_set bL_set 6 (some .int) [(0, 12, 15, 13)] :: wAll) { frames := 8, cells := 1, slots := 6, locals := 134 } D h qm qr qo cA cL [.ref h, .int a1, .int a2, .int a3, .ref qo] u (kW (kX_set u.1 a1 a2 a3) u) := by
  refine lx_entry (hh := [(0, 12, 15, 13)]) (cc := bL_set) (nL := 6) (by decide) rfl rfl (Nat.le_of_ble_eq_true rfl) (fun p e s m args below meth c S hR hlk hex htz ls H locs hl hw => ?_)
  have hx := S.1
  have hb := S.2.1
  have hl : lv_has ls 6 [(0, .ref h), (1, .int a1), (2, .int a2), (3, .int a3), (4, .ref qo)] := hl
  refine lv_aload hx hb dL_set_0 (lv_at hl 4 rfl) ?_
  refine lv_iconst (v := 0) hx hb dL_set_2 (by decide) ?_
  refine lv_aload_n hx hb dL_set_3 rfl (lv_at hl 0 rfl) ?_
  refine lv_iload_n hx hb dL_set_4 rfl (lv_at hl 1 rfl) ?_
  refine lv_iload_n hx hb dL_set_5 rfl (lv_at hl 2 rfl) ?_
  refine lv_iload_n hx hb dL_set_6 rfl (lv_at hl 3 rfl) ?_
  refine lx_call (hp := 15) (ct := 13) S (cX_set l D h qm qr cA hst u.1 a1 a2 a3) (qL_set S.2.2.2.2 ⟨Nat.le_of_ble_eq_true rfl, Nat.le_of_ble_eq_true rfl⟩) hw htz rfl hl.1 rfl (Nat.le_of_ble_eq_true rfl) dL_set_7 ⟨by decide, by decide⟩ hex (by decide) (by decide) (List.mem_append_left _ (List.mem_append_right _ (List.mem_append_left _ (List.mem_append_right _ (List.mem_append_right _ (List.mem_append_right _ (List.mem_append_right _ (List.mem_of_getElem? (i := 1) rfl)))))))) (fun r σ H locs hK hw => ?_) (fun q H locs hK hw => ?_)
  · refine lv_i2l (v := r.toInt64) hx hb dL_set_10 rfl ?_
    refine lx_ast S hw dL_set_11 (fun H locs hw => ?_)
    refine lv_goto (tgt := 19) hx hb dL_set_12 (by decide) ?_
    refine lv_iconst (v := 0) hx hb dL_set_19 (by decide) ?_
    exact lx_ret S hR hlk hw dL_set_20 (by rw [hK]; rfl)
  · refine lv_astore (lv' := [(5, .ref q), (0, .ref h), (1, .int a1), (2, .int a2), (3, .int a3), (4, .ref qo)]) hx hb dL_set_15 hl (by decide) rfl (fun ls hl => ?_)
    refine lv_iconst (v := 1) hx hb dL_set_17 (by decide) ?_
    exact lx_ret S hR hlk hw dL_set_18 (by rw [hK]; rfl)
theorem qL_register {R : Room} {s : State} {args : Array Value} (hts : ∀ w ∈ wAll, w.before args s = true) (hR : 7 + 1 ≤ R.frames ∧ 8 + (3 + 11) + 110 ≤ R.locals) : CallW R s args RL RX 23 yX_register bX_register 3 (some .int) (Cond.code yX_register bX_register 3 (some .int) :: wAll) { frames := 7, cells := 1, slots := 6, locals := 110 } 1 6 2 :=
  cwV 2 hts (z_goodV wAll_good (List.mem_append_left _ (List.mem_append_right _ (List.mem_append_right _ (List.mem_append_right _ (List.mem_append_right _ (List.mem_append_left _ (List.mem_of_getElem? (i := 7) rfl))))))) (List.mem_append_left _ (List.mem_append_right _ (List.mem_append_right _ (List.mem_append_right _ (List.mem_append_right _ (List.mem_append_right _ (List.mem_append_left _ (List.mem_of_getElem? (i := 0) rfl)))))))) (List.mem_append_left _ (List.mem_append_right _ (List.mem_append_right _ (List.mem_append_right _ (List.mem_append_right _ (List.mem_append_right _ (List.mem_append_left _ (List.mem_of_getElem? (i := 1) rfl)))))))) (List.mem_append_left _ (List.mem_append_left _ (List.mem_append_left _ (List.mem_append_left _ (List.mem_append_left _ (List.mem_append_left _ (List.mem_of_getElem? (i := 1) rfl))))))) (List.mem_append_left _ (List.mem_append_right _ (List.mem_append_right _ (List.mem_append_right _ (List.mem_append_right _ (List.mem_append_right _ (List.mem_append_left _ (List.mem_of_getElem? (i := 2) rfl))))))))) rfl rfl rfl (by decide +kernel) hR
set_option maxRecDepth 100000 in
set_option maxHeartbeats 4000000 in
theorem cL_register (l : Launch) (D : va_G) (h qm qr qo : Nat) (cA cL : ClassId) (hst : l.stackTraces = false) (u : XS × (Nat → Int64)) (a1 a2 : Int32) : lMW nsE l yL_register (.codeWith yL_register bL_register 5 (some .int) [(0, 10, 13, 13)] :: wAll) { frames := 8, cells := 1, slots := 6, locals := 132 } D h qm qr qo cA cL [.ref h, .int a1, .int a2, .ref qo] u (kW (kX_register u.1 a1 a2) u) := by
  refine lx_entry (hh := [(0, 10, 13, 13)]) (cc := bL_register) (nL := 5) (by decide) rfl rfl (Nat.le_of_ble_eq_true rfl) (fun p e s m args below meth c S hR hlk hex htz ls H locs hl hw => ?_)
  have hx := S.1
  have hb := S.2.1
  have hl : lv_has ls 5 [(0, .ref h), (1, .int a1), (2, .int a2), (3, .ref qo)] := hl
  refine lv_aload_n hx hb dL_register_0 rfl (lv_at hl 3 rfl) ?_
  refine lv_iconst (v := 0) hx hb dL_register_1 (by decide) ?_
  refine lv_aload_n hx hb dL_register_2 rfl (lv_at hl 0 rfl) ?_
  refine lv_iload_n hx hb dL_register_3 rfl (lv_at hl 1 rfl) ?_
  refine lv_iload_n hx hb dL_register_4 rfl (lv_at hl 2 rfl) ?_
  refine lx_call (hp := 13) (ct := 13) S (cX_register l D h qm qr cA hst u.1 a1 a2) (qL_register S.2.2.2.2 ⟨Nat.le_of_ble_eq_true rfl, Nat.le_of_ble_eq_true rfl⟩) hw htz rfl hl.1 rfl (Nat.le_of_ble_eq_true rfl) dL_register_5 ⟨by decide, by decide⟩ hex (by decide) (by decide) (List.mem_append_left _ (List.mem_append_right _ (List.mem_append_left _ (List.mem_append_right _ (List.mem_append_right _ (List.mem_append_right _ (List.mem_append_right _ (List.mem_of_getElem? (i := 1) rfl)))))))) (fun r σ H locs hK hw => ?_) (fun q H locs hK hw => ?_)
  · refine lv_i2l (v := r.toInt64) hx hb dL_register_8 rfl ?_
    refine lx_ast S hw dL_register_9 (fun H locs hw => ?_)
    refine lv_goto (tgt := 17) hx hb dL_register_10 (by decide) ?_
    refine lv_iconst (v := 0) hx hb dL_register_17 (by decide) ?_
    exact lx_ret S hR hlk hw dL_register_18 (by rw [hK]; rfl)
  · refine lv_astore (lv' := [(4, .ref q), (0, .ref h), (1, .int a1), (2, .int a2), (3, .ref qo)]) hx hb dL_register_13 hl (by decide) rfl (fun ls hl => ?_)
    refine lv_iconst (v := 1) hx hb dL_register_15 (by decide) ?_
    exact lx_ret S hR hlk hw dL_register_16 (by rw [hK]; rfl)
theorem qL_control {R : Room} {s : State} {args : Array Value} (hts : ∀ w ∈ wAll, w.before args s = true) (hR : 7 + 1 ≤ R.frames ∧ 8 + (4 + 11) + 110 ≤ R.locals) : CallW R s args RL RX 26 yX_control bX_control 4 (some .int) (Cond.code yX_control bX_control 4 (some .int) :: wAll) { frames := 7, cells := 1, slots := 6, locals := 110 } 1 6 2 :=
  cwV 2 hts (z_goodV wAll_good (List.mem_append_left _ (List.mem_append_right _ (List.mem_append_right _ (List.mem_append_right _ (List.mem_append_right _ (List.mem_append_right _ (List.mem_append_left _ (List.mem_of_getElem? (i := 6) rfl)))))))) (List.mem_append_left _ (List.mem_append_right _ (List.mem_append_right _ (List.mem_append_right _ (List.mem_append_right _ (List.mem_append_right _ (List.mem_append_left _ (List.mem_of_getElem? (i := 7) rfl)))))))) (List.mem_append_left _ (List.mem_append_right _ (List.mem_append_right _ (List.mem_append_right _ (List.mem_append_right _ (List.mem_append_right _ (List.mem_append_right _ (List.mem_of_getElem? (i := 0) rfl)))))))) (List.mem_append_left _ (List.mem_append_left _ (List.mem_append_left _ (List.mem_append_left _ (List.mem_append_left _ (List.mem_append_left _ (List.mem_of_getElem? (i := 1) rfl))))))) (List.mem_append_left _ (List.mem_append_right _ (List.mem_append_right _ (List.mem_append_right _ (List.mem_append_right _ (List.mem_append_right _ (List.mem_append_right _ (List.mem_of_getElem? (i := 1) rfl))))))))) rfl rfl rfl (by decide +kernel) hR
set_option maxRecDepth 100000 in
set_option maxHeartbeats 4000000 in
theorem cL_control (l : Launch) (D : va_G) (h qm qr qo : Nat) (cA cL : ClassId) (hst : l.stackTraces = false) (u : XS × (Nat → Int64)) (a1 a2 : Int32) : lMW nsE l yL_control (.codeWith yL_control bL_control 5 (some .int) [(0, 10, 13, 13)] :: wAll) { frames := 8, cells := 1, slots := 6, locals := 133 } D h qm qr qo cA cL [.ref h, .int a1, .int a2, .ref qo] u (kW (kX_control u.1 a1 a2) u) := by
  refine lx_entry (hh := [(0, 10, 13, 13)]) (cc := bL_control) (nL := 5) (by decide) rfl rfl (Nat.le_of_ble_eq_true rfl) (fun p e s m args below meth c S hR hlk hex htz ls H locs hl hw => ?_)
  have hx := S.1
  have hb := S.2.1
  have hl : lv_has ls 5 [(0, .ref h), (1, .int a1), (2, .int a2), (3, .ref qo)] := hl
  refine lv_aload_n hx hb dL_control_0 rfl (lv_at hl 3 rfl) ?_
  refine lv_iconst (v := 0) hx hb dL_control_1 (by decide) ?_
  refine lv_aload_n hx hb dL_control_2 rfl (lv_at hl 0 rfl) ?_
  refine lv_iload_n hx hb dL_control_3 rfl (lv_at hl 1 rfl) ?_
  refine lv_iload_n hx hb dL_control_4 rfl (lv_at hl 2 rfl) ?_
  refine lx_call (hp := 13) (ct := 13) S (cX_control l D h qm qr cA hst u.1 a1 a2) (qL_control S.2.2.2.2 ⟨Nat.le_of_ble_eq_true rfl, Nat.le_of_ble_eq_true rfl⟩) hw htz rfl hl.1 rfl (Nat.le_of_ble_eq_true rfl) dL_control_5 ⟨by decide, by decide⟩ hex (by decide) (by decide) (List.mem_append_left _ (List.mem_append_right _ (List.mem_append_left _ (List.mem_append_right _ (List.mem_append_right _ (List.mem_append_right _ (List.mem_append_right _ (List.mem_of_getElem? (i := 1) rfl)))))))) (fun r σ H locs hK hw => ?_) (fun q H locs hK hw => ?_)
  · refine lv_i2l (v := r.toInt64) hx hb dL_control_8 rfl ?_
    refine lx_ast S hw dL_control_9 (fun H locs hw => ?_)
    refine lv_goto (tgt := 17) hx hb dL_control_10 (by decide) ?_
    refine lv_iconst (v := 0) hx hb dL_control_17 (by decide) ?_
    exact lx_ret S hR hlk hw dL_control_18 (by rw [hK]; rfl)
  · refine lv_astore (lv' := [(4, .ref q), (0, .ref h), (1, .int a1), (2, .int a2), (3, .ref qo)]) hx hb dL_control_13 hl (by decide) rfl (fun ls hl => ?_)
    refine lv_iconst (v := 1) hx hb dL_control_15 (by decide) ?_
    exact lx_ret S hR hlk hw dL_control_16 (by rw [hK]; rfl)
theorem qL_request {R : Room} {s : State} {args : Array Value} (hts : ∀ w ∈ wAll, w.before args s = true) (hR : 7 + 1 ≤ R.frames ∧ 8 + (3 + 11) + 110 ≤ R.locals) : CallW R s args RL RX 29 yX_request bX_request 3 (some .int) (Cond.code yX_request bX_request 3 (some .int) :: wAll) { frames := 7, cells := 1, slots := 6, locals := 110 } 1 6 1 :=
  cwV 1 hts (z_goodV wAll_good (List.mem_append_right _ (List.mem_append_left _ (List.mem_append_left _ (List.mem_append_left _ (List.mem_append_left _ (List.mem_append_left _ (List.mem_of_getElem? (i := 1) rfl))))))) (List.mem_append_right _ (List.mem_append_left _ (List.mem_append_left _ (List.mem_append_left _ (List.mem_append_left _ (List.mem_append_left _ (List.mem_of_getElem? (i := 2) rfl))))))) (List.mem_append_right _ (List.mem_append_left _ (List.mem_append_left _ (List.mem_append_left _ (List.mem_append_left _ (List.mem_append_left _ (List.mem_of_getElem? (i := 3) rfl))))))) (List.mem_append_left _ (List.mem_append_left _ (List.mem_append_left _ (List.mem_append_left _ (List.mem_append_left _ (List.mem_append_left _ (List.mem_of_getElem? (i := 1) rfl))))))) (List.mem_append_right _ (List.mem_append_left _ (List.mem_append_left _ (List.mem_append_left _ (List.mem_append_left _ (List.mem_append_left _ (List.mem_of_getElem? (i := 4) rfl)))))))) rfl rfl rfl (by decide +kernel) hR
set_option maxRecDepth 100000 in
set_option maxHeartbeats 4000000 in
theorem cL_request (l : Launch) (D : va_G) (h qm qr qo : Nat) (cA cL : ClassId) (hst : l.stackTraces = false) (u : XS × (Nat → Int64)) (a1 : Int32) : lMW iaE l yL_request (.codeWith yL_request bL_request 4 (some .int) [(0, 9, 12, 32)] :: wAll) { frames := 8, cells := 1, slots := 6, locals := 132 } D h qm qr qo cA cL [.ref h, .int a1, .ref qo] u (kW (kX_request u.1 a1) u) := by
  refine lx_entry (hh := [(0, 9, 12, 32)]) (cc := bL_request) (nL := 4) (by decide) rfl rfl (Nat.le_of_ble_eq_true rfl) (fun p e s m args below meth c S hR hlk hex htz ls H locs hl hw => ?_)
  have hx := S.1
  have hb := S.2.1
  have hl : lv_has ls 4 [(0, .ref h), (1, .int a1), (2, .ref qo)] := hl
  refine lv_aload_n hx hb dL_request_0 rfl (lv_at hl 2 rfl) ?_
  refine lv_iconst (v := 0) hx hb dL_request_1 (by decide) ?_
  refine lv_aload_n hx hb dL_request_2 rfl (lv_at hl 0 rfl) ?_
  refine lv_iload_n hx hb dL_request_3 rfl (lv_at hl 1 rfl) ?_
  refine lx_call (hp := 12) (ct := 32) S (cX_request l D h qm qr cA hst u.1 a1) (qL_request S.2.2.2.2 ⟨Nat.le_of_ble_eq_true rfl, Nat.le_of_ble_eq_true rfl⟩) hw htz rfl hl.1 rfl (Nat.le_of_ble_eq_true rfl) dL_request_4 ⟨by decide, by decide⟩ hex (by decide) (by decide) (List.mem_append_right _ (List.mem_append_left _ (List.mem_append_left _ (List.mem_append_left _ (List.mem_append_left _ (List.mem_append_left _ (List.mem_of_getElem? (i := 0) rfl))))))) (fun r σ H locs hK hw => ?_) (fun q H locs hK hw => ?_)
  · refine lv_i2l (v := r.toInt64) hx hb dL_request_7 rfl ?_
    refine lx_ast S hw dL_request_8 (fun H locs hw => ?_)
    refine lv_goto (tgt := 15) hx hb dL_request_9 (by decide) ?_
    refine lv_iconst (v := 0) hx hb dL_request_15 (by decide) ?_
    exact lx_ret S hR hlk hw dL_request_16 (by rw [hK]; rfl)
  · refine lv_astore_n (lv' := [(3, .ref q), (0, .ref h), (1, .int a1), (2, .ref qo)]) hx hb dL_request_12 rfl hl (by decide) rfl (fun ls hl => ?_)
    refine lv_iconst (v := 1) hx hb dL_request_13 (by decide) ?_
    exact lx_ret S hR hlk hw dL_request_14 (by rw [hK]; rfl)
theorem qL_run {R : Room} {s : State} {args : Array Value} (hts : ∀ w ∈ wAll, w.before args s = true) (hR : 7 + 1 ≤ R.frames ∧ 8 + (4 + 11) + 157 ≤ R.locals) : CallW R s args RL RX 34 yX_run bX_run 4 (some .int) (Cond.code yX_run bX_run 4 (some .int) :: wAll) { frames := 7, cells := 1, slots := 6, locals := 157 } 1 6 1 :=
  cwV 1 hts (z_goodV wAll_good (List.mem_append_right _ (List.mem_append_left _ (List.mem_append_left _ (List.mem_append_left _ (List.mem_append_right _ (List.mem_append_left _ (List.mem_of_getElem? (i := 6) rfl))))))) (List.mem_append_right _ (List.mem_append_left _ (List.mem_append_left _ (List.mem_append_left _ (List.mem_append_right _ (List.mem_append_left _ (List.mem_of_getElem? (i := 7) rfl))))))) (List.mem_append_right _ (List.mem_append_left _ (List.mem_append_left _ (List.mem_append_left _ (List.mem_append_right _ (List.mem_append_right _ (List.mem_of_getElem? (i := 0) rfl))))))) (List.mem_append_left _ (List.mem_append_left _ (List.mem_append_left _ (List.mem_append_left _ (List.mem_append_left _ (List.mem_append_left _ (List.mem_of_getElem? (i := 1) rfl))))))) (List.mem_append_right _ (List.mem_append_left _ (List.mem_append_left _ (List.mem_append_left _ (List.mem_append_right _ (List.mem_append_right _ (List.mem_of_getElem? (i := 1) rfl)))))))) rfl rfl rfl (by decide +kernel) hR
set_option maxRecDepth 100000 in
set_option maxHeartbeats 4000000 in
theorem cL_run (l : Launch) (D : va_G) (h qm qr qo : Nat) (cA cL : ClassId) (hst : l.stackTraces = false) (u : XS × (Nat → Int64)) (a1 : Int32) : lMW iaE l yL_run (.codeWith yL_run bL_run 4 (some .int) [(0, 9, 12, 32)] :: wAll) { frames := 8, cells := 1, slots := 6, locals := 180 } D h qm qr qo cA cL [.ref h, .int a1, .ref qo] u (kW (kX_run u.1 a1) u) := by
  refine lx_entry (hh := [(0, 9, 12, 32)]) (cc := bL_run) (nL := 4) (by decide) rfl rfl (Nat.le_of_ble_eq_true rfl) (fun p e s m args below meth c S hR hlk hex htz ls H locs hl hw => ?_)
  have hx := S.1
  have hb := S.2.1
  have hl : lv_has ls 4 [(0, .ref h), (1, .int a1), (2, .ref qo)] := hl
  refine lv_aload_n hx hb dL_run_0 rfl (lv_at hl 2 rfl) ?_
  refine lv_iconst (v := 0) hx hb dL_run_1 (by decide) ?_
  refine lv_aload_n hx hb dL_run_2 rfl (lv_at hl 0 rfl) ?_
  refine lv_iload_n hx hb dL_run_3 rfl (lv_at hl 1 rfl) ?_
  refine lx_call (hp := 12) (ct := 32) S (cX_run l D h qm qr cA hst u.1 a1) (qL_run S.2.2.2.2 ⟨Nat.le_of_ble_eq_true rfl, Nat.le_of_ble_eq_true rfl⟩) hw htz rfl hl.1 rfl (Nat.le_of_ble_eq_true rfl) dL_run_4 ⟨by decide, by decide⟩ hex (by decide) (by decide) (List.mem_append_right _ (List.mem_append_left _ (List.mem_append_left _ (List.mem_append_left _ (List.mem_append_left _ (List.mem_append_left _ (List.mem_of_getElem? (i := 0) rfl))))))) (fun r σ H locs hK hw => ?_) (fun q H locs hK hw => ?_)
  · refine lv_i2l (v := r.toInt64) hx hb dL_run_7 rfl ?_
    refine lx_ast S hw dL_run_8 (fun H locs hw => ?_)
    refine lv_goto (tgt := 15) hx hb dL_run_9 (by decide) ?_
    refine lv_iconst (v := 0) hx hb dL_run_15 (by decide) ?_
    exact lx_ret S hR hlk hw dL_run_16 (by rw [hK]; rfl)
  · refine lv_astore_n (lv' := [(3, .ref q), (0, .ref h), (1, .int a1), (2, .ref qo)]) hx hb dL_run_12 rfl hl (by decide) rfl (fun ls hl => ?_)
    refine lv_iconst (v := 1) hx hb dL_run_13 (by decide) ?_
    exact lx_ret S hR hlk hw dL_run_14 (by rw [hK]; rfl)
theorem qL_look {R : Room} {s : State} {args : Array Value} (hts : ∀ w ∈ wAll, w.before args s = true) (hR : 7 + 1 ≤ R.frames ∧ 8 + (2 + 11) + 110 ≤ R.locals) : CallW R s args RL RX 37 yX_look bX_look 2 (some .int) (Cond.code yX_look bX_look 2 (some .int) :: wAll) { frames := 7, cells := 1, slots := 6, locals := 110 } 1 6 1 :=
  cwV 1 hts (z_goodV wAll_good (List.mem_append_right _ (List.mem_append_left _ (List.mem_append_left _ (List.mem_append_left _ (List.mem_append_right _ (List.mem_append_right _ (List.mem_of_getElem? (i := 5) rfl))))))) (List.mem_append_right _ (List.mem_append_left _ (List.mem_append_left _ (List.mem_append_left _ (List.mem_append_right _ (List.mem_append_right _ (List.mem_of_getElem? (i := 6) rfl))))))) (List.mem_append_right _ (List.mem_append_left _ (List.mem_append_left _ (List.mem_append_left _ (List.mem_append_right _ (List.mem_append_right _ (List.mem_of_getElem? (i := 7) rfl))))))) (List.mem_append_left _ (List.mem_append_left _ (List.mem_append_left _ (List.mem_append_left _ (List.mem_append_left _ (List.mem_append_left _ (List.mem_of_getElem? (i := 1) rfl))))))) (List.mem_append_right _ (List.mem_append_left _ (List.mem_append_left _ (List.mem_append_right _ (List.mem_append_left _ (List.mem_append_left _ (List.mem_of_getElem? (i := 0) rfl)))))))) rfl rfl rfl (by decide +kernel) hR
set_option maxRecDepth 100000 in
set_option maxHeartbeats 4000000 in
theorem cL_look (l : Launch) (D : va_G) (h qm qr qo : Nat) (cA cL : ClassId) (hst : l.stackTraces = false) (u : XS × (Nat → Int64)) (a1 : Int32) : lMW nsE l yL_look (.codeWith yL_look bL_look 4 (some .int) [(0, 9, 12, 13)] :: wAll) { frames := 8, cells := 1, slots := 6, locals := 131 } D h qm qr qo cA cL [.ref h, .int a1, .ref qo] u (kW (kX_look u.1 a1) u) := by
  refine lx_entry (hh := [(0, 9, 12, 13)]) (cc := bL_look) (nL := 4) (by decide) rfl rfl (Nat.le_of_ble_eq_true rfl) (fun p e s m args below meth c S hR hlk hex htz ls H locs hl hw => ?_)
  have hx := S.1
  have hb := S.2.1
  have hl : lv_has ls 4 [(0, .ref h), (1, .int a1), (2, .ref qo)] := hl
  refine lv_aload_n hx hb dL_look_0 rfl (lv_at hl 2 rfl) ?_
  refine lv_iconst (v := 0) hx hb dL_look_1 (by decide) ?_
  refine lv_aload_n hx hb dL_look_2 rfl (lv_at hl 0 rfl) ?_
  refine lv_iload_n hx hb dL_look_3 rfl (lv_at hl 1 rfl) ?_
  refine lx_call (hp := 12) (ct := 13) S (cX_look l D h qm qr cA hst u.1 a1) (qL_look S.2.2.2.2 ⟨Nat.le_of_ble_eq_true rfl, Nat.le_of_ble_eq_true rfl⟩) hw htz rfl hl.1 rfl (Nat.le_of_ble_eq_true rfl) dL_look_4 ⟨by decide, by decide⟩ hex (by decide) (by decide) (List.mem_append_left _ (List.mem_append_right _ (List.mem_append_left _ (List.mem_append_right _ (List.mem_append_right _ (List.mem_append_right _ (List.mem_append_right _ (List.mem_of_getElem? (i := 1) rfl)))))))) (fun r σ H locs hK hw => ?_) (fun q H locs hK hw => ?_)
  · refine lv_i2l (v := r.toInt64) hx hb dL_look_7 rfl ?_
    refine lx_ast S hw dL_look_8 (fun H locs hw => ?_)
    refine lv_goto (tgt := 15) hx hb dL_look_9 (by decide) ?_
    refine lv_iconst (v := 0) hx hb dL_look_15 (by decide) ?_
    exact lx_ret S hR hlk hw dL_look_16 (by rw [hK]; rfl)
  · refine lv_astore_n (lv' := [(3, .ref q), (0, .ref h), (1, .int a1), (2, .ref qo)]) hx hb dL_look_12 rfl hl (by decide) rfl (fun ls hl => ?_)
    refine lv_iconst (v := 1) hx hb dL_look_13 (by decide) ?_
    exact lx_ret S hR hlk hw dL_look_14 (by rw [hK]; rfl)
