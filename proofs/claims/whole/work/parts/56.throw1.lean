/-! methods that may throw: contract, entry, ends; my own text over the library's ctorThrow0, newCold, of_bodyS -/
theorem nw_cast {C T : String} {u U : State} (hvm : u.vm.Alike U.vm) (h : va_Nw (.castable C T) u) : va_Nw (.castable C T) U := va_tabs rfl (rfl : (u.setVm U.vm).vm = U.vm) (by rw [Cond.castable_setVm hvm]; exact h)
theorem nw_decl {x : MethodName} {u U : State} (hvm : u.vm.Alike U.vm) (h : va_Nw (.declares x) u) : va_Nw (.declares x) U := va_tabs rfl (rfl : (u.setVm U.vm).vm = U.vm) (by rw [Cond.declares_setVm hvm]; exact h)
def tL (n d : String) (A : Nat → Prop) (U : State) (H : Heap) : Prop := ∃ (c : ClassId) (k : Class) (i : Nat) (f : Field) (a : Nat) (cell : Cell), (U.vm.findClass Bundle.tN = some c ∧ U.fieldFound? Bundle.tN n d = some (c, k, i, f) ∧ f.isStatic = true ∧ k.statics = some a ∧ k.staticTypes[f.slot]? = some f.type) ∧ (H[a]? = some cell ∧ cell.vm.isStatics = true ∧ cell.cls = c ∧ f.slot < cell.slots.size) ∧ ¬ A a
theorem tL.moved {n d : String} {A : Nat → Prop} {u U : State} {H : Heap} (hvm : u.vm.Alike U.vm) (h : tL n d A u H) : tL n d A U H := by
  obtain ⟨c, k, i, f, a, cell, ⟨h1, h2, h3, h4, h5⟩, h6, h7⟩ := h
  obtain ⟨k', hi', he⟩ := State.fieldFound?_setVm hvm h2
  exact ⟨c, k', i, f, a, cell, ⟨by rw [hvm.findClass]; exact h1, hi', h3, by rw [he]; exact h4, by rw [he]; exact h5⟩, h6, h7⟩
theorem tL.kept {n d : String} {A : Nat → Prop} {U : State} {H H1 : Heap} (h : tL n d A U H) (hq : ∀ a : Nat, a < H.size → ¬ A a → H1[a]? = H[a]?) : tL n d A U H1 := by
  obtain ⟨c, k, i, f, a, cell, h1, ⟨h2, h3⟩, h4⟩ := h
  exact ⟨c, k, i, f, a, cell, h1, ⟨by rw [hq a (Array.getElem?_eq_some_iff.mp h2).1 h4]; exact h2, h3⟩, h4⟩
theorem tL.narrow {n d : String} {A B : Nat → Prop} {U : State} {H : Heap} (h : tL n d A U H) (hAB : ∀ q, B q → A q) : tL n d B U H := by
  obtain ⟨c, k, i, f, a, cell, h1, h2, h3⟩ := h
  exact ⟨c, k, i, f, a, cell, h1, h2, fun z => h3 (hAB _ z)⟩
theorem tL.word {n d : String} {A : Nat → Prop} {s : State} {args : Array Value} (h : tL n d A s s.heap) : (Cond.laysStatic Bundle.tN n d).before args s = true := by
  obtain ⟨c, k, i, f, a, cell, ⟨h1, h2, h3, h4, h5⟩, ⟨h6, h7, h8, h9⟩, -⟩ := h
  exact Cond.laysStatic_of h1 h2 h3 h4 h6 h7 h8 h9 h5
theorem tL.of {n d : String} {A : Nat → Prop} {s : State} {args : Array Value} (h : (Cond.laysStatic Bundle.tN n d).before args s = true) (hA : ∀ a : Nat, a < s.heap.size → ¬ A a) : tL n d A s s.heap := by
  obtain ⟨c, k, i, f, a, cell, h1, h2, h3, h4, h5, h6, h7, h8, h9⟩ := Cond.laysStatic_spec h
  exact ⟨c, k, i, f, a, cell, ⟨h1, h2, h3, h4, h9⟩, ⟨h5, h6, h7, h8⟩, hA a (Array.getElem?_eq_some_iff.mp h5).1⟩
theorem zq_ref {C n d : String} {v : Value} {A : Nat → Prop} {s : State} {args : Array Value} (h : va_Z C n d v A s s.heap) (hv : v.isRef = true) : (Cond.isRef (.static C n d)).before args s = true := by
  obtain ⟨cf, kf, fi, f, a, cell, h1, h2, h3, h4, h5, h6, h7, -⟩ := h
  have he : (Term.static C n d).eval args s none [] s = some v := by simp [Term.eval, State.fieldNamed?, h1, h2, h4, h5, h6, h7]
  simp only [Cond.before, Cond.holds, Cond.value, he]
  cases v <;> simp_all [Value.isRef]
theorem zq_word {C n d : String} {A : Nat → Prop} {s : State} {args : Array Value} (h : va_Zq C n d A s s.heap) : (Cond.isRef (.static C n d)).before args s = true := by
  rcases h with h | ⟨t, h⟩
  · exact zq_ref h rfl
  · exact zq_ref h rfl
/-- what a throw of E takes of the state beside the tables' good words -/
def tz (E : String) (A : Nat → Prop) (U : State) (H : Heap) : Prop :=
  (va_Nw (.castable E E) U ∧ va_Nw (.declares (Bundle.init0 "java/lang/RuntimeException")) U ∧ va_Nw (.declares (Bundle.init0 "java/lang/Exception")) U ∧ va_Nw (.declares (Bundle.init0 Bundle.tN)) U) ∧
  (va_Zq Bundle.tN "UNASSIGNED_STACK" Bundle.steD A U H ∧ tL "UNASSIGNED_STACK" Bundle.steD A U H) ∧ (va_Zq Bundle.tN "SUPPRESSED_SENTINEL" Bundle.listD A U H ∧ tL "SUPPRESSED_SENTINEL" Bundle.listD A U H)
theorem tz.moved {E : String} {A : Nat → Prop} {u U : State} {H : Heap} (hvm : u.vm.Alike U.vm) (h : tz E A u H) : tz E A U H := by
  obtain ⟨⟨h1, h2, h3, h4⟩, ⟨h5, h6⟩, h7, h8⟩ := h
  exact ⟨⟨nw_cast hvm h1, nw_decl hvm h2, nw_decl hvm h3, nw_decl hvm h4⟩, ⟨h5.moved hvm, h6.moved hvm⟩, h7.moved hvm, h8.moved hvm⟩
theorem tz.kept {E : String} {A : Nat → Prop} {U : State} {H H1 : Heap} (h : tz E A U H) (hq : ∀ a : Nat, a < H.size → ¬ A a → H1[a]? = H[a]?) : tz E A U H1 := by
  obtain ⟨h0, ⟨h5, h6⟩, h7, h8⟩ := h
  exact ⟨h0, ⟨h5.kept hq, h6.kept hq⟩, h7.kept hq, h8.kept hq⟩
theorem tz.narrow {E : String} {A B : Nat → Prop} {U : State} {H : Heap} (h : tz E A U H) (hAB : ∀ q, B q → A q) : tz E B U H := by
  obtain ⟨h0, ⟨h5, h6⟩, h7, h8⟩ := h
  exact ⟨h0, ⟨h5.narrow hAB, h6.narrow hAB⟩, h7.narrow hAB, h8.narrow hAB⟩
theorem tz.all {E : String} {A : Nat → Prop} {s : State} {args : Array Value} {L : List Cond} (h : tz E A s s.heap) (hts : ∀ w ∈ wAll, w.before args s = true) (hat : ∀ w ∈ L, w ∈ wAll ∨ w ∈ tNG E) : ∀ w ∈ L, w.before args s = true := by
  intro w hw
  rcases hat w hw with q | q
  · exact hts w q
  · obtain ⟨⟨h1, h2, h3, h4⟩, ⟨h5, h6⟩, h7, h8⟩ := h
    simp only [tNG, List.mem_cons, List.not_mem_nil, or_false] at q
    rcases q with rfl | rfl | rfl | rfl | rfl | rfl | rfl | rfl
    · exact va_Nw.use rfl h1
    · exact va_Nw.use rfl h2
    · exact va_Nw.use rfl h3
    · exact va_Nw.use rfl h4
    · exact h6.word
    · exact h8.word
    · exact zq_word h5
    · exact zq_word h7
/-- the state where a method has thrown q, of the class E: nothing that was there has changed -/
def thr (E : String) (st : State) (q : Addr) (t : State) : Prop := ∃ ce : Cell, t.heap[q]? = some ce ∧ ce.vm = .none ∧ st.vm.findClass E = some ce.cls ∧ st.WarmedH t.vm ∧ st.sameButNew ({ t with vm := st.vm } : State) [] 1 6
def zX {S : Type} (E : String) (D : va_G) (cl : List vw_C) (wf : S → va_W) (A : Nat → Prop) (tys : List (ClassId × FieldType)) (K : Option (Int32 × S)) : Array Value → State → Outcome → State → Prop := fun _ st o t =>
  (∃ (r : Int32) (u : S), K = some (r, u) ∧ o = .returned (some (.int r)) ∧ zP D cl wf A tys u t ∧ va_F A st t ∧ ∃ L, FrameEnd st o t L 1 6 ∧ ∀ z ∈ L, A z.base) ∨
  (K = none ∧ ∃ q : Addr, o = .threw q ∧ thr E st q t)
def zPX {S : Type} (E : String) (D : va_G) (cl : List vw_C) (wf : S → va_W) (A : Nat → Prop) (tys : List (ClassId × FieldType)) (av : List Value) (σ : S) : Array Value → State → Prop := va_Pc av (fun U => zP D cl wf A tys σ U ∧ tz E A U U.heap)
def zMX {S : Type} (E : String) (l : Launch) (y : MethodName) (ws : List Cond) (rm : Room) (D : va_G) (cl : List vw_C) (wf : S → va_W) (A : Nat → Prop) (tys : List (ClassId × FieldType)) (av : List Value) (σ : S) (K : Option (Int32 × S)) : Prop :=
  MetFree l y (headSpec ws rm) (zPX E D cl wf A tys av σ) (fun _ _ _ _ _ => True) (zX E D cl wf A tys K)
def zQX {S : Type} (E : String) (D : va_G) (cl : List vw_C) (wf : S → va_W) (A : Nat → Prop) (tys : List (ClassId × FieldType)) (below : List Frame) (args : Array Value) (s : State) (K : Option (Int32 × S)) : State → Prop :=
  fun t => ∃ o, t.status = .running ∧ Ended t below o ∧ zX E D cl wf A tys K args s o t
abbrev xQX (E : String) (D : va_G) (h qm qr : Nat) (cA : ClassId) (below : List Frame) (args : Array Value) (s : State) (K : Option (Int32 × XS)) : State → Prop := zQX E D vwCl (xw h qm qr cA) (xA h qm qr) [(cA, .int)] below args s K
abbrev xMX (E : String) (l : Launch) (y : MethodName) (ws : List Cond) (rm : Room) (D : va_G) (h qm qr : Nat) (cA : ClassId) (av : List Value) (σ : XS) (K : Option (Int32 × XS)) : Prop := zMX E l y ws rm D vwCl (xw h qm qr cA) (xA h qm qr) [(cA, .int)] av σ K
section TX
variable {S : Type} {E : String} {D : va_G} {cl : List vw_C} {wf : S → va_W} {A : Nat → Prop} {tys : List (ClassId × FieldType)} {l : Launch}
theorem zx_entry {y : MethodName} {ws' ws : List Cond} {cc : ByteArray} {nL : Nat} {ret : Option FieldType} {rm : Room} {own : String} {av : List Value} {σ : S} {K : Option (Int32 × S)}
    (hy : plainName y.cls = true) (hw : ws = Cond.code y cc nL ret :: ws') (hown : y.cls = own) (hav : (lg_sl av).length ≤ nL)
    (body : ∀ (p : Program) (e : Env) (s : State) (m : MethodId) (args : Array Value) (below : List Frame) (meth : Method) (c : Code), CallFix p m c cc nL s args ws' own → meth.sig.returnType = ret → meth.locks = false → (∀ x ∈ c.exceptionTable.toList, False) → tz E A s s.heap → ∀ (ls : Array Slot) (H : Heap) (locs : List Loc), lv_has ls nL (lv_args 0 av) → zH D cl wf A tys s σ H locs → va_S sA s.heap H locs → W p l e rm s m args below meth c H locs 0 0 (zQX E D cl wf A tys below args s K) (F0 m 0 ls [])) :
    zMX E l y ws rm D cl wf A tys av σ K := by
  refine MetFree.of_bodyS (code := cc) (maxLocals := nL) (ret := ret) hy ?_ ?_
  · intro args s m h hn
    obtain ⟨meth, c, h1, h2, h3, h4, h5, h6, -, -⟩ := Cond.code_spec hn (atoms_spec (ws := ws) h _ (by rw [hw]; exact List.mem_cons_self))
    exact ⟨meth, c, h1, h2, h3, h4, h5, h6⟩
  · intro p e s m args below meth c s₁ B hml hv _
    have hh0 : s₁.heap = s.heap := by rw [B.state]; rfl
    have hts := atoms_spec (ws := ws) B.pre
    have hex : ∀ x ∈ c.exceptionTable.toList, False := by
      obtain ⟨meth9, c9, h1, h2, -, -, -, -, h7, -⟩ := Cond.code_spec B.named (hts _ (by rw [hw]; exact List.mem_cons_self))
      cases Option.some.inj (h1.symm.trans B.method)
      cases Option.some.inj (h2.symm.trans (Stand.of_body B).code)
      intro x hx
      rw [Array.isEmpty_iff.mp h7] at hx
      cases hx
    obtain ⟨rfl, ⟨hP, hK, hD⟩, htz⟩ := hv
    have hown' : s.vm.findClass own = some m.cls := by rw [← hown]; exact findClass_of_methodNamed B.named
    have hb := body p e s m _ below meth c ⟨B.exec, B.bytes, hml, hown', fun w h => hts w (by rw [hw]; exact List.mem_cons_of_mem _ h)⟩ B.returns B.notSynchronized hex htz _ s.heap [] (lv_entry av hav) ⟨hP, hD, va_S.rf, hK⟩ va_S.rf
    rw [← lg_entry_eq] at hb
    obtain ⟨t, a1, o, b1, b2, b3⟩ := hb s₁ hh0 (Stand.of_body B)
    exact ⟨t, o, a1, b1, b2, b3⟩
end TX
section TY
variable {p : Program} {l : Launch} {e : Env} {R : Room} {s : State} {m : MethodId} {args : Array Value} {below : List Frame} {meth : Method} {c : Code} {H : Heap} {locs : List Loc} {Q : State → Prop}
variable {S : Type} {E : String} {D : va_G} {cl : List vw_C} {wf : S → va_W} {A : Nat → Prop} {tys : List (ClassId × FieldType)}
variable {cc bytes : ByteArray} {nL nL' index n pc : Nat} {Ts ws : List Cond} {own : String} {y : MethodName} {rm : Room} {ret : Option FieldType} {av rest st0 : List Value} {ls : Array Slot}
theorem zx_iret {σ : S} {K : Option (Int32 × S)} {v : Int32} (C : CallFix p m c cc nL s args Ts own) (hr : meth.sig.returnType = some .int) (hlk : meth.locks = false) (hw : zH D cl wf A tys s σ H locs) (hdg : decode cc pc = .ok (.ireturn, 1)) (hv : K = some (v, σ)) : W p l e R s m args below meth c H locs 0 0 (zQX E D cl wf A tys below args s K) (F0 m pc ls [.int v]) := by
  obtain ⟨hP, hD, hS, hK⟩ := hw
  refine W.widen (k := 1) (n := 6) (Nat.zero_le _) (Nat.zero_le _) ?_
  intro T hT X
  obtain ⟨t, a1, o, b1, b2, b3, L, b4, b5⟩ := W.iret (Qc := fun _ st o t => o = .returned (some (.int v)) ∧ zP D cl wf A tys σ t ∧ va_F A st t) C.1 C.2.1 hr (fun t ht hW => ⟨rfl, ⟨by rw [ht]; exact hP, va_K.moved hW.alike hK, hD⟩, hS.F ht⟩) hS.2.2 hdg hlk T hT X
  exact ⟨t, a1, o, b1, b2, Or.inl ⟨v, σ, hv, b3.1, b3.2.1, b3.2.2, L, b4, b5⟩⟩
theorem s_calliZ {σ : S} {r : Int32} (C : CallFix p m c cc nL s args Ts own) (hM : sMi l y ws rm D av r) (cw : CallB R s args own index y bytes nL' ret ws rm 0 0 n ∧ (Cond.static y).before args s = true) (hw : zH D cl wf A tys s σ H locs) (hz : va_S sA s.heap H locs)
    (hn : av.length = n) (hsz : ls.size = nL) (hst : st0 = av.reverse ++ rest) (hW : (rest.map fun v => v.category).sum ≤ 8) (hdg : decode cc pc = .ok (.invokestatic index, 3))
    (kk : ∀ (H1 : Heap) (locs1 : List Loc), zH D cl wf A tys s σ H1 locs1 → va_S sA s.heap H1 locs1 → W p l e R s m args below meth c H1 locs1 0 0 Q (F0 m (pc + 3) ls (.int r :: rest))) : W p l e R s m args below meth c H locs 0 0 Q (F0 m pc ls st0) := by
  obtain ⟨hP, hD, hS, hK⟩ := hw
  refine va_calli (va_runS (As := av) (rest := rest) C hM cw ⟨z_blind, fun U hU hW' => ⟨rfl, sP_any D U⟩⟩ rfl hn hsz hst (lv_room hW) hdg ⟨Nat.zero_le _, Nat.zero_le _⟩) hz (fun q _ h => h) (fun q h => h) (fun r' u t H1 locs1 ht hvm hr hB hz1 hk1 hS1 => ?_)
  have hr : r' = r := hr
  subst hr
  exact kk H1 locs1 (s_kept hP hD hK hk1 ⟨hS1.1, fun q h _ => hS1.2.1 q h (fun f => f), fun q hq => (hS1.2.2 q hq).elim⟩) hS1
theorem zx_throw {K : Option (Int32 × S)} {ik ic : Nat} (C : CallFix p m c cc nL s args wAll RX) (hst : l.stackTraces = false) (hlk : meth.locks = false) (hex : ∀ x ∈ c.exceptionTable.toList, False) (htz : tz E A s s.heap) (hat : ∀ w ∈ Bundle.ownAtoms0 RX ic E upE, w ∈ wAll ∨ w ∈ tNG E) (hE : Bundle.fit E = true)
    (hk : Cond.classLink RX ik E ∈ wAll) (hi : Cond.instantiable E 6 ∈ wAll) (hini : Cond.initialized E ∈ wAll) (hz : va_S sA s.heap H locs) (hsz : ls.size = nL)
    (d0 : decode cc pc = .ok (.new ik, 3)) (d3 : decode cc (pc + 3) = .ok (.dup, 1)) (d4 : decode cc (pc + 4) = .ok (.invokespecial ic, 3)) (d7 : decode cc (pc + 7) = .ok (.athrow, 1))
    (hRf : 5 < R.frames) (hRl : 82 ≤ R.locals) (hRc : 1 ≤ R.cells) (hRs : 6 ≤ R.slots) (hK : K = none) : W p l e R s m args below meth c H locs 0 0 (zQX E D cl wf A tys below args s K) (F0 m pc ls []) := by
  intro T hT X
  have hloc : locs = [] := List.eq_nil_iff_forall_not_mem.mpr (fun z hz' => hz.2.2 z hz')
  subst hloc
  have htr : e.platform.stackTraces = false := (show e.platform.stackTraces = l.stackTraces by rw [X.admits.platform]).trans hst
  obtain ⟨hx, hb, hml, hown, hts⟩ := C
  have hall := htz.all hts hat
  obtain ⟨vm₁, cX, kX, hfX, hkX, -, -, X₁, st1⟩ := X.newCold hx (own := RX) (C := E) (index := ik) (n := 6) hown (hts _ hk) (hts _ hi) (hts _ hini) (g := F0 m pc ls []) rfl (by rw [hb]; exact d0) (by rw [Nat.zero_add]; exact hRc) (by rw [Nat.zero_add]; exact hRs)
  have d3' : decode c.code (pc + 3) = .ok (.dup, 1) := by rw [hb]; exact d3
  have hnew : s.heap.size ≤ T.heap.size := by rw [hT]; exact hz.1
  have hcellA : ((T.setVm vm₁).pushCell { cls := cX, slots := kX.instanceTypes.map defaultValue, vm := .none }).heap[T.heap.size]? = some (freshCell cX kX) := State.heap_pushCell_size _ _
  generalize (T.setVm vm₁).pushCell { cls := cX, slots := kX.instanceTypes.map defaultValue, vm := .none } = T1 at X₁ st1 hcellA
  obtain ⟨U, hsteps, hrun, hend, hW, hsame, ce, hce, hO⟩ := X₁.ctorThrow0 hx htr (own := RX) (cls := E) (names := upE) (ic := ic) hown hE (by decide +kernel) hall (fun x hx => nomatch hx) hfX hkX hcellA hnew
    (g := { method := m, pc := pc + 4, locals := ls, stack := [.ref T.heap.size, .ref T.heap.size], locked := none }) rfl (by rw [hml]; exact hsz) rfl rfl (rest := []) rfl (by rw [hb]; exact d4) (by rw [hb]; exact d7) (fun x hx => (hex x hx).elim) hRf (Nat.le_trans (Nat.le_of_ble_eq_true rfl) hRl) hlk
  refine ⟨U, st1 _ ?_, .threw T.heap.size, hrun, hend, Or.inr ⟨hK, _, rfl, ce, hce, hO.vm, hO.cls, hW, hsame⟩⟩
  show Steps p.tables e below (T1.setTop { method := m, pc := pc + 3, locals := ls, stack := [.ref T.heap.size], locked := none }) _
  jvm_step X₁.here [X₁.here.top, hx, d3', Value.category]
  exact hsteps
end TY
