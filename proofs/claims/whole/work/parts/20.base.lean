/-! rows over one world that is told by a mathematical value σ: contracts (zMi, zMl, zMv), entries, calls, ends; switches. My own text over the kit's rows. -/
def bI (b : Bool) : Int32 := match b with
  | true => 1
  | false => 0
def uS (x y : Int32) : Int32 := (x.toUInt32 >>> (y.toUInt32 &&& Int32.toUInt32 31)).toInt32
theorem bI_nar (b : Bool) : narrow .boolean (.int (bI b)) = .int (bI b) := by cases b <;> decide
theorem bI_fit (b : Bool) : fits .boolean (.int (bI b)) = true := by cases b <;> decide
def zP {S : Type} (D : va_G) (cl : List vw_C) (wf : S → va_W) (A : Nat → Prop) (tys : List (ClassId × FieldType)) (σ : S) (U : State) : Prop :=
  va_P D cl (wf σ) U.heap ∧ va_K D cl tys U ∧ va_D A (wf σ)
def zH {S : Type} (D : va_G) (cl : List vw_C) (wf : S → va_W) (A : Nat → Prop) (tys : List (ClassId × FieldType)) (s : State) (σ : S) (H : Heap) (locs : List Loc) : Prop :=
  va_P D cl (wf σ) H ∧ va_D A (wf σ) ∧ va_S A s.heap H locs ∧ va_K D cl tys s
def zQi {S : Type} (D : va_G) (cl : List vw_C) (wf : S → va_W) (A : Nat → Prop) (tys : List (ClassId × FieldType)) (below : List Frame) (args : Array Value) (s : State) (r : Int32) (σ : S) : State → Prop :=
  MQ below (va_Qi (fun r' (_ : Unit) => r' = r) (fun _ t => zP D cl wf A tys σ t) A) args s 0 0 A
def zQl {S : Type} (D : va_G) (cl : List vw_C) (wf : S → va_W) (A : Nat → Prop) (tys : List (ClassId × FieldType)) (below : List Frame) (args : Array Value) (s : State) (r : Int64) (σ : S) : State → Prop :=
  MQ below (va_Ql (fun r' (_ : Unit) => r' = r) (fun _ t => zP D cl wf A tys σ t) A) args s 0 0 A
def zQv {S : Type} (D : va_G) (cl : List vw_C) (wf : S → va_W) (A : Nat → Prop) (tys : List (ClassId × FieldType)) (below : List Frame) (args : Array Value) (s : State) (σ : S) : State → Prop :=
  MQ below (va_Qv (fun (_ : Unit) => True) (fun _ t => zP D cl wf A tys σ t) A) args s 0 0 A
def zMi {S : Type} (l : Launch) (y : MethodName) (ws : List Cond) (rm : Room) (D : va_G) (cl : List vw_C) (wf : S → va_W) (A : Nat → Prop) (tys : List (ClassId × FieldType)) (av : List Value) (σ : S) (r : Int32) (σ' : S) : Prop :=
  Met l y ws rm (va_Pc av (zP D cl wf A tys σ)) (va_Qi (fun r' (_ : Unit) => r' = r) (fun _ t => zP D cl wf A tys σ' t) A) 0 0 A
def zMl {S : Type} (l : Launch) (y : MethodName) (ws : List Cond) (rm : Room) (D : va_G) (cl : List vw_C) (wf : S → va_W) (A : Nat → Prop) (tys : List (ClassId × FieldType)) (av : List Value) (σ : S) (r : Int64) (σ' : S) : Prop :=
  Met l y ws rm (va_Pc av (zP D cl wf A tys σ)) (va_Ql (fun r' (_ : Unit) => r' = r) (fun _ t => zP D cl wf A tys σ' t) A) 0 0 A
def zMv {S : Type} (l : Launch) (y : MethodName) (ws : List Cond) (rm : Room) (D : va_G) (cl : List vw_C) (wf : S → va_W) (A : Nat → Prop) (tys : List (ClassId × FieldType)) (av : List Value) (σ : S) (σ' : S) : Prop :=
  Met l y ws rm (va_Pc av (zP D cl wf A tys σ)) (va_Qv (fun (_ : Unit) => True) (fun _ t => zP D cl wf A tys σ' t) A) 0 0 A
-- static methods: no world
def sw (_ : Unit) : va_W := []
def sA (_ : Nat) : Prop := False
abbrev sH (D : va_G) (s : State) (H : Heap) (locs : List Loc) : Prop := zH D [] sw sA [] s () H locs
abbrev sQi (D : va_G) (below : List Frame) (args : Array Value) (s : State) (r : Int32) : State → Prop := zQi D [] sw sA [] below args s r ()
abbrev sQl (D : va_G) (below : List Frame) (args : Array Value) (s : State) (r : Int64) : State → Prop := zQl D [] sw sA [] below args s r ()
abbrev sMi (l : Launch) (y : MethodName) (ws : List Cond) (rm : Room) (D : va_G) (av : List Value) (r : Int32) : Prop := zMi l y ws rm D [] sw sA [] av () r ()
abbrev sMl (l : Launch) (y : MethodName) (ws : List Cond) (rm : Room) (D : va_G) (av : List Value) (r : Int64) : Prop := zMl l y ws rm D [] sw sA [] av () r ()
theorem sP_any (D : va_G) (U : State) : zP D [] sw sA [] () U :=
  ⟨fun k q h => by simp [sw] at h, ⟨fun c q h => by simp at h, fun k q h => by simp at h⟩, ⟨fun i j p q h => by simp [sw] at h, fun k q h => by simp [sw] at h⟩⟩
section ZA
variable {S : Type} {D : va_G} {cl : List vw_C} {wf : S → va_W} {A : Nat → Prop} {tys : List (ClassId × FieldType)} {l : Launch}
theorem z_blind {av : List Value} {σ : S} : FrameBlind (va_Pc av (zP D cl wf A tys σ)) := fun a U g mk q => by
  obtain ⟨q0, qP, qK, qD⟩ := q
  exact ⟨q0, qP, va_K.moved (u := U) (U := U.calling g mk a) (Vm.Alike.refl U.vm) qK, qD⟩
theorem z_entry {y : MethodName} {ws' : List Cond} {ws : List Cond} {cc : ByteArray} {nL : Nat} {ret : Option FieldType} {rm : Room} {own : String} {av : List Value} {σ : S} {Qc : Array Value → State → Outcome → State → Prop} {mc ms : Nat}
    (hy : plainName y.cls = true) (hw : ws = Cond.code y cc nL ret :: ws') (hown : y.cls = own) (hav : (lg_sl av).length ≤ nL)
    (body : ∀ (p : Program) (e : Env) (s : State) (m : MethodId) (args : Array Value) (below : List Frame) (meth : Method) (c : Code), CallFix p m c cc nL s args ws' own → meth.sig.returnType = ret → meth.locks = false → ∀ (ls : Array Slot) (H : Heap) (locs : List Loc), lv_has ls nL (lv_args 0 av) → zH D cl wf A tys s σ H locs → W p l e rm s m args below meth c H locs 0 0 (MQ below Qc args s mc ms A) (F0 m 0 ls [])) :
    Met l y ws rm (va_Pc av (zP D cl wf A tys σ)) Qc mc ms A := by
  refine Met.ofW (cc := cc) (maxL := nL) (ret := ret) hy hw ?_
  intro p e s m args below meth c s₁ B hml hv
  obtain ⟨rfl, hP, hK, hD⟩ := hv
  have hts := atoms_spec (ws := ws) B.pre
  have hown' : s.vm.findClass own = some m.cls := by rw [← hown]; exact findClass_of_methodNamed B.named
  rw [lg_entry_eq]
  exact body p e s m _ below meth c ⟨B.exec, B.bytes, hml, hown', fun w h => hts w (by rw [hw]; exact List.mem_cons_of_mem _ h)⟩ B.returns B.notSynchronized _ _ _ (lv_entry av hav) ⟨hP, hD, va_S.rf, hK⟩
theorem z_entryi {y : MethodName} {ws' : List Cond} {ws : List Cond} {cc : ByteArray} {nL : Nat} {ret : Option FieldType} {rm : Room} {own : String} {av : List Value} {σ σ' : S} {r : Int32}
    (hy : plainName y.cls = true) (hw : ws = Cond.code y cc nL ret :: ws') (hown : y.cls = own) (hav : (lg_sl av).length ≤ nL)
    (body : ∀ (p : Program) (e : Env) (s : State) (m : MethodId) (args : Array Value) (below : List Frame) (meth : Method) (c : Code), CallFix p m c cc nL s args ws' own → meth.sig.returnType = ret → meth.locks = false → ∀ (ls : Array Slot) (H : Heap) (locs : List Loc), lv_has ls nL (lv_args 0 av) → zH D cl wf A tys s σ H locs → W p l e rm s m args below meth c H locs 0 0 (zQi D cl wf A tys below args s r σ') (F0 m 0 ls [])) :
    zMi l y ws rm D cl wf A tys av σ r σ' := z_entry hy hw hown hav body
theorem z_entryl {y : MethodName} {ws' : List Cond} {ws : List Cond} {cc : ByteArray} {nL : Nat} {ret : Option FieldType} {rm : Room} {own : String} {av : List Value} {σ σ' : S} {r : Int64}
    (hy : plainName y.cls = true) (hw : ws = Cond.code y cc nL ret :: ws') (hown : y.cls = own) (hav : (lg_sl av).length ≤ nL)
    (body : ∀ (p : Program) (e : Env) (s : State) (m : MethodId) (args : Array Value) (below : List Frame) (meth : Method) (c : Code), CallFix p m c cc nL s args ws' own → meth.sig.returnType = ret → meth.locks = false → ∀ (ls : Array Slot) (H : Heap) (locs : List Loc), lv_has ls nL (lv_args 0 av) → zH D cl wf A tys s σ H locs → W p l e rm s m args below meth c H locs 0 0 (zQl D cl wf A tys below args s r σ') (F0 m 0 ls [])) :
    zMl l y ws rm D cl wf A tys av σ r σ' := z_entry hy hw hown hav body
theorem z_entryv {y : MethodName} {ws' : List Cond} {ws : List Cond} {cc : ByteArray} {nL : Nat} {ret : Option FieldType} {rm : Room} {own : String} {av : List Value} {σ σ' : S}
    (hy : plainName y.cls = true) (hw : ws = Cond.code y cc nL ret :: ws') (hown : y.cls = own) (hav : (lg_sl av).length ≤ nL)
    (body : ∀ (p : Program) (e : Env) (s : State) (m : MethodId) (args : Array Value) (below : List Frame) (meth : Method) (c : Code), CallFix p m c cc nL s args ws' own → meth.sig.returnType = ret → meth.locks = false → ∀ (ls : Array Slot) (H : Heap) (locs : List Loc), lv_has ls nL (lv_args 0 av) → zH D cl wf A tys s σ H locs → W p l e rm s m args below meth c H locs 0 0 (zQv D cl wf A tys below args s σ') (F0 m 0 ls [])) :
    zMv l y ws rm D cl wf A tys av σ σ' := z_entry hy hw hown hav body
end ZA
section ZB
variable {p : Program} {l : Launch} {e : Env} {R : Room} {s : State} {m : MethodId} {args : Array Value} {below : List Frame} {meth : Method} {c : Code} {H : Heap} {locs : List Loc} {Q : State → Prop}
variable {S : Type} {D : va_G} {cl : List vw_C} {wf : S → va_W} {A : Nat → Prop} {tys : List (ClassId × FieldType)}
variable {cc bytes : ByteArray} {nL nL' index n pc : Nat} {Ts ws : List Cond} {own CN : String} {y : MethodName} {rm : Room} {ret : Option FieldType} {av rest st0 : List Value} {b : Nat} {ls : Array Slot}
theorem z_iret {σ : S} {r v : Int32} (C : CallFix p m c cc nL s args Ts own) (hr : meth.sig.returnType = some .int) (hlk : meth.locks = false) (hw : zH D cl wf A tys s σ H locs) (hdg : decode cc pc = .ok (.ireturn, 1)) (hv : r = v) : W p l e R s m args below meth c H locs 0 0 (zQi D cl wf A tys below args s r σ) (F0 m pc ls [.int v]) := by
  subst hv
  obtain ⟨hP, hD, hS, hK⟩ := hw
  exact W.iret C.1 C.2.1 hr (fun t ht hW => ⟨⟨r, (), rfl, rfl, by rw [ht]; exact hP, va_K.moved hW.alike hK, hD⟩, hS.F ht⟩) hS.2.2 hdg hlk
theorem z_iretP {σ : S} {K : Int32 × S} {v : Int32} (C : CallFix p m c cc nL s args Ts own) (hr : meth.sig.returnType = some .int) (hlk : meth.locks = false) (hw : zH D cl wf A tys s σ H locs) (hdg : decode cc pc = .ok (.ireturn, 1)) (hv : K = (v, σ)) : W p l e R s m args below meth c H locs 0 0 (zQi D cl wf A tys below args s K.1 K.2) (F0 m pc ls [.int v]) := by
  subst hv
  exact z_iret C hr hlk hw hdg rfl
theorem z_zret {σ : S} {r v : Bool} (C : CallFix p m c cc nL s args Ts own) (hr : meth.sig.returnType = some .boolean) (hlk : meth.locks = false) (hw : zH D cl wf A tys s σ H locs) (hdg : decode cc pc = .ok (.ireturn, 1)) (hv : r = v) : W p l e R s m args below meth c H locs 0 0 (zQi D cl wf A tys below args s (bI r) σ) (F0 m pc ls [.int (bI v)]) := by
  subst hv
  obtain ⟨hP, hD, hS, hK⟩ := hw
  exact W.zret C.1 C.2.1 hr (bI_nar r) (fun t ht hW => ⟨⟨bI r, (), rfl, rfl, by rw [ht]; exact hP, va_K.moved hW.alike hK, hD⟩, hS.F ht⟩) hS.2.2 hdg hlk
theorem z_zretP {σ : S} {K : Bool × S} {v : Bool} (C : CallFix p m c cc nL s args Ts own) (hr : meth.sig.returnType = some .boolean) (hlk : meth.locks = false) (hw : zH D cl wf A tys s σ H locs) (hdg : decode cc pc = .ok (.ireturn, 1)) (hv : K = (v, σ)) : W p l e R s m args below meth c H locs 0 0 (zQi D cl wf A tys below args s (bI K.1) K.2) (F0 m pc ls [.int (bI v)]) := by
  subst hv
  exact z_zret C hr hlk hw hdg rfl
theorem z_lret {σ : S} {r v : Int64} (C : CallFix p m c cc nL s args Ts own) (hr : meth.sig.returnType = some .long) (hlk : meth.locks = false) (hw : zH D cl wf A tys s σ H locs) (hdg : decode cc pc = .ok (.lreturn, 1)) (hv : r = v) : W p l e R s m args below meth c H locs 0 0 (zQl D cl wf A tys below args s r σ) (F0 m pc ls [.long v]) := by
  subst hv
  obtain ⟨hP, hD, hS, hK⟩ := hw
  exact W.lret C.1 C.2.1 hr (fun t ht hW => ⟨⟨r, (), rfl, rfl, by rw [ht]; exact hP, va_K.moved hW.alike hK, hD⟩, hS.F ht⟩) hS.2.2 hdg hlk
theorem z_vret {σ σ' : S} (C : CallFix p m c cc nL s args Ts own) (hr : meth.sig.returnType = none) (hlk : meth.locks = false) (hw : zH D cl wf A tys s σ H locs) (hdg : decode cc pc = .ok (.return_, 1)) (hv : σ' = σ) : W p l e R s m args below meth c H locs 0 0 (zQv D cl wf A tys below args s σ') (F0 m pc ls []) := by
  subst hv
  obtain ⟨hP, hD, hS, hK⟩ := hw
  exact W.vret C.1 C.2.1 hr (fun t ht hW => ⟨⟨(), rfl, trivial, by rw [ht]; exact hP, va_K.moved hW.alike hK, hD⟩, hS.F ht⟩) hS.2.2 hdg hlk
-- calls within one world
theorem z_calli {σ σ' : S} {r : Int32} {as : List Value} {ci : Nat} {fs : List Value} {T : u_T} {N : Nat} (C : CallFix p m c cc nL s args Ts own) (hM : zMi l y ws rm D cl wf A tys (.ref b :: as) σ r σ') (cw : CallW R s args own CN index y bytes nL' ret ws rm 0 0 n) (hw : zH D cl wf A tys s σ H locs)
    (he : (wf σ)[0]? = some (b, .inr (ci, fs))) (hc : cl[ci]? = some (CN, T, N)) (hn : as.length = n) (hsz : ls.size = nL) (hst : st0 = as.reverse ++ .ref b :: rest) (hW : (rest.map fun v => v.category).sum ≤ 8) (hdg : decode cc pc = .ok (.invokevirtual index, 3))
    (kk : ∀ (H1 : Heap) (locs1 : List Loc), zH D cl wf A tys s σ' H1 locs1 → W p l e R s m args below meth c H1 locs1 0 0 Q (F0 m (pc + 3) ls (.int r :: rest))) : W p l e R s m args below meth c H locs 0 0 Q (F0 m pc ls st0) := by
  obtain ⟨hP, hD, hS, hK⟩ := hw
  refine va_calli (va_runV (As := as) (rest := rest) C hM cw ⟨z_blind, va_recv hK hP hc he, fun U hU hW' => ⟨rfl, by rw [hU]; exact hP, va_K.moved hW'.alike hK, hD⟩⟩ rfl hn hsz hst (lv_room hW) hdg ⟨Nat.zero_le _, Nat.zero_le _⟩) hS (fun q _ h => h) (fun q h => h) (fun r' u t H1 locs1 ht hvm hr hB hz1 hk1 hS1 => ?_)
  obtain ⟨hP1, hK1, hD1⟩ := hB
  rw [ht] at hP1
  have hr : r' = r := hr
  subst hr
  exact kk H1 locs1 ⟨hP1, hD1, hS1, hK⟩
theorem z_callv {σ σ' : S} {as : List Value} {ci : Nat} {fs : List Value} {T : u_T} {N : Nat} (C : CallFix p m c cc nL s args Ts own) (hM : zMv l y ws rm D cl wf A tys (.ref b :: as) σ σ') (cw : CallW R s args own CN index y bytes nL' ret ws rm 0 0 n) (hw : zH D cl wf A tys s σ H locs)
    (he : (wf σ)[0]? = some (b, .inr (ci, fs))) (hc : cl[ci]? = some (CN, T, N)) (hn : as.length = n) (hsz : ls.size = nL) (hst : st0 = as.reverse ++ .ref b :: rest) (hW : (rest.map fun v => v.category).sum ≤ 8) (hdg : decode cc pc = .ok (.invokevirtual index, 3))
    (kk : ∀ (H1 : Heap) (locs1 : List Loc), zH D cl wf A tys s σ' H1 locs1 → W p l e R s m args below meth c H1 locs1 0 0 Q (F0 m (pc + 3) ls rest)) : W p l e R s m args below meth c H locs 0 0 Q (F0 m pc ls st0) := by
  obtain ⟨hP, hD, hS, hK⟩ := hw
  refine va_callv (va_runV (As := as) (rest := rest) C hM cw ⟨z_blind, va_recv hK hP hc he, fun U hU hW' => ⟨rfl, by rw [hU]; exact hP, va_K.moved hW'.alike hK, hD⟩⟩ rfl hn hsz hst (lv_room hW) hdg ⟨Nat.zero_le _, Nat.zero_le _⟩) hS (fun q _ h => h) (fun q h => h) (fun u t H1 locs1 ht hvm hr hB hz1 hk1 hS1 => ?_)
  obtain ⟨hP1, hK1, hD1⟩ := hB
  rw [ht] at hP1
  exact kk H1 locs1 ⟨hP1, hD1, hS1, hK⟩
-- calls of a static method: the caller's world stays
theorem s_kept {σ : S} {H1 : Heap} {locs1 : List Loc} (hP : va_P D cl (wf σ) H) (hD : va_D A (wf σ)) (hK : va_K D cl tys s) (hk1 : ∀ q : Nat, q < H.size → ¬ sA q → H1[q]? = H[q]?) (hS1 : va_S A s.heap H1 locs1) : zH D cl wf A tys s σ H1 locs1 :=
  ⟨hP.kept (fun k q hq => hk1 q.1 ((hP k q hq).lt) (fun h => h)), hD, hS1, hK⟩
theorem s_calli {σ : S} {r : Int32} (C : CallFix p m c cc nL s args Ts own) (hM : sMi l y ws rm D av r) (cw : CallB R s args own index y bytes nL' ret ws rm 0 0 n ∧ (Cond.static y).before args s = true) (hw : zH D cl wf A tys s σ H locs)
    (hn : av.length = n) (hsz : ls.size = nL) (hst : st0 = av.reverse ++ rest) (hW : (rest.map fun v => v.category).sum ≤ 8) (hdg : decode cc pc = .ok (.invokestatic index, 3))
    (kk : ∀ (H1 : Heap) (locs1 : List Loc), zH D cl wf A tys s σ H1 locs1 → W p l e R s m args below meth c H1 locs1 0 0 Q (F0 m (pc + 3) ls (.int r :: rest))) : W p l e R s m args below meth c H locs 0 0 Q (F0 m pc ls st0) := by
  obtain ⟨hP, hD, hS, hK⟩ := hw
  refine va_calli (va_runS (As := av) (rest := rest) C hM cw ⟨z_blind, fun U hU hW' => ⟨rfl, sP_any D U⟩⟩ rfl hn hsz hst (lv_room hW) hdg ⟨Nat.zero_le _, Nat.zero_le _⟩) hS (fun q _ h => h.elim) (fun q h => h.elim) (fun r' u t H1 locs1 ht hvm hr hB hz1 hk1 hS1 => ?_)
  have hr : r' = r := hr
  subst hr
  exact kk H1 locs1 (s_kept hP hD hK hk1 hS1)
theorem s_calll {σ : S} {r : Int64} (C : CallFix p m c cc nL s args Ts own) (hM : sMl l y ws rm D av r) (cw : CallB R s args own index y bytes nL' ret ws rm 0 0 n ∧ (Cond.static y).before args s = true) (hw : zH D cl wf A tys s σ H locs)
    (hn : av.length = n) (hsz : ls.size = nL) (hst : st0 = av.reverse ++ rest) (hW : (rest.map fun v => v.category).sum ≤ 8) (hdg : decode cc pc = .ok (.invokestatic index, 3))
    (kk : ∀ (H1 : Heap) (locs1 : List Loc), zH D cl wf A tys s σ H1 locs1 → W p l e R s m args below meth c H1 locs1 0 0 Q (F0 m (pc + 3) ls (.long r :: rest))) : W p l e R s m args below meth c H locs 0 0 Q (F0 m pc ls st0) := by
  obtain ⟨hP, hD, hS, hK⟩ := hw
  refine va_calll (va_runS (As := av) (rest := rest) C hM cw ⟨z_blind, fun U hU hW' => ⟨rfl, sP_any D U⟩⟩ rfl hn hsz hst (lv_room hW) hdg ⟨Nat.zero_le _, Nat.zero_le _⟩) hS (fun q _ h => h.elim) (fun q h => h.elim) (fun r' u t H1 locs1 ht hvm hr hB hz1 hk1 hS1 => ?_)
  have hr : r' = r := hr
  subst hr
  exact kk H1 locs1 (s_kept hP hD hK hk1 hS1)
end ZB
-- switches
section ZC
variable {p : Program} {l : Launch} {e : Env} {R : Room} {s : State} {m : MethodId} {args : Array Value} {below : List Frame} {meth : Method} {c : Code} {H : Heap} {locs : List Loc} {cells slots : Nat} {Q : State → Prop}
variable {cc : ByteArray} {pc : Nat} {ls : Array Slot} {rest : List Value}
theorem z_tsC (hexec : p.tables.exec = Jvm.exec) (hb : c.code = cc) {dflt lo hi : Int} {offs : Array Int} {len : Nat} {x k : Int32} {off : Int} {tgt : Nat} (hdg : decode cc pc = .ok (.tableswitch dflt lo hi offs, len)) (h : x = k) (h1 : ¬ k.toInt < lo) (h2 : ¬ hi < k.toInt) (ho : offs[(k.toInt - lo).toNat]? = some off) (ht : (pc : Int) + off = (tgt : Int))
    (kk : W p l e R s m args below meth c H locs cells slots Q (F0 m tgt ls rest)) : W p l e R s m args below meth c H locs cells slots Q (F0 m pc ls (.int x :: rest)) := by
  subst h
  exact lv_tableIn hexec hb hdg h1 h2 ho ht kk
theorem z_tsD (hexec : p.tables.exec = Jvm.exec) (hb : c.code = cc) {dflt lo hi : Int} {offs : Array Int} {len : Nat} {x : Int32} {xs : List Int32} {tgt : Nat} (hdg : decode cc pc = .ok (.tableswitch dflt lo hi offs, len)) (hne : ∀ k ∈ xs, ¬ x = k) (hd : offs.size = (hi - lo + 1).toNat ∧ ∀ i, i < offs.size → offs[i]? = some dflt ∨ (xs.any fun k => k.toInt == lo + (i : Int)) = true) (ht : (pc : Int) + dflt = (tgt : Int))
    (kk : W p l e R s m args below meth c H locs cells slots Q (F0 m tgt ls rest)) : W p l e R s m args below meth c H locs cells slots Q (F0 m pc ls (.int x :: rest)) := by
  by_cases h : x.toInt < lo ∨ hi < x.toInt
  · exact lv_tableOut hexec hb hdg h ht kk
  · have h1 : ¬ x.toInt < lo := fun q => h (Or.inl q)
    have h2 : ¬ hi < x.toInt := fun q => h (Or.inr q)
    have hi' : (x.toInt - lo).toNat < offs.size := by rw [hd.1]; omega
    rcases hd.2 _ hi' with h3 | h3
    · exact lv_tableIn hexec hb hdg h1 h2 h3 ht kk
    · obtain ⟨k, hk, hk2⟩ := List.any_eq_true.mp h3
      have hk3 : k.toInt = lo + ((x.toInt - lo).toNat : Int) := by simpa using hk2
      exact absurd (Int32.toInt_inj.mp (by omega)) (hne k hk)
theorem z_lkC (hexec : p.tables.exec = Jvm.exec) (hb : c.code = cc) {dflt : Int} {ps : Array (Int × Int)} {len : Nat} {x k : Int32} {off : Int} {tgt : Nat} (hdg : decode cc pc = .ok (.lookupswitch dflt ps, len)) (h : x = k) (hp : (ps.toList.zip (ps.toList.drop 1)).all (fun (a, next) => a.1 < next.1) = true) (ho : Op.lookupswitch.offset ps.toList dflt k.toInt = off) (ht : (pc : Int) + off = (tgt : Int))
    (kk : W p l e R s m args below meth c H locs cells slots Q (F0 m tgt ls rest)) : W p l e R s m args below meth c H locs cells slots Q (F0 m pc ls (.int x :: rest)) := by
  subst h
  exact lv_lookup hexec hb hdg hp ho ht kk
theorem z_lkO {ps : List (Int × Int)} {d : Int} {x : Int} (h : ∀ q ∈ ps, ¬ x = q.1) : Op.lookupswitch.offset ps d x = d := by
  induction ps with
  | nil => rfl
  | cons q r ih =>
    obtain ⟨a, o⟩ := q
    rw [Op.lookupswitch.offset_cons, if_neg (fun z => h (a, o) List.mem_cons_self z.symm)]
    exact ih (fun q hq => h q (List.mem_cons_of_mem _ hq))
theorem z_lkD (hexec : p.tables.exec = Jvm.exec) (hb : c.code = cc) {dflt : Int} {ps : Array (Int × Int)} {len : Nat} {x : Int32} {xs : List Int32} {tgt : Nat} (hdg : decode cc pc = .ok (.lookupswitch dflt ps, len)) (hne : ∀ k ∈ xs, ¬ x = k) (hd : (ps.toList.zip (ps.toList.drop 1)).all (fun (a, next) => a.1 < next.1) = true ∧ (ps.toList.all fun q => xs.any fun k => k.toInt == q.1) = true) (ht : (pc : Int) + dflt = (tgt : Int))
    (kk : W p l e R s m args below meth c H locs cells slots Q (F0 m tgt ls rest)) : W p l e R s m args below meth c H locs cells slots Q (F0 m pc ls (.int x :: rest)) := by
  refine lv_lookup hexec hb hdg hd.1 (z_lkO fun q hq hx => ?_) ht kk
  obtain ⟨k, hk, hk2⟩ := List.any_eq_true.mp (List.all_eq_true.mp hd.2 q hq)
  have hk3 : k.toInt = q.1 := by simpa using hk2
  exact hne k hk (Int32.toInt_inj.mp (by rw [hk3]; exact hx))
end ZC
theorem z_good {big ws : List Cond} (hb : big.all goodWord = true) (h : ∀ w ∈ ws, w ∈ big) : GoodIn big ws := fun w hw => ⟨h w hw, good_of_word (List.all_eq_true.mp hb w (h w hw))⟩
theorem z_goodV {big : List Cond} {own C : String} {idx : Nat} {y : MethodName} {cc : ByteArray} {nL : Nat} {ret : Option FieldType} (hb : big.all goodWord = true) (h1 : Cond.methodLink own idx y ∈ big) (h2 : Cond.instanceMethod y ∈ big) (h3 : Cond.selects C y y ∈ big) (h4 : Cond.initialized C ∈ big) (h5 : Cond.code y cc nL ret ∈ big) : GoodIn big (wsV own idx C y (.code y cc nL ret :: big)) := by
  refine z_good hb (fun w hw => ?_)
  simp only [wsV, List.cons_append, List.nil_append, List.mem_cons] at hw
  rcases hw with rfl | rfl | rfl | rfl | rfl | hw
  · exact h1
  · exact h2
  · exact h3
  · exact h4
  · exact h5
  · exact hw
theorem z_goodS {big : List Cond} {own : String} {idx : Nat} {y : MethodName} {cc : ByteArray} {nL : Nat} {ret : Option FieldType} (hb : big.all goodWord = true) (h1 : Cond.methodLink own idx y ∈ big) (h2 : Cond.static y ∈ big) (h4 : Cond.initialized own ∈ big) (h5 : Cond.code y cc nL ret ∈ big) : GoodIn big (wsS own idx y (.code y cc nL ret :: big)) := by
  refine z_good hb (fun w hw => ?_)
  simp only [wsS, List.cons_append, List.nil_append, List.mem_cons] at hw
  rcases hw with rfl | rfl | rfl | rfl | hw
  · exact h1
  · exact h2
  · exact h4
  · exact h5
  · exact hw
