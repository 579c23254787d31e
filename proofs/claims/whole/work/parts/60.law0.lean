/-! the law's world: the class's object, the reference's, and out; calls on its parts -/
abbrev GS : Type := XS × MS × (Nat → Int64)
def gw (h qm qr g qb qg qw qo : Nat) (cA cL : ClassId) (u : GS) : va_W := xw h qm qr cA u.1 ++ (mw g qb qg qw cA u.2.1 ++ [(qo, .inl (cL, 1, .inr (.inl u.2.2)))])
def gN (sz q : Nat) : Prop := sz ≤ q
abbrev gH (D : va_G) (h qm qr g qb qg qw qo : Nat) (cA cL : ClassId) (s : State) (u : GS) (H : Heap) (locs : List Loc) : Prop := zH D vwCl (gw h qm qr g qb qg qw qo cA cL) (gN s.heap.size) [(cA, .int), (cL, .long)] s u H locs
theorem vD_addr {A : Nat → Prop} {ws ws' : va_W} (h : ws'.map (fun q => q.1) = ws.map (fun q => q.1)) (hD : va_D A ws) : va_D A ws' := by
  have key : ∀ (i : Nat) (q : Nat × va_E), ws'[i]? = some q → ∃ q0 : Nat × va_E, ws[i]? = some q0 ∧ q0.1 = q.1 := by
    intro i q hi
    have h1 : (ws.map (fun q => q.1))[i]? = some q.1 := by rw [← h, List.getElem?_map, hi]; rfl
    rw [List.getElem?_map] at h1
    cases h2 : ws[i]? with
    | none => rw [h2] at h1; cases h1
    | some q0 => rw [h2] at h1; exact ⟨q0, rfl, Option.some.inj h1⟩
  refine ⟨fun i j a b hi hj hab => ?_, fun k q hk => ?_⟩
  · obtain ⟨a0, ha, ea⟩ := key i a hi
    obtain ⟨b0, hb, eb⟩ := key j b hj
    exact hD.1 i j a0 b0 ha hb (by rw [ea, eb]; exact hab)
  · obtain ⟨q0, hq, eq⟩ := key k q hk
    rw [← eq]
    exact hD.2 k q0 hq
theorem g_kept {D : va_G} {cl : List vw_C} {A Ac : Nat → Prop} {ws : va_W} {H H1 : Heap} (hP : va_P D cl ws H) (hD : va_D A ws) (is : List Nat) (hAc : ∀ q, Ac q → ∃ i, i ∈ is ∧ ∃ e, ws[i]? = some (q, e)) (hk1 : ∀ q : Nat, q < H.size → ¬ Ac q → H1[q]? = H[q]?) {k : Nat} {q : Nat × va_E} (hn : k ∉ is) (hk : ws[k]? = some q) : va_at D cl q H1 := by
  refine (hP k q hk).kept (hk1 q.1 ((hP k q hk).lt) (fun hq => ?_))
  obtain ⟨i, hi, e, he⟩ := hAc _ hq
  have := hD.1 k i q (q.1, e) hk he rfl
  subst this
  exact hn hi
section GA
variable {p : Program} {l : Launch} {e : Env} {R : Room} {s : State} {m : MethodId} {args : Array Value} {below : List Frame} {meth : Method} {c : Code} {H H1 : Heap} {locs locs1 : List Loc} {cells slots : Nat} {Q : State → Prop} {cc bytes : ByteArray} {nL nL' index n pc : Nat} {ls : Array Slot} {D : va_G} {h qm qr g qb qg qw qo : Nat} {cA cL : ClassId} {u : GS} {y : MethodName} {ws : List Cond} {rm : Room} {ret : Option FieldType} {as rest st0 : List Value}
theorem g_inX (hw : gH D h qm qr g qb qg qw qo cA cL s u H locs) : ∀ q, xA h qm qr q → ∃ i, i ∈ [0, 1, 2] ∧ ∃ e, (gw h qm qr g qb qg qw qo cA cL u)[i]? = some (q, e) := fun q hq => by
  rcases hq with rfl | rfl | rfl
  · exact ⟨0, by decide, _, rfl⟩
  · exact ⟨1, by decide, _, rfl⟩
  · exact ⟨2, by decide, _, rfl⟩
theorem g_inM (hw : gH D h qm qr g qb qg qw qo cA cL s u H locs) : ∀ q, mA g qb qg qw q → ∃ i, i ∈ [3, 4, 5, 6] ∧ ∃ e, (gw h qm qr g qb qg qw qo cA cL u)[i]? = some (q, e) := fun q hq => by
  rcases hq with rfl | rfl | rfl | rfl
  · exact ⟨3, by decide, _, rfl⟩
  · exact ⟨4, by decide, _, rfl⟩
  · exact ⟨5, by decide, _, rfl⟩
  · exact ⟨6, by decide, _, rfl⟩
theorem g_inL (hw : gH D h qm qr g qb qg qw qo cA cL s u H locs) : ∀ q, lA h qm qr qo q → ∃ i, i ∈ [0, 1, 2, 7] ∧ ∃ e, (gw h qm qr g qb qg qw qo cA cL u)[i]? = some (q, e) := fun q hq => by
  rcases hq with (rfl | rfl | rfl) | rfl
  · exact ⟨0, by decide, _, rfl⟩
  · exact ⟨1, by decide, _, rfl⟩
  · exact ⟨2, by decide, _, rfl⟩
  · exact ⟨7, by decide, _, rfl⟩
theorem g_sub {A0 Ac : Nat → Prop} {ws : va_W} {is : List Nat} (hD : va_D A0 ws) (hAc : ∀ q, Ac q → ∃ i, i ∈ is ∧ ∃ e, ws[i]? = some (q, e)) : ∀ q, Ac q → A0 q := fun q hq => by
  obtain ⟨i, -, e, he⟩ := hAc q hq
  exact hD.2 i _ he
theorem g_partX (hw : gH D h qm qr g qb qg qw qo cA cL s u H locs) : va_P D vwCl (xw h qm qr cA u.1) H ∧ va_D (xA h qm qr) (xw h qm qr cA u.1) ∧ va_K D vwCl [(cA, .int)] s := by
  obtain ⟨hP, hD, hS, hK⟩ := hw
  refine ⟨hP.sub [0, 1, 2] rfl, (hD.sub [0, 1, 2] (by decide) rfl).weaken (fun k q hk _ => ?_), hK.sub [0] rfl⟩
  rcases k with _ | _ | _ | k
  · obtain rfl := Option.some.inj hk; exact Or.inl rfl
  · obtain rfl := Option.some.inj hk; exact Or.inr (Or.inl rfl)
  · obtain rfl := Option.some.inj hk; exact Or.inr (Or.inr rfl)
  · cases hk
theorem g_partM (hw : gH D h qm qr g qb qg qw qo cA cL s u H locs) : va_P D vwCl (mw g qb qg qw cA u.2.1) H ∧ va_D (mA g qb qg qw) (mw g qb qg qw cA u.2.1) ∧ va_K D vwCl [(cA, .int)] s := by
  obtain ⟨hP, hD, hS, hK⟩ := hw
  refine ⟨hP.sub [3, 4, 5, 6] rfl, (hD.sub [3, 4, 5, 6] (by decide) rfl).weaken (fun k q hk _ => ?_), hK.sub [0] rfl⟩
  rcases k with _ | _ | _ | _ | k
  · obtain rfl := Option.some.inj hk; exact Or.inl rfl
  · obtain rfl := Option.some.inj hk; exact Or.inr (Or.inl rfl)
  · obtain rfl := Option.some.inj hk; exact Or.inr (Or.inr (Or.inl rfl))
  · obtain rfl := Option.some.inj hk; exact Or.inr (Or.inr (Or.inr rfl))
  · cases hk
theorem g_partL (hw : gH D h qm qr g qb qg qw qo cA cL s u H locs) : va_P D vwCl (lwf h qm qr qo cA cL (u.1, u.2.2)) H ∧ va_D (lA h qm qr qo) (lwf h qm qr qo cA cL (u.1, u.2.2)) ∧ va_K D vwCl [(cA, .int), (cL, .long)] s := by
  obtain ⟨hP, hD, hS, hK⟩ := hw
  refine ⟨hP.sub [0, 1, 2, 7] rfl, (hD.sub [0, 1, 2, 7] (by decide) rfl).weaken (fun k q hk _ => ?_), hK⟩
  rcases k with _ | _ | _ | _ | k
  · obtain rfl := Option.some.inj hk; exact Or.inl (Or.inl rfl)
  · obtain rfl := Option.some.inj hk; exact Or.inl (Or.inr (Or.inl rfl))
  · obtain rfl := Option.some.inj hk; exact Or.inl (Or.inr (Or.inr rfl))
  · obtain rfl := Option.some.inj hk; exact Or.inr rfl
  · cases hk
theorem g_backX {σ' : XS} (hw : gH D h qm qr g qb qg qw qo cA cL s u H locs) (hP1 : va_P D vwCl (xw h qm qr cA σ') H1) (hk1 : ∀ q : Nat, q < H.size → ¬ xA h qm qr q → H1[q]? = H[q]?) (hS1 : va_S (gN s.heap.size) s.heap H1 locs1) : gH D h qm qr g qb qg qw qo cA cL s (σ', u.2) H1 locs1 := by
  have hin := g_inX hw
  obtain ⟨hP, hD, hS, hK⟩ := hw
  refine ⟨fun k q hk => ?_, vD_addr (ws := gw h qm qr g qb qg qw qo cA cL u) rfl hD, hS1, hK⟩
  rcases k with _ | _ | _ | _ | _ | _ | _ | _ | k
  · exact hP1 0 q hk
  · exact hP1 1 q hk
  · exact hP1 2 q hk
  · exact g_kept hP hD [0, 1, 2] hin hk1 (k := 3) (by decide) hk
  · exact g_kept hP hD [0, 1, 2] hin hk1 (k := 4) (by decide) hk
  · exact g_kept hP hD [0, 1, 2] hin hk1 (k := 5) (by decide) hk
  · exact g_kept hP hD [0, 1, 2] hin hk1 (k := 6) (by decide) hk
  · exact g_kept hP hD [0, 1, 2] hin hk1 (k := 7) (by decide) hk
  · cases hk
theorem g_backM {τ' : MS} (hw : gH D h qm qr g qb qg qw qo cA cL s u H locs) (hP1 : va_P D vwCl (mw g qb qg qw cA τ') H1) (hk1 : ∀ q : Nat, q < H.size → ¬ mA g qb qg qw q → H1[q]? = H[q]?) (hS1 : va_S (gN s.heap.size) s.heap H1 locs1) : gH D h qm qr g qb qg qw qo cA cL s (u.1, τ', u.2.2) H1 locs1 := by
  have hin := g_inM hw
  obtain ⟨hP, hD, hS, hK⟩ := hw
  refine ⟨fun k q hk => ?_, vD_addr (ws := gw h qm qr g qb qg qw qo cA cL u) rfl hD, hS1, hK⟩
  rcases k with _ | _ | _ | _ | _ | _ | _ | _ | k
  · exact g_kept hP hD [3, 4, 5, 6] hin hk1 (k := 0) (by decide) hk
  · exact g_kept hP hD [3, 4, 5, 6] hin hk1 (k := 1) (by decide) hk
  · exact g_kept hP hD [3, 4, 5, 6] hin hk1 (k := 2) (by decide) hk
  · exact hP1 0 q hk
  · exact hP1 1 q hk
  · exact hP1 2 q hk
  · exact hP1 3 q hk
  · exact g_kept hP hD [3, 4, 5, 6] hin hk1 (k := 7) (by decide) hk
  · cases hk
theorem g_backL {v : XS × (Nat → Int64)} (hw : gH D h qm qr g qb qg qw qo cA cL s u H locs) (hP1 : va_P D vwCl (lwf h qm qr qo cA cL v) H1) (hk1 : ∀ q : Nat, q < H.size → ¬ lA h qm qr qo q → H1[q]? = H[q]?) (hS1 : va_S (gN s.heap.size) s.heap H1 locs1) : gH D h qm qr g qb qg qw qo cA cL s (v.1, u.2.1, v.2) H1 locs1 := by
  have hin := g_inL hw
  obtain ⟨hP, hD, hS, hK⟩ := hw
  refine ⟨fun k q hk => ?_, vD_addr (ws := gw h qm qr g qb qg qw qo cA cL u) rfl hD, hS1, hK⟩
  rcases k with _ | _ | _ | _ | _ | _ | _ | _ | k
  · exact hP1 0 q hk
  · exact hP1 1 q hk
  · exact hP1 2 q hk
  · exact g_kept hP hD [0, 1, 2, 7] hin hk1 (k := 3) (by decide) hk
  · exact g_kept hP hD [0, 1, 2, 7] hin hk1 (k := 4) (by decide) hk
  · exact g_kept hP hD [0, 1, 2, 7] hin hk1 (k := 5) (by decide) hk
  · exact g_kept hP hD [0, 1, 2, 7] hin hk1 (k := 6) (by decide) hk
  · exact hP1 3 q hk
  · cases hk
theorem z_calliC {S : Type} {cl : List vw_C} {wf : S → va_W} {A A0 : Nat → Prop} {tys : List (ClassId × FieldType)} {Ts : List Cond} {own CN : String} {b : Nat} {σ σ' : S} {r : Int32} {ci : Nat} {fs : List Value} {T : u_T} {N : Nat}
    (C : CallFix p m c cc nL s args Ts own) (hM : zMi l y ws rm D cl wf A tys (.ref b :: as) σ r σ') (cw : CallW R s args own CN index y bytes nL' ret ws rm 0 0 n) (hP : va_P D cl (wf σ) H) (hD : va_D A (wf σ)) (hK : va_K D cl tys s) (hS : va_S A0 s.heap H locs) (hA : ∀ q, A q → A0 q)
    (he : (wf σ)[0]? = some (b, .inr (ci, fs))) (hc : cl[ci]? = some (CN, T, N)) (hn : as.length = n) (hsz : ls.size = nL) (hst : st0 = as.reverse ++ .ref b :: rest) (hW : (rest.map fun v => v.category).sum ≤ 8) (hdg : decode cc pc = .ok (.invokevirtual index, 3)) (hcs : cells ≤ R.cells ∧ slots ≤ R.slots)
    (kk : ∀ (H1 : Heap) (locs1 : List Loc), va_P D cl (wf σ') H1 → va_D A (wf σ') → va_S A0 s.heap H1 locs1 → H.size ≤ H1.size → (∀ q : Nat, q < H.size → ¬ A q → H1[q]? = H[q]?) → W p l e R s m args below meth c H1 locs1 cells slots Q (F0 m (pc + 3) ls (.int r :: rest))) : W p l e R s m args below meth c H locs cells slots Q (F0 m pc ls st0) := by
  refine va_calli (va_runV (As := as) (rest := rest) C hM cw ⟨z_blind, va_recv hK hP hc he, fun U hU hW' => ⟨rfl, by rw [hU]; exact hP, va_K.moved hW'.alike hK, hD⟩⟩ rfl hn hsz hst (lv_room hW) hdg ⟨hcs.1, hcs.2⟩) hS (fun q _ h => hA q h) (fun q h => hA q h) (fun r' u t H1 locs1 ht hvm hr hB hz1 hk1 hS1 => ?_)
  obtain ⟨hP1, hK1, hD1⟩ := hB
  rw [ht] at hP1
  have hr : r' = r := hr
  subst hr
  exact kk H1 locs1 hP1 hD1 hS1 hz1 hk1
theorem g_calliX {σ' : XS} {r : Int32} (C : CallFix p m c cc nL s args wAll RL) (hM : xMi l y ws rm D h qm qr cA (.ref h :: as) u.1 r σ') (cw : CallW R s args RL RX index y bytes nL' ret ws rm 0 0 n) (hw : gH D h qm qr g qb qg qw qo cA cL s u H locs)
    (hn : as.length = n) (hsz : ls.size = nL) (hst : st0 = as.reverse ++ .ref h :: rest) (hW : (rest.map fun v => v.category).sum ≤ 8) (hdg : decode cc pc = .ok (.invokevirtual index, 3)) (hcs : cells ≤ R.cells ∧ slots ≤ R.slots)
    (kk : ∀ (H1 : Heap) (locs1 : List Loc), gH D h qm qr g qb qg qw qo cA cL s (σ', u.2) H1 locs1 → W p l e R s m args below meth c H1 locs1 cells slots Q (F0 m (pc + 3) ls (.int r :: rest))) : W p l e R s m args below meth c H locs cells slots Q (F0 m pc ls st0) := by
  obtain ⟨hP, hD, hK⟩ := g_partX hw
  exact z_calliC C hM cw hP hD hK hw.2.2.1 (g_sub hw.2.1 (g_inX hw)) rfl rfl hn hsz hst hW hdg hcs (fun H1 locs1 hP1 _ hS1 _ hk1 => kk H1 locs1 (g_backX hw hP1 hk1 hS1))
theorem g_callvX {σ' : XS} (C : CallFix p m c cc nL s args wAll RL) (hM : xMv l y ws rm D h qm qr cA (.ref h :: as) u.1 σ') (cw : CallW R s args RL RX index y bytes nL' ret ws rm 0 0 n) (hw : gH D h qm qr g qb qg qw qo cA cL s u H locs)
    (hn : as.length = n) (hsz : ls.size = nL) (hst : st0 = as.reverse ++ .ref h :: rest) (hW : (rest.map fun v => v.category).sum ≤ 8) (hdg : decode cc pc = .ok (.invokevirtual index, 3)) (hcs : cells ≤ R.cells ∧ slots ≤ R.slots)
    (kk : ∀ (H1 : Heap) (locs1 : List Loc), gH D h qm qr g qb qg qw qo cA cL s (σ', u.2) H1 locs1 → W p l e R s m args below meth c H1 locs1 cells slots Q (F0 m (pc + 3) ls rest)) : W p l e R s m args below meth c H locs cells slots Q (F0 m pc ls st0) := by
  obtain ⟨hP, hD, hK⟩ := g_partX hw
  exact z_callvC C hM cw hP hD hK hw.2.2.1 (g_sub hw.2.1 (g_inX hw)) rfl rfl hn hsz hst hW hdg hcs (fun H1 locs1 hP1 _ hS1 _ hk1 => kk H1 locs1 (g_backX hw hP1 hk1 hS1))
theorem g_calliM {τ' : MS} {r : Int32} (C : CallFix p m c cc nL s args wAll RL) (hM : mMi l y ws rm D g qb qg qw cA (.ref g :: as) u.2.1 r τ') (cw : CallW R s args RL RM index y bytes nL' ret ws rm 0 0 n) (hw : gH D h qm qr g qb qg qw qo cA cL s u H locs)
    (hn : as.length = n) (hsz : ls.size = nL) (hst : st0 = as.reverse ++ .ref g :: rest) (hW : (rest.map fun v => v.category).sum ≤ 8) (hdg : decode cc pc = .ok (.invokevirtual index, 3)) (hcs : cells ≤ R.cells ∧ slots ≤ R.slots)
    (kk : ∀ (H1 : Heap) (locs1 : List Loc), gH D h qm qr g qb qg qw qo cA cL s (u.1, τ', u.2.2) H1 locs1 → W p l e R s m args below meth c H1 locs1 cells slots Q (F0 m (pc + 3) ls (.int r :: rest))) : W p l e R s m args below meth c H locs cells slots Q (F0 m pc ls st0) := by
  obtain ⟨hP, hD, hK⟩ := g_partM hw
  exact z_calliC C hM cw hP hD hK hw.2.2.1 (g_sub hw.2.1 (g_inM hw)) rfl rfl hn hsz hst hW hdg hcs (fun H1 locs1 hP1 _ hS1 _ hk1 => kk H1 locs1 (g_backM hw hP1 hk1 hS1))
theorem g_callvM {τ' : MS} (C : CallFix p m c cc nL s args wAll RL) (hM : mMv l y ws rm D g qb qg qw cA (.ref g :: as) u.2.1 τ') (cw : CallW R s args RL RM index y bytes nL' ret ws rm 0 0 n) (hw : gH D h qm qr g qb qg qw qo cA cL s u H locs)
    (hn : as.length = n) (hsz : ls.size = nL) (hst : st0 = as.reverse ++ .ref g :: rest) (hW : (rest.map fun v => v.category).sum ≤ 8) (hdg : decode cc pc = .ok (.invokevirtual index, 3)) (hcs : cells ≤ R.cells ∧ slots ≤ R.slots)
    (kk : ∀ (H1 : Heap) (locs1 : List Loc), gH D h qm qr g qb qg qw qo cA cL s (u.1, τ', u.2.2) H1 locs1 → W p l e R s m args below meth c H1 locs1 cells slots Q (F0 m (pc + 3) ls rest)) : W p l e R s m args below meth c H locs cells slots Q (F0 m pc ls st0) := by
  obtain ⟨hP, hD, hK⟩ := g_partM hw
  exact z_callvC C hM cw hP hD hK hw.2.2.1 (g_sub hw.2.1 (g_inM hw)) rfl rfl hn hsz hst hW hdg hcs (fun H1 locs1 hP1 _ hS1 _ hk1 => kk H1 locs1 (g_backM hw hP1 hk1 hS1))
/-- what a static call of a method with a table takes -/
def CallSW (R : Room) (s : State) (args : Array Value) (own : String) (index : Nat) (y : MethodName) (bytes : ByteArray) (maxL : Nat) (ret : Option FieldType) (hh : List (Nat × Nat × Nat × Nat)) (ws : List Cond) (rm : Room) (mc ms n : Nat) : Prop :=
  (rm.cells = mc ∧ rm.slots = ms ∧ rm.frames + 1 ≤ R.frames ∧ 8 + (maxL + 11) + rm.locals ≤ R.locals ∧ (∀ w ∈ ws, ∀ (a' : Array Value) (U : State), s.WarmedH U.vm → w.before a' U = true) ∧ Cond.codeWith y bytes maxL ret hh ∈ ws) ∧
  (Cond.codeWith y bytes maxL ret hh).before args s = true ∧ (Cond.initialized y.cls).before args s = true ∧ (y.cls ≠ "java/lang/invoke/MethodHandle" ∧ y.cls ≠ "java/lang/invoke/VarHandle") ∧ (parseMethodDescriptor y.desc).map (fun d => d.parameters.length) = some n ∧ (Cond.methodLink own index y).before args s = true ∧ (Cond.static y).before args s = true
theorem cwSW {own : String} {hh : List (Nat × Nat × Nat × Nat)} (hts : ∀ w ∈ wAll, w.before args s = true) (h1 : Cond.methodLink own index y ∈ wAll) (h2 : Cond.static y ∈ wAll) (h3 : Cond.initialized y.cls ∈ wAll) (h4 : Cond.codeWith y bytes nL' ret hh ∈ wAll) (hd : y.cls ≠ "java/lang/invoke/MethodHandle" ∧ y.cls ≠ "java/lang/invoke/VarHandle" ∧ (parseMethodDescriptor y.desc).map (fun d => d.parameters.length) = some n) (hR : rm.frames + 1 ≤ R.frames ∧ 8 + (nL' + 11) + rm.locals ≤ R.locals) :
    CallSW R s args own index y bytes nL' ret hh (Cond.codeWith y bytes nL' ret hh :: wAll) rm rm.cells rm.slots n :=
  ⟨⟨rfl, rfl, hR.1, hR.2, pay_in hts (z_good wAll_good (fun w hw => by
    rcases List.mem_cons.mp hw with rfl | hw
    · exact h4
    · exact hw)), List.mem_cons_self⟩, hts _ h4, hts _ h3, ⟨hd.1, hd.2.1⟩, hd.2.2, hts _ h1, hts _ h2⟩
theorem run_SW {own : String} {hh : List (Nat × Nat × Nat × Nat)} {Ts : List Cond} {mc ms : Nat} {Pc : Array Value → State → Prop} {Qc : Array Value → State → Outcome → State → Prop} {free : Addr → Prop} {g0 : JFrame} (C : CallFix p m c cc nL s args Ts own) (hM : Met l y ws rm Pc Qc mc ms free) (cw : CallSW R s args own index y bytes nL' ret hh ws rm mc ms n) (hp : PreS s H Pc as)
    (hg : g0.method = m) (hn : as.length = n) (hsize : g0.locals.size = nL) (hstack : g0.stack = as.reverse ++ rest) (hW : 2 * g0.monitorRoom + (rest.map fun v => v.category).sum ≤ 8) (hdg : decode cc g0.pc = .ok (.invokestatic index, 3)) (hf : cells + mc ≤ R.cells ∧ slots + ms ≤ R.slots) :
    va_Run p l e R s m args below meth c H locs cells slots mc ms g0 rest (Qc as.toArray) free := by
  obtain ⟨⟨hrc, hrs, hfr, hlo, hws, hcw⟩, hcode, hini, hy, hlen, hl, hst⟩ := cw
  have hK : Back l R p e below s args y 3 8 (PreOf R mc ms Pc) (PostOf Qc mc ms free) := va_backW (bytes := bytes) (maxL := nL') (ret := ret) (hh := hh) hM hp.1 hrc hrs hfr hlo hws hcw (fun a' U hW => word_at hW (Or.inl (by first | rfl | simp [Cond.onTables, Cond.keeps, Cond.steady])) hini)
  obtain ⟨hx, hb, hml, ho, -⟩ := C
  intro T hT X
  obtain ⟨mk, methM, cM, hnamed, hmethM, -, -, -, -, -, -, hsigM⟩ := Cond.codeWith_spec hcode
  have hstatic : methM.isStatic = true := Cond.static_spec hnamed hmethM hst
  obtain ⟨kP, hkP, -⟩ := className_of_methodNamed hnamed
  have hinitP : kP.init = .initialized := Cond.initialized_spec (findClass_of_methodNamed hnamed) hkP hini
  have hln : as.length = methM.sig.parameters.length := by
    rw [hn]
    rw [hsigM] at hlen
    exact (Option.some.inj hlen).symm
  obtain ⟨vm₁, X₁, hstep₁⟩ := X.invokestatic hx ho hl hnamed hmethM hstatic hkP hinitP hy (g := g0) hg (argsL := as) (rest := rest) hln hstack (by rw [hb]; exact hdg)
  obtain ⟨v, ⟨U', l2, c2, s2⟩, X', ⟨g', mk', t, L, e1, e2, hq, h1, hL, h2, h3⟩, hsteps⟩ := hK m meth c ⟨T.setVm vm₁, locs, cells, slots⟩ { g0 with stack := rest } (.invokestatic index) mk as.toArray X₁ hg (hsize.trans hml.symm) (by rw [hb]; exact hdg) hW (X₁.named hnamed) ⟨hf.1, hf.2, hp.2 (T.setVm vm₁) hT X₁.warmed⟩
  dsimp only [Pt.U, Pt.locs, Pt.cells, Pt.slots] at X' e1 e2 h1 h2 h3 hsteps
  subst h1; subst h2; subst h3
  exact ⟨v, (T.setVm vm₁).calling g' mk' as.toArray, t, U', L, hT, X', hL, e1, e2, hq, fun target hh9 => hstep₁ _ fun acts => by rw [doInvoke_state]; exact hsteps.trans hh9⟩
theorem lw_blind {E : String} {av : List Value} {v : XS × (Nat → Int64)} : FrameBlind (va_Pc av (fun U => lP D h qm qr qo cA cL v U ∧ tz E (lA h qm qr qo) U U.heap)) := fun a U g mk q => by
  obtain ⟨q0, ⟨qP, qK, qD⟩, qz⟩ := q
  exact ⟨q0, ⟨qP, va_K.moved (u := U) (U := U.calling g mk a) (Vm.Alike.refl U.vm) qK, qD⟩, tz.moved (u := U) (U := U.calling g mk a) (Vm.Alike.refl U.vm) qz⟩
theorem g_calliL {E : String} {hh : List (Nat × Nat × Nat × Nat)} {K : Int32 × (XS × (Nat → Int64))} {av : List Value} (C : CallFix p m c cc nL s args wAll RL) (hM : lMW E l y ws rm D h qm qr qo cA cL av (u.1, u.2.2) K) (cw : CallSW R s args RL index y bytes nL' ret hh ws rm 1 6 n) (hw : gH D h qm qr g qb qg qw qo cA cL s u H locs) (htz : tz E (gN s.heap.size) s s.heap)
    (hn : av.length = n) (hsz : ls.size = nL) (hst : st0 = av.reverse ++ rest) (hW : (rest.map fun v => v.category).sum ≤ 8) (hdg : decode cc pc = .ok (.invokestatic index, 3)) (hcs : cells + 1 ≤ R.cells ∧ slots + 6 ≤ R.slots)
    (kk : ∀ (H1 : Heap) (locs1 : List Loc), gH D h qm qr g qb qg qw qo cA cL s (K.2.1, u.2.1, K.2.2) H1 locs1 → W p l e R s m args below meth c H1 locs1 (cells + 1) (slots + 6) Q (F0 m (pc + 3) ls (.int K.1 :: rest))) : W p l e R s m args below meth c H locs cells slots Q (F0 m pc ls st0) := by
  obtain ⟨hP, hD, hK⟩ := g_partL hw
  have hsub := g_sub hw.2.1 (g_inL hw)
  have hzH : tz E (lA h qm qr qo) s H := (htz.kept hw.2.2.1.2.1).narrow hsub
  refine va_calli (run_SW (as := av) (rest := rest) C hM cw ⟨lw_blind, fun U hU hW' => ⟨rfl, ⟨by rw [hU]; exact hP, va_K.moved hW'.alike hK, hD⟩, by rw [hU]; exact hzH.moved hW'.alike⟩⟩ rfl hn hsz hst (lv_room hW) hdg ⟨hcs.1, hcs.2⟩) hw.2.2.1 (fun q _ hq => hsub q hq) (fun q hq => hsub q hq) (fun r' _ t H1 locs1 ht hvm hr hB hz1 hk1 hS1 => ?_)
  obtain ⟨hP1, -, -⟩ := hB
  rw [ht] at hP1
  have hr : r' = K.1 := hr
  subst hr
  exact kk H1 locs1 (g_backL hw hP1 hk1 hS1)
end GA
