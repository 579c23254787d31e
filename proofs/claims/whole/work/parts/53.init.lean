/-! the two constructors -/
def x0s : XS := (fun _ => 0, fun _ => false, fun _ => 0, fun _ => 0)
def x0 : XS := kX_begin x0s
def x00 : List Value := [.null, .null, .int 0, .int 0, .int 0, .int 0, .int 0, .int 0, .int 0, .int 0, .int 0, .int 0]
def iA (h sz : Nat) (q : Nat) : Prop := q = h ∨ sz ≤ q
theorem cA_one {D : va_G} {cl : List vw_C} {tys : List (ClassId × FieldType)} {s : State} {i j : Nat} {a b : ClassId} (hK : va_K D cl tys s) (hi : tys[i]? = some (a, .int)) (hj : tys[j]? = some (b, .int)) : a = b := by
  have h1 : s.vm.findClass ("[" ++ (FieldType.int).toString) = some a := (hK.2 i _ hi).2
  have h2 : s.vm.findClass ("[" ++ (FieldType.int).toString) = some b := (hK.2 j _ hj).2
  exact Option.some.inj (h1.symm.trans h2)
theorem z_newi {p : Program} {l : Launch} {e : Env} {R : Room} {s : State} {m : MethodId} {args : Array Value} {below : List Frame} {meth : Method} {c : Code} {H H0 : Heap} {locs : List Loc} {cells slots : Nat} {Q : State → Prop} {D : va_G} {cl : List vw_C} {A : Nat → Prop} {tys : List (ClassId × FieldType)} {ws : va_W} {cc : ByteArray} {pc : Nat} {ls : Array Slot} {rest : List Value}
    (N : Nat) (hexec : p.tables.exec = Jvm.exec) (hb : c.code = cc) (harr : (Cond.arrayClass .int).before args s = true) (hK : va_K D cl tys s) (hP : va_P D cl ws H) (hD : va_D A ws) (hS : va_S A H0 H locs) (hA : ∀ q, H0.size ≤ q → A q) {n : Int32} (hn : ¬ n < 0) (hN : n.toNatClampNeg = N) (hbytes : N * componentBytes .int ≤ 536870912) (hcells : cells + 1 ≤ R.cells) (hslots : slots + N ≤ R.slots) (hdg : decode cc pc = .ok (.newarray .int, 2))
    (kk : ∀ (q : Nat) (cA : ClassId) (H1 : Heap), va_K D cl (tys ++ [(cA, .int)]) s → va_P D cl (ws ++ [(q, .inl (cA, N, .inl (fun _ => 0)))]) H1 → va_D A (ws ++ [(q, .inl (cA, N, .inl (fun _ => 0)))]) → va_S A H0 H1 locs →
      W p l e R s m args below meth c H1 locs (cells + 1) (slots + N) Q (F0 m (pc + 2) ls (.ref q :: rest))) : W p l e R s m args below meth c H locs cells slots Q (F0 m pc ls (.int n :: rest)) :=
  va_newa (atype := .int) (ty := .int) (N' := N) (a0 := (N, .inl (fun _ => 0))) hexec hb harr rfl hK hP hD hS hA (fun cA => rfl) hn hN hbytes hcells hslots hdg kk
theorem z_callvC {p : Program} {l : Launch} {e : Env} {R : Room} {s : State} {m : MethodId} {args : Array Value} {below : List Frame} {meth : Method} {c : Code} {H : Heap} {locs : List Loc} {cells slots : Nat} {Q : State → Prop}
    {S : Type} {D : va_G} {cl : List vw_C} {wf : S → va_W} {A A0 : Nat → Prop} {tys : List (ClassId × FieldType)} {cc bytes : ByteArray} {nL nL' index n pc : Nat} {Ts ws : List Cond} {own CN : String} {y : MethodName} {rm : Room} {ret : Option FieldType} {rest st0 : List Value} {b : Nat} {ls : Array Slot} {σ σ' : S} {as : List Value} {ci : Nat} {fs : List Value} {T : u_T} {N : Nat}
    (C : CallFix p m c cc nL s args Ts own) (hM : zMv l y ws rm D cl wf A tys (.ref b :: as) σ σ') (cw : CallW R s args own CN index y bytes nL' ret ws rm 0 0 n) (hP : va_P D cl (wf σ) H) (hD : va_D A (wf σ)) (hK : va_K D cl tys s) (hS : va_S A0 s.heap H locs) (hA : ∀ q, A q → A0 q)
    (he : (wf σ)[0]? = some (b, .inr (ci, fs))) (hc : cl[ci]? = some (CN, T, N)) (hn : as.length = n) (hsz : ls.size = nL) (hst : st0 = as.reverse ++ .ref b :: rest) (hW : (rest.map fun v => v.category).sum ≤ 8) (hdg : decode cc pc = .ok (.invokevirtual index, 3)) (hcs : cells ≤ R.cells ∧ slots ≤ R.slots)
    (kk : ∀ (H1 : Heap) (locs1 : List Loc), va_P D cl (wf σ') H1 → va_D A (wf σ') → va_S A0 s.heap H1 locs1 → H.size ≤ H1.size → (∀ q : Nat, q < H.size → ¬ A q → H1[q]? = H[q]?) → W p l e R s m args below meth c H1 locs1 cells slots Q (F0 m (pc + 3) ls rest)) : W p l e R s m args below meth c H locs cells slots Q (F0 m pc ls st0) := by
  refine va_callv (va_runV (As := as) (rest := rest) C hM cw ⟨z_blind, va_recv hK hP hc he, fun U hU hW' => ⟨rfl, by rw [hU]; exact hP, va_K.moved hW'.alike hK, hD⟩⟩ rfl hn hsz hst (lv_room hW) hdg ⟨hcs.1, hcs.2⟩) hS (fun q _ h => hA q h) (fun q h => hA q h) (fun u t H1 locs1 ht hvm hr hB hz1 hk1 hS1 => ?_)
  obtain ⟨hP1, hK1, hD1⟩ := hB
  rw [ht] at hP1
  exact kk H1 locs1 hP1 hD1 hS1 hz1 hk1
set_option maxRecDepth 100000 in
set_option maxHeartbeats 4000000 in
theorem cX_init (l : Launch) (D : va_G) (h sz : Nat) : Met l yX_init (.code yX_init bX_init 1 none :: wAll) { frames := 2, cells := 2, slots := 1160, locals := 43 } (va_Pc [.ref h] (fun U => U.heap.size = sz ∧ va_P D vwCl [(h, .inr (0, x00))] U.heap ∧ va_K D vwCl [] U ∧ va_D (fun _ => True) [(h, .inr (0, x00))])) (va_Qv (fun (_ : Nat × Nat × ClassId) => True) (fun u t => va_P D vwCl (xw h u.1 u.2.1 u.2.2 x0) t.heap ∧ va_K D vwCl [(u.2.2, .int)] t ∧ va_D (iA h sz) (xw h u.1 u.2.1 u.2.2 x0)) (iA h sz)) 2 1160 (iA h sz) := by
  refine Met.ofW (cc := bX_init) (maxL := 1) (ret := none) (by decide) rfl ?_
  intro p e s m args below meth c s₁ B hml hv
  obtain ⟨rfl, hsz, hP, hK, hD0⟩ := hv
  have hx := B.exec
  have hb := B.bytes
  have hr := B.returns
  have hts0 := atoms_spec (ws := (.code yX_init bX_init 1 none :: wAll)) B.pre
  have hts : ∀ w ∈ wAll, w.before ([Value.ref h] : List Value).toArray s = true := fun w q => hts0 w (List.mem_cons_of_mem _ q)
  have hown : s.vm.findClass RX = some m.cls := findClass_of_methodNamed B.named
  have hlocks := B.notSynchronized
  have hin : meth.name = "<init>" := (name_of_methodNamed B.named B.method).1
  subst hsz
  have hD : va_D (iA h s.heap.size) [(h, .inr (0, x00))] := hD0.weaken (fun k q hk _ => by
    rcases k with _ | k
    · obtain rfl := Option.some.inj hk; exact Or.inl rfl
    · cases hk)
  have hA : ∀ q : Nat, s.heap.size ≤ q → iA h s.heap.size q := fun q hq => Or.inr hq
  have hS : va_S (iA h s.heap.size) s.heap s.heap [] := va_S.rf
  have hl := lv_entry ([.ref h]) (n := 1) (Nat.le_of_ble_eq_true rfl)
  rw [lg_entry_eq]
  generalize (lg_sl ([.ref h]) ++ List.replicate (1 - (lg_sl ([.ref h])).length) Slot.unset).toArray = ls at hl ⊢
  have hl : lv_has ls 1 [(0, .ref h)] := hl
  refine lv_aload_n hx hb dX_init_0 rfl (lv_at hl 0 rfl) ?_
  refine W.objInit hx hb hown (hts _ (List.mem_append_left _ (List.mem_append_left _ (List.mem_append_left _ (List.mem_append_left _ (List.mem_append_left _ (List.mem_append_right _ (List.mem_of_getElem? (i := 6) rfl)))))))) (hts _ (List.mem_append_left _ (List.mem_append_left _ (List.mem_append_left _ (List.mem_append_left _ (List.mem_append_left _ (List.mem_append_right _ (List.mem_of_getElem? (i := 7) rfl)))))))) (hts _ (List.mem_append_left _ (List.mem_append_left _ (List.mem_append_left _ (List.mem_append_left _ (List.mem_append_right _ (List.mem_append_left _ (List.mem_of_getElem? (i := 0) rfl)))))))) rfl (by rw [hml]; exact hl.1) rfl dX_init_1 (Nat.le_of_ble_eq_true rfl) (Nat.le_of_ble_eq_true rfl) ?_
  refine W.eq (g2 := F0 m 4 ls []) rfl ?_
  refine lv_aload_n hx hb dX_init_4 rfl (lv_at hl 0 rfl) ?_
  refine lv_sipush (v := 1024) hx hb dX_init_5 (by decide) ?_
  refine z_newi 1024 hx hb (hts (Cond.arrayClass .int) (List.mem_append_left _ (List.mem_append_left _ (List.mem_append_left _ (List.mem_append_right _ (List.mem_append_left _ (List.mem_append_left _ (List.mem_of_getElem? (i := 4) rfl)))))))) hK hP hD hS hA (by decide +kernel) (by decide +kernel) (by decide +kernel) (Nat.le_of_ble_eq_true rfl) (Nat.le_of_ble_eq_true rfl) dX_init_8 (fun qm cA H hK hP hD hS => ?_)
  refine va_putF (D := D) (ci := 0) (v := .ref qm) (ty := .array .int) (C := RX) (T := TX) (N := 12) hx hb hts wX_in tyX tyX_ok nmX hown hK hP hD hS 0 rfl rfl 0 (by decide) (hts (Cond.fieldLink RX 9 "WindowCore" "memory" "[I") (List.mem_append_left _ (List.mem_append_left _ (List.mem_append_left _ (List.mem_append_left _ (List.mem_append_right _ (List.mem_append_left _ (List.mem_of_getElem? (i := 7) rfl)))))))) (fun _ h9 => h9) rfl hin rfl (by decide +kernel) rfl rfl (Nat.le_of_ble_eq_true rfl) dX_init_10 (fun H locs hP hD hS => ?_)
  refine lv_aload_n hx hb dX_init_13 rfl (lv_at hl 0 rfl) ?_
  refine lv_sipush (v := 136) hx hb dX_init_14 (by decide) ?_
  refine z_newi 136 hx hb (hts (Cond.arrayClass .int) (List.mem_append_left _ (List.mem_append_left _ (List.mem_append_left _ (List.mem_append_right _ (List.mem_append_left _ (List.mem_append_left _ (List.mem_of_getElem? (i := 4) rfl)))))))) hK hP hD hS hA (by decide +kernel) (by decide +kernel) (by decide +kernel) (Nat.le_of_ble_eq_true rfl) (Nat.le_of_ble_eq_true rfl) dX_init_17 (fun qr cB H hK hP hD hS => ?_)
  refine va_putF (D := D) (ci := 0) (v := .ref qr) (ty := .array .int) (C := RX) (T := TX) (N := 12) hx hb hts wX_in tyX tyX_ok nmX hown hK hP hD hS 0 rfl rfl 1 (by decide) (hts (Cond.fieldLink RX 13 "WindowCore" "registers" "[I") (List.mem_append_left _ (List.mem_append_left _ (List.mem_append_left _ (List.mem_append_left _ (List.mem_append_right _ (List.mem_append_right _ (List.mem_of_getElem? (i := 0) rfl)))))))) (fun _ h9 => h9) rfl hin rfl (by decide +kernel) rfl rfl (Nat.le_of_ble_eq_true rfl) dX_init_19 (fun H locs hP hD hS => ?_)
  obtain rfl := cA_one hK (i := 0) (j := 1) rfl rfl
  have hP : va_P D vwCl (xw h qm qr cA x0s) H := hP
  have hD : va_D (iA h s.heap.size) (xw h qm qr cA x0s) := hD
  have hK : va_K D vwCl [(cA, .int)] s := hK.sub [0] rfl
  have hDx : va_D (xA h qm qr) (xw h qm qr cA x0s) := hD.weaken (fun k q hk _ => by
    rcases k with _ | _ | _ | k
    · obtain rfl := Option.some.inj hk; exact Or.inl rfl
    · obtain rfl := Option.some.inj hk; exact Or.inr (Or.inl rfl)
    · obtain rfl := Option.some.inj hk; exact Or.inr (Or.inr rfl)
    · cases hk)
  have hxA : ∀ q, xA h qm qr q → iA h s.heap.size q := fun q hq => by
    rcases hq with rfl | rfl | rfl
    · exact hD.2 0 _ rfl
    · exact hD.2 1 _ rfl
    · exact hD.2 2 _ rfl
  refine lv_aload_n hx hb dX_init_22 rfl (lv_at hl 0 rfl) ?_
  refine z_callvC ⟨hx, hb, hml, hown, hts⟩ (cX_begin l D h qm qr cA x0s) (qX_begin hts ⟨Nat.le_of_ble_eq_true rfl, Nat.le_of_ble_eq_true rfl⟩) hP hDx hK hS hxA rfl rfl rfl hl.1 rfl (Nat.le_of_ble_eq_true rfl) dX_init_23 ⟨by decide, by decide⟩ (fun H locs hP hD1 hS _ _ => ?_)
  refine W.widen (k := 2) (n := 1160) (by decide) (by decide) ?_
  exact W.vret hx hb hr (fun t ht hW => ⟨⟨(qm, qr, cA), rfl, trivial, by rw [ht]; exact hP, va_K.moved hW.alike hK, hD1.weaken (fun k q hk hq => hxA _ hq)⟩, hS.F ht⟩) hS.2.2 dX_init_26
