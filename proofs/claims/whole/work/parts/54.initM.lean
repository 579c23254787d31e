/-! the reference's constructor -/
def m0 : MS := mI (mB (fun _ => 0, fun _ => false, fun _ => 0, fun _ => 0, fun _ => 0) 7 true) 17 4
def m00 : List Value := [.int 0, .null, .null, .null, .int 0, .int 0, .int 0, .int 0, .int 0, .int 0, .int 0, .int 0, .int 0, .int 0, .int 0, .int 0, .int 0, .int 0, .int 0, .int 0, .int 0, .int 0, .int 0, .int 0, .int 0, .int 0, .int 0, .int 0, .int 0]
set_option maxRecDepth 100000 in
set_option maxHeartbeats 4000000 in
theorem cM_init (l : Launch) (D : va_G) (g sz : Nat) : Met l yM_init (.code yM_init bM_init 1 none :: wAll) { frames := 1, cells := 3, slots := 4232, locals := 12 } (va_Pc [.ref g] (fun U => U.heap.size = sz ∧ va_P D vwCl [(g, .inr (1, m00))] U.heap ∧ va_K D vwCl [] U ∧ va_D (fun _ => True) [(g, .inr (1, m00))])) (va_Qv (fun (_ : Nat × Nat × Nat × ClassId) => True) (fun u t => va_P D vwCl (mw g u.1 u.2.1 u.2.2.1 u.2.2.2 m0) t.heap ∧ va_K D vwCl [(u.2.2.2, .int)] t ∧ va_D (iA g sz) (mw g u.1 u.2.1 u.2.2.1 u.2.2.2 m0)) (iA g sz)) 3 4232 (iA g sz) := by
  refine Met.ofW (cc := bM_init) (maxL := 1) (ret := none) (by decide) rfl ?_
  intro p e s m args below meth c s₁ B hml hv
  obtain ⟨rfl, hsz, hP, hK, hD0⟩ := hv
  have hx := B.exec
  have hb := B.bytes
  have hr := B.returns
  have hts0 := atoms_spec (ws := (.code yM_init bM_init 1 none :: wAll)) B.pre
  have hts : ∀ w ∈ wAll, w.before ([Value.ref g] : List Value).toArray s = true := fun w q => hts0 w (List.mem_cons_of_mem _ q)
  have hown : s.vm.findClass RM = some m.cls := findClass_of_methodNamed B.named
  have hlocks := B.notSynchronized
  have hin : meth.name = "<init>" := (name_of_methodNamed B.named B.method).1
  subst hsz
  have hD : va_D (iA g s.heap.size) [(g, .inr (1, m00))] := hD0.weaken (fun k q hk _ => by
    rcases k with _ | k
    · obtain rfl := Option.some.inj hk; exact Or.inl rfl
    · cases hk)
  have hA : ∀ q : Nat, s.heap.size ≤ q → iA g s.heap.size q := fun q hq => Or.inr hq
  have hS : va_S (iA g s.heap.size) s.heap s.heap [] := va_S.rf
  have hl := lv_entry ([.ref g]) (n := 1) (Nat.le_of_ble_eq_true rfl)
  rw [lg_entry_eq]
  generalize (lg_sl ([.ref g]) ++ List.replicate (1 - (lg_sl ([.ref g])).length) Slot.unset).toArray = ls at hl ⊢
  have hl : lv_has ls 1 [(0, .ref g)] := hl
  refine lv_aload_n hx hb dM_init_0 rfl (lv_at hl 0 rfl) ?_
  refine W.objInit hx hb hown (hts _ (List.mem_append_right _ (List.mem_append_left _ (List.mem_append_left _ (List.mem_append_right _ (List.mem_append_left _ (List.mem_append_left _ (List.mem_of_getElem? (i := 6) rfl)))))))) (hts _ (List.mem_append_left _ (List.mem_append_left _ (List.mem_append_left _ (List.mem_append_left _ (List.mem_append_left _ (List.mem_append_right _ (List.mem_of_getElem? (i := 7) rfl)))))))) (hts _ (List.mem_append_left _ (List.mem_append_left _ (List.mem_append_left _ (List.mem_append_left _ (List.mem_append_right _ (List.mem_append_left _ (List.mem_of_getElem? (i := 0) rfl)))))))) rfl (by rw [hml]; exact hl.1) rfl dM_init_1 (Nat.le_of_ble_eq_true rfl) (Nat.le_of_ble_eq_true rfl) ?_
  refine W.eq (g2 := F0 m 4 ls []) rfl ?_
  refine lv_aload_n hx hb dM_init_4 rfl (lv_at hl 0 rfl) ?_
  refine lv_sipush (v := 4096) hx hb dM_init_5 (by decide) ?_
  refine z_newi 4096 hx hb (hts (Cond.arrayClass .int) (List.mem_append_left _ (List.mem_append_left _ (List.mem_append_left _ (List.mem_append_right _ (List.mem_append_left _ (List.mem_append_left _ (List.mem_of_getElem? (i := 4) rfl)))))))) hK hP hD hS hA (by decide +kernel) (by decide +kernel) (by decide +kernel) (Nat.le_of_ble_eq_true rfl) (Nat.le_of_ble_eq_true rfl) dM_init_8 (fun qb cA H hK hP hD hS => ?_)
  refine va_putF (D := D) (ci := 1) (v := .ref qb) (ty := .array .int) (C := RM) (T := TM) (N := 29) hx hb hts wM_in tyM tyM_ok nmM hown hK hP hD hS 0 rfl rfl 1 (by decide) (hts (Cond.fieldLink RM 7 "WindowCoreModel" "bytes" "[I") (List.mem_append_right _ (List.mem_append_left _ (List.mem_append_left _ (List.mem_append_right _ (List.mem_append_left _ (List.mem_append_right _ (List.mem_of_getElem? (i := 0) rfl)))))))) (fun _ h9 => h9) rfl hin rfl (by decide +kernel) rfl rfl (Nat.le_of_ble_eq_true rfl) dM_init_10 (fun H locs hP hD hS => ?_)
  refine lv_aload_n hx hb dM_init_13 rfl (lv_at hl 0 rfl) ?_
  refine lv_bipush (v := 8) hx hb dM_init_14 (by decide) ?_
  refine z_newi 8 hx hb (hts (Cond.arrayClass .int) (List.mem_append_left _ (List.mem_append_left _ (List.mem_append_left _ (List.mem_append_right _ (List.mem_append_left _ (List.mem_append_left _ (List.mem_of_getElem? (i := 4) rfl)))))))) hK hP hD hS hA (by decide +kernel) (by decide +kernel) (by decide +kernel) (Nat.le_of_ble_eq_true rfl) (Nat.le_of_ble_eq_true rfl) dM_init_16 (fun qg cB H hK hP hD hS => ?_)
  refine va_putF (D := D) (ci := 1) (v := .ref qg) (ty := .array .int) (C := RM) (T := TM) (N := 29) hx hb hts wM_in tyM tyM_ok nmM hown hK hP hD hS 0 rfl rfl 2 (by decide) (hts (Cond.fieldLink RM 13 "WindowCoreModel" "globals" "[I") (List.mem_append_right _ (List.mem_append_left _ (List.mem_append_left _ (List.mem_append_right _ (List.mem_append_left _ (List.mem_append_right _ (List.mem_of_getElem? (i := 1) rfl)))))))) (fun _ h9 => h9) rfl hin rfl (by decide +kernel) rfl rfl (Nat.le_of_ble_eq_true rfl) dM_init_18 (fun H locs hP hD hS => ?_)
  refine lv_aload_n hx hb dM_init_21 rfl (lv_at hl 0 rfl) ?_
  refine lv_sipush (v := 128) hx hb dM_init_22 (by decide) ?_
  refine z_newi 128 hx hb (hts (Cond.arrayClass .int) (List.mem_append_left _ (List.mem_append_left _ (List.mem_append_left _ (List.mem_append_right _ (List.mem_append_left _ (List.mem_append_left _ (List.mem_of_getElem? (i := 4) rfl)))))))) hK hP hD hS hA (by decide +kernel) (by decide +kernel) (by decide +kernel) (Nat.le_of_ble_eq_true rfl) (Nat.le_of_ble_eq_true rfl) dM_init_25 (fun qw cC H hK hP hD hS => ?_)
  refine va_putF (D := D) (ci := 1) (v := .ref qw) (ty := .array .int) (C := RM) (T := TM) (N := 29) hx hb hts wM_in tyM tyM_ok nmM hown hK hP hD hS 0 rfl rfl 3 (by decide) (hts (Cond.fieldLink RM 16 "WindowCoreModel" "windows" "[I") (List.mem_append_right _ (List.mem_append_left _ (List.mem_append_left _ (List.mem_append_right _ (List.mem_append_left _ (List.mem_append_right _ (List.mem_of_getElem? (i := 2) rfl)))))))) (fun _ h9 => h9) rfl hin rfl (by decide +kernel) rfl rfl (Nat.le_of_ble_eq_true rfl) dM_init_27 (fun H locs hP hD hS => ?_)
  obtain rfl := cA_one hK (i := 0) (j := 1) rfl rfl
  obtain rfl := cA_one hK (i := 0) (j := 2) rfl rfl
  have hw : zH D vwCl (mw g qb qg qw cA) (iA g s.heap.size) [(cA, .int)] s (fun _ => 0, fun _ => false, fun _ => 0, fun _ => 0, fun _ => 0) H locs := ⟨hP, hD, hS, hK.sub [0] rfl⟩
  refine lv_aload_n hx hb dM_init_30 rfl (lv_at hl 0 rfl) ?_
  refine lv_iconst (v := 1) hx hb dM_init_31 (by decide) ?_
  refine va_put (D := D) (ci := 1) (v := .int (bI true)) (ty := .boolean) (C := RM) (T := TM) (N := 29) hx hb hts wM_in tyM tyM_ok nmM hown hw.2.2.2 hw.1 hw.2.1 hw.2.2.1 0 rfl rfl 7 (by decide) (hts (Cond.fieldLink RM 19 "WindowCoreModel" "kernel" "Z") (List.mem_append_right _ (List.mem_append_left _ (List.mem_append_left _ (List.mem_append_right _ (List.mem_append_left _ (List.mem_append_right _ (List.mem_of_getElem? (i := 6) rfl)))))))) (fun _ h9 => h9) rfl (by decide +kernel) (bI_nar true) (bI_fit true) (Nat.le_of_ble_eq_true rfl) dM_init_32 (fun H locs hP hD hS => ?_)
  have hw : zH D vwCl (mw g qb qg qw cA) (iA g s.heap.size) [(cA, .int)] s (mB (fun _ => 0, fun _ => false, fun _ => 0, fun _ => 0, fun _ => 0) 7 true) H locs := ⟨hP, hD, hS, hw.2.2.2⟩
  refine lv_aload_n hx hb dM_init_35 rfl (lv_at hl 0 rfl) ?_
  refine lv_iconst (v := 4) hx hb dM_init_36 (by decide) ?_
  refine va_put (D := D) (ci := 1) (v := .int 4) (ty := .int) (C := RM) (T := TM) (N := 29) hx hb hts wM_in tyM tyM_ok nmM hown hw.2.2.2 hw.1 hw.2.1 hw.2.2.1 0 rfl rfl 17 (by decide) (hts (Cond.fieldLink RM 23 "WindowCoreModel" "next" "I") (List.mem_append_right _ (List.mem_append_left _ (List.mem_append_left _ (List.mem_append_right _ (List.mem_append_right _ (List.mem_append_right _ (List.mem_append_left _ (List.mem_of_getElem? (i := 0) rfl))))))))) (fun _ h9 => h9) rfl (by decide +kernel) rfl rfl (Nat.le_of_ble_eq_true rfl) dM_init_37 (fun H locs hP hD hS => ?_)
  have hw : zH D vwCl (mw g qb qg qw cA) (iA g s.heap.size) [(cA, .int)] s m0 H locs := ⟨hP, hD, hS, hw.2.2.2⟩
  obtain ⟨hP, hD, hS, hK⟩ := hw
  refine W.widen (k := 3) (n := 4232) (by decide) (by decide) ?_
  exact W.vret hx hb hr (fun t ht hW => ⟨⟨(qb, qg, qw, cA), rfl, trivial, by rw [ht]; exact hP, va_K.moved hW.alike hK, hD⟩, hS.F ht⟩) hS.2.2 dM_init_40
