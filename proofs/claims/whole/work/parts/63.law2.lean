/-! the law's loop and its beginning, over the pure facts (Pure Rel) -/
set_option maxRecDepth 100000 in
set_option maxHeartbeats 4000000 in
theorem law_loop {Rel : XS → MS → Prop} (P : Pure Rel) {p : Program} {e : Env} {s : State} {m : MethodId} {below : List Frame} {meth : Method} {c : Code} (l : Launch) (hst : l.stackTraces = false) {b L : Nat} {xs : Nat → Int32} (hL : L ≤ 2048) (C : CallFix p m c bL_law 7 s #[Value.ref b] wAll RL) (hR : meth.sig.returnType = ret) (hlk : meth.locks = false) (hX : va_X b L xs s s.heap) (hbl : b < s.heap.size) (hzn : tz nsE (gN s.heap.size) s s.heap) (hzi : tz iaE (gN s.heap.size) s s.heap) (D : va_G) (h qm qr g qb qg qw qo : Nat) (cA cL : ClassId) (n : Nat) :
    ∀ (j : Nat), L / 4 + 1 - j ≤ n → 4 * j ≤ L → ∀ (ls : Array Slot) (H : Heap) (locs : List Loc) (cells slots : Nat) (u : GS), cells ≤ 8 + j → slots ≤ 5434 + 6 * j → Rel u.1 u.2.1 → lv_has ls 7 [(0, .ref b), (1, .ref h), (2, .ref g), (3, .ref qo), (4, .int (nI (4 * j)))] → gH D h qm qr g qb qg qw qo cA cL s u H locs → W p l e room_1 s m #[Value.ref b] below meth c H locs cells slots (lw_Z below #[Value.ref b] s) (F0 m 23 ls []) := by
  have hx := C.1
  have hb := C.2.1
  have hbA : ¬ gN s.heap.size b := Nat.not_le.mpr hbl
  induction n with
  | zero => intro j hn hj; omega
  | succ n ih =>
  intro j hn hj ls H locs cells slots u hc hs hr hl hw
  refine lv_iload hx hb dL_law_23 (lv_at hl 4 rfl) ?_
  refine lv_aload_n hx hb dL_law_25 rfl (lv_at hl 0 rfl) ?_
  refine va_slen hx hb hX hbl hbA hw.2.2.1 dL_law_26 ?_
  refine lv_iconst (v := 4) hx hb dL_law_27 (by decide) ?_
  refine lv_isub hx hb dL_law_28 ?_
  refine lv_icmp_gt (tgt := 630) hx hb dL_law_29 (by decide) (fun h_29 => ?_) (fun h_29 => ?_)
  · refine lv_iconst (v := 1) hx hb dL_law_630 (by decide) ?_
    refine va_forget (fun q hq => hw.2.2.1.2.2 q hq) ?_
    refine W.widen (k := 1040) (n := 13674) (by omega) (by omega) ?_
    exact lw_ret hx hb hR hlk dL_law_631
  · have hj4 := law_lt hL hj h_29
    have cont : ∀ (ls : Array Slot) (H : Heap) (locs : List Loc) (cells slots : Nat) (u : GS), cells ≤ 8 + (j + 1) → slots ≤ 5434 + 6 * (j + 1) → Rel u.1 u.2.1 → lv_has ls 7 [(0, .ref b), (1, .ref h), (2, .ref g), (3, .ref qo), (4, .int (nI (4 * j)))] → gH D h qm qr g qb qg qw qo cA cL s u H locs → W p l e room_1 s m #[Value.ref b] below meth c H locs cells slots (lw_Z below #[Value.ref b] s) (F0 m 624 ls []) := by
      intro ls H locs cells slots u hc hs hr hl hw
      refine lv_iinc (v := nI (4 * (j + 1))) (lv' := [(4, .int (nI (4 * (j + 1)))), (0, .ref b), (1, .ref h), (2, .ref g), (3, .ref qo)]) (k := 4) hx hb dL_law_624 hl rfl (law_nx j) (by decide) rfl (fun ls hl => ?_)
      refine lv_goto (tgt := 23) hx hb dL_law_627 (by decide) ?_
      exact ih (j + 1) (by omega) (by omega) _ _ _ _ _ u hc hs hr (lv_sub hl [1, 2, 3, 4, 0] rfl) hw
    refine lv_aload_n hx hb dL_law_32 rfl (lv_at hl 0 rfl) ?_
    refine lv_iload hx hb dL_law_33 (lv_at hl 4 rfl) ?_
    refine va_sld hx hb hX hbl hbA hw.2.2.1 (law_in0 hL hj4) dL_law_35 ?_
    refine lv_bipush (v := 15) hx hb dL_law_36 (by decide) ?_
    refine lv_iand hx hb dL_law_38 ?_
    refine lv_topi (fun k _ => ?_)
    by_cases h0 : k = 0
    · refine z_tsC (tgt := 92) hx hb dL_law_39 h0 (by decide) (by decide) rfl (by decide) ?_
      exact law_reset P l hst hL C hX hbl hzn hzi D h qm qr g qb qg qw qo cA cL hj4 cont hc hs hr hl hw
    by_cases h1 : k = 1
    · refine z_tsC (tgt := 103) hx hb dL_law_39 h1 (by decide) (by decide) rfl (by decide) ?_
      exact law_put P l hst hL C hX hbl hzn hzi D h qm qr g qb qg qw qo cA cL hj4 cont hc hs hr hl hw
    by_cases h2 : k = 2
    · refine z_tsC (tgt := 171) hx hb dL_law_39 h2 (by decide) (by decide) rfl (by decide) ?_
      exact law_word P l hst hL C hX hbl hzn hzi D h qm qr g qb qg qw qo cA cL hj4 cont hc hs hr hl hw
    by_cases h3 : k = 3
    · refine z_tsC (tgt := 227) hx hb dL_law_39 h3 (by decide) (by decide) rfl (by decide) ?_
      exact law_set P l hst hL C hX hbl hzn hzi D h qm qr g qb qg qw qo cA cL hj4 cont hc hs hr hl hw
    by_cases h4 : k = 4
    · refine z_tsC (tgt := 307) hx hb dL_law_39 h4 (by decide) (by decide) rfl (by decide) ?_
      exact law_register P l hst hL C hX hbl hzn hzi D h qm qr g qb qg qw qo cA cL hj4 cont hc hs hr hl hw
    by_cases h5 : k = 5
    · refine z_tsC (tgt := 375) hx hb dL_law_39 h5 (by decide) (by decide) rfl (by decide) ?_
      exact law_control P l hst hL C hX hbl hzn hzi D h qm qr g qb qg qw qo cA cL hj4 cont hc hs hr hl hw
    by_cases h6 : k = 6
    · refine z_tsC (tgt := 443) hx hb dL_law_39 h6 (by decide) (by decide) rfl (by decide) ?_
      exact law_request P l hst hL C hX hbl hzn hzi D h qm qr g qb qg qw qo cA cL hj4 cont hc hs hr hl hw
    by_cases h7 : k = 7
    · refine z_tsC (tgt := 499) hx hb dL_law_39 h7 (by decide) (by decide) rfl (by decide) ?_
      exact law_step P l hst hL C hX hbl hzn hzi D h qm qr g qb qg qw qo cA cL hj4 cont hc hs hr hl hw
    by_cases h8 : k = 8
    · refine z_tsC (tgt := 512) hx hb dL_law_39 h8 (by decide) (by decide) rfl (by decide) ?_
      exact law_run P l hst hL C hX hbl hzn hzi D h qm qr g qb qg qw qo cA cL hj4 cont hc hs hr hl hw
    by_cases h9 : k = 9
    · refine z_tsC (tgt := 568) hx hb dL_law_39 h9 (by decide) (by decide) rfl (by decide) ?_
      exact law_look P l hst hL C hX hbl hzn hzi D h qm qr g qb qg qw qo cA cL hj4 cont hc hs hr hl hw
    refine z_tsD (tgt := 624) (xs := [(0 : Int32), 1, 2, 3, 4, 5, 6, 7, 8, 9]) hx hb dL_law_39 (by simp only [List.forall_mem_cons, List.not_mem_nil, false_imp_iff, implies_true, and_true]; exact ⟨h0, h1, h2, h3, h4, h5, h6, h7, h8, h9⟩) (by decide) (by decide) ?_
    exact cont _ _ _ _ _ u (by omega) (by omega) hr hl hw
theorem tz_of {E : String} {s : State} {args : Array Value} (hts : ∀ w ∈ lw_tbl, w.before args s = true) (hgv : (Jvm.Cond.and given_1 narrow_1).before args s = true) (hE : Cond.castable E E ∈ lw_tbl) : tz E (gN s.heap.size) s s.heap := by
  have hs := flat_of_before _ hgv
  have hA : ∀ a : Nat, a < s.heap.size → ¬ gN s.heap.size a := fun a ha => Nat.not_le.mpr ha
  have hi := hts (Cond.initialized Bundle.tN) (by decide +kernel)
  have l1 := hts (Cond.laysStatic Bundle.tN "UNASSIGNED_STACK" Bundle.steD) (by decide +kernel)
  have l2 := hts (Cond.laysStatic Bundle.tN "SUPPRESSED_SENTINEL" Bundle.listD) (by decide +kernel)
  exact ⟨⟨va_Nw.of rfl (hts _ hE), va_Nw.of rfl (hts (Cond.declares (Bundle.init0 "java/lang/RuntimeException")) (by decide +kernel)), va_Nw.of rfl (hts (Cond.declares (Bundle.init0 "java/lang/Exception")) (by decide +kernel)), va_Nw.of rfl (hts (Cond.declares (Bundle.init0 Bundle.tN)) (by decide +kernel))⟩,
    ⟨va_Zqof l1 hi (hs (Cond.isRef (.static Bundle.tN "UNASSIGNED_STACK" Bundle.steD)) (by decide +kernel)) hA, tL.of l1 hA⟩, va_Zqof l2 hi (hs (Cond.isRef (.static Bundle.tN "SUPPRESSED_SENTINEL" Bundle.listD)) (by decide +kernel)) hA, tL.of l2 hA⟩
theorem cast_ns : Cond.castable nsE nsE ∈ lw_tbl := by decide +kernel
theorem cast_ia : Cond.castable iaE iaE ∈ lw_tbl := by decide +kernel
theorem goodX_init : GoodIn wAll (Cond.code yX_init bX_init 1 none :: wAll) := z_good wAll_good (fun w hw => by
  rcases List.mem_cons.mp hw with rfl | hw
  · exact (List.mem_append_left _ (List.mem_append_left _ (List.mem_append_left _ (List.mem_append_left _ (List.mem_append_left _ (List.mem_append_right _ (List.mem_of_getElem? (i := 5) rfl)))))))
  · exact hw)
theorem goodM_init : GoodIn wAll (Cond.code yM_init bM_init 1 none :: wAll) := z_good wAll_good (fun w hw => by
  rcases List.mem_cons.mp hw with rfl | hw
  · exact (List.mem_append_right _ (List.mem_append_left _ (List.mem_append_left _ (List.mem_append_right _ (List.mem_append_left _ (List.mem_append_left _ (List.mem_of_getElem? (i := 5) rfl)))))))
  · exact hw)
theorem i_blind {D : va_G} {av : List Value} {sz : Nat} {ws : va_W} {A : Nat → Prop} : FrameBlind (va_Pc av (fun U => U.heap.size = sz ∧ va_P D vwCl ws U.heap ∧ va_K D vwCl [] U ∧ va_D A ws)) := fun a U g mk q => by
  obtain ⟨q0, q1, qP, qK, qD⟩ := q
  exact ⟨q0, q1, qP, va_K.moved (u := U) (U := U.calling g mk a) (Vm.Alike.refl U.vm) qK, qD⟩
theorem x00_ok : ∀ j, j < 12 → defaultValue (tyX j) = vp_V x00 j := by
  intro j hj
  rcases j with _ | _ | _ | _ | _ | _ | _ | _ | _ | _ | _ | _ | j
  all_goals first | rfl | omega
theorem m00_ok : ∀ j, j < 29 → defaultValue (tyM j) = vp_V m00 j := by
  intro j hj
  rcases j with _ | _ | _ | _ | _ | _ | _ | _ | _ | _ | _ | _ | _ | _ | _ | _ | _ | _ | _ | _ | _ | _ | _ | _ | _ | _ | _ | _ | _ | j
  all_goals first | rfl | omega
set_option maxRecDepth 100000 in
set_option maxHeartbeats 4000000 in
theorem whole_open {Rel : XS → MS → Prop} (P : Pure Rel) {p : Program} {e : Env} {s : State} {m : MethodId} {below : List Frame} {meth : Method} {c : Code} (l : Launch) (hst : l.stackTraces = false) {b L : Nat} {xs : Nat → Int32} (hL : L ≤ 2048) (C0 : lw_At p s m meth c b L xs) (hwt : ∀ w ∈ wAll, w ∈ lw_tbl) : W p l e room_1 s m #[Value.ref b] below meth c s.heap [] 0 0 (lw_Z below #[Value.ref b] s) (entryFrame m ([Value.ref b] : List Value).toArray 7) := by
  obtain ⟨hx, hb, hR, hml, hown, htsl, hX, hbl, hlk, hgv⟩ := C0
  have hts : ∀ w ∈ wAll, w.before #[Value.ref b] s = true := fun w hw => htsl w (hwt w hw)
  have C : CallFix p m c bL_law 7 s #[Value.ref b] wAll RL := ⟨hx, hb, hml, hown, hts⟩
  have hzn := tz_of htsl hgv cast_ns
  have hzi := tz_of htsl hgv cast_ia
  obtain ⟨c0, i0, k0⟩ := u_known (C := RX) (T := TX) (N := 12) (n := 12) hts wX_in (hts _ (List.mem_append_left _ (List.mem_append_left _ (List.mem_append_left _ (List.mem_append_left _ (List.mem_append_left _ (List.mem_append_right _ (List.mem_of_getElem? (i := 2) rfl))))))))
  obtain ⟨c1, i1, k1⟩ := u_known (C := RM) (T := TM) (N := 29) (n := 29) hts wM_in (hts _ (List.mem_append_right _ (List.mem_append_left _ (List.mem_append_left _ (List.mem_append_right _ (List.mem_append_left _ (List.mem_append_left _ (List.mem_of_getElem? (i := 2) rfl))))))))
  obtain ⟨D, hD0, hD1⟩ : ∃ D : va_G, (D.1 0 = c0 ∧ D.2 0 = i0) ∧ (D.1 1 = c1 ∧ D.2 1 = i1) := ⟨(fun k => if k = 0 then c0 else c1, fun k => if k = 0 then i0 else i1), ⟨rfl, rfl⟩, rfl, rfl⟩
  have hK : va_K D vwCl [] s := by
    refine ⟨fun k q hk => ?_, fun k q hk => (by cases hk)⟩
    rcases k with _ | _ | k
    · obtain rfl := Option.some.inj hk; rw [hD0.1, hD0.2]; exact k0
    · obtain rfl := Option.some.inj hk; rw [hD1.1, hD1.2]; exact k1
    · cases hk
  have hP : va_P D vwCl [] s.heap := fun k q hk => by cases hk
  have hD : va_D (gN s.heap.size) [] := ⟨fun i j a b hi => (by cases hi), fun k q hk => (by cases hk)⟩
  have hS : va_S (gN s.heap.size) s.heap s.heap [] := va_S.rf
  have hA : ∀ q : Nat, s.heap.size ≤ q → gN s.heap.size q := fun q hq => hq
  have hl := lv_entry ([.ref b]) (n := 7) (Nat.le_of_ble_eq_true rfl)
  rw [lg_entry_eq]
  generalize (lg_sl ([.ref b]) ++ List.replicate (7 - (lg_sl ([.ref b])).length) Slot.unset).toArray = ls at hl ⊢
  have hl : lv_has ls 7 [(0, .ref b)] := hl
  refine va_new (ci := 0) (fs := x00) (C := RX) (T := TX) (N := 12) hx hb hts wX_in tyX tyX_ok hown (hts (Cond.classLink RL 8 RX) (List.mem_append_left _ (List.mem_append_left _ (List.mem_append_left _ (List.mem_append_left _ (List.mem_append_left _ (List.mem_append_right _ (List.mem_of_getElem? (i := 1) rfl)))))))) (hts (Cond.instantiable RX 12) (List.mem_append_left _ (List.mem_append_left _ (List.mem_append_left _ (List.mem_append_left _ (List.mem_append_left _ (List.mem_append_right _ (List.mem_of_getElem? (i := 2) rfl)))))))) (hts (Cond.initialized RX) (List.mem_append_left _ (List.mem_append_left _ (List.mem_append_left _ (List.mem_append_left _ (List.mem_append_left _ (List.mem_append_left _ (List.mem_of_getElem? (i := 1) rfl)))))))) hK hP hD hS hA rfl x00_ok (Nat.le_of_ble_eq_true rfl) (Nat.le_of_ble_eq_true rfl) dL_law_0 (fun h H hP hD hS => ?_)
  have hP : va_P D vwCl [(h, .inr (0, x00))] H := hP
  have hD : va_D (gN s.heap.size) [(h, .inr (0, x00))] := hD
  refine lv_dup hx hb dL_law_3 rfl ?_
  have hiA : ∀ q, iA h H.size q → gN s.heap.size q := fun q hq => by
    rcases hq with rfl | hq
    · exact hD.2 0 _ rfl
    · exact Nat.le_trans hS.1 hq
  refine va_callv (va_runI (As := []) (rest := [.ref h]) C (cX_init l D h H.size) (cwI 0 hts goodX_init rfl rfl rfl (hts (Cond.initialized RX) (List.mem_append_left _ (List.mem_append_left _ (List.mem_append_left _ (List.mem_append_left _ (List.mem_append_left _ (List.mem_append_left _ (List.mem_of_getElem? (i := 1) rfl)))))))) (hts (Cond.methodLink RL 40 yX_init) (List.mem_append_left _ (List.mem_append_left _ (List.mem_append_left _ (List.mem_append_left _ (List.mem_append_left _ (List.mem_append_right _ (List.mem_of_getElem? (i := 3) rfl)))))))) (hts (Cond.instanceMethod yX_init) (List.mem_append_left _ (List.mem_append_left _ (List.mem_append_left _ (List.mem_append_left _ (List.mem_append_left _ (List.mem_append_right _ (List.mem_of_getElem? (i := 4) rfl)))))))) rfl (by decide +kernel) ⟨Nat.le_of_ble_eq_true rfl, Nat.le_of_ble_eq_true rfl⟩) ⟨i_blind, fun U hU hW => ⟨rfl, by rw [hU], by rw [hU]; exact hP, va_K.moved hW.alike hK, hD.weaken (fun _ _ _ _ => trivial)⟩⟩ rfl rfl hl.1 rfl (lv_room (Nat.le_of_ble_eq_true rfl)) dL_law_4 ⟨Nat.le_of_ble_eq_true rfl, Nat.le_of_ble_eq_true rfl⟩) hS (fun q _ hq => hiA q hq) hiA (fun u t H1 locs1 ht hvm _ hB hz1 hk1 hS1 => ?_)
  obtain ⟨qm, qr, cA⟩ := u
  obtain ⟨hP1, hK1, hD1⟩ := hB
  rw [ht] at hP1
  have hK1 : va_K D vwCl [(cA, .int)] s := va_K.moved hvm.symm hK1
  have hD1 : va_D (gN s.heap.size) (xw h qm qr cA x0) := hD1.weaken (fun k q hk hq => hiA _ hq)
  clear hP hD hS hk1 hz1 hiA ht
  rename_i H0x
  refine lv_astore_n (lv' := [(1, .ref h), (0, .ref b)]) hx hb dL_law_7 rfl hl (by decide) rfl (fun ls hl => ?_)
  refine va_new (ci := 1) (fs := m00) (C := RM) (T := TM) (N := 29) hx hb hts wM_in tyM tyM_ok hown (hts (Cond.classLink RL 41 RM) (List.mem_append_right _ (List.mem_append_left _ (List.mem_append_left _ (List.mem_append_right _ (List.mem_append_left _ (List.mem_append_left _ (List.mem_of_getElem? (i := 1) rfl)))))))) (hts (Cond.instantiable RM 29) (List.mem_append_right _ (List.mem_append_left _ (List.mem_append_left _ (List.mem_append_right _ (List.mem_append_left _ (List.mem_append_left _ (List.mem_of_getElem? (i := 2) rfl)))))))) (hts (Cond.initialized RM) (List.mem_append_left _ (List.mem_append_left _ (List.mem_append_left _ (List.mem_append_left _ (List.mem_append_left _ (List.mem_append_left _ (List.mem_of_getElem? (i := 3) rfl)))))))) hK1 hP1 hD1 hS1 hA rfl m00_ok (Nat.le_of_ble_eq_true rfl) (Nat.le_of_ble_eq_true rfl) dL_law_8 (fun g H hP hD hS => ?_)
  have hP : va_P D vwCl (xw h qm qr cA x0 ++ [(g, .inr (1, m00))]) H := hP
  have hD : va_D (gN s.heap.size) (xw h qm qr cA x0 ++ [(g, .inr (1, m00))]) := hD
  refine lv_dup hx hb dL_law_11 rfl ?_
  have hiA : ∀ q, iA g H.size q → gN s.heap.size q := fun q hq => by
    rcases hq with rfl | hq
    · exact hD.2 3 _ rfl
    · exact Nat.le_trans hS.1 hq
  have hPg : va_P D vwCl [(g, .inr (1, m00))] H := hP.sub [3] rfl
  have hDg : va_D (gN s.heap.size) [(g, .inr (1, m00))] := hD.sub [3] (by decide) rfl
  refine va_callv (va_runI (As := []) (rest := [.ref g]) C (cM_init l D g H.size) (cwI 0 hts goodM_init rfl rfl rfl (hts (Cond.initialized RM) (List.mem_append_left _ (List.mem_append_left _ (List.mem_append_left _ (List.mem_append_left _ (List.mem_append_left _ (List.mem_append_left _ (List.mem_of_getElem? (i := 3) rfl)))))))) (hts (Cond.methodLink RL 43 yM_init) (List.mem_append_right _ (List.mem_append_left _ (List.mem_append_left _ (List.mem_append_right _ (List.mem_append_left _ (List.mem_append_left _ (List.mem_of_getElem? (i := 3) rfl)))))))) (hts (Cond.instanceMethod yM_init) (List.mem_append_right _ (List.mem_append_left _ (List.mem_append_left _ (List.mem_append_right _ (List.mem_append_left _ (List.mem_append_left _ (List.mem_of_getElem? (i := 4) rfl)))))))) rfl (by decide +kernel) ⟨Nat.le_of_ble_eq_true rfl, Nat.le_of_ble_eq_true rfl⟩) ⟨i_blind, fun U hU hW => ⟨rfl, by rw [hU], by rw [hU]; exact hPg, va_K.moved hW.alike hK, hDg.weaken (fun _ _ _ _ => trivial)⟩⟩ rfl rfl hl.1 rfl (lv_room (Nat.le_of_ble_eq_true rfl)) dL_law_12 ⟨Nat.le_of_ble_eq_true rfl, Nat.le_of_ble_eq_true rfl⟩) hS (fun q _ hq => hiA q hq) hiA (fun u t H2 locs2 ht hvm2 _ hB hz2 hk2 hS2 => ?_)
  obtain ⟨qb, qg, qw, cB⟩ := u
  obtain ⟨hP2, hK2, hD2⟩ := hB
  rw [ht] at hP2
  have hK2 : va_K D vwCl [(cB, .int)] s := va_K.moved hvm2.symm hK2
  have hKb : va_K D vwCl [(cA, .int), (cB, .int)] s := hK1.app hK2
  obtain rfl := cA_one hKb (i := 0) (j := 1) rfl rfl
  have hPx : va_P D vwCl (xw h qm qr cA x0) H := hP.sub [0, 1, 2] rfl
  have hDx : va_D (gN s.heap.size) (xw h qm qr cA x0) := hD.sub [0, 1, 2] (by decide) rfl
  have hng : ∀ (k : Nat) (q : Nat × va_E), (xw h qm qr cA x0)[k]? = some q → ¬ iA g H.size q.1 := by
    intro k q hk hq
    rcases hq with hq | hq
    · rcases k with _ | _ | _ | k
      · exact absurd (hD.1 0 3 q _ hk rfl hq) (by decide)
      · exact absurd (hD.1 1 3 q _ hk rfl hq) (by decide)
      · exact absurd (hD.1 2 3 q _ hk rfl hq) (by decide)
      · cases hk
    · exact absurd ((hPx k q hk).lt) (Nat.not_lt.mpr hq)
  have hPx2 : va_P D vwCl (xw h qm qr cA x0) H2 := hPx.kept (fun k q hk => hk2 q.1 ((hPx k q hk).lt) (hng k q hk))
  have hP3 : va_P D vwCl (xw h qm qr cA x0 ++ mw g qb qg qw cA m0) H2 := hPx2.app hP2
  have hD3 : va_D (gN s.heap.size) (xw h qm qr cA x0 ++ mw g qb qg qw cA m0) := va_D.app hDx (hD2.weaken (fun k q hk hq => hiA _ hq)) (fun i j a b hi hj hab => hng i a hi (by rw [hab]; exact hD2.2 j b hj))
  refine lv_astore_n (lv' := [(2, .ref g), (1, .ref h), (0, .ref b)]) hx hb dL_law_15 rfl hl (by decide) rfl (fun ls hl => ?_)
  refine lv_iconst (v := 1) hx hb dL_law_16 (by decide) ?_
  refine va_newa (atype := .long) (ty := .long) (N' := 1) (a0 := (1, .inr (.inl (fun _ => 0)))) hx hb (hts (Cond.arrayClass .long) (List.mem_append_right _ (List.mem_append_right _ (List.mem_append_right _ (List.mem_append_left _ (List.mem_append_left _ (List.mem_append_left _ (List.mem_of_getElem? (i := 0) rfl)))))))) rfl hK1 hP3 hD3 hS2 hA (fun cA => rfl) (by decide) (by decide +kernel) (by decide +kernel) (Nat.le_of_ble_eq_true rfl) (Nat.le_of_ble_eq_true rfl) dL_law_17 (fun qo cL H hK hP hD hS => ?_)
  have hw : gH D h qm qr g qb qg qw qo cA cL s (x0, m0, fun _ => 0) H locs2 := ⟨hP, hD, hS, hK⟩
  refine lv_astore_n (lv' := [(3, .ref qo), (2, .ref g), (1, .ref h), (0, .ref b)]) hx hb dL_law_19 rfl hl (by decide) rfl (fun ls hl => ?_)
  refine lv_iconst (v := 0) hx hb dL_law_20 (by decide) ?_
  refine lv_istore (lv' := [(4, .int 0), (3, .ref qo), (2, .ref g), (1, .ref h), (0, .ref b)]) hx hb dL_law_21 hl (by decide) rfl (fun ls hl => ?_)
  exact law_loop P l hst hL C hR hlk hX hbl hzn hzi D h qm qr g qb qg qw qo cA cL (L / 4 + 1) 0 (by omega) (by omega) _ _ _ _ _ (x0, m0, fun _ => 0) (Nat.le_of_ble_eq_true rfl) (Nat.le_of_ble_eq_true rfl) P.2.1 (lv_sub hl [4, 3, 2, 1, 0] rfl) hw
