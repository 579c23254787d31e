/-! Arrays.fill, and its call on the class's registers -/
def fillL : Nat → (Nat → Int32) → Int32 → Int32 → Int32 → (Nat → Int32)
  | 0, f, _, _, _ => f
  | n + 1, f, v, len, k => if len ≤ k then f else fillL n (upd f k.toNatClampNeg v) v len (k + Int32.ofInt 1)
def fw (q : Nat) (cA : ClassId) (n : Nat) (f : Nat → Int32) : va_W := [(q, .inl (cA, n, .inl f))]
def fA (q : Nat) (x : Nat) : Prop := x = q
set_option maxRecDepth 100000 in
set_option maxHeartbeats 4000000 in
theorem jJ_fill_c5 (l : Launch) (D : va_G) (q : Nat) (cA : ClassId) (n : Nat) (hn : n < 2 ^ 31) {p : Program} {e : Env} {s : State} {m : MethodId} {args : Array Value} {below : List Frame} {meth : Method} {c : Code} (S : CallFix p m c bJ_fill 4 s args wAll RJ) (hR : meth.sig.returnType = none) (hlk : meth.locks = false) (fu : Nat) : ∀ (ls : Array Slot) (H : Heap) (locs : List Loc) (f : Nat → Int32) (v k : Int32) (hk : 0 ≤ k.toInt) (hf : ((nI n).toInt - k.toInt).toNat < fu) (hl : lv_has ls 4 [(0, .ref q), (1, .int v), (2, .int k), (3, .int (nI n))]) (hw : zH D vwCl (fw q cA n) (fA q) [(cA, .int)] s f H locs), W p l e { frames := 0, cells := 0, slots := 0, locals := 0 } s m args below meth c H locs 0 0 (zQv D vwCl (fw q cA n) (fA q) [(cA, .int)] below args s (fillL fu f v (nI n) k)) (F0 m 5 ls []) := by
  have hx := S.1
  have hb := S.2.1
  induction fu with
  | zero => intro ls H locs f v k hk hf; exact absurd hf (Nat.not_lt_zero _)
  | succ fu ih =>
  intro ls H locs f v k hk hf hl hw
  refine lv_iload_n hx hb dJ_fill_5 rfl (lv_at hl 2 rfl) ?_
  refine lv_iload_n hx hb dJ_fill_6 rfl (lv_at hl 3 rfl) ?_
  refine lv_icmp_ge (tgt := 20) hx hb dJ_fill_7 (by decide) (fun h_7 => ?_) (fun h_7 => ?_)
  · exact z_vret S hR hlk hw dJ_fill_20 (by rw [fillL, if_pos h_7])
  · refine lv_aload_n hx hb dJ_fill_10 rfl (lv_at hl 0 rfl) ?_
    refine lv_iload_n hx hb dJ_fill_11 rfl (lv_at hl 2 rfl) ?_
    refine lv_iload_n hx hb dJ_fill_12 rfl (lv_at hl 1 rfl) ?_
    refine va_iast hx hb hw.2.2.2 hw.1 hw.2.1 hw.2.2.1 0 0 rfl rfl (m_lt hk h_7 (nI_toInt hn)) dJ_fill_13 (fun H locs hP hD hS => ?_)
    have hw : zH D vwCl (fw q cA n) (fA q) [(cA, .int)] s (upd f k.toNatClampNeg v) H locs := ⟨hP, hD, hS, hw.2.2.2⟩
    refine lv_iinc (lv' := [(2, .int (k + Int32.ofInt 1)), (0, .ref q), (1, .int v), (3, .int (nI n))]) (k := 2) hx hb dJ_fill_14 hl rfl rfl (by decide) rfl (fun ls hl => ?_)
    refine lv_goto (tgt := 5) hx hb dJ_fill_17 (by decide) ?_
    rw [show fillL (fu + 1) f v (nI n) k = fillL fu (upd f k.toNatClampNeg v) v (nI n) (k + Int32.ofInt 1) from (by rw [fillL, if_neg h_7])]
    exact ih _ _ _ _ _ _ (m_inc hk h_7) (m_dec hk h_7 hf) (lv_sub hl [1, 2, 0, 3] rfl) hw
set_option maxRecDepth 100000 in
set_option maxHeartbeats 4000000 in
theorem cJ_fill (l : Launch) (D : va_G) (q : Nat) (cA : ClassId) (n : Nat) (hn : n < 2 ^ 31) (f : Nat → Int32) (v : Int32) : zMv l yJ_fill (.code yJ_fill bJ_fill 4 none :: wAll) { frames := 0, cells := 0, slots := 0, locals := 0 } D vwCl (fw q cA n) (fA q) [(cA, .int)] [.ref q, .int v] f (fillL (((nI n).toInt - (0 : Int32).toInt).toNat + 1) f v (nI n) 0) := by
  refine z_entryv (cc := bJ_fill) (nL := 4) (by decide) rfl rfl (Nat.le_of_ble_eq_true rfl) (fun p e s m args below meth c S hR hlk ls H locs hl hw => ?_)
  have hx := S.1
  have hb := S.2.1
  have hl : lv_has ls 4 [(0, .ref q), (1, .int v)] := hl
  refine lv_iconst (v := 0) hx hb dJ_fill_0 (by decide) ?_
  refine lv_istore_n (lv' := [(2, .int 0), (0, .ref q), (1, .int v)]) hx hb dJ_fill_1 rfl hl (by decide) rfl (fun ls hl => ?_)
  refine lv_aload_n hx hb dJ_fill_2 rfl (lv_at hl 1 rfl) ?_
  refine va_alen hx hb hw.2.2.2 hw.1 0 0 rfl rfl (v := nI n) rfl dJ_fill_3 ?_
  refine lv_istore_n (lv' := [(3, .int (nI n)), (2, .int 0), (0, .ref q), (1, .int v)]) hx hb dJ_fill_4 rfl hl (by decide) rfl (fun ls hl => ?_)
  exact jJ_fill_c5 l D q cA n hn S hR hlk _ _ _ _ f v 0 (by decide) (Nat.lt_succ_self _) (lv_sub hl [2, 3, 1, 0] rfl) hw
def xFill (σ : XS) (v : Int32) : XS := (σ.1, σ.2.1, σ.2.2.1, fillL (((nI 136).toInt - (0 : Int32).toInt).toNat + 1) σ.2.2.2 v (nI 136) 0)
theorem qX_fill {R : Room} {s : State} {args : Array Value} (hts : ∀ w ∈ wAll, w.before args s = true) (hR : 0 + 1 ≤ R.frames ∧ 8 + (4 + 11) + 0 ≤ R.locals) : CallB R s args RX 60 yJ_fill bJ_fill 4 none (Cond.code yJ_fill bJ_fill 4 none :: wAll) { frames := 0, cells := 0, slots := 0, locals := 0 } 0 0 2 ∧ (Cond.static yJ_fill).before args s = true :=
  va_cwS 2 hts (z_good wAll_good (fun w hw => by
    simp only [va_wsS, List.cons_append, List.nil_append, List.mem_cons] at hw
    rcases hw with rfl | rfl | rfl | rfl | hw
    · exact (List.mem_append_left _ (List.mem_append_left _ (List.mem_append_left _ (List.mem_append_left _ (List.mem_append_right _ (List.mem_append_left _ (List.mem_of_getElem? (i := 4) rfl)))))))
    · exact (List.mem_append_left _ (List.mem_append_left _ (List.mem_append_left _ (List.mem_append_left _ (List.mem_append_right _ (List.mem_append_left _ (List.mem_of_getElem? (i := 5) rfl)))))))
    · exact (List.mem_append_left _ (List.mem_append_left _ (List.mem_append_left _ (List.mem_append_left _ (List.mem_append_left _ (List.mem_append_left _ (List.mem_of_getElem? (i := 2) rfl)))))))
    · exact (List.mem_append_left _ (List.mem_append_left _ (List.mem_append_left _ (List.mem_append_left _ (List.mem_append_right _ (List.mem_append_left _ (List.mem_of_getElem? (i := 6) rfl)))))))
    · exact hw)) rfl rfl rfl (by decide +kernel) hR
theorem xfill {p : Program} {l : Launch} {e : Env} {R : Room} {s : State} {m : MethodId} {args : Array Value} {below : List Frame} {meth : Method} {c : Code} {H : Heap} {locs : List Loc} {Q : State → Prop} {cc : ByteArray} {pc nL : Nat} {ls : Array Slot} {rest : List Value} {D : va_G} {h qm qr : Nat} {cA : ClassId} {σ : XS} {v : Int32}
    (S : CallFix p m c cc nL s args wAll RX) (hw : xH D h qm qr cA s σ H locs) (hR : 0 + 1 ≤ R.frames ∧ 8 + (4 + 11) + 0 ≤ R.locals) (hsz : ls.size = nL) (hW : (rest.map fun v => v.category).sum ≤ 8) (hdg : decode cc pc = .ok (.invokestatic 60, 3))
    (kk : ∀ (H1 : Heap) (locs1 : List Loc), xH D h qm qr cA s (xFill σ v) H1 locs1 → W p l e R s m args below meth c H1 locs1 0 0 Q (F0 m (pc + 3) ls rest)) : W p l e R s m args below meth c H locs 0 0 Q (F0 m pc ls (.int v :: .ref qr :: rest)) := by
  obtain ⟨hP, hD, hS, hK⟩ := hw
  have hPc : va_P D vwCl (fw qr cA 136 σ.2.2.2) H := hP.sub [2] rfl
  have hDc : va_D (xA h qm qr) (fw qr cA 136 σ.2.2.2) := hD.sub [2] (by decide) rfl
  refine va_callv (va_runS (As := [.ref qr, .int v]) (rest := rest) S (cJ_fill l D qr cA 136 (by decide) σ.2.2.2 v) (qX_fill S.2.2.2.2 hR) ⟨z_blind, fun U hU hW' => ⟨rfl, by rw [hU]; exact hPc, va_K.moved hW'.alike hK, hDc.weaken (fun k q hk _ => by
    rcases k with _ | k
    · obtain rfl := Option.some.inj hk; rfl
    · cases hk)⟩⟩ rfl rfl hsz rfl (lv_room hW) hdg ⟨Nat.zero_le _, Nat.zero_le _⟩) hS (fun q _ hq => Or.inr (Or.inr hq)) (fun q hq => Or.inr (Or.inr hq)) (fun u t H1 locs1 ht hvm hr hB hz1 hk1 hS1 => ?_)
  obtain ⟨hP1, -, -⟩ := hB
  rw [ht] at hP1
  have hD' : ∀ f' : Nat → Int32, va_D (xA h qm qr) (xw h qm qr cA (σ.1, σ.2.1, σ.2.2.1, f')) := fun f' => hD.set (p := 2) (a := qr) (e := .inl (cA, 136, .inl f')) rfl
  have key : ∀ f' : Nat → Int32, va_P D vwCl (fw qr cA 136 f') H1 → va_P D vwCl (xw h qm qr cA (σ.1, σ.2.1, σ.2.2.1, f')) H1 := by
    intro f' hP1 k q hq
    rcases k with _ | _ | _ | k
    · obtain rfl := Option.some.inj hq
      exact (hP 0 _ rfl).kept (hk1 h ((hP 0 _ rfl).lt) (fun hh => absurd (hD.1 0 2 _ _ rfl rfl hh) (by decide)))
    · obtain rfl := Option.some.inj hq
      exact (hP 1 _ rfl).kept (hk1 qm ((hP 1 _ rfl).lt) (fun hh => absurd (hD.1 1 2 _ _ rfl rfl hh) (by decide)))
    · obtain rfl := Option.some.inj hq
      exact hP1 0 _ rfl
    · cases hq
  exact kk H1 locs1 ⟨key _ hP1, hD' _, hS1, hK⟩
