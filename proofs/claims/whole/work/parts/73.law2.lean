theorem l_inc (j : Nat) : nI (8 * j) + Int32.ofInt 8 = nI (8 * (j + 1)) := by
  rw [Nat.mul_succ]; exact nI_add (8 * j) 8
set_option maxHeartbeats 4000000 in
set_option maxRecDepth 100000 in
theorem whole_loop (l : Launch) {pp : Program} {ee : Env} {s : State} {mm : MethodId} {below : List Frame} {mt : Method} {cd : Code} {b L : Nat} {xs : Nat → Int32} {D : va_G} {cA : Nat → ClassId} (hx : pp.tables.exec = Jvm.exec) (hb : cd.code = code) (hml : cd.maxLocals = 4) (hown : s.vm.findClass "DecisionLayersLaw" = some mm.cls) (hts : ∀ w ∈ w_g, w.before #[Value.ref b] s = true) (hE : x_E D cA s) (hXs : va_X b L xs s s.heap) (hbl : b < s.heap.size) (hL : L ≤ 4096) (hr : mt.sig.returnType = ret) (hlk : mt.locks = false) {o : Nat} (hbo : b < o) (ho : s.heap.size ≤ o) {made : Nat} {N : n_T} {X : d_T} {H : Heap} {locs : List Loc} {cells slots : Nat} {ls : Array Slot} (hin : made ≤ 0 ∧ lv_has ls 4 [(0, .ref b), (1, .ref o), (2, .ref (o + 54)), (3, .int (nI (8 * 0)))] ∧ g_S D cA o made N X H ∧ g_ok o made N X ∧ va_S (x_up o) s.heap H locs ∧ cells ≤ 75 + 2 * 0 ∧ slots ≤ 4771 + 11 * 0) : W pp l ee room_1 s mm #[Value.ref b] below mt cd H locs cells slots (lw_Z below #[Value.ref b] s) (F0 mm 18 ls []) := by
  refine x_loopG (I := fun n ls H locs cells slots => ∃ (j made : Nat) (N : n_T) (X : d_T), j + n = 512 ∧ made ≤ j ∧ lv_has ls 4 [(0, .ref b), (1, .ref o), (2, .ref (o + 54)), (3, .int (nI (8 * j)))] ∧ g_S D cA o made N X H ∧ g_ok o made N X ∧ va_S (x_up o) s.heap H locs ∧ cells ≤ 75 + 2 * j ∧ slots ≤ 4771 + 11 * j) (fun n ls H locs cells slots ih h => ?_) 512 ⟨0, made, N, X, rfl, hin⟩
  clear hin
  obtain ⟨j, made, N, X, hjn, hjm, hl, hS, hG, hV, hcl, hsl⟩ := h
  refine lv_iload_n hx hb d_Law_law_18 rfl (lv_at hl 3 rfl) ?_
  refine lv_aload_n hx hb d_Law_law_19 rfl (lv_at hl 0 rfl) ?_
  refine va_slen hx hb hXs hbl (fun z => absurd (x_up_le z) (by omega)) hV d_Law_law_20 ?_
  refine x_topi (y := nI L) rfl ?_
  refine lv_bipush (v := 8) hx hb d_Law_law_21 (by decide) ?_
  refine lv_isub hx hb d_Law_law_23 ?_
  refine lv_icmp_gt (tgt := 843) hx hb d_Law_law_24 (by decide) (fun g1 => ?_) (fun g1 => ?_)
  · refine lv_iconst (v := 1) hx hb d_Law_law_843 (by decide) ?_
    refine va_forget (fun q h => Nat.le_trans ho (x_up_le (hV.2.2 q h))) ?_
    refine W.widen (k := 600000) (n := 7302250) (by omega) (by omega) ?_
    exact lw_ret hx hb hr hlk d_Law_law_844
  · have hi : 8 * j + 8 ≤ L := l_cmp hL (by omega) g1
    have hj : j < 512 := by omega
    have KK : ∀ (ls : Array Slot) (H : Heap) (locs : List Loc) (cells slots made : Nat) (N : n_T) (X : d_T), made ≤ (j + 1) → lv_has ls 4 [(0, .ref b), (1, .ref o), (2, .ref (o + 54)), (3, .int (nI (8 * j)))] → g_S D cA o made N X H → g_ok o made N X → va_S (x_up o) s.heap H locs → cells ≤ 75 + 2 * (j + 1) → slots ≤ 4771 + 11 * (j + 1) → W pp l ee room_1 s mm #[Value.ref b] below mt cd H locs cells slots (lw_Z below #[Value.ref b] s) (F0 mm 837 ls []) := by
      intro ls H locs cells slots made N X hjm hl hS hG hV hcl hsl
      refine lv_iinc (k := 3) (v := nI (8 * (j + 1))) (lv' := [(3, .int (nI (8 * (j + 1)))), (0, .ref b), (1, .ref o), (2, .ref (o + 54))]) hx hb d_Law_law_837 hl rfl (l_inc j) (by decide) rfl (fun ls hl => ?_)
      refine lv_goto (tgt := 18) hx hb d_Law_law_840 (by decide) ?_
      exact ih (n - 1) _ _ _ _ _ (by omega) ⟨j + 1, made, N, X, by omega, hjm, (lv_sub hl [1, 2, 3, 0] rfl), hS, hG, hV, hcl, hsl⟩
    refine lv_aload_n hx hb d_Law_law_27 rfl (lv_at hl 0 rfl) ?_
    refine lv_iload_n hx hb d_Law_law_28 rfl (lv_at hl 3 rfl) ?_
    refine x_sld hx hb hXs hbl hbo hV (k := 8 * j) (by omega) hL d_Law_law_29 ?_
    refine lv_bipush (v := 15) hx hb d_Law_law_30 (by decide) ?_
    refine lv_iand hx hb d_Law_law_32 ?_
    obtain ⟨k, hk, hke⟩ := l_and (xs (8 * j))
    refine x_topi (y := nI k) hke ?_
    clear hke
    rcases (show k = 0 ∨ k = 1 ∨ k = 2 ∨ k = 3 ∨ k = 4 ∨ k = 5 ∨ k = 6 ∨ k = 7 ∨ k = 8 ∨ k = 9 ∨ k = 10 ∨ k = 11 ∨ k = 12 ∨ k = 13 ∨ k = 14 ∨ k = 15 by omega) with rfl | rfl | rfl | rfl | rfl | rfl | rfl | rfl | rfl | rfl | rfl | rfl | rfl | rfl | rfl | rfl
    · refine lv_tableIn (x := nI 0) (off := 75) (tgt := 108) hx hb d_Law_law_33 (by decide) (by decide) (by decide) (by decide) ?_
      exact turn_0 l hx hb hml hown hts hE hXs hbl hbo hL hj hi hjm hl hS hG hV hcl hsl KK
    · refine lv_tableIn (x := nI 1) (off := 158) (tgt := 191) hx hb d_Law_law_33 (by decide) (by decide) (by decide) (by decide) ?_
      exact turn_1 l hx hb hml hown hts hE hXs hbl hbo hL hj hi hjm hl hS hG hV hcl hsl KK
    · refine lv_tableIn (x := nI 2) (off := 191) (tgt := 224) hx hb d_Law_law_33 (by decide) (by decide) (by decide) (by decide) ?_
      exact turn_2 l hx hb hml hown hts hE hXs hbl hbo hL hj hi hjm hl hS hG hV hcl hsl KK
    · refine lv_tableIn (x := nI 3) (off := 204) (tgt := 237) hx hb d_Law_law_33 (by decide) (by decide) (by decide) (by decide) ?_
      exact turn_3 l hx hb hml hown hts hE hXs hbl hbo hL hj hi hjm hl hS hG hV hcl hsl KK
    · refine lv_tableIn (x := nI 4) (off := 217) (tgt := 250) hx hb d_Law_law_33 (by decide) (by decide) (by decide) (by decide) ?_
      exact turn_4 l hx hb hml hown hts hE hXs hbl hbo hL hj hi hjm hl hS hG hV hcl hsl KK
    · refine lv_tableIn (x := nI 5) (off := 344) (tgt := 377) hx hb d_Law_law_33 (by decide) (by decide) (by decide) (by decide) ?_
      exact turn_5 l hx hb hml hown hts hE hXs hbl hbo hL hj hi hjm hl hS hG hV hcl hsl KK
    · refine lv_tableIn (x := nI 6) (off := 367) (tgt := 400) hx hb d_Law_law_33 (by decide) (by decide) (by decide) (by decide) ?_
      exact turn_6 l hx hb hml hown hts hE hXs hbl hbo hL hj hi hjm hl hS hG hV hcl hsl KK
    · refine lv_tableIn (x := nI 7) (off := 390) (tgt := 423) hx hb d_Law_law_33 (by decide) (by decide) (by decide) (by decide) ?_
      exact turn_7 l hx hb hml hown hts hE hXs hbl hbo hL hj hi hjm hl hS hG hV hcl hsl KK
    · refine lv_tableIn (x := nI 8) (off := 413) (tgt := 446) hx hb d_Law_law_33 (by decide) (by decide) (by decide) (by decide) ?_
      exact turn_8 l hx hb hml hown hts hE hXs hbl hbo hL hj hi hjm hl hS hG hV hcl hsl KK
    · refine lv_tableIn (x := nI 9) (off := 476) (tgt := 509) hx hb d_Law_law_33 (by decide) (by decide) (by decide) (by decide) ?_
      exact turn_9 l hx hb hml hown hts hE hXs hbl hbo hL hj hi hjm hl hS hG hV hcl hsl KK
    · refine lv_tableIn (x := nI 10) (off := 499) (tgt := 532) hx hb d_Law_law_33 (by decide) (by decide) (by decide) (by decide) ?_
      exact turn_10 l hx hb hml hown hts hE hXs hbl hbo hL hj hi hjm hl hS hG hV hcl hsl KK
    · refine lv_tableIn (x := nI 11) (off := 626) (tgt := 659) hx hb d_Law_law_33 (by decide) (by decide) (by decide) (by decide) ?_
      exact turn_11 l hx hb hml hown hts hE hXs hbl hbo hL hj hi hjm hl hS hG hV hcl hsl KK
    · refine lv_tableIn (x := nI 12) (off := 639) (tgt := 672) hx hb d_Law_law_33 (by decide) (by decide) (by decide) (by decide) ?_
      exact turn_12 l hx hb hml hown hts hE hXs hbl hbo hL hj hi hjm hl hS hG hV hcl hsl KK
    · refine lv_tableIn (x := nI 13) (off := 662) (tgt := 695) hx hb d_Law_law_33 (by decide) (by decide) (by decide) (by decide) ?_
      exact turn_13 l hx hb hml hown hts hE hXs hbl hbo hL hj hi hjm hl hS hG hV hcl hsl KK
    · refine lv_tableIn (x := nI 14) (off := 781) (tgt := 814) hx hb d_Law_law_33 (by decide) (by decide) (by decide) (by decide) ?_
      exact turn_14 l hx hb hml hown hts hE hXs hbl hbo hL hj hi hjm hl hS hG hV hcl hsl KK
    · refine lv_tableOut (x := nI 15) (tgt := 837) hx hb d_Law_law_33 (by decide) (by decide) ?_
      exact KK _ _ _ _ _ _ _ _ (Nat.le_succ_of_le hjm) hl hS hG hV (by omega) (by omega)
set_option maxHeartbeats 4000000 in
set_option maxRecDepth 100000 in
theorem whole_go (l : Launch) {pp : Program} {ee : Env} {s : State} {mm : MethodId} {below : List Frame} {mt : Method} {cd : Code} {b L : Nat} {xs : Nat → Int32} {D : va_G} {cA : Nat → ClassId} (hx : pp.tables.exec = Jvm.exec) (hb : cd.code = code) (hml : cd.maxLocals = 4) (hown : s.vm.findClass "DecisionLayersLaw" = some mm.cls) (hts : ∀ w ∈ w_g, w.before #[Value.ref b] s = true) (hE : x_E D cA s) (hXs : va_X b L xs s s.heap) (hbl : b < s.heap.size) (hL : L ≤ 4096) (hr : mt.sig.returnType = ret) (hlk : mt.locks = false) {ls : Array Slot} (hl : lv_has ls 4 [(0, .ref b)]) : W pp l ee room_1 s mm #[Value.ref b] below mt cd s.heap [] 0 0 (lw_Z below #[Value.ref b] s) (F0 mm 0 ls []) := by
  have hF : ∀ q ∈ ([] : List Loc), x_up s.heap.size q.base := t_nil
  refine x_new (ci := 5) (fs := [.null, .null, .null, .int 0, .int 0]) hx hb hts in_DL t_DL t_DL_ok hown (hts _ w_1_12) (hts _ w_1_13) (hts _ w_1_1) hE.2.2 rfl (fun j hj => by rcases (show j = 0 ∨ j = 1 ∨ j = 2 ∨ j = 3 ∨ j = 4 by omega) with rfl | rfl | rfl | rfl | rfl <;> rfl) (Nat.le_of_ble_eq_true rfl) (Nat.le_of_ble_eq_true rfl) d_Law_law_0 (fun H1 g1 n1 => ?_)
  refine lv_dup hx hb d_Law_law_3 rfl ?_
  refine x_cv (kl_9 (As := []) (rest := [.ref s.heap.size]) hx hb hml hown hts (c_DL_init l D cA n_0 s.heap.size) (x_preS hE ⟨n1.1, g1⟩) rfl hl.1 rfl (Nat.le_of_ble_eq_true rfl) d_Law_law_4 (by decide) ⟨by decide, by decide⟩) (fun H2 L2 p2 f2 => ?_)
  have hF := t_lL hF (fun q h => (fun q h => h) q.base (f2 q h))
  obtain ⟨z2, hd2, x2⟩ := p2
  refine lv_astore_n (lv' := [(1, .ref s.heap.size), (0, .ref b)]) hx hb d_Law_law_7 rfl hl (by decide) rfl (fun ls hl => ?_)
  refine x_new (ci := 6) (fs := [.null, .null, .int 0, .null, .null, .null, .null, .null, .null, .null, .null, .int 0, .null, .null, .null, .null, .null, .null, .null, .null, .int 0, .null, .int 0, .null]) hx hb hts in_M t_M t_M_ok hown (hts _ w_2_148) (hts _ w_2_149) (hts _ w_1_5) hE.2.2 rfl (fun j hj => by rcases (show j = 0 ∨ j = 1 ∨ j = 2 ∨ j = 3 ∨ j = 4 ∨ j = 5 ∨ j = 6 ∨ j = 7 ∨ j = 8 ∨ j = 9 ∨ j = 10 ∨ j = 11 ∨ j = 12 ∨ j = 13 ∨ j = 14 ∨ j = 15 ∨ j = 16 ∨ j = 17 ∨ j = 18 ∨ j = 19 ∨ j = 20 ∨ j = 21 ∨ j = 22 ∨ j = 23 by omega) with rfl | rfl | rfl | rfl | rfl | rfl | rfl | rfl | rfl | rfl | rfl | rfl | rfl | rfl | rfl | rfl | rfl | rfl | rfl | rfl | rfl | rfl | rfl | rfl <;> rfl) (Nat.le_of_ble_eq_true rfl) (Nat.le_of_ble_eq_true rfl) d_Law_law_8 (fun H3 g3 n3 => ?_)
  rw [z2] at g3 ⊢
  refine lv_dup hx hb d_Law_law_11 rfl ?_
  refine x_cv (kl_12 (As := []) (rest := [.ref (s.heap.size + 54)]) hx hb hml hown hts (c_M_init l D cA (s.heap.size + 54)) (x_preS hE ⟨by rw [n3.1, z2], g3⟩) rfl hl.1 rfl (Nat.le_of_ble_eq_true rfl) d_Law_law_12 (by decide) ⟨by decide, by decide⟩) (fun H4 L4 p4 f4 => ?_)
  have hF := t_lL hF (fun q h => (fun q h => Nat.le_trans (Nat.le_add_right s.heap.size 54) h) q.base (f4 q h))
  obtain ⟨z4, hm4, x4⟩ := p4
  refine lv_astore_n (lv' := [(2, .ref (s.heap.size + 54)), (1, .ref s.heap.size), (0, .ref b)]) hx hb d_Law_law_15 rfl hl (by decide) rfl (fun ls hl => ?_)
  refine lv_iconst (v := 0) hx hb d_Law_law_16 (by decide) ?_
  refine lv_istore_n (lv' := [(3, .int 0), (2, .ref (s.heap.size + 54)), (1, .ref s.heap.size), (0, .ref b)]) hx hb d_Law_law_17 rfl hl (by decide) rfl (fun ls hl => ?_)
  have z3 : H3.size = s.heap.size + 54 + 1 := by rw [n3.1, z2]
  have z1 : H1.size = s.heap.size + 1 := n1.1
  have hold : ∀ q : Nat, q < s.heap.size → H4[q]? = s.heap[q]? := fun q hq => ((x4 q (by omega)).trans (n3.2 q (by omega))).trans ((x2 q hq).trans (n1.2 q hq))
  refine whole_loop l hx hb hml hown hts hE hXs hbl hL hr hlk (o := s.heap.size) hbl (Nat.le_refl _) (made := 0) (N := n_0) (X := d_0) ⟨Nat.le_refl _, (lv_sub hl [3, 2, 1, 0] rfl), ⟨by omega, hd2.kept (fun q a b => (x4 q (by omega)).trans (n3.2 q (by omega))), fun i hi => absurd hi (Nat.not_lt_zero i), m_0, hm4, m_R_0⟩, g_ok_0 _, ⟨by omega, fun q hq _ => hold q hq, hF⟩, by decide, by decide⟩
/-- YOUR PART: from the entry, for every script of at most 4096 ints, the law comes to its end with true -/
theorem whole_start {p : Program} {e : Env} {s : State} {m : MethodId} {below : List Frame} {meth : Method} {c : Code} (l : Launch) {b L : Nat} {xs : Nat → Int32} (hL : L ≤ 4096) (C0 : lw_At p s m meth c b L xs) : W p l e room_1 s m #[Value.ref b] below meth c s.heap [] 0 0 (lw_Z below #[Value.ref b] s) (entryFrame m ([Value.ref b] : List Value).toArray 4) := by
  obtain ⟨hx, hb, hr, hml, hown, hts0, hXs, hbl, hlk, -⟩ := C0
  have hts : ∀ w ∈ w_g, w.before #[Value.ref b] s = true := fun w hw => hts0 w (List.mem_filter.mp hw).1
  obtain ⟨D, cA, hE⟩ := x_E_of hts0
  rw [lg_entry_eq]
  exact whole_go l hx hb hml hown hts hE hXs hbl hL hr hlk (lv_entry [Value.ref b] (n := 4) (Nat.le_of_ble_eq_true rfl))
