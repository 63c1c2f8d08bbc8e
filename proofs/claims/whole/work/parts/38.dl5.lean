/-! making conditions -/
def x_G (A : Addr → Prop) (H H1 : Heap) : Prop := H.size ≤ H1.size ∧ ∀ q : Nat, q < H.size → ¬ A q → H1[q]? = H[q]?
def x_AG (A : Addr → Prop) (sz : Nat) : Addr → Prop := fun q => A q ∨ sz ≤ q
theorem x_F.G {A : Addr → Prop} {H H1 : Heap} (h : x_F A H H1) : x_G A H H1 := ⟨Nat.le_of_eq h.1.symm, fun q _ b => h.2 q b⟩
theorem x_n.G {A : Addr → Prop} {H H1 : Heap} (h : x_n H H1) : x_G A H H1 := ⟨by rw [h.1]; omega, fun q a _ => h.2 q a⟩
theorem x_G.trans {A : Addr → Prop} {H H1 H2 : Heap} (h : x_G A H H1) (h2 : x_G A H1 H2) : x_G A H H2 := ⟨Nat.le_trans h.1 h2.1, fun q a b => (h2.2 q (Nat.lt_of_lt_of_le a h.1) b).trans (h.2 q a b)⟩
/-- a change of new cells only -/
theorem x_G.new {A B : Addr → Prop} {H H1 H2 : Heap} (h : x_G A H H1) (h2 : x_F B H1 H2) (hB : ∀ q : Nat, B q → H.size ≤ q) : x_G A H H2 := ⟨by rw [h2.1]; exact h.1, fun q a b => (h2.2 q (fun z => by have := hB q z; omega)).trans (h.2 q a b)⟩
theorem d_W.ext {D : va_G} {cA : Nat → ClassId} {N N1 : n_T} {o made : Nat} {X : d_T} {H : Heap} (h : d_W D cA N o X H) (hdo : d_ok made X) (ha : ∀ i, i < made → n_ad N1 i = n_ad N i) : d_W D cA N1 o X H := by
  refine ⟨h.1, h.2.1, h.2.2.1.refs (fun k _ => ?_), h.2.2.2.1, fun l hl => ⟨(h.2.2.2.2 l hl).1, (h.2.2.2.2 l hl).2.1, fun k hk => ?_⟩⟩
  · unfold d_pc
    by_cases hk : k < d_n X
    · rw [if_pos hk, if_pos hk, ha _ (hdo.2.1 k hk)]
    · rw [if_neg hk, if_neg hk]
  · have h1 := (h.2.2.2.2 l hl).2.2 k hk
    have e : s_fs N1 (d_s X l k) = s_fs N (d_s X l k) := by
      unfold s_fs
      cases hs : (d_s X l k).2.2.2.2 with
      | none => rfl
      | some i => show [_, _, _, _, va_rf (some (n_ad N1 i))] = [_, _, _, _, va_rf (some (n_ad N i))]; rw [ha i ((hdo.2.2.2.2 l hl k hk).2 i hs)]
    rw [e]; exact h1
theorem n_ext_o {N : n_T} {m kd op ky : Nat} {tt : Int64} {mk dp : Nat} {ch : List Nat} {ad i : Nat} (h : i ≠ m) : n_kd (n_ext N m kd op ky tt mk dp ch ad) i = n_kd N i ∧ n_op (n_ext N m kd op ky tt mk dp ch ad) i = n_op N i ∧ n_ky (n_ext N m kd op ky tt mk dp ch ad) i = n_ky N i ∧ n_tt (n_ext N m kd op ky tt mk dp ch ad) i = n_tt N i ∧ n_mk (n_ext N m kd op ky tt mk dp ch ad) i = n_mk N i ∧ n_dp (n_ext N m kd op ky tt mk dp ch ad) i = n_dp N i ∧ n_ch (n_ext N m kd op ky tt mk dp ch ad) i = n_ch N i ∧ n_ad (n_ext N m kd op ky tt mk dp ch ad) i = n_ad N i := by
  exact ⟨if_neg h, if_neg h, if_neg h, if_neg h, if_neg h, if_neg h, if_neg h, if_neg h⟩
theorem n_ext_n {N : n_T} {m kd op ky : Nat} {tt : Int64} {mk dp : Nat} {ch : List Nat} {ad : Nat} : n_kd (n_ext N m kd op ky tt mk dp ch ad) m = kd ∧ n_op (n_ext N m kd op ky tt mk dp ch ad) m = op ∧ n_ky (n_ext N m kd op ky tt mk dp ch ad) m = ky ∧ n_tt (n_ext N m kd op ky tt mk dp ch ad) m = tt ∧ n_mk (n_ext N m kd op ky tt mk dp ch ad) m = mk ∧ n_dp (n_ext N m kd op ky tt mk dp ch ad) m = dp ∧ n_ch (n_ext N m kd op ky tt mk dp ch ad) m = ch ∧ n_ad (n_ext N m kd op ky tt mk dp ch ad) m = ad := by
  exact ⟨if_pos rfl, if_pos rfl, if_pos rfl, if_pos rfl, if_pos rfl, if_pos rfl, if_pos rfl, if_pos rfl⟩
theorem n_W.ext {D : va_G} {cA : Nat → ClassId} {made : Nat} {N : n_T} {H : Heap} {kd op ky : Nat} {tt : Int64} {mk dp : Nat} {ch : List Nat} {ad : Nat} (h : n_W D cA made N H) (hok : n_ok made N) (ht : kd = 3 → va_at D x_cl (ad, .inr (3, [.int (nI dp), .int (nI op), .int (nI ky), .long tt, .int (nI mk)])) H) (hc : ∀ c ∈ ch, c < made)
    (hj : kd ≠ 3 → va_at D x_cl (ad, .inr (4, [.int (nI dp), .int (nI kd), .ref (ad - 1)])) H ∧ va_at D x_cl (ad - 1, .inl (cA 4, ch.length, .inr (.inr (.inr (.inr (fun j => (ch[j]?).map (n_ad N))))))) H) : n_W D cA (made + 1) (n_ext N made kd op ky tt mk dp ch ad) H := by
  intro i hi
  by_cases e : i = made
  · subst e
    obtain ⟨e1, e2, e3, e4, e5, e6, e7, e8⟩ := @n_ext_n N i kd op ky tt mk dp ch ad
    rw [e1, e2, e3, e4, e5, e6, e7, e8]
    refine ⟨ht, fun hk => ⟨(hj hk).1, (hj hk).2.refs (fun j hjl => ?_)⟩⟩
    obtain ⟨c, hcj⟩ : ∃ c, ch[j]? = some c := ⟨_, List.getElem?_eq_getElem hjl⟩
    rw [hcj]
    show some (n_ad N c) = some (n_ad (n_ext N i kd op ky tt mk dp ch ad) c)
    rw [(n_ext_o (Nat.ne_of_lt (hc c (List.mem_of_getElem? hcj)))).2.2.2.2.2.2.2]
  · obtain ⟨e1, e2, e3, e4, e5, e6, e7, e8⟩ := @n_ext_o N made kd op ky tt mk dp ch ad i e
    rw [e1, e2, e3, e4, e5, e6, e7, e8]
    have him : i < made := by omega
    refine ⟨(h i him).1, fun hk => ⟨((h i him).2 hk).1, ((h i him).2 hk).2.refs (fun j hjl => ?_)⟩⟩
    obtain ⟨c, hcj⟩ : ∃ c, (n_ch N i)[j]? = some c := ⟨_, List.getElem?_eq_getElem hjl⟩
    rw [hcj]
    show some (n_ad N c) = some (n_ad (n_ext N made kd op ky tt mk dp ch ad) c)
    have := (((hok i him).2.2.2.2 hk).2 c (List.mem_of_getElem? hcj)).1
    rw [(n_ext_o (by omega)).2.2.2.2.2.2.2]
theorem n_W.kG {D : va_G} {cA : Nat → ClassId} {made o : Nat} {N : n_T} {H H1 : Heap} (h : n_W D cA made N H) (h1 : x_G (d_A o) H H1) (hh : n_hi o made N) : n_W D cA made N H1 := by
  intro i hi
  have h0 := h i hi
  refine ⟨fun hk => (h0.1 hk).kept (h1.2 _ (h0.1 hk).lt (hh.out i hi).1), fun hk => ⟨(h0.2 hk).1.kept (h1.2 _ (h0.2 hk).1.lt (hh.out i hi).1), (h0.2 hk).2.kept (h1.2 _ (h0.2 hk).2.lt ((hh.out i hi).2 hk))⟩⟩
def q_tok (op ky mk : Int32) : Bool := decide (0 ≤ op ∧ op < 8) && q_key ky && decide (0 ≤ mk ∧ mk ≤ 7)
def q_test (X : d_T) (op ky mk : Int32) : Int32 := if q_tok op ky mk then (if 8 ≤ d_n X then -3 else nI (d_n X + 1)) else -2
def q_tmk (X : d_T) (op ky mk : Int32) : Bool := q_tok op ky mk && decide (d_n X < 8)
def z_testN (made : Nat) (N : n_T) (X : d_T) (op ky : Int32) (t : Int64) (mk : Int32) (a : Nat) : n_T := if q_tmk X op ky mk then n_ext N made 3 op.toNatClampNeg ky.toNatClampNeg t mk.toNatClampNeg 1 [] a else N
def z_testX (made : Nat) (X : d_T) (op ky mk : Int32) : d_T := if q_tmk X op ky mk then d_push X made else X
def z_testM (made : Nat) (X : d_T) (op ky mk : Int32) : Nat := if q_tmk X op ky mk then made + 1 else made
theorem x_AGl {A : Addr → Prop} {sz q : Nat} (h : A q) : x_AG A sz q := Or.inl h
theorem x_AGr {A : Addr → Prop} {sz q : Nat} (h : sz ≤ q) : x_AG A sz q := Or.inr h
section ND
variable {p : Program} {l : Launch} {e : Env} {R : Room} {s : State} {m : MethodId} {args : Array Value} {below : List Frame} {meth : Method} {c : Code} {H : Heap} {locs : List Loc} {cells slots : Nat} {Q : State → Prop}
variable {cc : ByteArray} {pc : Nat} {ls : Array Slot} {rest : List Value} {D : va_G} {cA : Nat → ClassId}
theorem n_dep (hx : p.tables.exec = Jvm.exec) (hb : c.code = cc) (hown : s.vm.findClass "DecisionLayers" = some m.cls) (hts : ∀ w ∈ w_g, w.before args s = true) (hE : x_E D cA s) {made i : Nat} {N : n_T} (hN : n_W D cA made N H) (hi : i < made) (hdg : decode cc pc = .ok (.getfield 127, 3)) (kk : W p l e R s m args below meth c H locs cells slots Q (F0 m (pc + 3) ls (.int (nI (n_dp N i)) :: rest))) : W p l e R s m args below meth c H locs cells slots Q (F0 m pc ls (.ref (n_ad N i) :: rest)) := by
  by_cases hk : n_kd N i = 3
  · exact fg_DL_127_Test hx hb hown hts hE ((hN i hi).1 hk) rfl hdg kk
  · exact fg_DL_127_Joined hx hb hown hts hE ((hN i hi).2 hk).1 rfl hdg kk
end ND
set_option maxHeartbeats 4000000 in
set_option maxRecDepth 100000 in
theorem c_DL_test (l : Launch) (D : va_G) (cA : Nat → ClassId) (N : n_T) (o : Nat) (X : d_T) (made sz : Nat) (hok : n_ok made N) (hhi : n_hi o made N) (hdo : d_ok made X) (hsz : o + 75 ≤ sz) (op ky : Int32) (t : Int64) (mk : Int32) : Met l y_DL_test [.code y_DL_test b_DL_test 6 (some .int)] (x_rm 3 1 5) (x_P D cA [.ref o, .int op, .int ky, .long t, .int mk] (fun H => H.size = sz ∧ d_W D cA N o X H ∧ n_W D cA made N H)) (x_Q (some (.int (q_test X op ky mk))) (fun H H1 => x_G (d_A o) H H1 ∧ d_W D cA (z_testN made N X op ky t mk sz) o (z_testX made X op ky mk) H1 ∧ n_W D cA (z_testM made X op ky mk) (z_testN made N X op ky t mk sz) H1)) 1 5 (x_AG (d_A o) sz) := by
  refine x_met (own := "DecisionLayers") (by decide) rfl (Nat.le_of_ble_eq_true rfl) ?_
  intro pp ee s mm below mt cd ls hx hb hr hlk hnm hml hown hts hE hP hl
  have hl : lv_has ls 6 [(0, .ref o), (1, .int op), (2, .int ky), (3, .long t), (5, .int mk)] := hl
  obtain ⟨hs9, hP1, hN⟩ := hP
  subst hs9
  have hF : ∀ q ∈ ([] : List Loc), x_AG (d_A o) s.heap.size q.base := t_nil
  obtain ⟨hO, hV, hC, hLa, hLy⟩ := id hP1
  obtain ⟨hn8, -⟩ := id hdo
  refine lv_iload_n hx hb d_DL_test_0 rfl (lv_at hl 1 rfl) ?_
  refine lv_if_lt (tgt := 29) hx hb d_DL_test_1 (by decide) (fun h1 => ?_) (fun h1 => ?_)
  · have hk : q_tok op ky mk = false := by unfold q_tok; rw [decide_eq_false (fun z => absurd h1 (Int32.not_lt.mpr z.1))]; rfl
    have hm : q_tmk X op ky mk = false := by unfold q_tmk; rw [hk]; rfl
    refine lv_bipush (v := (-2)) hx hb d_DL_test_29 (by decide) ?_
    refine x_topi (y := q_test X op ky mk) (by unfold q_test; rw [hk]; rfl) ?_
    refine W.widen (k := 1) (n := 5) (by decide) (by decide) ?_
    exact W.iret hx hb hr (fun t ht hW => ⟨rfl, by rw [ht]; unfold z_testN z_testX z_testM; rw [hm]; exact ⟨x_F.rf.G, hP1, hN⟩⟩) hF d_DL_test_31
  · refine lv_iload_n hx hb d_DL_test_4 rfl (lv_at hl 1 rfl) ?_
    refine lv_bipush (v := 8) hx hb d_DL_test_5 (by decide) ?_
    refine lv_icmp_ge (tgt := 29) hx hb d_DL_test_7 (by decide) (fun h2 => ?_) (fun h2 => ?_)
    · have hk : q_tok op ky mk = false := by unfold q_tok; rw [decide_eq_false (fun z => absurd h2 (Int32.not_le.mpr z.2))]; rfl
      have hm : q_tmk X op ky mk = false := by unfold q_tmk; rw [hk]; rfl
      refine lv_bipush (v := (-2)) hx hb d_DL_test_29 (by decide) ?_
      refine x_topi (y := q_test X op ky mk) (by unfold q_test; rw [hk]; rfl) ?_
      refine W.widen (k := 1) (n := 5) (by decide) (by decide) ?_
      exact W.iret hx hb hr (fun t ht hW => ⟨rfl, by rw [ht]; unfold z_testN z_testX z_testM; rw [hm]; exact ⟨x_F.rf.G, hP1, hN⟩⟩) hF d_DL_test_31
    · refine lv_iload_n hx hb d_DL_test_10 rfl (lv_at hl 2 rfl) ?_
      refine x_cp (k_DL_36 (As := [.int ky]) (rest := []) hx hb hml hown hts (c_Values_isKey l D cA ky) (x_preS hE trivial) rfl hl.1 rfl (Nat.le_of_ble_eq_true rfl) d_DL_test_11 (by decide) ⟨Nat.zero_le _, Nat.zero_le _⟩) ?_
      refine x_topi (y := bI (q_key ky)) rfl ?_
      refine lv_if_eq (tgt := 29) hx hb d_DL_test_14 (by decide) (fun h3 => ?_) (fun h3 => ?_)
      · have hk : q_tok op ky mk = false := by unfold q_tok; rw [bI_0.mp h3]; simp
        have hm : q_tmk X op ky mk = false := by unfold q_tmk; rw [hk]; rfl
        refine lv_bipush (v := (-2)) hx hb d_DL_test_29 (by decide) ?_
        refine x_topi (y := q_test X op ky mk) (by unfold q_test; rw [hk]; rfl) ?_
        refine W.widen (k := 1) (n := 5) (by decide) (by decide) ?_
        exact W.iret hx hb hr (fun t ht hW => ⟨rfl, by rw [ht]; unfold z_testN z_testX z_testM; rw [hm]; exact ⟨x_F.rf.G, hP1, hN⟩⟩) hF d_DL_test_31
      · refine lv_iload hx hb d_DL_test_17 (lv_at hl 4 rfl) ?_
        refine lv_if_lt (tgt := 29) hx hb d_DL_test_19 (by decide) (fun h4 => ?_) (fun h4 => ?_)
        · have hk : q_tok op ky mk = false := by unfold q_tok; rw [show decide (0 ≤ mk ∧ mk ≤ 7) = false from decide_eq_false (fun z => absurd h4 (Int32.not_lt.mpr z.1))]; simp
          have hm : q_tmk X op ky mk = false := by unfold q_tmk; rw [hk]; rfl
          refine lv_bipush (v := (-2)) hx hb d_DL_test_29 (by decide) ?_
          refine x_topi (y := q_test X op ky mk) (by unfold q_test; rw [hk]; rfl) ?_
          refine W.widen (k := 1) (n := 5) (by decide) (by decide) ?_
          exact W.iret hx hb hr (fun t ht hW => ⟨rfl, by rw [ht]; unfold z_testN z_testX z_testM; rw [hm]; exact ⟨x_F.rf.G, hP1, hN⟩⟩) hF d_DL_test_31
        · refine lv_iload hx hb d_DL_test_22 (lv_at hl 4 rfl) ?_
          refine lv_bipush (v := 7) hx hb d_DL_test_24 (by decide) ?_
          refine lv_icmp_le (tgt := 32) hx hb d_DL_test_26 (by decide) (fun h5 => ?_) (fun h5 => ?_)
          · have hk : q_tok op ky mk = true := by unfold q_tok; rw [decide_eq_true ⟨Int32.not_lt.mp h1, Int32.not_le.mp h2⟩, bI_n0.mp h3, decide_eq_true ⟨Int32.not_lt.mp h4, h5⟩]; rfl
            refine lv_aload_n hx hb d_DL_test_32 rfl (lv_at hl 0 rfl) ?_
            refine fg_DL_29_DL hx hb hown hts hE hO rfl d_DL_test_33 ?_
            refine lv_bipush (v := 8) hx hb d_DL_test_36 (by decide) ?_
            refine lv_icmp_lt (tgt := 44) hx hb d_DL_test_38 (by decide) (fun h6 => ?_) (fun h6 => ?_)
            · have h6 := n_gt (i := 8) h6 (by omega) (by decide)
              have hm : q_tmk X op ky mk = true := by unfold q_tmk; rw [hk, decide_eq_true h6]; rfl
              have e1 : nI op.toNatClampNeg = op := by obtain ⟨j, hj, rfl⟩ := nI_of h1; rw [nI_clamp hj]
              have e2 : nI ky.toNatClampNeg = ky := by obtain ⟨j, hj, rfl⟩ := q_key_in (bI_n0.mp h3); rw [nI_clamp (by omega)]
              have e3 : nI mk.toNatClampNeg = mk := by obtain ⟨j, hj, rfl⟩ := nI_of h4; rw [nI_clamp hj]
              refine lv_aload_n hx hb d_DL_test_44 rfl (lv_at hl 0 rfl) ?_
              refine x_new (ci := 3) (fs := [.int 0, .int 0, .int 0, .long 0, .int 0]) hx hb hts in_Test t_Test t_Test_ok hown (hts _ w_1_106) (hts _ w_1_107) (hts _ w_1_7) hE.2.2 rfl (fun j hj => by rcases (show j = 0 ∨ j = 1 ∨ j = 2 ∨ j = 3 ∨ j = 4 by omega) with rfl | rfl | rfl | rfl | rfl <;> rfl) (Nat.le_of_ble_eq_true rfl) (Nat.le_of_ble_eq_true rfl) d_DL_test_45 (fun H1 g1 n1 => ?_)
              refine lv_dup hx hb d_DL_test_48 rfl ?_
              refine lv_iload_n hx hb d_DL_test_49 rfl (lv_at hl 1 rfl) ?_
              refine lv_iload_n hx hb d_DL_test_50 rfl (lv_at hl 2 rfl) ?_
              refine lv_lload_n hx hb d_DL_test_51 rfl (lv_at hl 3 rfl) ?_
              refine lv_iload hx hb d_DL_test_52 (lv_at hl 4 rfl) ?_
              refine x_cv (k_DL_42 (As := [.int op, .int ky, .long t, .int mk]) (rest := [.ref s.heap.size, .ref o]) hx hb hml hown hts (c_Test_init l D cA s.heap.size op ky t mk) (x_preS hE g1) rfl hl.1 rfl (Nat.le_of_ble_eq_true rfl) d_DL_test_54 (by decide) ⟨Nat.le_of_ble_eq_true rfl, Nat.le_of_ble_eq_true rfl⟩) (fun H2 L2 p2 f2 => ?_)
              have hF := t_lL hF (fun q h => (show ∀ q : Nat, x_A [s.heap.size] q → x_AG (d_A o) s.heap.size q from fun q h => x_AGr (by rw [x_A1.mp h]; omega)) q.base (f2 q h))
              obtain ⟨f9, g2⟩ := p2
              have hG2 : x_G (d_A o) s.heap H2 := n1.G.new f9 (fun q h => by rw [x_A1.mp h]; omega)
              have hN2 := (hN.kG hG2 hhi).ext (kd := 3) (op := op.toNatClampNeg) (ky := ky.toNatClampNeg) (tt := t) (mk := mk.toNatClampNeg) (dp := 1) (ch := []) (ad := s.heap.size) hok (fun _ => by rw [e1, e2, e3]; exact g2) (fun c hc => by cases hc) (fun z => absurd rfl z)
              have hd2 : d_W D cA N o X H2 := hP1.kept (fun q a b => (f9.2 q (by rw [x_A1]; omega)).trans (n1.2 q (by omega)))
              generalize hNe : n_ext N made 3 op.toNatClampNeg ky.toNatClampNeg t mk.toNatClampNeg 1 [] s.heap.size = N1 at hN2
              have ha1 : n_ad N1 made = s.heap.size := by rw [← hNe]; exact n_ext_n.2.2.2.2.2.2.2
              have hao : ∀ i, i < made → n_ad N1 i = n_ad N i := fun i hi => by rw [← hNe]; exact (n_ext_o (by omega)).2.2.2.2.2.2.2
              have hko : ∀ i, i < made → n_kd N1 i = n_kd N i := fun i hi => by rw [← hNe]; exact (n_ext_o (by omega)).1
              have hkn : n_kd N1 made = 3 := by rw [← hNe]; exact n_ext_n.1
              have hd2 := hd2.ext hdo hao
              have hhi1 : n_hi o (made + 1) N1 := fun i hi => by
                by_cases e : i = made
                · subst e; rw [ha1]; exact ⟨by omega, fun z => absurd hkn z⟩
                · rw [hao i (by omega), hko i (by omega)]; exact hhi i (by omega)
              refine x_topv (y := .ref (n_ad N1 made)) (by rw [ha1]) ?_
              refine x_cw (k_DL_45 (As := [.ref (n_ad N1 made)]) (rest := []) hx hb hml hown hts (c_DL_push l D cA N1 o X (made + 1) made (by omega) h6) (x_preV hE hd2.1 rfl rfl ⟨hd2, hN2⟩) rfl hl.1 rfl (Nat.le_of_ble_eq_true rfl) d_DL_test_57 (by decide) ⟨Nat.le_of_ble_eq_true rfl, Nat.le_of_ble_eq_true rfl⟩) (fun H3 L3 p3 f3 => ?_)
              have hF := t_lL hF (fun q h => (show ∀ q : Nat, x_A [o, o + 4] q → x_AG (d_A o) s.heap.size q from fun q h => x_AGl (by have := x_A2.mp h; exact d_A_in (by omega) (by omega))) q.base (f3 q h))
              have hF3 : x_F (d_A o) H2 H3 := p3.1.mono (fun q h => by have := x_A2.mp h; exact d_A_in (by omega) (by omega))
              refine x_topi (y := q_test X op ky mk) (by unfold q_test; rw [hk, if_pos rfl, if_neg (by omega)]) ?_
              exact W.iret hx hb hr (fun t ht hW => ⟨rfl, by rw [ht]; unfold z_testN z_testX z_testM; rw [hm, if_pos rfl, if_pos rfl, if_pos rfl, hNe]; exact ⟨hG2.trans hF3.G, p3.2, hN2.kF hF3 hhi1.out⟩⟩) hF d_DL_test_60
            · have h6 := n_le (i := 8) h6 (by omega) (by decide)
              have hm : q_tmk X op ky mk = false := by unfold q_tmk; rw [decide_eq_false (by omega)]; simp
              refine lv_bipush (v := (-3)) hx hb d_DL_test_41 (by decide) ?_
              refine x_topi (y := q_test X op ky mk) (by unfold q_test; rw [hk, if_pos rfl, if_pos h6]) ?_
              refine W.widen (k := 1) (n := 5) (by decide) (by decide) ?_
              exact W.iret hx hb hr (fun t ht hW => ⟨rfl, by rw [ht]; unfold z_testN z_testX z_testM; rw [hm]; exact ⟨x_F.rf.G, hP1, hN⟩⟩) hF d_DL_test_43
          · have hk : q_tok op ky mk = false := by unfold q_tok; rw [show decide (0 ≤ mk ∧ mk ≤ 7) = false from decide_eq_false (fun z => h5 z.2)]; simp
            have hm : q_tmk X op ky mk = false := by unfold q_tmk; rw [hk]; rfl
            refine lv_bipush (v := (-2)) hx hb d_DL_test_29 (by decide) ?_
            refine x_topi (y := q_test X op ky mk) (by unfold q_test; rw [hk]; rfl) ?_
            refine W.widen (k := 1) (n := 5) (by decide) (by decide) ?_
            exact W.iret hx hb hr (fun t ht hW => ⟨rfl, by rw [ht]; unfold z_testN z_testX z_testM; rw [hm]; exact ⟨x_F.rf.G, hP1, hN⟩⟩) hF d_DL_test_31
set_option maxHeartbeats 4000000 in
set_option maxRecDepth 100000 in
theorem c_DL_greatest (l : Launch) (D : va_G) (cA : Nat → ClassId) (N : n_T) (o : Nat) (X : d_T) (made n : Nat) (hok : n_ok made N) (hdo : d_ok made X) (hn : n ≤ d_n X) : Met l y_DL_greatestDepthOfTopmost [.code y_DL_greatestDepthOfTopmost b_DL_greatestDepthOfTopmost 5 (some .int)] (x_rm 1 0 0) (x_P D cA [.ref o, .int (nI n)] (fun H => d_W D cA N o X H ∧ n_W D cA made N H)) (x_Q (some (.int (nI (d_mx (fun k => n_dp N (d_p X k)) (d_n X - n) n)))) (x_same)) 0 0 (fun _ => False) := by
  refine x_met (own := "DecisionLayers") (by decide) rfl (Nat.le_of_ble_eq_true rfl) ?_
  intro pp ee s mm below mt cd ls hx hb hr hlk hnm hml hown hts hE hP hl
  have hl : lv_has ls 5 [(0, .ref o), (1, .int (nI n))] := hl
  obtain ⟨hP1, hN⟩ := hP
  obtain ⟨hO, hV, hC, hLa, hLy⟩ := id hP1
  obtain ⟨hn8, hpm, -⟩ := id hdo
  obtain ⟨a, ha⟩ : ∃ a, d_n X - n = a := ⟨_, rfl⟩
  rw [ha]
  refine lv_iconst (v := 0) hx hb d_DL_greatestDepthOfTopmost_0 (by decide) ?_
  refine lv_istore_n (lv' := [(2, .int 0), (0, .ref o), (1, .int (nI n))]) hx hb d_DL_greatestDepthOfTopmost_1 rfl hl (by decide) rfl (fun ls hl => ?_)
  refine lv_aload_n hx hb d_DL_greatestDepthOfTopmost_2 rfl (lv_at hl 1 rfl) ?_
  refine fg_DL_29_DL hx hb hown hts hE hO rfl d_DL_greatestDepthOfTopmost_3 ?_
  refine lv_iload_n hx hb d_DL_greatestDepthOfTopmost_6 rfl (lv_at hl 2 rfl) ?_
  refine lv_isub hx hb d_DL_greatestDepthOfTopmost_7 ?_
  refine x_topi (y := nI a) (by rw [pk_sub hn, ha]) ?_
  refine lv_istore_n (lv' := [(3, .int (nI a)), (2, .int 0), (0, .ref o), (1, .int (nI n))]) hx hb d_DL_greatestDepthOfTopmost_8 rfl hl (by decide) rfl (fun ls hl => ?_)
  refine x_loop (I := fun r ls => ∃ j, j + r = n ∧ lv_has ls 5 [(3, .int (nI (a + j))), (2, .int (nI (d_mx (fun k => n_dp N (d_p X k)) a j))), (0, .ref o), (1, .int (nI n))]) (fun r ls ih h => ?_) (n) ⟨0, by omega, (lv_sub hl [0, 1, 2, 3] rfl)⟩
  obtain ⟨j, hj, hl⟩ := h
  refine lv_iload_n hx hb d_DL_greatestDepthOfTopmost_9 rfl (lv_at hl 0 rfl) ?_
  refine lv_aload_n hx hb d_DL_greatestDepthOfTopmost_10 rfl (lv_at hl 2 rfl) ?_
  refine fg_DL_29_DL hx hb hown hts hE hO rfl d_DL_greatestDepthOfTopmost_11 ?_
  refine lv_icmp_ge (tgt := 46) hx hb d_DL_greatestDepthOfTopmost_14 (by decide) (fun g1 => ?_) (fun g1 => ?_)
  · have g1 := n_ge g1 (by omega) (by omega)
    refine lv_iload_n hx hb d_DL_greatestDepthOfTopmost_46 rfl (lv_at hl 1 rfl) ?_
    refine x_topi (y := nI (d_mx (fun k => n_dp N (d_p X k)) a n)) (by rw [show j = n by omega]) ?_
    exact W.iret hx hb hr (fun t ht hW => ⟨rfl, ht⟩) (fun q h => by cases h) d_DL_greatestDepthOfTopmost_47
  · have g1 := n_lt g1 (by omega) (by omega)
    have him := hpm (a + j) g1
    have hd5 := (hok _ him).2.2.1
    have hmx : d_mx (fun k => n_dp N (d_p X k)) a j ≤ 5 := d_mx_le (fun k hk => (hok _ (hpm (a + k) (by omega))).2.2.1)
    refine lv_aload_n hx hb d_DL_greatestDepthOfTopmost_17 rfl (lv_at hl 2 rfl) ?_
    refine fg_DL_18_DL hx hb hown hts hE hO rfl d_DL_greatestDepthOfTopmost_18 ?_
    refine lv_iload_n hx hb d_DL_greatestDepthOfTopmost_21 rfl (lv_at hl 0 rfl) ?_
    refine x_aald hx hb hE.2.2 hC 4 rfl (by omega) (by decide) d_DL_greatestDepthOfTopmost_22 ?_
    refine x_topv (y := .ref (n_ad N (d_p X (a + j)))) (by unfold d_pc; rw [if_pos g1]; rfl) ?_
    refine lv_astore (lv' := [(4, .ref (n_ad N (d_p X (a + j)))), (3, .int (nI (a + j))), (2, .int (nI (d_mx (fun k => n_dp N (d_p X k)) a j))), (0, .ref o), (1, .int (nI n))]) hx hb d_DL_greatestDepthOfTopmost_23 hl (by decide) rfl (fun ls hl => ?_)
    refine lv_aload hx hb d_DL_greatestDepthOfTopmost_25 (lv_at hl 0 rfl) ?_
    refine lv_ifnull hx hb d_DL_greatestDepthOfTopmost_27 ?_
    refine lv_iload_n hx hb d_DL_greatestDepthOfTopmost_30 rfl (lv_at hl 2 rfl) ?_
    refine lv_aload hx hb d_DL_greatestDepthOfTopmost_31 (lv_at hl 0 rfl) ?_
    refine n_dep hx hb hown hts hE hN him d_DL_greatestDepthOfTopmost_33 ?_
    refine va_mmax hx hb (by rw [hml]; exact hl.1.symm) hown (hts _ w_1_144) (hts _ w_1_145) (hts _ w_1_8) (hts _ w_1_146) (Nat.le_refl _) (Nat.le_of_ble_eq_true rfl) (Nat.zero_le _) (Nat.zero_le _) d_DL_greatestDepthOfTopmost_36 ?_
    refine x_topi (y := nI (d_mx (fun k => n_dp N (d_p X k)) a (j + 1))) (x_max (by omega) (by omega)) ?_
    refine lv_istore_n (lv' := [(2, .int (nI (d_mx (fun k => n_dp N (d_p X k)) a (j + 1)))), (4, .ref (n_ad N (d_p X (a + j)))), (3, .int (nI (a + j))), (0, .ref o), (1, .int (nI n))]) hx hb d_DL_greatestDepthOfTopmost_39 rfl hl (by decide) rfl (fun ls hl => ?_)
    refine lv_iinc (k := 2) (v := nI ((a + j) + 1)) (lv' := [(3, .int (nI ((a + j) + 1))), (2, .int (nI (d_mx (fun k => n_dp N (d_p X k)) a (j + 1)))), (4, .ref (n_ad N (d_p X (a + j)))), (0, .ref o), (1, .int (nI n))]) hx hb d_DL_greatestDepthOfTopmost_40 hl rfl (x_inc _) (by decide) rfl (fun ls hl => ?_)
    refine lv_goto (tgt := 9) hx hb d_DL_greatestDepthOfTopmost_43 (by decide) ?_
    exact ih (r - 1) _ (by omega) ⟨j + 1, by omega, (lv_sub hl [0, 1, 3, 4] rfl)⟩
