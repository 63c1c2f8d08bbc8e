theorem d_W.jud {D : va_G} {cA : Nat → ClassId} {N : n_T} {o : Nat} {X : d_T} {J : Nat → Nat} {H H1 : Heap} {A : Addr → Prop} (h : d_W D cA N o (d_setJ X J) H) (h1 : x_F A H H1) {l j : Nat} (hA : ∀ q : Nat, A q → o + 6 + 8 * l ≤ q ∧ q < o + 6 + 8 * l + 8) (hl : l_W D cA N (o + 6 + 8 * l) (d_k X l) (d_b X l) j (d_s X l) H1) : d_W D cA N o (d_setJ X (va_up J l j)) H1 := by
  have h2 := h.lay h1 hA hl
  refine ⟨h2.1, h2.2.1, h2.2.2.1, h2.2.2.2.1, fun i hi => ?_⟩
  have h3 := h2.2.2.2.2 i hi
  have h4 : l_W D cA N (o + 6 + 8 * i) (va_up (d_k X) l (d_k X l) i) (va_up (d_b X) l (d_b X l) i) (va_up J l j i) (va_up (d_s X) l (d_s X l) i) H1 := h3
  show l_W D cA N (o + 6 + 8 * i) (d_k X i) (d_b X i) (va_up J l j i) (d_s X i) H1
  by_cases e : i = l
  · subst e
    simp only [va_up, if_pos] at h4 ⊢
    exact h4
  · simp only [va_up, if_neg e] at h4 ⊢
    exact h4
theorem d_W.jcongr {D : va_G} {cA : Nat → ClassId} {N : n_T} {o : Nat} {X : d_T} {J J1 : Nat → Nat} {H : Heap} (h : d_W D cA N o (d_setJ X J) H) (e : ∀ l, l < 6 → J l = J1 l) : d_W D cA N o (d_setJ X J1) H := by
  refine ⟨h.1, h.2.1, h.2.2.1, h.2.2.2.1, fun i hi => ?_⟩
  have h3 : l_W D cA N (o + 6 + 8 * i) (d_k X i) (d_b X i) (J i) (d_s X i) H := h.2.2.2.2 i hi
  show l_W D cA N (o + 6 + 8 * i) (d_k X i) (d_b X i) (J1 i) (d_s X i) H
  rw [← e i hi]; exact h3
theorem d_ok.lok {made : Nat} {X : d_T} (h : d_ok made X) : d_lok X := fun l hl => ⟨(h.2.2.2.1 l hl).1, (h.2.2.2.1 l hl).2, fun k hk => (h.2.2.2.2 l hl k hk).1⟩
theorem z_jud_lok {made : Nat} {X : d_T} (h : d_ok made X) (hv : Nat → Bool) (u : Int32) (ac th : Int64) : d_lok (z_jud X hv u ac th) := fun l hl => ⟨(h.2.2.2.1 l hl).1, Nat.lt_of_lt_of_le (l_j_lt _ _) (Nat.le_trans (Nat.pow_le_pow_right (by omega) (h.2.2.2.1 l hl).1) (by decide)), fun k hk => (h.2.2.2.2 l hl k hk).1⟩
theorem d_A.lt {o q : Nat} (h : d_A o q) : q < o + 54 := h.2
theorem d_A.ge {o q : Nat} (h : d_A o q) : o ≤ q := h.1
theorem n_hi.out {o made : Nat} {N : n_T} (h : n_hi o made N) : ∀ i, i < made → ¬ d_A o (n_ad N i) ∧ (n_kd N i ≠ 3 → ¬ d_A o (n_ad N i - 1)) := fun i hi => by
  obtain ⟨a, b⟩ := h i hi
  exact ⟨fun z => by have := d_A.lt z; omega, fun hk z => by have := d_A.lt z; have := b hk; omega⟩
set_option maxHeartbeats 4000000 in
set_option maxRecDepth 100000 in
theorem c_DL_holds (l : Launch) (D : va_G) (cA : Nat → ClassId) (N : n_T) (o : Nat) (X : d_T) (made : Nat) (hv : Nat → Bool) (hok : n_ok made N) (hhi : n_hi o made N) (hdo : d_ok made X) (hVe : n_V (d_c X) (d_r X) made N hv) (k : Int32) : Met l y_DL_holds [.code y_DL_holds b_DL_holds 3 (some .boolean)] (x_rm 9 0 0) (x_P D cA [.ref o, .int k] (fun H => d_W D cA N o X H ∧ n_W D cA made N H)) (x_Q (some (.int (bI (q_holds X hv k)))) (x_same)) 0 0 (fun _ => False) := by
  refine x_met (own := "DecisionLayers") (by decide) rfl (Nat.le_of_ble_eq_true rfl) ?_
  intro pp ee s mm below mt cd ls hx hb hr hlk hnm hml hown hts hE hP hl
  have hl : lv_has ls 3 [(0, .ref o), (1, .int k)] := hl
  obtain ⟨hP1, hN⟩ := hP
  obtain ⟨hO, hV, hC, hLa, hLy⟩ := id hP1
  obtain ⟨hn8, hpm, hvo, hlk9, hso⟩ := hdo
  refine lv_iload_n hx hb d_DL_holds_0 rfl (lv_at hl 1 rfl) ?_
  refine lv_if_lt (tgt := 12) hx hb d_DL_holds_1 (by decide) (fun h1 => ?_) (fun h1 => ?_)
  · refine lv_iconst (v := 0) hx hb d_DL_holds_12 (by decide) ?_
    refine x_topi (y := bI (q_holds X hv k)) (by unfold q_holds; rw [decide_eq_false (fun z => absurd h1 (Int32.not_lt.mpr z.1))]; rfl) ?_
    exact W.zret (ty := .boolean) hx hb hr (bI_z _) (fun t ht hW => ⟨rfl, ht⟩) (fun q h => by cases h) d_DL_holds_13
  · refine lv_iload_n hx hb d_DL_holds_4 rfl (lv_at hl 1 rfl) ?_
    refine lv_aload_n hx hb d_DL_holds_5 rfl (lv_at hl 0 rfl) ?_
    refine fg_DL_29_DL hx hb hown hts hE hO rfl d_DL_holds_6 ?_
    refine lv_icmp_lt (tgt := 14) hx hb d_DL_holds_9 (by decide) (fun h2 => ?_) (fun h2 => ?_)
    · obtain ⟨j, hj, rfl⟩ := nI_of h1
      have h2 : j < d_n X := (nI_ltI (by omega) (by omega)).mp h2
      have hcl : (nI j).toNatClampNeg = j := nI_clamp (by omega)
      have hR : q_holds X hv (nI j) = hv (d_p X j) := by unfold q_holds; rw [decide_eq_true ⟨Int32.not_lt.mp h1, (nI_ltI (by omega) (by omega)).mpr h2⟩, hcl]; rfl
      have him := hpm j h2
      obtain ⟨-, -, hd5, hct, -⟩ := hok _ him
      refine lv_aload_n hx hb d_DL_holds_14 rfl (lv_at hl 0 rfl) ?_
      refine fg_DL_18_DL hx hb hown hts hE hO rfl d_DL_holds_15 ?_
      refine lv_iload_n hx hb d_DL_holds_18 rfl (lv_at hl 1 rfl) ?_
      refine x_aald hx hb hE.2.2 hC 4 rfl (by omega) (by decide) d_DL_holds_19 ?_
      refine x_topv (y := .ref (n_ad N (d_p X j))) (by unfold d_pc; rw [if_pos h2]; rfl) ?_
      refine lv_astore_n (lv' := [(2, .ref (n_ad N (d_p X j))), (0, .ref o), (1, .int (nI j))]) hx hb d_DL_holds_20 rfl hl (by decide) rfl (fun ls hl => ?_)
      refine lv_aload_n hx hb d_DL_holds_21 rfl (lv_at hl 0 rfl) ?_
      refine lv_ifnull hx hb d_DL_holds_22 ?_
      refine lv_aload_n hx hb d_DL_holds_25 rfl (lv_at hl 0 rfl) ?_
      refine lv_aload_n hx hb d_DL_holds_26 rfl (lv_at hl 1 rfl) ?_
      refine fg_DL_10_DL hx hb hown hts hE hO rfl d_DL_holds_27 ?_
      have key : CallRun pp l ee (x_rm 9 0 0) s mm [Value.ref o, Value.int (nI j)].toArray below mt cd s.heap [] 0 0 0 0 (F0 mm 30 ls [.ref (o + 1), .ref (n_ad N (d_p X j))]) [] (x_Q (some (.int (bI (hv (d_p X j))))) x_same (Value.ref (n_ad N (d_p X j)) :: [Value.ref (o + 1)]).toArray) (fun _ => False) := by
        by_cases hc3 : n_kd N (d_p X j) = 3
        · obtain ⟨o8, k8, m8⟩ := hct hc3
          have hTc := (hN (d_p X j) him).1 hc3
          rw [show hv (d_p X j) = cn_t (d_c X) (d_r X) (n_op N (d_p X j)) (n_ky N (d_p X j)) (n_tt N (d_p X j)) (n_mk N (d_p X j)) by rw [hVe (d_p X j) him, if_pos hc3]]
          exact k_DL_120_Test (As := [.ref (o + 1)]) (rest := []) hx hb hml hown hts hE (c_Test_isMet l D cA (n_ad N (d_p X j)) (nI (n_dp N (d_p X j))) (n_op N (d_p X j)) (n_ky N (d_p X j)) (n_tt N (d_p X j)) (n_mk N (d_p X j)) (o + 1) (d_c X) (d_r X) 4 o8 k8 m8 hvo) (x_preV hE hTc rfl rfl ⟨hTc, hV⟩) rfl hl.1 rfl (Nat.le_of_ble_eq_true rfl) d_DL_holds_30 (by decide) ⟨Nat.zero_le _, Nat.zero_le _⟩
        · exact k_DL_120_Joined (As := [.ref (o + 1)]) (rest := []) hx hb hml hown hts hE (c_Joined_isMet l D cA (o + 1) (d_c X) (d_r X) made N hv hok hvo hVe 5 (d_p X j) him hc3 hd5) (x_preV hE ((hN (d_p X j) him).2 hc3).1 rfl rfl ⟨hN, hV⟩) rfl hl.1 rfl (Nat.le_of_ble_eq_true rfl) d_DL_holds_30 (by decide) ⟨Nat.zero_le _, Nat.zero_le _⟩
      refine x_cp key ?_
      refine lv_if_eq (tgt := 40) hx hb d_DL_holds_33 (by decide) (fun m4 => ?_) (fun m4 => ?_)
      · refine lv_iconst (v := 0) hx hb d_DL_holds_40 (by decide) ?_
        refine x_topi (y := bI (q_holds X hv (nI j))) (by rw [hR, bI_0.mp m4]; rfl) ?_
        exact W.zret (ty := .boolean) hx hb hr (bI_z _) (fun t ht hW => ⟨rfl, ht⟩) (fun q h => by cases h) d_DL_holds_41
      · refine lv_iconst (v := 1) hx hb d_DL_holds_36 (by decide) ?_
        refine lv_goto (tgt := 41) hx hb d_DL_holds_37 (by decide) ?_
        refine x_topi (y := bI (q_holds X hv (nI j))) (by rw [hR, bI_n0.mp m4]; rfl) ?_
        exact W.zret (ty := .boolean) hx hb hr (bI_z _) (fun t ht hW => ⟨rfl, ht⟩) (fun q h => by cases h) d_DL_holds_41
    · refine lv_iconst (v := 0) hx hb d_DL_holds_12 (by decide) ?_
      refine x_topi (y := bI (q_holds X hv k)) (by unfold q_holds; rw [decide_eq_false (fun z => h2 z.2)]; rfl) ?_
      exact W.zret (ty := .boolean) hx hb hr (bI_z _) (fun t ht hW => ⟨rfl, ht⟩) (fun q h => by cases h) d_DL_holds_13
set_option maxHeartbeats 4000000 in
set_option maxRecDepth 100000 in
theorem c_DL_decide (l : Launch) (D : va_G) (cA : Nat → ClassId) (N : n_T) (o : Nat) (X : d_T) (made : Nat) (hv : Nat → Bool) (hok : n_ok made N) (hhi : n_hi o made N) (hdo : d_ok made X) (hVe : n_V (d_c X) (d_r X) made N hv) (a u : Int32) (ac th : Int64) (ow : Int32) : Met l y_DL_decide [.code y_DL_decide b_DL_decide 10 (some .int)] (x_rm 11 0 0) (x_P D cA [.ref o, .int a, .int u, .long ac, .long th, .int ow] (fun H => d_W D cA N o X H ∧ n_W D cA made N H)) (x_Q (some (.int (q_dec X hv a u ac th ow))) (fun H H1 => x_F (d_A o) H H1 ∧ d_W D cA N o (z_dec X hv a u ac th ow) H1)) 0 0 (d_A o) := by
  refine x_met (own := "DecisionLayers") (by decide) rfl (Nat.le_of_ble_eq_true rfl) ?_
  intro pp ee s mm below mt cd ls hx hb hr hlk hnm hml hown hts hE hP hl
  have hl : lv_has ls 10 [(0, .ref o), (1, .int a), (2, .int u), (3, .long ac), (5, .long th), (7, .int ow)] := hl
  obtain ⟨hP1, hN⟩ := hP
  have hF : ∀ q ∈ ([] : List Loc), d_A o q.base := t_nil
  refine lv_iload_n hx hb d_DL_decide_0 rfl (lv_at hl 1 rfl) ?_
  refine x_cp (k_DL_96 (As := [.int a]) (rest := []) hx hb hml hown hts (c_DL_isDigit l D cA a) (x_preS hE trivial) rfl hl.1 rfl (Nat.le_of_ble_eq_true rfl) d_DL_decide_1 (by decide) ⟨Nat.zero_le _, Nat.zero_le _⟩) ?_
  refine x_topi (y := bI (q_dg a)) rfl ?_
  refine lv_if_eq (tgt := 22) hx hb d_DL_decide_4 (by decide) (fun h1 => ?_) (fun h1 => ?_)
  · have hq : (q_dg a && q_dg u && q_dg ow) = false := by rw [bI_0.mp h1]; rfl
    refine lv_bipush (v := (-2)) hx hb d_DL_decide_22 (by decide) ?_
    refine x_topi (y := q_dec X hv a u ac th ow) (by unfold q_dec; rw [hq]; rfl) ?_
    exact W.iret hx hb hr (fun t ht hW => ⟨rfl, by rw [ht]; exact ⟨x_F.rf, by unfold z_dec; rw [hq]; exact hP1⟩⟩) hF d_DL_decide_24
  · refine lv_iload_n hx hb d_DL_decide_7 rfl (lv_at hl 2 rfl) ?_
    refine x_cp (k_DL_96 (As := [.int u]) (rest := []) hx hb hml hown hts (c_DL_isDigit l D cA u) (x_preS hE trivial) rfl hl.1 rfl (Nat.le_of_ble_eq_true rfl) d_DL_decide_8 (by decide) ⟨Nat.zero_le _, Nat.zero_le _⟩) ?_
    refine x_topi (y := bI (q_dg u)) rfl ?_
    refine lv_if_eq (tgt := 22) hx hb d_DL_decide_11 (by decide) (fun h2 => ?_) (fun h2 => ?_)
    · have hq : (q_dg a && q_dg u && q_dg ow) = false := by rw [bI_0.mp h2]; simp
      refine lv_bipush (v := (-2)) hx hb d_DL_decide_22 (by decide) ?_
      refine x_topi (y := q_dec X hv a u ac th ow) (by unfold q_dec; rw [hq]; rfl) ?_
      exact W.iret hx hb hr (fun t ht hW => ⟨rfl, by rw [ht]; exact ⟨x_F.rf, by unfold z_dec; rw [hq]; exact hP1⟩⟩) hF d_DL_decide_24
    · refine lv_iload hx hb d_DL_decide_14 (lv_at hl 5 rfl) ?_
      refine x_cp (k_DL_96 (As := [.int ow]) (rest := []) hx hb hml hown hts (c_DL_isDigit l D cA ow) (x_preS hE trivial) rfl hl.1 rfl (Nat.le_of_ble_eq_true rfl) d_DL_decide_16 (by decide) ⟨Nat.zero_le _, Nat.zero_le _⟩) ?_
      refine x_topi (y := bI (q_dg ow)) rfl ?_
      refine lv_if_ne (tgt := 25) hx hb d_DL_decide_19 (by decide) (fun h3 => ?_) (fun h3 => ?_)
      · have hq : (q_dg a && q_dg u && q_dg ow) = true := by rw [bI_n0.mp h1, bI_n0.mp h2, bI_n0.mp h3]; rfl
        refine lv_iload_n hx hb d_DL_decide_25 rfl (lv_at hl 1 rfl) ?_
        refine lv_iload_n hx hb d_DL_decide_26 rfl (lv_at hl 2 rfl) ?_
        refine x_cp (k_DL_99 (As := [.int a, .int u]) (rest := []) hx hb hml hown hts (c_Statement_whoOfUser l D cA a u) (x_preS hE trivial) rfl hl.1 rfl (Nat.le_of_ble_eq_true rfl) d_DL_decide_27 (by decide) ⟨Nat.zero_le _, Nat.zero_le _⟩) ?_
        refine x_topi (y := q_who a u) rfl ?_
        generalize hw : q_who a u = W9
        refine lv_istore (lv' := [(8, .int W9), (0, .ref o), (1, .int a), (2, .int u), (3, .long ac), (5, .long th), (7, .int ow)]) hx hb d_DL_decide_30 hl (by decide) rfl (fun ls hl => ?_)
        refine lv_iconst (v := 0) hx hb d_DL_decide_32 (by decide) ?_
        refine lv_istore (lv' := [(9, .int 0), (8, .int W9), (0, .ref o), (1, .int a), (2, .int u), (3, .long ac), (5, .long th), (7, .int ow)]) hx hb d_DL_decide_33 hl (by decide) rfl (fun ls hl => ?_)
        refine x_loopH (I := fun r ls H locs => ∃ (j : Nat) (J : Nat → Nat), j + r = 6 ∧ (∀ i, i < j → J i = l_j (fun k => s_s (d_c X) (d_r X) hv W9 ac th (d_s X i k)) (d_k X i)) ∧ lv_has ls 10 [(9, .int (nI j)), (8, .int W9), (0, .ref o), (1, .int a), (3, .long ac), (5, .long th), (7, .int ow)] ∧ d_W D cA N o (d_setJ X J) H ∧ x_F (d_A o) s.heap H ∧ ∀ q ∈ locs, d_A o q.base) (fun r ls H locs ih h => ?_) (6) ⟨0, d_j X, by omega, fun i h => absurd h (Nat.not_lt_zero i), (lv_sub hl [0, 1, 2, 3, 5, 6, 7] rfl), hP1, x_F.rf, hF⟩
        obtain ⟨j, J, hjr, hJ, hl, hdw, hFr, hF⟩ := h
        have hN := hN.kF hFr hhi.out
        obtain ⟨hO, hV, hC, hLa, hLy⟩ := id hdw
        refine lv_iload hx hb d_DL_decide_35 (lv_at hl 0 rfl) ?_
        refine lv_bipush (v := 6) hx hb d_DL_decide_37 (by decide) ?_
        refine lv_icmp_ge (tgt := 67) hx hb d_DL_decide_39 (by decide) (fun g1 => ?_) (fun g1 => ?_)
        · have g1 := n_ge (k := 6) g1 (by decide) (by omega)
          have hz : d_W D cA N o (z_jud X hv W9 ac th) H := hdw.jcongr (fun i hi => hJ i (by omega))
          refine lv_aload_n hx hb d_DL_decide_67 rfl (lv_at hl 2 rfl) ?_
          refine lv_iload hx hb d_DL_decide_68 (lv_at hl 1 rfl) ?_
          refine x_joinH 81 (fun ls st H1 locs1 => lv_has ls 10 [(9, .int (nI j)), (8, .int W9), (0, .ref o), (1, .int a), (3, .long ac), (5, .long th), (7, .int ow)] ∧ st = [.int (bI (decide (ow = a))), .int W9, .ref o] ∧ H1 = H ∧ locs1 = locs) ?_ (fun hj => ?_)
          · intro ls st H1 locs1 hj
            obtain ⟨hl, rfl, rfl, rfl⟩ := hj
            refine x_cw (k_DL_107 (As := [.int W9, .int (bI (decide (ow = a)))]) (rest := []) hx hb hml hown hts (c_DL_conclude l D cA N o (z_jud X hv W9 ac th) (z_jud_lok hdo hv W9 ac th) W9 (decide (ow = a))) (x_preV hE hz.1 rfl rfl hz) rfl hl.1 rfl (Nat.le_of_ble_eq_true rfl) d_DL_decide_81 (by decide) ⟨Nat.zero_le _, Nat.zero_le _⟩) (fun H2 L2 p2 f2 => ?_)
            have hF := t_lL hF (fun q h => (show ∀ q : Nat, x_A [o] q → d_A o q from fun q h => by rw [x_A1.mp h]; exact d_A_in (by omega) (by omega)) q.base (f2 q h))
            refine x_topi (y := q_dec X hv a u ac th ow) (by unfold q_dec; rw [hq, if_pos rfl, hw]) ?_
            exact W.iret hx hb hr (fun t ht hW => ⟨rfl, by rw [ht]; exact ⟨hFr.trans (p2.1.mono (fun q h => by rw [x_A1.mp h]; exact d_A_in (by omega) (by omega))), by unfold z_dec; rw [hq, if_pos rfl, hw]; exact p2.2⟩⟩) hF d_DL_decide_84
          · refine lv_iload hx hb d_DL_decide_70 (lv_at hl 6 rfl) ?_
            refine lv_iload_n hx hb d_DL_decide_72 rfl (lv_at hl 3 rfl) ?_
            refine lv_icmp_ne (tgt := 80) hx hb d_DL_decide_73 (by decide) (fun e1 => ?_) (fun e1 => ?_)
            · refine lv_iconst (v := 0) hx hb d_DL_decide_80 (by decide) ?_
              refine x_topi (y := bI (decide (ow = a))) (by rw [bI_no e1]) ?_
              exact hj _ _ _ _ ⟨(lv_sub hl [0, 1, 2, 3, 4, 5, 6] rfl), rfl, rfl, rfl⟩
            · refine lv_iconst (v := 1) hx hb d_DL_decide_76 (by decide) ?_
              refine lv_goto (tgt := 81) hx hb d_DL_decide_77 (by decide) ?_
              refine x_topi (y := bI (decide (ow = a))) (by rw [bI_of e1]) ?_
              exact hj _ _ _ _ ⟨(lv_sub hl [0, 1, 2, 3, 4, 5, 6] rfl), rfl, rfl, rfl⟩
        · have g1 := n_lt (k := 6) g1 (by decide) (by omega)
          refine lv_aload_n hx hb d_DL_decide_42 rfl (lv_at hl 2 rfl) ?_
          refine fg_DL_24_DL hx hb hown hts hE hO rfl d_DL_decide_43 ?_
          refine lv_iload hx hb d_DL_decide_46 (lv_at hl 0 rfl) ?_
          refine x_aald hx hb hE.2.2 hLa 5 rfl g1 (by decide) d_DL_decide_48 ?_
          refine x_topv (y := .ref (o + 6 + 8 * j)) (rfl) ?_
          refine lv_iload hx hb d_DL_decide_49 (lv_at hl 1 rfl) ?_
          refine lv_lload_n hx hb d_DL_decide_51 rfl (lv_at hl 4 rfl) ?_
          refine lv_lload hx hb d_DL_decide_52 (lv_at hl 5 rfl) ?_
          refine lv_aload_n hx hb d_DL_decide_54 rfl (lv_at hl 2 rfl) ?_
          refine fg_DL_10_DL hx hb hown hts hE hO rfl d_DL_decide_55 ?_
          refine x_cv (k_DL_103 (As := [.int W9, .long ac, .long th, .ref (o + 1)]) (rest := []) hx hb hml hown hts (c_Layer_judge l D cA N (o + 6 + 8 * j) (d_k X j) (d_b X j) (J j) (d_s X j) (o + 1) (d_c X) (d_r X) made hv hok hdo.2.2.1 hVe (hdo.2.2.2.1 j g1).1 (hdo.2.2.2.2 j g1) (by omega) (fun i hi => by have := (hhi i hi).1; omega) W9 ac th) (x_preV hE (hLy j g1).1 rfl rfl ⟨hLy j g1, hN, hV⟩) rfl hl.1 rfl (Nat.le_of_ble_eq_true rfl) d_DL_decide_58 (by decide) ⟨Nat.zero_le _, Nat.zero_le _⟩) (fun H1 L1 p1 f1 => ?_)
          have hF := t_lL hF (fun q h => (show ∀ q : Nat, x_A [o + 6 + 8 * j] q → d_A o q from fun q h => by rw [x_A1.mp h]; exact d_A_in (by omega) (by omega)) q.base (f1 q h))
          have hd := hdw.jud (l := j) p1.1 (fun q h => by rw [x_A1.mp h]; omega) p1.2
          refine lv_iinc (k := 0) (v := nI (j + 1)) (lv' := [(9, .int (nI (j + 1))), (8, .int W9), (0, .ref o), (1, .int a), (3, .long ac), (5, .long th), (7, .int ow)]) hx hb d_DL_decide_61 hl rfl (x_inc _) (by decide) rfl (fun ls hl => ?_)
          refine lv_goto (tgt := 35) hx hb d_DL_decide_64 (by decide) ?_
          exact ih (r - 1) _ _ _ (by omega) ⟨j + 1, _, by omega, fun i hi => by
            by_cases e : i = j
            · subst e; simp only [va_up, if_pos]
            · simp only [va_up, if_neg e]; exact hJ i (by omega), (lv_sub hl [0, 1, 2, 3, 4, 5, 6] rfl), hd, hFr.trans (p1.1.mono (fun q h => by rw [x_A1.mp h]; exact d_A_in (by omega) (by omega))), hF⟩
      · have hq : (q_dg a && q_dg u && q_dg ow) = false := by rw [bI_0.mp h3]; simp
        refine lv_bipush (v := (-2)) hx hb d_DL_decide_22 (by decide) ?_
        refine x_topi (y := q_dec X hv a u ac th ow) (by unfold q_dec; rw [hq]; rfl) ?_
        exact W.iret hx hb hr (fun t ht hW => ⟨rfl, by rw [ht]; exact ⟨x_F.rf, by unfold z_dec; rw [hq]; exact hP1⟩⟩) hF d_DL_decide_24
