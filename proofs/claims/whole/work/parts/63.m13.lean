/-! deciding, in the model -/
theorem mb_o : ∀ d : Nat, d < 64 → ∀ c : Nat, c < 6 → nI d ||| ((1 : Int32) <<< (nI c &&& 31)) = nI (d ||| 2 ^ c) := by decide +kernel
theorem q_some_m (X : d_T) (l : Nat) (b : Bool) : q_some X l b (-1) = fun k => ((d_s X l k).1.testBit 0 == b) := by
  funext k; unfold q_some; rw [show decide ((-1 : Int32) < 0) = true from by decide]; simp
theorem m_Z_set (Y : m_T) (g g1 : Nat → Int32) (t : Nat) (f : Nat → Int32) : m_sI (m_tk (m_sI Y 19 g) t f) 19 g1 = m_tk (m_sI Y 19 g1) t f := by
  have e : va_up (va_up (va_up (m_i Y) 19 g) 20 f) 19 g1 = va_up (va_up (m_i Y) 19 g1) 20 f := by
    funext j
    by_cases h1 : j = 19
    · subst h1; rw [va_up_self, va_up_ne _ _ (by decide), va_up_self]
    · by_cases h2 : j = 20
      · subst h2; rw [va_up_ne _ _ (by decide), va_up_self, va_up_self]
      · rw [va_up_ne _ _ h1, va_up_ne _ _ h2, va_up_ne _ _ h1, va_up_ne _ _ h2, va_up_ne _ _ h1]
  show (Y.1, Y.2.1, Y.2.2.1, t, va_up (va_up (va_up (m_i Y) 19 g) 20 f) 19 g1, m_l Y) = (Y.1, Y.2.1, Y.2.2.1, t, va_up (va_up (m_i Y) 19 g1) 20 f, m_l Y)
  rw [e]
theorem m_R.setJ {made : Nat} {N : n_T} {X : d_T} {Y : m_T} (hR : m_R made N X Y) {g : Nat → Int32} {j : Nat → Nat} (h : ∀ i, i < 6 → g i = nI (j i)) (t : Nat) (f : Nat → Int32) : m_R made N (d_setJ X j) (m_tk (m_sI Y 19 g) t f) := by
  obtain ⟨r1, r2, r3, r4, r5, rN, rp, ri, rl, rs⟩ := hR
  exact ⟨r1, r2, r3, r4, r5, rN, rp, ri, fun l hl => ⟨(rl l hl).1, (rl l hl).2.1, h l hl⟩, rs⟩
theorem m_R.ent {made : Nat} {N : n_T} {X : d_T} {Y : m_T} (hR : m_R made N X Y) (e : Int32) : m_R made N (d_setE X e) (m_md Y, m_pl Y, e, m_tn Y, Y.2.2.2.2) := by
  obtain ⟨r1, r2, r3, r4, r5, rN, rp, ri, rl, rs⟩ := hR
  exact ⟨r1, r2, rfl, r4, r5, rN, rp, ri, rl, rs⟩
theorem who_pos : ∀ a : Nat, a < 10 → ∀ u : Nat, u < 10 → ¬ q_who (nI a) (nI u) < 0 := by decide +kernel
theorem q_some_n {X : d_T} {l : Nat} {u : Int32} (h : ¬ u < 0) : q_some X l false u = fun k => !(d_s X l k).1.testBit 0 && decide ((d_s X l k).2.2.2.1 = u) := by
  funext k; unfold q_some; rw [decide_eq_false h, Bool.false_or]; cases (d_s X l k).1.testBit 0 <;> rfl
theorem x_A1_A {m : Nat} (q : Nat) (h : x_A [m] q) : m_A m q := by rw [x_A1.mp h]; exact m_A_in (by omega) (by omega)
set_option maxHeartbeats 4000000 in
set_option maxRecDepth 100000 in
theorem c_M_decide (l : Launch) (D : va_G) (cA : Nat → ClassId) (m made : Nat) (N : n_T) (X : d_T) (hv : Nat → Bool) (hmd : made ≤ 512) (hok : n_ok made N) (hdo : d_ok made X) (hVe : n_V (d_c X) (d_r X) made N hv) (a u : Int32) (ac th : Int64) (ow : Int32) : Met l y_M_decide [.code y_M_decide b_M_decide 11 (some .int)] (x_rm 7 0 0) (x_P D cA [.ref m, .int a, .int u, .long ac, .long th, .int ow] (fun H => mm_W D cA m made N X H)) (x_Q (some (.int (q_dec X hv a u ac th ow))) (fun H H1 => x_F (m_A m) H H1 ∧ mm_W D cA m made N (z_dec X hv a u ac th ow) H1)) 0 0 (m_A m) := by
  refine x_met (own := "DecisionLayersModel") (by decide) rfl (Nat.le_of_ble_eq_true rfl) ?_
  intro pp ee s mm below mt cd ls hx hb hr hlk hnm hml hown hts hE hP hl
  have hl : lv_has ls 11 [(0, .ref m), (1, .int a), (2, .int u), (3, .long ac), (5, .long th), (7, .int ow)] := hl
  obtain ⟨Y, hW, hR⟩ := id hP
  obtain ⟨r1, r2, r3, r4, r5, rN, rp, ri, rl, rs⟩ := id hR
  have hF : ∀ q ∈ ([] : List Loc), m_A m q.base := t_nil
  obtain ⟨hn8, hpm, hvo, hdk, hds⟩ := id hdo
  refine lv_iload_n hx hb d_M_decide_0 rfl (lv_at hl 1 rfl) ?_
  refine lv_bipush (v := 9) hx hb d_M_decide_1 (by decide) ?_
  refine x_cp (k_M_106 (As := [.int a, .int 9]) (rest := []) hx hb hml hown hts (c_M_within l D cA a 9) (x_preS hE trivial) rfl hl.1 rfl (Nat.le_of_ble_eq_true rfl) d_M_decide_3 (by decide) ⟨Nat.zero_le _, Nat.zero_le _⟩) ?_
  refine x_topi (y := bI (q_dg a)) rfl ?_
  refine lv_if_eq (tgt := 28) hx hb d_M_decide_6 (by decide) (fun h1 => ?_) (fun h1 => ?_)
  · have hd : (q_dg a && q_dg u && q_dg ow) = false := by rw [bI_0.mp h1]; rfl
    refine lv_bipush (v := (-2)) hx hb d_M_decide_28 (by decide) ?_
    refine x_topi (y := q_dec X hv a u ac th ow) (by unfold q_dec; rw [hd]; rfl) ?_
    exact W.iret hx hb hr (fun t9 ht _ => ⟨rfl, by rw [ht]; unfold z_dec; rw [hd]; exact ⟨x_F.rf, hP⟩⟩) hF d_M_decide_30
  · refine lv_iload_n hx hb d_M_decide_9 rfl (lv_at hl 2 rfl) ?_
    refine lv_bipush (v := 9) hx hb d_M_decide_10 (by decide) ?_
    refine x_cp (k_M_106 (As := [.int u, .int 9]) (rest := []) hx hb hml hown hts (c_M_within l D cA u 9) (x_preS hE trivial) rfl hl.1 rfl (Nat.le_of_ble_eq_true rfl) d_M_decide_12 (by decide) ⟨Nat.zero_le _, Nat.zero_le _⟩) ?_
    refine x_topi (y := bI (q_dg u)) rfl ?_
    refine lv_if_eq (tgt := 28) hx hb d_M_decide_15 (by decide) (fun h2 => ?_) (fun h2 => ?_)
    · have hd : (q_dg a && q_dg u && q_dg ow) = false := by rw [bI_0.mp h2]; simp
      refine lv_bipush (v := (-2)) hx hb d_M_decide_28 (by decide) ?_
      refine x_topi (y := q_dec X hv a u ac th ow) (by unfold q_dec; rw [hd]; rfl) ?_
      exact W.iret hx hb hr (fun t9 ht _ => ⟨rfl, by rw [ht]; unfold z_dec; rw [hd]; exact ⟨x_F.rf, hP⟩⟩) hF d_M_decide_30
    · refine lv_iload hx hb d_M_decide_18 (lv_at hl 5 rfl) ?_
      refine lv_bipush (v := 9) hx hb d_M_decide_20 (by decide) ?_
      refine x_cp (k_M_106 (As := [.int ow, .int 9]) (rest := []) hx hb hml hown hts (c_M_within l D cA ow 9) (x_preS hE trivial) rfl hl.1 rfl (Nat.le_of_ble_eq_true rfl) d_M_decide_22 (by decide) ⟨Nat.zero_le _, Nat.zero_le _⟩) ?_
      refine x_topi (y := bI (q_dg ow)) rfl ?_
      refine lv_if_ne (tgt := 31) hx hb d_M_decide_25 (by decide) (fun h3 => ?_) (fun h3 => ?_)
      · have hd : (q_dg a && q_dg u && q_dg ow) = true := by rw [bI_n0.mp h1, bI_n0.mp h2, bI_n0.mp h3]; rfl
        have h1 := of_decide_eq_true (bI_n0.mp h1)
        have h2 := of_decide_eq_true (bI_n0.mp h2)
        obtain ⟨na, hna, rfl⟩ := nI_of2 (M := 9) (n := 9) (by decide) (Int32.not_lt.mpr h1.1) h1.2
        obtain ⟨nu, hnu, rfl⟩ := nI_of2 (M := 9) (n := 9) (by decide) (Int32.not_lt.mpr h2.1) h2.2
        refine lv_aload_n hx hb d_M_decide_31 rfl (lv_at hl 0 rfl) ?_
        refine x_cv (k_M_135 (As := []) (rest := []) hx hb hml hown hts (c_M_settle l D cA m Y N hv (by rw [r1]; exact hmd) (by rw [r1]; exact hok) (by rw [r1]; exact rN) (by rw [r4]; exact hvo) (by rw [r1, r4, r5]; exact hVe)) (x_preV hE hW.1 rfl rfl hW) rfl hl.1 rfl (Nat.le_of_ble_eq_true rfl) d_M_decide_32 (by decide) ⟨Nat.zero_le _, Nat.zero_le _⟩) (fun H1 L1 p1 f1 => ?_)
        have hF := t_lL hF (fun q h => (fun q h => m_hA_A h) q.base (f1 q h))
        obtain ⟨Y1, e1, hW1, hR1, hh⟩ : ∃ Y1, x_F (m_A m) s.heap H1 ∧ m_W D cA m Y1 H1 ∧ m_R made N X Y1 ∧ ∀ i, i < made → m_i Y1 10 i = bI (hv i) := by
          obtain ⟨e1, h, t, f, hW1, hh⟩ := p1
          exact ⟨_, e1.mono (fun q h => m_hA_A h), hW1, hR.h h t f, fun i hi => hh i (by rw [r1]; exact hi)⟩
        refine lv_iconst (v := 0) hx hb d_M_decide_35 (by decide) ?_
        refine lv_istore (lv' := [(8, .int 0), (0, .ref m), (1, .int (nI na)), (2, .int (nI nu)), (3, .long ac), (5, .long th), (7, .int ow)]) hx hb d_M_decide_36 hl (by decide) rfl (fun ls hl => ?_)
        refine x_loopH (I := fun r ls H locs => ∃ (lr t : Nat) (f g : Nat → Int32) (jj : Nat → Nat), lr + r = 6 ∧ (∀ i, i < 6 → g i = nI (jj i)) ∧ (∀ i, i < lr → jj i = l_j (fun k => s_s (d_c X) (d_r X) hv (q_who (nI na) (nI nu)) ac th (d_s X i k)) (d_k X i)) ∧ lv_has ls 11 [(8, .int (nI lr)), (0, .ref m), (1, .int (nI na)), (2, .int (nI nu)), (3, .long ac), (5, .long th), (7, .int ow)] ∧ m_W D cA m (m_tk (m_sI Y1 19 g) t f) H ∧ x_F (m_A m) s.heap H ∧ ∀ q ∈ locs, m_A m q.base) (fun r ls H locs ih h => ?_) (6) ⟨0, m_tn Y1, m_i Y1 20, m_i Y1 19, d_j X, rfl, fun i hi => (hR1.2.2.2.2.2.2.2.2.1 i hi).2.2, fun i hi => absurd hi (Nat.not_lt_zero i), (lv_sub hl [0, 1, 2, 3, 4, 5, 6] rfl), by rw [m_sI_self, m_tk_self]; exact hW1, e1, hF⟩
        obtain ⟨lr, t, f, g, jj, hlr, hg, hjj, hl, hW, hFr, hF⟩ := h
        refine lv_iload hx hb d_M_decide_38 (lv_at hl 0 rfl) ?_
        refine lv_bipush (v := 6) hx hb d_M_decide_40 (by decide) ?_
        refine lv_icmp_ge (tgt := 119) hx hb d_M_decide_42 (by decide) (fun g1 => ?_) (fun g1 => ?_)
        · have g1 := n_ge (k := 6) g1 (by decide) (by omega)
          obtain ⟨XJ, hXJ⟩ : ∃ XJ, XJ = z_jud X hv (q_who (nI na) (nI nu)) ac th := ⟨_, rfl⟩
          obtain ⟨Y2, hW, hRJ⟩ : ∃ Y2, m_W D cA m Y2 H ∧ m_R made N XJ Y2 := ⟨_, hW, by rw [hXJ]; exact hR1.setJ (fun i hi => by rw [hg i hi, hjj i (by omega)]) t f⟩
          have hJk : ∀ i, i < 6 → d_k XJ i ≤ 6 := fun i hi => by rw [hXJ]; exact (hdk i hi).1
          have hJj : ∀ i, i < 6 → d_j XJ i < 64 := fun i hi => by
            rw [hXJ]; exact Nat.lt_of_lt_of_le (l_j_lt _ (d_k X i)) (Nat.le_trans (Nat.pow_le_pow_right (by decide) (hdk i hi).1) (by decide))
          have hJs : ∀ i, i < 6 → ∀ k, k < 6 → (d_s XJ i k).1 < 16 := fun i hi k hk => by rw [hXJ]; exact (hds i hi k hk).1
          have hR9 : ∀ e l9, q_con XJ (q_who (nI na) (nI nu)) (decide (ow = nI na)) = (e, l9) → q_dec X hv (nI na) (nI nu) ac th ow = e ∧ z_dec X hv (nI na) (nI nu) ac th ow = d_setE XJ (nI l9) := fun e l9 h => by
            unfold q_dec z_dec; rw [hd, if_pos rfl, if_pos rfl, ← hXJ, h]; exact ⟨rfl, rfl⟩
          refine lv_iconst (v := 0) hx hb d_M_decide_119 (by decide) ?_
          refine lv_istore (lv' := [(8, .int 0), (0, .ref m), (1, .int (nI na)), (2, .int (nI nu)), (3, .long ac), (5, .long th), (7, .int ow)]) hx hb d_M_decide_120 hl (by decide) rfl (fun ls hl => ?_)
          refine x_loop (I := fun r3 ls => ∃ lr, lr + r3 = 6 ∧ (∀ k, k < lr → q_den XJ k = false) ∧ lv_has ls 11 [(8, .int (nI lr)), (0, .ref m), (1, .int (nI na)), (2, .int (nI nu)), (3, .long ac), (5, .long th), (7, .int ow)]) (fun r3 ls ih3 h => ?_) (6) ⟨0, rfl, fun k hk => absurd hk (Nat.not_lt_zero k), (lv_sub hl [0, 1, 2, 3, 4, 5, 6] rfl)⟩
          obtain ⟨lr, hlr, hden, hl⟩ := h
          refine lv_iload hx hb d_M_decide_122 (lv_at hl 0 rfl) ?_
          refine lv_bipush (v := 6) hx hb d_M_decide_124 (by decide) ?_
          refine lv_icmp_ge (tgt := 154) hx hb d_M_decide_126 (by decide) (fun g3 => ?_) (fun g3 => ?_)
          · have g3 := n_ge (k := 6) g3 (by decide) (by omega)
            have hden : ∀ k, k < 6 → q_den XJ k = false := fun k hk => hden k (by omega)
            refine x_join 165 (fun ls st => lv_has ls 11 [(0, .ref m), (1, .int (nI na)), (2, .int (nI nu)), (7, .int ow)] ∧ st = [.int (bI (decide (¬ ow = nI na)))]) ?_ (fun hj => ?_)
            · intro ls st hj
              obtain ⟨hl, rfl⟩ := hj
              refine lv_istore (lv' := [(8, .int (bI (decide (¬ ow = nI na)))), (0, .ref m), (1, .int (nI na)), (2, .int (nI nu)), (7, .int ow)]) hx hb d_M_decide_165 hl (by decide) rfl (fun ls hl => ?_)
              refine lv_aload_n hx hb d_M_decide_167 rfl (lv_at hl 1 rfl) ?_
              refine lv_iconst (v := 4) hx hb d_M_decide_168 (by decide) ?_
              refine lv_iconst (v := 0) hx hb d_M_decide_169 (by decide) ?_
              refine x_topi (y := bI false) rfl ?_
              refine lv_iconst (v := (-1)) hx hb d_M_decide_170 (by decide) ?_
              refine x_cp (k_M_142 (As := [.int 4, .int (bI false), .int (-1)]) (rest := []) hx hb hml hown hts (c_M_some l D cA m made N XJ Y2 hRJ 4 false (-1) (by omega) (hJk _ (by omega)) (hJj _ (by omega)) (hJs _ (by omega))) (x_preV hE hW.1 rfl rfl hW) rfl hl.1 rfl (Nat.le_of_ble_eq_true rfl) d_M_decide_171 (by decide) ⟨Nat.zero_le _, Nat.zero_le _⟩) ?_
              refine x_topi (y := bI (q_alw XJ 4)) (by rw [q_some_m]; rfl) ?_
              refine lv_istore (lv' := [(9, .int (bI (q_alw XJ 4))), (8, .int (bI (decide (¬ ow = nI na)))), (0, .ref m), (1, .int (nI na)), (2, .int (nI nu)), (7, .int ow)]) hx hb d_M_decide_174 hl (by decide) rfl (fun ls hl => ?_)
              refine lv_aload_n hx hb d_M_decide_176 rfl (lv_at hl 2 rfl) ?_
              refine lv_iconst (v := 5) hx hb d_M_decide_177 (by decide) ?_
              refine lv_iconst (v := 0) hx hb d_M_decide_178 (by decide) ?_
              refine x_topi (y := bI false) rfl ?_
              refine lv_iconst (v := (-1)) hx hb d_M_decide_179 (by decide) ?_
              refine x_cp (k_M_142 (As := [.int 5, .int (bI false), .int (-1)]) (rest := []) hx hb hml hown hts (c_M_some l D cA m made N XJ Y2 hRJ 5 false (-1) (by omega) (hJk _ (by omega)) (hJj _ (by omega)) (hJs _ (by omega))) (x_preV hE hW.1 rfl rfl hW) rfl hl.1 rfl (Nat.le_of_ble_eq_true rfl) d_M_decide_180 (by decide) ⟨Nat.zero_le _, Nat.zero_le _⟩) ?_
              refine x_topi (y := bI (q_alw XJ 5)) (by rw [q_some_m]; rfl) ?_
              refine lv_istore (lv' := [(10, .int (bI (q_alw XJ 5))), (9, .int (bI (q_alw XJ 4))), (8, .int (bI (decide (¬ ow = nI na)))), (0, .ref m), (1, .int (nI na)), (2, .int (nI nu)), (7, .int ow)]) hx hb d_M_decide_183 hl (by decide) rfl (fun ls hl => ?_)
              refine x_join 211 (fun ls st => lv_has ls 11 [(0, .ref m), (1, .int (nI na)), (2, .int (nI nu)), (7, .int ow), (8, .int (bI (decide (¬ ow = nI na)))), (9, .int (bI (q_alw XJ 4))), (10, .int (bI (q_alw XJ 5)))] ∧ st = [] ∧ q_bar XJ 0 = false) ?_ (fun hj => ?_)
              · intro ls st hj
                obtain ⟨hl, rfl, hb0⟩ := hj
                refine x_join 237 (fun ls st => lv_has ls 11 [(0, .ref m), (1, .int (nI na)), (2, .int (nI nu)), (7, .int ow), (8, .int (bI (decide (¬ ow = nI na)))), (9, .int (bI (q_alw XJ 4))), (10, .int (bI (q_alw XJ 5)))] ∧ st = [] ∧ q_bar XJ 1 = false) ?_ (fun hj => ?_)
                · intro ls st hj
                  obtain ⟨hl, rfl, hb1⟩ := hj
                  have hcg := q_con_g (u := (q_who (nI na) (nI nu))) (own := decide (ow = nI na)) hden (fun k hk => by
                    rcases (show k = 0 ∨ k = 1 by omega) with rfl | rfl
                    · exact hb0
                    · exact hb1)
                  refine x_join 267 (fun ls st => lv_has ls 11 [(0, .ref m), (1, .int (nI na)), (2, .int (nI nu)), (7, .int ow), (8, .int (bI (decide (¬ ow = nI na)))), (9, .int (bI (q_alw XJ 4))), (10, .int (bI (q_alw XJ 5)))] ∧ st = [] ∧ (decide (ow = nI na) && q_nam XJ (q_who (nI na) (nI nu))) = false) ?_ (fun hj => ?_)
                  · intro ls st hj
                    obtain ⟨hl, rfl, hnm9⟩ := hj
                    rw [if_neg (by rw [hnm9]; decide)] at hcg
                    refine x_join 289 (fun ls st => lv_has ls 11 [(0, .ref m), (1, .int (nI na)), (2, .int (nI nu)), (7, .int ow), (8, .int (bI (decide (¬ ow = nI na)))), (9, .int (bI (q_alw XJ 4))), (10, .int (bI (q_alw XJ 5)))] ∧ st = [] ∧ (!q_alw XJ 4 && !(decide (ow = nI na) && q_alw XJ 5)) = false) ?_ (fun hj => ?_)
                    · intro ls st hj
                      obtain ⟨hl, rfl, hg1⟩ := hj
                      refine x_join 306 (fun ls st => lv_has ls 11 [(0, .ref m), (1, .int (nI na)), (2, .int (nI nu)), (7, .int ow), (8, .int (bI (decide (¬ ow = nI na)))), (9, .int (bI (q_alw XJ 4))), (10, .int (bI (q_alw XJ 5)))] ∧ st = [] ∧ (!decide (ow = nI na) && !q_alw XJ 5) = false) ?_ (fun hj => ?_)
                      · intro ls st hj
                        obtain ⟨hl, rfl, hg2⟩ := hj
                        refine x_join 332 (fun ls st => lv_has ls 11 [(0, .ref m), (1, .int (nI na)), (2, .int (nI nu)), (7, .int ow), (8, .int (bI (decide (¬ ow = nI na)))), (9, .int (bI (q_alw XJ 4))), (10, .int (bI (q_alw XJ 5)))] ∧ st = [] ∧ q_bar XJ 2 = false) ?_ (fun hj => ?_)
                        · intro ls st hj
                          obtain ⟨hl, rfl, hb2⟩ := hj
                          refine x_join 358 (fun ls st => lv_has ls 11 [(0, .ref m), (1, .int (nI na)), (2, .int (nI nu)), (7, .int ow), (8, .int (bI (decide (¬ ow = nI na)))), (9, .int (bI (q_alw XJ 4))), (10, .int (bI (q_alw XJ 5)))] ∧ st = [] ∧ q_bar XJ 3 = false) ?_ (fun hj => ?_)
                          · intro ls st hj
                            obtain ⟨hl, rfl, hb3⟩ := hj
                            refine lv_aload_n hx hb d_M_decide_358 rfl (lv_at hl 0 rfl) ?_
                            refine lv_iconst (v := 1) hx hb d_M_decide_359 (by decide) ?_
                            refine lv_iload hx hb d_M_decide_360 (lv_at hl 5 rfl) ?_
                            refine lv_if_eq (tgt := 369) hx hb d_M_decide_362 (by decide) (fun z1 => ?_) (fun z1 => ?_)
                            · obtain ⟨q1, q2⟩ := hR9 (1) (5) (by rw [hcg]; unfold q_gr; rw [if_neg (by rw [hg1]; decide), if_neg (by rw [hg2]; decide), if_neg (by rw [hb2]; decide), if_neg (by rw [hb3]; decide), bI_0.mp z1, if_neg (by decide)])
                              refine lv_iconst (v := 5) hx hb d_M_decide_369 (by decide) ?_
                              refine x_cw (k_M_146 (As := [.int 1, .int 5]) (rest := []) hx hb hml hown hts (c_M_answer l D cA m Y2 (1) (nI 5)) (x_preV hE hW.1 rfl rfl hW) rfl hl.1 rfl (Nat.le_of_ble_eq_true rfl) d_M_decide_370 (by decide) ⟨Nat.zero_le _, Nat.zero_le _⟩) (fun H7 L7 p7 f7 => ?_)
                              have hF := t_lL hF (fun q h => x_A1_A q.base (f7 q h))
                              obtain ⟨e7, hW7⟩ := p7
                              refine x_topi (y := q_dec X hv (nI na) (nI nu) ac th ow) q1.symm ?_
                              exact W.iret hx hb hr (fun t9 ht _ => ⟨rfl, by rw [ht, q2]; exact ⟨hFr.trans (e7.mono x_A1_A), _, hW7, hRJ.ent _⟩⟩) hF d_M_decide_373
                            · obtain ⟨q1, q2⟩ := hR9 (1) (4) (by rw [hcg]; unfold q_gr; rw [if_neg (by rw [hg1]; decide), if_neg (by rw [hg2]; decide), if_neg (by rw [hb2]; decide), if_neg (by rw [hb3]; decide), bI_n0.mp z1, if_pos rfl])
                              refine lv_iconst (v := 4) hx hb d_M_decide_365 (by decide) ?_
                              refine lv_goto (tgt := 370) hx hb d_M_decide_366 (by decide) ?_
                              refine x_cw (k_M_146 (As := [.int 1, .int 4]) (rest := []) hx hb hml hown hts (c_M_answer l D cA m Y2 (1) (nI 4)) (x_preV hE hW.1 rfl rfl hW) rfl hl.1 rfl (Nat.le_of_ble_eq_true rfl) d_M_decide_370 (by decide) ⟨Nat.zero_le _, Nat.zero_le _⟩) (fun H7 L7 p7 f7 => ?_)
                              have hF := t_lL hF (fun q h => x_A1_A q.base (f7 q h))
                              obtain ⟨e7, hW7⟩ := p7
                              refine x_topi (y := q_dec X hv (nI na) (nI nu) ac th ow) q1.symm ?_
                              exact W.iret hx hb hr (fun t9 ht _ => ⟨rfl, by rw [ht, q2]; exact ⟨hFr.trans (e7.mono x_A1_A), _, hW7, hRJ.ent _⟩⟩) hF d_M_decide_373
                          · refine lv_aload_n hx hb d_M_decide_332 rfl (lv_at hl 0 rfl) ?_
                            refine fg_M_46_M hx hb hown hts hE hW.1 rfl d_M_decide_333 ?_
                            refine lv_iconst (v := 3) hx hb d_M_decide_336 (by decide) ?_
                            refine x_topi (y := nI 3) rfl ?_
                            refine x_zald hx hb hE.2.2 (show va_at D x_cl (m + 12, .inl (cA 3, 6, .inl (m_i Y2 12))) _ from hW.2 12 (by decide) (by decide)) 3 rfl (by decide) (by decide) d_M_decide_337 ?_
                            refine x_topi (y := bI (d_b XJ 3)) (hRJ.2.2.2.2.2.2.2.2.1 3 (by decide)).1 ?_
                            refine lv_if_eq (tgt := 358) hx hb d_M_decide_338 (by decide) (fun z1 => ?_) (fun z1 => ?_)
                            · exact hj _ _ ⟨(lv_sub hl [0, 1, 2, 3, 4, 5, 6] rfl), rfl, by unfold q_bar; rw [bI_0.mp z1]; rfl⟩
                            · refine lv_aload_n hx hb d_M_decide_341 rfl (lv_at hl 0 rfl) ?_
                              refine lv_iconst (v := 3) hx hb d_M_decide_342 (by decide) ?_
                              refine lv_iconst (v := 0) hx hb d_M_decide_343 (by decide) ?_
                              refine x_topi (y := bI false) rfl ?_
                              refine lv_iconst (v := (-1)) hx hb d_M_decide_344 (by decide) ?_
                              refine x_cp (k_M_142 (As := [.int 3, .int (bI false), .int (-1)]) (rest := []) hx hb hml hown hts (c_M_some l D cA m made N XJ Y2 hRJ 3 false (-1) (by omega) (hJk _ (by omega)) (hJj _ (by omega)) (hJs _ (by omega))) (x_preV hE hW.1 rfl rfl hW) rfl hl.1 rfl (Nat.le_of_ble_eq_true rfl) d_M_decide_345 (by decide) ⟨Nat.zero_le _, Nat.zero_le _⟩) ?_
                              refine x_topi (y := bI (q_alw XJ 3)) (by rw [q_some_m]; rfl) ?_
                              refine lv_if_ne (tgt := 358) hx hb d_M_decide_348 (by decide) (fun z2 => ?_) (fun z2 => ?_)
                              · exact hj _ _ ⟨(lv_sub hl [0, 1, 2, 3, 4, 5, 6] rfl), rfl, by unfold q_bar; rw [bI_n0.mp z2]; simp⟩
                              · have hbt : q_bar XJ 3 = true := by unfold q_bar; rw [bI_n0.mp z1, bI_0.mp z2]; rfl
                                obtain ⟨q1, q2⟩ := hR9 (0) (3) (by rw [hcg]; unfold q_gr; rw [if_neg (by rw [hg1]; decide), if_neg (by rw [hg2]; decide), if_neg (by rw [hb2]; decide), if_pos hbt])
                                refine lv_aload_n hx hb d_M_decide_351 rfl (lv_at hl 0 rfl) ?_
                                refine lv_iconst (v := 0) hx hb d_M_decide_352 (by decide) ?_
                                refine lv_iconst (v := 3) hx hb d_M_decide_353 (by decide) ?_
                                refine x_cw (k_M_146 (As := [.int 0, .int 3]) (rest := []) hx hb hml hown hts (c_M_answer l D cA m Y2 (0) (nI 3)) (x_preV hE hW.1 rfl rfl hW) rfl hl.1 rfl (Nat.le_of_ble_eq_true rfl) d_M_decide_354 (by decide) ⟨Nat.zero_le _, Nat.zero_le _⟩) (fun H7 L7 p7 f7 => ?_)
                                have hF := t_lL hF (fun q h => x_A1_A q.base (f7 q h))
                                obtain ⟨e7, hW7⟩ := p7
                                refine x_topi (y := q_dec X hv (nI na) (nI nu) ac th ow) q1.symm ?_
                                exact W.iret hx hb hr (fun t9 ht _ => ⟨rfl, by rw [ht, q2]; exact ⟨hFr.trans (e7.mono x_A1_A), _, hW7, hRJ.ent _⟩⟩) hF d_M_decide_357
                        · refine lv_aload_n hx hb d_M_decide_306 rfl (lv_at hl 0 rfl) ?_
                          refine fg_M_46_M hx hb hown hts hE hW.1 rfl d_M_decide_307 ?_
                          refine lv_iconst (v := 2) hx hb d_M_decide_310 (by decide) ?_
                          refine x_topi (y := nI 2) rfl ?_
                          refine x_zald hx hb hE.2.2 (show va_at D x_cl (m + 12, .inl (cA 3, 6, .inl (m_i Y2 12))) _ from hW.2 12 (by decide) (by decide)) 3 rfl (by decide) (by decide) d_M_decide_311 ?_
                          refine x_topi (y := bI (d_b XJ 2)) (hRJ.2.2.2.2.2.2.2.2.1 2 (by decide)).1 ?_
                          refine lv_if_eq (tgt := 332) hx hb d_M_decide_312 (by decide) (fun z1 => ?_) (fun z1 => ?_)
                          · exact hj _ _ ⟨(lv_sub hl [0, 1, 2, 3, 4, 5, 6] rfl), rfl, by unfold q_bar; rw [bI_0.mp z1]; rfl⟩
                          · refine lv_aload_n hx hb d_M_decide_315 rfl (lv_at hl 0 rfl) ?_
                            refine lv_iconst (v := 2) hx hb d_M_decide_316 (by decide) ?_
                            refine lv_iconst (v := 0) hx hb d_M_decide_317 (by decide) ?_
                            refine x_topi (y := bI false) rfl ?_
                            refine lv_iconst (v := (-1)) hx hb d_M_decide_318 (by decide) ?_
                            refine x_cp (k_M_142 (As := [.int 2, .int (bI false), .int (-1)]) (rest := []) hx hb hml hown hts (c_M_some l D cA m made N XJ Y2 hRJ 2 false (-1) (by omega) (hJk _ (by omega)) (hJj _ (by omega)) (hJs _ (by omega))) (x_preV hE hW.1 rfl rfl hW) rfl hl.1 rfl (Nat.le_of_ble_eq_true rfl) d_M_decide_319 (by decide) ⟨Nat.zero_le _, Nat.zero_le _⟩) ?_
                            refine x_topi (y := bI (q_alw XJ 2)) (by rw [q_some_m]; rfl) ?_
                            refine lv_if_ne (tgt := 332) hx hb d_M_decide_322 (by decide) (fun z2 => ?_) (fun z2 => ?_)
                            · exact hj _ _ ⟨(lv_sub hl [0, 1, 2, 3, 4, 5, 6] rfl), rfl, by unfold q_bar; rw [bI_n0.mp z2]; simp⟩
                            · have hbt : q_bar XJ 2 = true := by unfold q_bar; rw [bI_n0.mp z1, bI_0.mp z2]; rfl
                              obtain ⟨q1, q2⟩ := hR9 (0) (2) (by rw [hcg]; unfold q_gr; rw [if_neg (by rw [hg1]; decide), if_neg (by rw [hg2]; decide), if_pos hbt])
                              refine lv_aload_n hx hb d_M_decide_325 rfl (lv_at hl 0 rfl) ?_
                              refine lv_iconst (v := 0) hx hb d_M_decide_326 (by decide) ?_
                              refine lv_iconst (v := 2) hx hb d_M_decide_327 (by decide) ?_
                              refine x_cw (k_M_146 (As := [.int 0, .int 2]) (rest := []) hx hb hml hown hts (c_M_answer l D cA m Y2 (0) (nI 2)) (x_preV hE hW.1 rfl rfl hW) rfl hl.1 rfl (Nat.le_of_ble_eq_true rfl) d_M_decide_328 (by decide) ⟨Nat.zero_le _, Nat.zero_le _⟩) (fun H7 L7 p7 f7 => ?_)
                              have hF := t_lL hF (fun q h => x_A1_A q.base (f7 q h))
                              obtain ⟨e7, hW7⟩ := p7
                              refine x_topi (y := q_dec X hv (nI na) (nI nu) ac th ow) q1.symm ?_
                              exact W.iret hx hb hr (fun t9 ht _ => ⟨rfl, by rw [ht, q2]; exact ⟨hFr.trans (e7.mono x_A1_A), _, hW7, hRJ.ent _⟩⟩) hF d_M_decide_331
                      · refine lv_iload hx hb d_M_decide_289 (lv_at hl 4 rfl) ?_
                        refine lv_if_eq (tgt := 306) hx hb d_M_decide_291 (by decide) (fun z1 => ?_) (fun z1 => ?_)
                        · exact hj _ _ ⟨(lv_sub hl [0, 1, 2, 3, 4, 5, 6] rfl), rfl, by rw [decide_eq_true (Decidable.not_not.mp (of_decide_eq_false (bI_0.mp z1)))]; rfl⟩
                        · refine lv_iload hx hb d_M_decide_294 (lv_at hl 6 rfl) ?_
                          refine lv_if_ne (tgt := 306) hx hb d_M_decide_296 (by decide) (fun z2 => ?_) (fun z2 => ?_)
                          · exact hj _ _ ⟨(lv_sub hl [0, 1, 2, 3, 4, 5, 6] rfl), rfl, by rw [bI_n0.mp z2]; simp⟩
                          · obtain ⟨q1, q2⟩ := hR9 (0) (5) (by rw [hcg]; unfold q_gr; rw [if_neg (by rw [hg1]; decide), if_pos (by rw [decide_eq_false (of_decide_eq_true (bI_n0.mp z1)), bI_0.mp z2]; rfl)])
                            refine lv_aload_n hx hb d_M_decide_299 rfl (lv_at hl 0 rfl) ?_
                            refine lv_iconst (v := 0) hx hb d_M_decide_300 (by decide) ?_
                            refine lv_iconst (v := 5) hx hb d_M_decide_301 (by decide) ?_
                            refine x_cw (k_M_146 (As := [.int 0, .int 5]) (rest := []) hx hb hml hown hts (c_M_answer l D cA m Y2 (0) (nI 5)) (x_preV hE hW.1 rfl rfl hW) rfl hl.1 rfl (Nat.le_of_ble_eq_true rfl) d_M_decide_302 (by decide) ⟨Nat.zero_le _, Nat.zero_le _⟩) (fun H7 L7 p7 f7 => ?_)
                            have hF := t_lL hF (fun q h => x_A1_A q.base (f7 q h))
                            obtain ⟨e7, hW7⟩ := p7
                            refine x_topi (y := q_dec X hv (nI na) (nI nu) ac th ow) q1.symm ?_
                            exact W.iret hx hb hr (fun t9 ht _ => ⟨rfl, by rw [ht, q2]; exact ⟨hFr.trans (e7.mono x_A1_A), _, hW7, hRJ.ent _⟩⟩) hF d_M_decide_305
                    · refine lv_iload hx hb d_M_decide_267 (lv_at hl 5 rfl) ?_
                      refine lv_if_ne (tgt := 289) hx hb d_M_decide_269 (by decide) (fun z1 => ?_) (fun z1 => ?_)
                      · exact hj _ _ ⟨(lv_sub hl [0, 1, 2, 3, 4, 5, 6] rfl), rfl, by rw [bI_n0.mp z1]; rfl⟩
                      · refine lv_iload hx hb d_M_decide_272 (lv_at hl 4 rfl) ?_
                        refine lv_if_ne (tgt := 282) hx hb d_M_decide_274 (by decide) (fun z2 => ?_) (fun z2 => ?_)
                        · obtain ⟨q1, q2⟩ := hR9 (0) (4) (by rw [hcg]; unfold q_gr; rw [if_pos (by rw [bI_0.mp z1, decide_eq_false (of_decide_eq_true (bI_n0.mp z2))]; rfl)])
                          refine lv_aload_n hx hb d_M_decide_282 rfl (lv_at hl 0 rfl) ?_
                          refine lv_iconst (v := 0) hx hb d_M_decide_283 (by decide) ?_
                          refine lv_iconst (v := 4) hx hb d_M_decide_284 (by decide) ?_
                          refine x_cw (k_M_146 (As := [.int 0, .int 4]) (rest := []) hx hb hml hown hts (c_M_answer l D cA m Y2 (0) (nI 4)) (x_preV hE hW.1 rfl rfl hW) rfl hl.1 rfl (Nat.le_of_ble_eq_true rfl) d_M_decide_285 (by decide) ⟨Nat.zero_le _, Nat.zero_le _⟩) (fun H7 L7 p7 f7 => ?_)
                          have hF := t_lL hF (fun q h => x_A1_A q.base (f7 q h))
                          obtain ⟨e7, hW7⟩ := p7
                          refine x_topi (y := q_dec X hv (nI na) (nI nu) ac th ow) q1.symm ?_
                          exact W.iret hx hb hr (fun t9 ht _ => ⟨rfl, by rw [ht, q2]; exact ⟨hFr.trans (e7.mono x_A1_A), _, hW7, hRJ.ent _⟩⟩) hF d_M_decide_288
                        · have z2 : ow = nI na := Decidable.not_not.mp (of_decide_eq_false (bI_0.mp z2))
                          refine lv_iload hx hb d_M_decide_277 (lv_at hl 6 rfl) ?_
                          refine lv_if_ne (tgt := 289) hx hb d_M_decide_279 (by decide) (fun z3 => ?_) (fun z3 => ?_)
                          · exact hj _ _ ⟨(lv_sub hl [0, 1, 2, 3, 4, 5, 6] rfl), rfl, by rw [decide_eq_true z2, bI_n0.mp z3]; simp⟩
                          · obtain ⟨q1, q2⟩ := hR9 (0) (4) (by rw [hcg]; unfold q_gr; rw [if_pos (by rw [bI_0.mp z1, bI_0.mp z3]; simp)])
                            refine lv_aload_n hx hb d_M_decide_282 rfl (lv_at hl 0 rfl) ?_
                            refine lv_iconst (v := 0) hx hb d_M_decide_283 (by decide) ?_
                            refine lv_iconst (v := 4) hx hb d_M_decide_284 (by decide) ?_
                            refine x_cw (k_M_146 (As := [.int 0, .int 4]) (rest := []) hx hb hml hown hts (c_M_answer l D cA m Y2 (0) (nI 4)) (x_preV hE hW.1 rfl rfl hW) rfl hl.1 rfl (Nat.le_of_ble_eq_true rfl) d_M_decide_285 (by decide) ⟨Nat.zero_le _, Nat.zero_le _⟩) (fun H7 L7 p7 f7 => ?_)
                            have hF := t_lL hF (fun q h => x_A1_A q.base (f7 q h))
                            obtain ⟨e7, hW7⟩ := p7
                            refine x_topi (y := q_dec X hv (nI na) (nI nu) ac th ow) q1.symm ?_
                            exact W.iret hx hb hr (fun t9 ht _ => ⟨rfl, by rw [ht, q2]; exact ⟨hFr.trans (e7.mono x_A1_A), _, hW7, hRJ.ent _⟩⟩) hF d_M_decide_288
                  · refine lv_iload hx hb d_M_decide_237 (lv_at hl 4 rfl) ?_
                    refine lv_if_ne (tgt := 267) hx hb d_M_decide_239 (by decide) (fun z1 => ?_) (fun z1 => ?_)
                    · exact hj _ _ ⟨(lv_sub hl [0, 1, 2, 3, 4, 5, 6] rfl), rfl, by rw [decide_eq_false (of_decide_eq_true (bI_n0.mp z1))]; rfl⟩
                    · have z1 : ow = nI na := Decidable.not_not.mp (of_decide_eq_false (bI_0.mp z1))
                      refine lv_aload_n hx hb d_M_decide_242 rfl (lv_at hl 0 rfl) ?_
                      refine lv_iconst (v := 5) hx hb d_M_decide_243 (by decide) ?_
                      refine lv_iconst (v := 0) hx hb d_M_decide_244 (by decide) ?_
                      refine x_topi (y := bI false) rfl ?_
                      refine lv_bipush (v := 100) hx hb d_M_decide_245 (by decide) ?_
                      refine lv_bipush (v := 10) hx hb d_M_decide_247 (by decide) ?_
                      refine lv_iload_n hx hb d_M_decide_249 rfl (lv_at hl 1 rfl) ?_
                      refine lv_imul hx hb d_M_decide_250 ?_
                      refine lv_iadd hx hb d_M_decide_251 ?_
                      refine lv_iload_n hx hb d_M_decide_252 rfl (lv_at hl 2 rfl) ?_
                      refine lv_iadd hx hb d_M_decide_253 ?_
                      refine x_topi (y := q_who (nI na) (nI nu)) rfl ?_
                      refine x_cp (k_M_142 (As := [.int 5, .int (bI false), .int (q_who (nI na) (nI nu))]) (rest := []) hx hb hml hown hts (c_M_some l D cA m made N XJ Y2 hRJ 5 false ((q_who (nI na) (nI nu))) (by omega) (hJk _ (by omega)) (hJj _ (by omega)) (hJs _ (by omega))) (x_preV hE hW.1 rfl rfl hW) rfl hl.1 rfl (Nat.le_of_ble_eq_true rfl) d_M_decide_254 (by decide) ⟨Nat.zero_le _, Nat.zero_le _⟩) ?_
                      refine x_topi (y := bI (q_nam XJ (q_who (nI na) (nI nu)))) (by rw [q_some_n (who_pos na (by omega) nu (by omega))]; rfl) ?_
                      refine lv_if_eq (tgt := 267) hx hb d_M_decide_257 (by decide) (fun z2 => ?_) (fun z2 => ?_)
                      · exact hj _ _ ⟨(lv_sub hl [0, 1, 2, 3, 4, 5, 6] rfl), rfl, by rw [bI_0.mp z2]; simp⟩
                      · obtain ⟨q1, q2⟩ := hR9 (1) (5) (by rw [hcg, if_pos (by rw [decide_eq_true z1, bI_n0.mp z2]; rfl)])
                        refine lv_aload_n hx hb d_M_decide_260 rfl (lv_at hl 0 rfl) ?_
                        refine lv_iconst (v := 1) hx hb d_M_decide_261 (by decide) ?_
                        refine lv_iconst (v := 5) hx hb d_M_decide_262 (by decide) ?_
                        refine x_cw (k_M_146 (As := [.int 1, .int 5]) (rest := []) hx hb hml hown hts (c_M_answer l D cA m Y2 (1) (nI 5)) (x_preV hE hW.1 rfl rfl hW) rfl hl.1 rfl (Nat.le_of_ble_eq_true rfl) d_M_decide_263 (by decide) ⟨Nat.zero_le _, Nat.zero_le _⟩) (fun H7 L7 p7 f7 => ?_)
                        have hF := t_lL hF (fun q h => x_A1_A q.base (f7 q h))
                        obtain ⟨e7, hW7⟩ := p7
                        refine x_topi (y := q_dec X hv (nI na) (nI nu) ac th ow) q1.symm ?_
                        exact W.iret hx hb hr (fun t9 ht _ => ⟨rfl, by rw [ht, q2]; exact ⟨hFr.trans (e7.mono x_A1_A), _, hW7, hRJ.ent _⟩⟩) hF d_M_decide_266
                · refine lv_aload_n hx hb d_M_decide_211 rfl (lv_at hl 0 rfl) ?_
                  refine fg_M_46_M hx hb hown hts hE hW.1 rfl d_M_decide_212 ?_
                  refine lv_iconst (v := 1) hx hb d_M_decide_215 (by decide) ?_
                  refine x_topi (y := nI 1) rfl ?_
                  refine x_zald hx hb hE.2.2 (show va_at D x_cl (m + 12, .inl (cA 3, 6, .inl (m_i Y2 12))) _ from hW.2 12 (by decide) (by decide)) 3 rfl (by decide) (by decide) d_M_decide_216 ?_
                  refine x_topi (y := bI (d_b XJ 1)) (hRJ.2.2.2.2.2.2.2.2.1 1 (by decide)).1 ?_
                  refine lv_if_eq (tgt := 237) hx hb d_M_decide_217 (by decide) (fun z1 => ?_) (fun z1 => ?_)
                  · exact hj _ _ ⟨(lv_sub hl [0, 1, 2, 3, 4, 5, 6] rfl), rfl, by unfold q_bar; rw [bI_0.mp z1]; rfl⟩
                  · refine lv_aload_n hx hb d_M_decide_220 rfl (lv_at hl 0 rfl) ?_
                    refine lv_iconst (v := 1) hx hb d_M_decide_221 (by decide) ?_
                    refine lv_iconst (v := 0) hx hb d_M_decide_222 (by decide) ?_
                    refine x_topi (y := bI false) rfl ?_
                    refine lv_iconst (v := (-1)) hx hb d_M_decide_223 (by decide) ?_
                    refine x_cp (k_M_142 (As := [.int 1, .int (bI false), .int (-1)]) (rest := []) hx hb hml hown hts (c_M_some l D cA m made N XJ Y2 hRJ 1 false (-1) (by omega) (hJk _ (by omega)) (hJj _ (by omega)) (hJs _ (by omega))) (x_preV hE hW.1 rfl rfl hW) rfl hl.1 rfl (Nat.le_of_ble_eq_true rfl) d_M_decide_224 (by decide) ⟨Nat.zero_le _, Nat.zero_le _⟩) ?_
                    refine x_topi (y := bI (q_alw XJ 1)) (by rw [q_some_m]; rfl) ?_
                    refine lv_if_ne (tgt := 237) hx hb d_M_decide_227 (by decide) (fun z2 => ?_) (fun z2 => ?_)
                    · exact hj _ _ ⟨(lv_sub hl [0, 1, 2, 3, 4, 5, 6] rfl), rfl, by unfold q_bar; rw [bI_n0.mp z2]; simp⟩
                    · have hbt : q_bar XJ 1 = true := by unfold q_bar; rw [bI_n0.mp z1, bI_0.mp z2]; rfl
                      obtain ⟨q1, q2⟩ := hR9 (0) (1) (q_con_b hden (by decide) hbt (fun k hk => by rw [show k = 0 by omega]; exact hb0))
                      refine lv_aload_n hx hb d_M_decide_230 rfl (lv_at hl 0 rfl) ?_
                      refine lv_iconst (v := 0) hx hb d_M_decide_231 (by decide) ?_
                      refine lv_iconst (v := 1) hx hb d_M_decide_232 (by decide) ?_
                      refine x_cw (k_M_146 (As := [.int 0, .int 1]) (rest := []) hx hb hml hown hts (c_M_answer l D cA m Y2 (0) (nI 1)) (x_preV hE hW.1 rfl rfl hW) rfl hl.1 rfl (Nat.le_of_ble_eq_true rfl) d_M_decide_233 (by decide) ⟨Nat.zero_le _, Nat.zero_le _⟩) (fun H7 L7 p7 f7 => ?_)
                      have hF := t_lL hF (fun q h => x_A1_A q.base (f7 q h))
                      obtain ⟨e7, hW7⟩ := p7
                      refine x_topi (y := q_dec X hv (nI na) (nI nu) ac th ow) q1.symm ?_
                      exact W.iret hx hb hr (fun t9 ht _ => ⟨rfl, by rw [ht, q2]; exact ⟨hFr.trans (e7.mono x_A1_A), _, hW7, hRJ.ent _⟩⟩) hF d_M_decide_236
              · refine lv_aload_n hx hb d_M_decide_185 rfl (lv_at hl 3 rfl) ?_
                refine fg_M_46_M hx hb hown hts hE hW.1 rfl d_M_decide_186 ?_
                refine lv_iconst (v := 0) hx hb d_M_decide_189 (by decide) ?_
                refine x_topi (y := nI 0) rfl ?_
                refine x_zald hx hb hE.2.2 (show va_at D x_cl (m + 12, .inl (cA 3, 6, .inl (m_i Y2 12))) _ from hW.2 12 (by decide) (by decide)) 3 rfl (by decide) (by decide) d_M_decide_190 ?_
                refine x_topi (y := bI (d_b XJ 0)) (hRJ.2.2.2.2.2.2.2.2.1 0 (by decide)).1 ?_
                refine lv_if_eq (tgt := 211) hx hb d_M_decide_191 (by decide) (fun z1 => ?_) (fun z1 => ?_)
                · exact hj _ _ ⟨(lv_sub hl [3, 4, 5, 6, 2, 1, 0] rfl), rfl, by unfold q_bar; rw [bI_0.mp z1]; rfl⟩
                · refine lv_aload_n hx hb d_M_decide_194 rfl (lv_at hl 3 rfl) ?_
                  refine lv_iconst (v := 0) hx hb d_M_decide_195 (by decide) ?_
                  refine lv_iconst (v := 0) hx hb d_M_decide_196 (by decide) ?_
                  refine x_topi (y := bI false) rfl ?_
                  refine lv_iconst (v := (-1)) hx hb d_M_decide_197 (by decide) ?_
                  refine x_cp (k_M_142 (As := [.int 0, .int (bI false), .int (-1)]) (rest := []) hx hb hml hown hts (c_M_some l D cA m made N XJ Y2 hRJ 0 false (-1) (by omega) (hJk _ (by omega)) (hJj _ (by omega)) (hJs _ (by omega))) (x_preV hE hW.1 rfl rfl hW) rfl hl.1 rfl (Nat.le_of_ble_eq_true rfl) d_M_decide_198 (by decide) ⟨Nat.zero_le _, Nat.zero_le _⟩) ?_
                  refine x_topi (y := bI (q_alw XJ 0)) (by rw [q_some_m]; rfl) ?_
                  refine lv_if_ne (tgt := 211) hx hb d_M_decide_201 (by decide) (fun z2 => ?_) (fun z2 => ?_)
                  · exact hj _ _ ⟨(lv_sub hl [3, 4, 5, 6, 2, 1, 0] rfl), rfl, by unfold q_bar; rw [bI_n0.mp z2]; simp⟩
                  · have hbt : q_bar XJ 0 = true := by unfold q_bar; rw [bI_n0.mp z1, bI_0.mp z2]; rfl
                    obtain ⟨q1, q2⟩ := hR9 (0) (0) (q_con_b hden (by decide) hbt (fun k hk => absurd hk (Nat.not_lt_zero k)))
                    refine lv_aload_n hx hb d_M_decide_204 rfl (lv_at hl 3 rfl) ?_
                    refine lv_iconst (v := 0) hx hb d_M_decide_205 (by decide) ?_
                    refine lv_iconst (v := 0) hx hb d_M_decide_206 (by decide) ?_
                    refine x_cw (k_M_146 (As := [.int 0, .int 0]) (rest := []) hx hb hml hown hts (c_M_answer l D cA m Y2 (0) (nI 0)) (x_preV hE hW.1 rfl rfl hW) rfl hl.1 rfl (Nat.le_of_ble_eq_true rfl) d_M_decide_207 (by decide) ⟨Nat.zero_le _, Nat.zero_le _⟩) (fun H7 L7 p7 f7 => ?_)
                    have hF := t_lL hF (fun q h => x_A1_A q.base (f7 q h))
                    obtain ⟨e7, hW7⟩ := p7
                    refine x_topi (y := q_dec X hv (nI na) (nI nu) ac th ow) q1.symm ?_
                    exact W.iret hx hb hr (fun t9 ht _ => ⟨rfl, by rw [ht, q2]; exact ⟨hFr.trans (e7.mono x_A1_A), _, hW7, hRJ.ent _⟩⟩) hF d_M_decide_210
            · refine lv_iload hx hb d_M_decide_154 (lv_at hl 6 rfl) ?_
              refine lv_iload_n hx hb d_M_decide_156 rfl (lv_at hl 2 rfl) ?_
              refine lv_icmp_eq (tgt := 164) hx hb d_M_decide_157 (by decide) (fun z1 => ?_) (fun z1 => ?_)
              · refine lv_iconst (v := 0) hx hb d_M_decide_164 (by decide) ?_
                refine x_topi (y := bI (decide (¬ ow = nI na))) (by rw [bI_no (fun z => z z1)]) ?_
                exact hj _ _ ⟨(lv_sub hl [1, 2, 3, 6] rfl), rfl⟩
              · refine lv_iconst (v := 1) hx hb d_M_decide_160 (by decide) ?_
                refine lv_goto (tgt := 165) hx hb d_M_decide_161 (by decide) ?_
                refine x_topi (y := bI (decide (¬ ow = nI na))) (by rw [bI_of z1]) ?_
                exact hj _ _ ⟨(lv_sub hl [1, 2, 3, 6] rfl), rfl⟩
          · have g3 := n_lt (k := 6) g3 (by decide) (by omega)
            refine lv_aload_n hx hb d_M_decide_129 rfl (lv_at hl 1 rfl) ?_
            refine lv_iload hx hb d_M_decide_130 (lv_at hl 0 rfl) ?_
            refine lv_iconst (v := 1) hx hb d_M_decide_132 (by decide) ?_
            refine x_topi (y := bI true) rfl ?_
            refine lv_iconst (v := (-1)) hx hb d_M_decide_133 (by decide) ?_
            refine x_cp (k_M_142 (As := [.int (nI lr), .int (bI true), .int (-1)]) (rest := []) hx hb hml hown hts (c_M_some l D cA m made N XJ Y2 hRJ lr true (-1) (by omega) (hJk _ (by omega)) (hJj _ (by omega)) (hJs _ (by omega))) (x_preV hE hW.1 rfl rfl hW) rfl hl.1 rfl (Nat.le_of_ble_eq_true rfl) d_M_decide_134 (by decide) ⟨Nat.zero_le _, Nat.zero_le _⟩) ?_
            refine x_topi (y := bI (q_den XJ lr)) (by rw [q_some_m]; rfl) ?_
            refine lv_if_eq (tgt := 148) hx hb d_M_decide_137 (by decide) (fun z1 => ?_) (fun z1 => ?_)
            · refine lv_iinc (k := 0) (v := nI (lr + 1)) (lv' := [(8, .int (nI (lr + 1))), (0, .ref m), (1, .int (nI na)), (2, .int (nI nu)), (3, .long ac), (5, .long th), (7, .int ow)]) hx hb d_M_decide_148 hl rfl (x_inc _) (by decide) rfl (fun ls hl => ?_)
              refine lv_goto (tgt := 122) hx hb d_M_decide_151 (by decide) ?_
              exact ih3 (r3 - 1) _ (by omega) ⟨lr + 1, by omega, fun k hk => by
                by_cases e : k = lr
                · rw [e]; exact bI_0.mp z1
                · exact hden k (by omega), (lv_sub hl [0, 1, 2, 3, 4, 5, 6] rfl)⟩
            · obtain ⟨q1, q2⟩ := hR9 (-1) (lr) (q_con_d (by omega) (bI_n0.mp z1) hden)
              refine lv_aload_n hx hb d_M_decide_140 rfl (lv_at hl 1 rfl) ?_
              refine lv_iconst (v := (-1)) hx hb d_M_decide_141 (by decide) ?_
              refine lv_iload hx hb d_M_decide_142 (lv_at hl 0 rfl) ?_
              refine x_cw (k_M_146 (As := [.int (-1), .int (nI lr)]) (rest := []) hx hb hml hown hts (c_M_answer l D cA m Y2 (-1) (nI lr)) (x_preV hE hW.1 rfl rfl hW) rfl hl.1 rfl (Nat.le_of_ble_eq_true rfl) d_M_decide_144 (by decide) ⟨Nat.zero_le _, Nat.zero_le _⟩) (fun H7 L7 p7 f7 => ?_)
              have hF := t_lL hF (fun q h => x_A1_A q.base (f7 q h))
              obtain ⟨e7, hW7⟩ := p7
              refine x_topi (y := q_dec X hv (nI na) (nI nu) ac th ow) q1.symm ?_
              exact W.iret hx hb hr (fun t9 ht _ => ⟨rfl, by rw [ht, q2]; exact ⟨hFr.trans (e7.mono x_A1_A), _, hW7, hRJ.ent _⟩⟩) hF d_M_decide_147
        · have g1 := n_lt (k := 6) g1 (by decide) (by omega)
          refine lv_aload_n hx hb d_M_decide_45 rfl (lv_at hl 1 rfl) ?_
          refine fg_M_71_M hx hb hown hts hE hW.1 rfl d_M_decide_46 ?_
          refine lv_iload hx hb d_M_decide_49 (lv_at hl 0 rfl) ?_
          refine lv_iconst (v := 0) hx hb d_M_decide_51 (by decide) ?_
          refine x_iast hx hb hE.2.2 (show va_at D x_cl (m + 19, .inl (cA 0, 6, .inl (m_i (m_tk (m_sI Y1 19 (g)) t f) 19))) _ from hW.2 19 (by decide) (by decide)) 0 rfl (by omega) (by decide) d_M_decide_52 (fun H2 k2 g2 o2 => ?_)
          have hF := t_lc (a := m + 19) (i := k2) hF (m_A_in (by omega) (by omega))
          have hW2 := hW.ai (i := 19) (by decide) o2 (f := upd g lr 0) g2
          rw [m_Z_set] at hW2
          refine lv_iconst (v := 0) hx hb d_M_decide_53 (by decide) ?_
          have hdk6 := (hdk lr (by omega)).1
          refine lv_istore (lv' := [(9, .int 0), (8, .int (nI lr)), (0, .ref m), (1, .int (nI na)), (2, .int (nI nu)), (3, .long ac), (5, .long th), (7, .int ow)]) hx hb d_M_decide_54 hl (by decide) rfl (fun ls hl => ?_)
          refine x_loopH (I := fun r8 ls H locs => ∃ (c t : Nat) (f g : Nat → Int32) (jj : Nat → Nat), c + r8 = d_k X lr ∧ (∀ i, i < 6 → g i = nI (jj i)) ∧ (∀ i, i < lr → jj i = l_j (fun k => s_s (d_c X) (d_r X) hv (q_who (nI na) (nI nu)) ac th (d_s X i k)) (d_k X i)) ∧ jj lr = l_j (fun k => s_s (d_c X) (d_r X) hv (q_who (nI na) (nI nu)) ac th (d_s X lr k)) (c) ∧ lv_has ls 11 [(9, .int (nI c)), (8, .int (nI lr)), (0, .ref m), (1, .int (nI na)), (2, .int (nI nu)), (3, .long ac), (5, .long th), (7, .int ow)] ∧ m_W D cA m (m_tk (m_sI Y1 19 g) t f) H ∧ x_F (m_A m) s.heap H ∧ ∀ q ∈ locs, m_A m q.base) (fun r8 ls H locs ih2 h => ?_) (d_k X lr) ⟨0, t, f, upd g lr 0, va_up jj lr 0, by omega, fun i hi => by
            by_cases e : i = lr
            · rw [e, pk_us, va_up_self]; rfl
            · rw [pk_un e, va_up_ne _ _ e]; exact hg i hi, fun i hi => by rw [va_up_ne _ _ (by omega)]; exact hjj i hi, va_up_self _ _ _, (lv_sub hl [0, 1, 2, 3, 4, 5, 6, 7] rfl), hW2, hFr.trans (x_F.of1 o2 (m_A_in (by omega) (by omega))), hF⟩
          obtain ⟨c, t, f, g, jj, hcr, hg, hjj, hjl, hl, hW, hFr, hF⟩ := h
          refine lv_iload hx hb d_M_decide_56 (lv_at hl 0 rfl) ?_
          refine lv_aload_n hx hb d_M_decide_58 rfl (lv_at hl 2 rfl) ?_
          refine fg_M_49_M hx hb hown hts hE hW.1 rfl d_M_decide_59 ?_
          refine lv_iload hx hb d_M_decide_62 (lv_at hl 1 rfl) ?_
          refine x_iald hx hb hE.2.2 (show va_at D x_cl (m + 13, .inl (cA 0, 6, .inl (m_i (m_tk (m_sI Y1 19 (g)) t f) 13))) _ from hW.2 13 (by decide) (by decide)) 0 rfl (by omega) (by decide) d_M_decide_64 ?_
          refine x_topi (y := nI (d_k X lr)) (by exact (hR1.2.2.2.2.2.2.2.2.1 lr (by omega)).2.1) ?_
          refine lv_icmp_ge (tgt := 113) hx hb d_M_decide_65 (by decide) (fun g2 => ?_) (fun g2 => ?_)
          · have g2 := n_ge g2 (by omega) (by omega)
            have hcd : c = d_k X lr := by omega
            refine lv_iinc (k := 1) (v := nI (lr + 1)) (lv' := [(8, .int (nI (lr + 1))), (9, .int (nI c)), (0, .ref m), (1, .int (nI na)), (2, .int (nI nu)), (3, .long ac), (5, .long th), (7, .int ow)]) hx hb d_M_decide_113 hl rfl (x_inc _) (by decide) rfl (fun ls hl => ?_)
            refine lv_goto (tgt := 38) hx hb d_M_decide_116 (by decide) ?_
            exact ih (r - 1) _ _ _ (by omega) ⟨lr + 1, t, f, g, jj, by omega, hg, fun i hi => by
              by_cases e : i = lr
              · rw [e, hjl, hcd]
              · exact hjj i (by omega), (lv_sub hl [0, 2, 3, 4, 5, 6, 7] rfl), hW, hFr, hF⟩
          · have g2 := n_lt g2 (by omega) (by omega)
            refine lv_aload_n hx hb d_M_decide_68 rfl (lv_at hl 2 rfl) ?_
            refine lv_bipush (v := 6) hx hb d_M_decide_69 (by decide) ?_
            refine lv_iload hx hb d_M_decide_71 (lv_at hl 1 rfl) ?_
            refine lv_imul hx hb d_M_decide_73 ?_
            refine x_topi (y := nI (6 * lr)) (by rw [show (6 : Int32) = nI 6 from rfl, pk_mul]) ?_
            refine lv_iload hx hb d_M_decide_74 (lv_at hl 0 rfl) ?_
            refine lv_iadd hx hb d_M_decide_76 ?_
            refine x_topi (y := nI (6 * lr + c)) (nI_add _ _) ?_
            refine lv_iload_n hx hb d_M_decide_77 rfl (lv_at hl 3 rfl) ?_
            refine lv_iload_n hx hb d_M_decide_78 rfl (lv_at hl 4 rfl) ?_
            refine lv_lload_n hx hb d_M_decide_79 rfl (lv_at hl 5 rfl) ?_
            refine lv_lload hx hb d_M_decide_80 (lv_at hl 6 rfl) ?_
            refine x_cw (k_M_138 (As := [.int (nI (6 * lr + c)), .int (nI na), .int (nI nu), .long ac, .long th]) (rest := []) hx hb hml hown hts (c_M_does l D cA m made N (d_setJ X jj) (m_tk (m_sI Y1 19 (g)) t f) hv (hR1.setJ hg t f) hmd (fun i hi => hh i hi) lr c na nu (by omega) (by omega) g2 (by omega) (by omega) (hds lr (by omega) c (by omega)) ac th) (x_preV hE hW.1 rfl rfl hW) rfl hl.1 rfl (Nat.le_of_ble_eq_true rfl) d_M_decide_82 (by decide) ⟨Nat.zero_le _, Nat.zero_le _⟩) (fun H3 L3 p3 f3 => ?_)
            have hF := t_lL hF (fun q h => (fun q h => m_tA_A h) q.base (f3 q h))
            obtain ⟨e3, t3, f3, hW3⟩ := p3
            rw [m_tk_tk] at hW3
            have hFr := hFr.trans (e3.mono (fun q h => m_tA_A h))
            refine x_topi (y := bI (s_s (d_c X) (d_r X) hv (q_who (nI na) (nI nu)) ac th (d_s X lr c))) rfl ?_
            refine lv_if_eq (tgt := 107) hx hb d_M_decide_85 (by decide) (fun z1 => ?_) (fun z1 => ?_)
            · refine lv_iinc (k := 0) (v := nI (c + 1)) (lv' := [(9, .int (nI (c + 1))), (8, .int (nI lr)), (0, .ref m), (1, .int (nI na)), (2, .int (nI nu)), (3, .long ac), (5, .long th), (7, .int ow)]) hx hb d_M_decide_107 hl rfl (x_inc _) (by decide) rfl (fun ls hl => ?_)
              refine lv_goto (tgt := 56) hx hb d_M_decide_110 (by decide) ?_
              exact ih2 (r8 - 1) _ _ _ (by omega) ⟨c + 1, t3, f3, g, jj, by omega, hg, hjj, by rw [hjl]; show _ = if _ then _ else _; rw [if_neg (fun z => Bool.noConfusion (z.symm.trans (bI_0.mp z1)))], (lv_sub hl [0, 1, 2, 3, 4, 5, 6, 7] rfl), hW3, hFr, hF⟩
            · have hlt : jj lr < 64 := by rw [hjl]; exact Nat.lt_of_lt_of_le (l_j_lt _ c) (Nat.le_trans (Nat.pow_le_pow_right (by decide) (by omega : c ≤ 6)) (by decide))
              refine lv_aload_n hx hb d_M_decide_88 rfl (lv_at hl 2 rfl) ?_
              refine fg_M_71_M hx hb hown hts hE hW3.1 rfl d_M_decide_89 ?_
              refine lv_iload hx hb d_M_decide_92 (lv_at hl 1 rfl) ?_
              refine lv_aload_n hx hb d_M_decide_94 rfl (lv_at hl 2 rfl) ?_
              refine fg_M_71_M hx hb hown hts hE hW3.1 rfl d_M_decide_95 ?_
              refine lv_iload hx hb d_M_decide_98 (lv_at hl 1 rfl) ?_
              refine x_iald hx hb hE.2.2 (show va_at D x_cl (m + 19, .inl (cA 0, 6, .inl (m_i (m_tk (m_sI Y1 19 (g)) t3 f3) 19))) _ from hW3.2 19 (by decide) (by decide)) 0 rfl (by omega) (by decide) d_M_decide_100 ?_
              refine x_topi (y := nI (jj lr)) (by exact hg lr (by omega)) ?_
              refine lv_iconst (v := 1) hx hb d_M_decide_101 (by decide) ?_
              refine lv_iload hx hb d_M_decide_102 (lv_at hl 0 rfl) ?_
              refine lv_ishl hx hb d_M_decide_104 ?_
              refine lv_ior hx hb d_M_decide_105 ?_
              refine x_topi (y := nI (jj lr ||| 2 ^ c)) (by exact mb_o _ hlt c (by omega)) ?_
              refine x_iast hx hb hE.2.2 (show va_at D x_cl (m + 19, .inl (cA 0, 6, .inl (m_i (m_tk (m_sI Y1 19 (g)) t3 f3) 19))) _ from hW3.2 19 (by decide) (by decide)) 0 rfl (by omega) (by decide) d_M_decide_106 (fun H4 k4 g4 o4 => ?_)
              have hF := t_lc (a := m + 19) (i := k4) hF (m_A_in (by omega) (by omega))
              have hW4 := hW3.ai (i := 19) (by decide) o4 (f := upd g lr (nI (jj lr ||| 2 ^ c))) g4
              rw [m_Z_set] at hW4
              refine lv_iinc (k := 0) (v := nI (c + 1)) (lv' := [(9, .int (nI (c + 1))), (8, .int (nI lr)), (0, .ref m), (1, .int (nI na)), (2, .int (nI nu)), (3, .long ac), (5, .long th), (7, .int ow)]) hx hb d_M_decide_107 hl rfl (x_inc _) (by decide) rfl (fun ls hl => ?_)
              refine lv_goto (tgt := 56) hx hb d_M_decide_110 (by decide) ?_
              exact ih2 (r8 - 1) _ _ _ (by omega) ⟨c + 1, t3, f3, upd g lr (nI (jj lr ||| 2 ^ c)), va_up jj lr (jj lr ||| 2 ^ c), by omega, fun i hi => by
                by_cases e : i = lr
                · rw [e, pk_us, va_up_self]
                · rw [pk_un e, va_up_ne _ _ e]; exact hg i hi, fun i hi => by rw [va_up_ne _ _ (by omega)]; exact hjj i hi, by rw [va_up_self, hjl]; show _ = if _ then _ else _; rw [if_pos (bI_n0.mp z1)], (lv_sub hl [0, 1, 2, 3, 4, 5, 6, 7] rfl), hW4, hFr.trans (x_F.of1 o4 (m_A_in (by omega) (by omega))), hF⟩
      · have hd : (q_dg a && q_dg u && q_dg ow) = false := by rw [bI_0.mp h3]; simp
        refine lv_bipush (v := (-2)) hx hb d_M_decide_28 (by decide) ?_
        refine x_topi (y := q_dec X hv a u ac th ow) (by unfold q_dec; rw [hd]; rfl) ?_
        exact W.iret hx hb hr (fun t9 ht _ => ⟨rfl, by rw [ht]; unfold z_dec; rw [hd]; exact ⟨x_F.rf, hP⟩⟩) hF d_M_decide_30
