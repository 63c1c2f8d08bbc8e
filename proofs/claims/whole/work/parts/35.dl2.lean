set_option maxHeartbeats 4000000 in
set_option maxRecDepth 100000 in
theorem c_DL_settle (l : Launch) (D : va_G) (cA : Nat → ClassId) (N : n_T) (o : Nat) (X : d_T) (a e : Int32) : Met l y_DL_settle [.code y_DL_settle b_DL_settle 3 (some .int)] (x_rm 0 0 0) (x_P D cA [.ref o, .int a, .int e] (fun H => d_W D cA N o X H)) (x_Q (some (.int a)) (fun H H1 => x_F (x_A [o]) H H1 ∧ d_W D cA N o (d_setE X e) H1)) 0 0 (x_A [o]) := by
  refine x_met (own := "DecisionLayers") (by decide) rfl (Nat.le_of_ble_eq_true rfl) ?_
  intro pp ee s mm below mt cd ls hx hb hr hlk hnm hml hown hts hE hP hl
  have hl : lv_has ls 3 [(0, .ref o), (1, .int a), (2, .int e)] := hl
  obtain ⟨hO, hV, hC, hLa, hLy⟩ := id hP
  have hF : ∀ q ∈ ([] : List Loc), x_A [o] q.base := t_nil
  refine lv_aload_n hx hb d_DL_settle_0 rfl (lv_at hl 0 rfl) ?_
  refine lv_iload_n hx hb d_DL_settle_1 rfl (lv_at hl 2 rfl) ?_
  refine fp_DL_33_DL hx hb hown hts hE hO rfl rfl (Nat.le_of_ble_eq_true rfl) d_DL_settle_2 (fun H1 k1 g1 o1 => ?_)
  have hF := t_lc (a := o) (i := k1) hF (x_A1.mpr rfl)
  refine lv_iload_n hx hb d_DL_settle_5 rfl (lv_at hl 1 rfl) ?_
  exact W.iret hx hb hr (fun t ht hW => ⟨rfl, by rw [ht]; exact ⟨x_F.of1 o1 (x_A1.mpr rfl), hP.ent o1 g1⟩⟩) hF d_DL_settle_6
set_option maxHeartbeats 4000000 in
set_option maxRecDepth 100000 in
theorem c_DL_grants (l : Launch) (D : va_G) (cA : Nat → ClassId) (N : n_T) (o : Nat) (X : d_T) (hlo : d_lok X) (own : Bool) : Met l y_DL_concludeFromGrants [.code y_DL_concludeFromGrants b_DL_concludeFromGrants 5 (some .int)] (x_rm 4 0 0) (x_P D cA [.ref o, .int (bI own)] (fun H => d_W D cA N o X H)) (x_Q (some (.int ((q_gr X own).1))) (fun H H1 => x_F (x_A [o]) H H1 ∧ d_W D cA N o (d_setE X (nI (q_gr X own).2)) H1)) 0 0 (x_A [o]) := by
  refine x_met (own := "DecisionLayers") (by decide) rfl (Nat.le_of_ble_eq_true rfl) ?_
  intro pp ee s mm below mt cd ls hx hb hr hlk hnm hml hown hts hE hP hl
  have hl : lv_has ls 5 [(0, .ref o), (1, .int (bI own))] := hl
  obtain ⟨hO, hV, hC, hLa, hLy⟩ := id hP
  have hF : ∀ q ∈ ([] : List Loc), x_A [o] q.base := t_nil
  refine lv_aload_n hx hb d_DL_concludeFromGrants_0 rfl (lv_at hl 0 rfl) ?_
  refine fg_DL_24_DL hx hb hown hts hE hO rfl d_DL_concludeFromGrants_1 ?_
  refine lv_iconst (v := 4) hx hb d_DL_concludeFromGrants_4 (by decide) ?_
  refine x_aald (i := 4) hx hb hE.2.2 hLa 5 rfl (by decide) (by decide) d_DL_concludeFromGrants_5 ?_
  refine x_topv (y := .ref (o + 6 + 8 * 4)) (rfl) ?_
  refine x_cp (k_DL_151 (As := []) (rest := []) hx hb hml hown hts (c_Layer_allows l D cA N (o + 6 + 8 * 4) (d_k X 4) (d_b X 4) (d_j X 4) (d_s X 4) (hlo 4 (by decide)).1 (Nat.lt_trans (hlo 4 (by decide)).2.1 (by decide)) (hlo 4 (by decide)).2.2) (x_preV hE (hLy 4 (by decide)).1 rfl rfl (hLy 4 (by decide))) rfl hl.1 rfl (Nat.le_of_ble_eq_true rfl) d_DL_concludeFromGrants_6 (by decide) ⟨Nat.zero_le _, Nat.zero_le _⟩) ?_
  refine x_topi (y := bI (q_alw X 4)) rfl ?_
  refine lv_istore_n (lv' := [(2, .int (bI (q_alw X 4))), (0, .ref o), (1, .int (bI own))]) hx hb d_DL_concludeFromGrants_9 rfl hl (by decide) rfl (fun ls hl => ?_)
  refine lv_aload_n hx hb d_DL_concludeFromGrants_10 rfl (lv_at hl 1 rfl) ?_
  refine fg_DL_24_DL hx hb hown hts hE hO rfl d_DL_concludeFromGrants_11 ?_
  refine lv_iconst (v := 5) hx hb d_DL_concludeFromGrants_14 (by decide) ?_
  refine x_aald (i := 5) hx hb hE.2.2 hLa 5 rfl (by decide) (by decide) d_DL_concludeFromGrants_15 ?_
  refine x_topv (y := .ref (o + 6 + 8 * 5)) (rfl) ?_
  refine x_cp (k_DL_151 (As := []) (rest := []) hx hb hml hown hts (c_Layer_allows l D cA N (o + 6 + 8 * 5) (d_k X 5) (d_b X 5) (d_j X 5) (d_s X 5) (hlo 5 (by decide)).1 (Nat.lt_trans (hlo 5 (by decide)).2.1 (by decide)) (hlo 5 (by decide)).2.2) (x_preV hE (hLy 5 (by decide)).1 rfl rfl (hLy 5 (by decide))) rfl hl.1 rfl (Nat.le_of_ble_eq_true rfl) d_DL_concludeFromGrants_16 (by decide) ⟨Nat.zero_le _, Nat.zero_le _⟩) ?_
  refine x_topi (y := bI (q_alw X 5)) rfl ?_
  refine lv_istore_n (lv' := [(3, .int (bI (q_alw X 5))), (2, .int (bI (q_alw X 4))), (0, .ref o), (1, .int (bI own))]) hx hb d_DL_concludeFromGrants_19 rfl hl (by decide) rfl (fun ls hl => ?_)
  refine lv_iload_n hx hb d_DL_concludeFromGrants_20 rfl (lv_at hl 1 rfl) ?_
  refine x_join 39 (fun ls st => lv_has ls 5 [(0, .ref o), (1, .int (bI own)), (2, .int (bI (q_alw X 4))), (3, .int (bI (q_alw X 5)))] ∧ st = [] ∧ (!q_alw X 4 && !(own && q_alw X 5)) = false) ?_ (fun hj => ?_)
  · intro ls st hj
    obtain ⟨hl, rfl, h39⟩ := hj
    refine lv_iload_n hx hb d_DL_concludeFromGrants_39 rfl (lv_at hl 1 rfl) ?_
    refine x_join 54 (fun ls st => lv_has ls 5 [(0, .ref o), (1, .int (bI own)), (2, .int (bI (q_alw X 4))), (3, .int (bI (q_alw X 5)))] ∧ st = [] ∧ (!own && !q_alw X 5) = false) ?_ (fun hj => ?_)
    · intro ls st hj
      obtain ⟨hl, rfl, h54⟩ := hj
      refine lv_iconst (v := 2) hx hb d_DL_concludeFromGrants_54 (by decide) ?_
      refine lv_istore (lv' := [(4, .int 2), (0, .ref o), (1, .int (bI own)), (2, .int (bI (q_alw X 4))), (3, .int (bI (q_alw X 5)))]) hx hb d_DL_concludeFromGrants_55 hl (by decide) rfl (fun ls hl => ?_)
      refine lv_iload hx hb d_DL_concludeFromGrants_57 (lv_at hl 0 rfl) ?_
      refine lv_iconst (v := 3) hx hb d_DL_concludeFromGrants_59 (by decide) ?_
      refine lv_icmp_gt (tgt := 90) hx hb d_DL_concludeFromGrants_60 (by decide) (fun hk => ?_) (fun hk => ?_)
      · exact absurd hk (by decide)
      · refine lv_aload_n hx hb d_DL_concludeFromGrants_63 rfl (lv_at hl 1 rfl) ?_
        refine fg_DL_24_DL hx hb hown hts hE hO rfl d_DL_concludeFromGrants_64 ?_
        refine lv_iload hx hb d_DL_concludeFromGrants_67 (lv_at hl 0 rfl) ?_
        refine x_aald (i := 2) hx hb hE.2.2 hLa 5 rfl (by decide) (by decide) d_DL_concludeFromGrants_69 ?_
        refine x_topv (y := .ref (o + 6 + 8 * 2)) (rfl) ?_
        refine x_cp (k_DL_141 (As := []) (rest := []) hx hb hml hown hts (c_Layer_bars l D cA N (o + 6 + 8 * 2) (d_k X 2) (d_b X 2) (d_j X 2) (d_s X 2) (hlo 2 (by decide)).1 (Nat.lt_trans (hlo 2 (by decide)).2.1 (by decide)) (hlo 2 (by decide)).2.2) (x_preV hE (hLy 2 (by decide)).1 rfl rfl (hLy 2 (by decide))) rfl hl.1 rfl (Nat.le_of_ble_eq_true rfl) d_DL_concludeFromGrants_70 (by decide) ⟨Nat.zero_le _, Nat.zero_le _⟩) ?_
        refine x_topi (y := bI (q_bar X 2)) rfl ?_
        refine lv_if_eq (tgt := 84) hx hb d_DL_concludeFromGrants_73 (by decide) (fun b2 => ?_) (fun b2 => ?_)
        · refine lv_iinc (k := 0) (v := 3) (lv' := [(4, .int 3), (0, .ref o), (1, .int (bI own)), (2, .int (bI (q_alw X 4))), (3, .int (bI (q_alw X 5)))]) hx hb d_DL_concludeFromGrants_84 hl rfl (by decide) (by decide) rfl (fun ls hl => ?_)
          refine lv_goto (tgt := 57) hx hb d_DL_concludeFromGrants_87 (by decide) ?_
          refine lv_iload hx hb d_DL_concludeFromGrants_57 (lv_at hl 0 rfl) ?_
          refine lv_iconst (v := 3) hx hb d_DL_concludeFromGrants_59 (by decide) ?_
          refine lv_icmp_gt (tgt := 90) hx hb d_DL_concludeFromGrants_60 (by decide) (fun hk => ?_) (fun hk => ?_)
          · exact absurd hk (by decide)
          · refine lv_aload_n hx hb d_DL_concludeFromGrants_63 rfl (lv_at hl 1 rfl) ?_
            refine fg_DL_24_DL hx hb hown hts hE hO rfl d_DL_concludeFromGrants_64 ?_
            refine lv_iload hx hb d_DL_concludeFromGrants_67 (lv_at hl 0 rfl) ?_
            refine x_aald (i := 3) hx hb hE.2.2 hLa 5 rfl (by decide) (by decide) d_DL_concludeFromGrants_69 ?_
            refine x_topv (y := .ref (o + 6 + 8 * 3)) (rfl) ?_
            refine x_cp (k_DL_141 (As := []) (rest := []) hx hb hml hown hts (c_Layer_bars l D cA N (o + 6 + 8 * 3) (d_k X 3) (d_b X 3) (d_j X 3) (d_s X 3) (hlo 3 (by decide)).1 (Nat.lt_trans (hlo 3 (by decide)).2.1 (by decide)) (hlo 3 (by decide)).2.2) (x_preV hE (hLy 3 (by decide)).1 rfl rfl (hLy 3 (by decide))) rfl hl.1 rfl (Nat.le_of_ble_eq_true rfl) d_DL_concludeFromGrants_70 (by decide) ⟨Nat.zero_le _, Nat.zero_le _⟩) ?_
            refine x_topi (y := bI (q_bar X 3)) rfl ?_
            refine lv_if_eq (tgt := 84) hx hb d_DL_concludeFromGrants_73 (by decide) (fun b3 => ?_) (fun b3 => ?_)
            · refine lv_iinc (k := 0) (v := 4) (lv' := [(4, .int 4), (0, .ref o), (1, .int (bI own)), (2, .int (bI (q_alw X 4))), (3, .int (bI (q_alw X 5)))]) hx hb d_DL_concludeFromGrants_84 hl rfl (by decide) (by decide) rfl (fun ls hl => ?_)
              refine lv_goto (tgt := 57) hx hb d_DL_concludeFromGrants_87 (by decide) ?_
              refine lv_iload hx hb d_DL_concludeFromGrants_57 (lv_at hl 0 rfl) ?_
              refine lv_iconst (v := 3) hx hb d_DL_concludeFromGrants_59 (by decide) ?_
              refine lv_icmp_gt (tgt := 90) hx hb d_DL_concludeFromGrants_60 (by decide) (fun hk => ?_) (fun hk => ?_)
              · have hg : q_gr X own = (1, if q_alw X 4 then 4 else 5) := by unfold q_gr; rw [if_neg (by rw [h39]; decide), if_neg (by rw [h54]; decide), if_neg (by rw [bI_0.mp b2]; decide), if_neg (by rw [bI_0.mp b3]; decide)]
                refine lv_aload_n hx hb d_DL_concludeFromGrants_90 rfl (lv_at hl 1 rfl) ?_
                refine lv_iconst (v := 1) hx hb d_DL_concludeFromGrants_91 (by decide) ?_
                refine lv_iload_n hx hb d_DL_concludeFromGrants_92 rfl (lv_at hl 3 rfl) ?_
                refine lv_if_eq (tgt := 100) hx hb d_DL_concludeFromGrants_93 (by decide) (fun a4 => ?_) (fun a4 => ?_)
                · refine lv_iconst (v := 5) hx hb d_DL_concludeFromGrants_100 (by decide) ?_
                  have hq : q_gr X own = (1, 5) := by rw [hg, bI_0.mp a4]; rfl
                  refine x_cw (k_DL_138 (As := [.int 1, .int (nI 5)]) (rest := []) hx hb hml hown hts (c_DL_settle l D cA N o X (1) (nI 5)) (x_preV hE hO rfl rfl hP) rfl hl.1 rfl (Nat.le_of_ble_eq_true rfl) d_DL_concludeFromGrants_101 (by decide) ⟨Nat.zero_le _, Nat.zero_le _⟩) (fun H1 L1 p1 f1 => ?_)
                  have hF := t_lL hF (fun q h => (fun q h => h) q.base (f1 q h))
                  refine x_topi (y := (q_gr X own).1) (by rw [hq]) ?_
                  exact W.iret hx hb hr (fun t ht hW => ⟨rfl, by rw [ht, hq]; exact p1⟩) hF d_DL_concludeFromGrants_104
                · refine lv_iconst (v := 4) hx hb d_DL_concludeFromGrants_96 (by decide) ?_
                  refine lv_goto (tgt := 101) hx hb d_DL_concludeFromGrants_97 (by decide) ?_
                  have hq : q_gr X own = (1, 4) := by rw [hg, bI_n0.mp a4]; rfl
                  refine x_cw (k_DL_138 (As := [.int 1, .int (nI 4)]) (rest := []) hx hb hml hown hts (c_DL_settle l D cA N o X (1) (nI 4)) (x_preV hE hO rfl rfl hP) rfl hl.1 rfl (Nat.le_of_ble_eq_true rfl) d_DL_concludeFromGrants_101 (by decide) ⟨Nat.zero_le _, Nat.zero_le _⟩) (fun H1 L1 p1 f1 => ?_)
                  have hF := t_lL hF (fun q h => (fun q h => h) q.base (f1 q h))
                  refine x_topi (y := (q_gr X own).1) (by rw [hq]) ?_
                  exact W.iret hx hb hr (fun t ht hW => ⟨rfl, by rw [ht, hq]; exact p1⟩) hF d_DL_concludeFromGrants_104
              · exact absurd hk (by decide)
            · refine lv_aload_n hx hb d_DL_concludeFromGrants_76 rfl (lv_at hl 1 rfl) ?_
              refine lv_iconst (v := 0) hx hb d_DL_concludeFromGrants_77 (by decide) ?_
              refine lv_iload hx hb d_DL_concludeFromGrants_78 (lv_at hl 0 rfl) ?_
              have hq : q_gr X own = (0, 3) := by unfold q_gr; rw [if_neg (by rw [h39]; decide), if_neg (by rw [h54]; decide), if_neg (by rw [bI_0.mp b2]; decide), if_pos (bI_n0.mp b3)]
              refine x_cw (k_DL_138 (As := [.int 0, .int (nI 3)]) (rest := []) hx hb hml hown hts (c_DL_settle l D cA N o X (0) (nI 3)) (x_preV hE hO rfl rfl hP) rfl hl.1 rfl (Nat.le_of_ble_eq_true rfl) d_DL_concludeFromGrants_80 (by decide) ⟨Nat.zero_le _, Nat.zero_le _⟩) (fun H1 L1 p1 f1 => ?_)
              have hF := t_lL hF (fun q h => (fun q h => h) q.base (f1 q h))
              refine x_topi (y := (q_gr X own).1) (by rw [hq]) ?_
              exact W.iret hx hb hr (fun t ht hW => ⟨rfl, by rw [ht, hq]; exact p1⟩) hF d_DL_concludeFromGrants_83
        · refine lv_aload_n hx hb d_DL_concludeFromGrants_76 rfl (lv_at hl 1 rfl) ?_
          refine lv_iconst (v := 0) hx hb d_DL_concludeFromGrants_77 (by decide) ?_
          refine lv_iload hx hb d_DL_concludeFromGrants_78 (lv_at hl 0 rfl) ?_
          have hq : q_gr X own = (0, 2) := by unfold q_gr; rw [if_neg (by rw [h39]; decide), if_neg (by rw [h54]; decide), if_pos (bI_n0.mp b2)]
          refine x_cw (k_DL_138 (As := [.int 0, .int (nI 2)]) (rest := []) hx hb hml hown hts (c_DL_settle l D cA N o X (0) (nI 2)) (x_preV hE hO rfl rfl hP) rfl hl.1 rfl (Nat.le_of_ble_eq_true rfl) d_DL_concludeFromGrants_80 (by decide) ⟨Nat.zero_le _, Nat.zero_le _⟩) (fun H1 L1 p1 f1 => ?_)
          have hF := t_lL hF (fun q h => (fun q h => h) q.base (f1 q h))
          refine x_topi (y := (q_gr X own).1) (by rw [hq]) ?_
          exact W.iret hx hb hr (fun t ht hW => ⟨rfl, by rw [ht, hq]; exact p1⟩) hF d_DL_concludeFromGrants_83
    · refine lv_if_ne (tgt := 54) hx hb d_DL_concludeFromGrants_40 (by decide) (fun ow => ?_) (fun ow => ?_)
      · exact hj _ _ ⟨(lv_sub hl [0, 1, 2, 3] rfl), rfl, by rw [bI_n0.mp ow]; rfl⟩
      · refine lv_iload_n hx hb d_DL_concludeFromGrants_43 rfl (lv_at hl 3 rfl) ?_
        refine lv_if_ne (tgt := 54) hx hb d_DL_concludeFromGrants_44 (by decide) (fun a5 => ?_) (fun a5 => ?_)
        · exact hj _ _ ⟨(lv_sub hl [0, 1, 2, 3] rfl), rfl, by rw [bI_n0.mp a5]; simp⟩
        · refine lv_aload_n hx hb d_DL_concludeFromGrants_47 rfl (lv_at hl 0 rfl) ?_
          refine lv_iconst (v := 0) hx hb d_DL_concludeFromGrants_48 (by decide) ?_
          refine lv_iconst (v := 5) hx hb d_DL_concludeFromGrants_49 (by decide) ?_
          have hq : q_gr X own = (0, 5) := by unfold q_gr; rw [if_neg (by rw [h39]; decide), bI_0.mp ow, bI_0.mp a5]; rfl
          refine x_cw (k_DL_138 (As := [.int 0, .int (nI 5)]) (rest := []) hx hb hml hown hts (c_DL_settle l D cA N o X (0) (nI 5)) (x_preV hE hO rfl rfl hP) rfl hl.1 rfl (Nat.le_of_ble_eq_true rfl) d_DL_concludeFromGrants_50 (by decide) ⟨Nat.zero_le _, Nat.zero_le _⟩) (fun H1 L1 p1 f1 => ?_)
          have hF := t_lL hF (fun q h => (fun q h => h) q.base (f1 q h))
          refine x_topi (y := (q_gr X own).1) (by rw [hq]) ?_
          exact W.iret hx hb hr (fun t ht hW => ⟨rfl, by rw [ht, hq]; exact p1⟩) hF d_DL_concludeFromGrants_53
  · refine lv_if_ne (tgt := 39) hx hb d_DL_concludeFromGrants_21 (by decide) (fun a4 => ?_) (fun a4 => ?_)
    · exact hj _ _ ⟨(lv_sub hl [2, 3, 1, 0] rfl), rfl, by rw [bI_n0.mp a4]; rfl⟩
    · refine lv_iload_n hx hb d_DL_concludeFromGrants_24 rfl (lv_at hl 3 rfl) ?_
      refine lv_if_eq (tgt := 32) hx hb d_DL_concludeFromGrants_25 (by decide) (fun ow => ?_) (fun ow => ?_)
      · refine lv_aload_n hx hb d_DL_concludeFromGrants_32 rfl (lv_at hl 2 rfl) ?_
        refine lv_iconst (v := 0) hx hb d_DL_concludeFromGrants_33 (by decide) ?_
        refine lv_iconst (v := 4) hx hb d_DL_concludeFromGrants_34 (by decide) ?_
        have hq : q_gr X own = (0, 4) := by unfold q_gr; rw [bI_0.mp a4, bI_0.mp ow]; rfl
        refine x_cw (k_DL_138 (As := [.int 0, .int (nI 4)]) (rest := []) hx hb hml hown hts (c_DL_settle l D cA N o X (0) (nI 4)) (x_preV hE hO rfl rfl hP) rfl hl.1 rfl (Nat.le_of_ble_eq_true rfl) d_DL_concludeFromGrants_35 (by decide) ⟨Nat.zero_le _, Nat.zero_le _⟩) (fun H1 L1 p1 f1 => ?_)
        have hF := t_lL hF (fun q h => (fun q h => h) q.base (f1 q h))
        refine x_topi (y := (q_gr X own).1) (by rw [hq]) ?_
        exact W.iret hx hb hr (fun t ht hW => ⟨rfl, by rw [ht, hq]; exact p1⟩) hF d_DL_concludeFromGrants_38
      · refine lv_iload_n hx hb d_DL_concludeFromGrants_28 rfl (lv_at hl 0 rfl) ?_
        refine lv_if_ne (tgt := 39) hx hb d_DL_concludeFromGrants_29 (by decide) (fun a5 => ?_) (fun a5 => ?_)
        · exact hj _ _ ⟨(lv_sub hl [2, 3, 1, 0] rfl), rfl, by rw [bI_n0.mp ow, bI_n0.mp a5]; simp⟩
        · refine lv_aload_n hx hb d_DL_concludeFromGrants_32 rfl (lv_at hl 2 rfl) ?_
          refine lv_iconst (v := 0) hx hb d_DL_concludeFromGrants_33 (by decide) ?_
          refine lv_iconst (v := 4) hx hb d_DL_concludeFromGrants_34 (by decide) ?_
          have hq : q_gr X own = (0, 4) := by unfold q_gr; rw [bI_0.mp a4, bI_0.mp a5]; simp
          refine x_cw (k_DL_138 (As := [.int 0, .int (nI 4)]) (rest := []) hx hb hml hown hts (c_DL_settle l D cA N o X (0) (nI 4)) (x_preV hE hO rfl rfl hP) rfl hl.1 rfl (Nat.le_of_ble_eq_true rfl) d_DL_concludeFromGrants_35 (by decide) ⟨Nat.zero_le _, Nat.zero_le _⟩) (fun H1 L1 p1 f1 => ?_)
          have hF := t_lL hF (fun q h => (fun q h => h) q.base (f1 q h))
          refine x_topi (y := (q_gr X own).1) (by rw [hq]) ?_
          exact W.iret hx hb hr (fun t ht hW => ⟨rfl, by rw [ht, hq]; exact p1⟩) hF d_DL_concludeFromGrants_38
set_option maxHeartbeats 4000000 in
set_option maxRecDepth 100000 in
theorem c_DL_conclude (l : Launch) (D : va_G) (cA : Nat → ClassId) (N : n_T) (o : Nat) (X : d_T) (hlo : d_lok X) (u : Int32) (own : Bool) : Met l y_DL_conclude [.code y_DL_conclude b_DL_conclude 4 (some .int)] (x_rm 5 0 0) (x_P D cA [.ref o, .int u, .int (bI own)] (fun H => d_W D cA N o X H)) (x_Q (some (.int ((q_con X u own).1))) (fun H H1 => x_F (x_A [o]) H H1 ∧ d_W D cA N o (d_setE X (nI (q_con X u own).2)) H1)) 0 0 (x_A [o]) := by
  refine x_met (own := "DecisionLayers") (by decide) rfl (Nat.le_of_ble_eq_true rfl) ?_
  intro pp ee s mm below mt cd ls hx hb hr hlk hnm hml hown hts hE hP hl
  have hl : lv_has ls 4 [(0, .ref o), (1, .int u), (2, .int (bI own))] := hl
  obtain ⟨hO, hV, hC, hLa, hLy⟩ := id hP
  have hF : ∀ q ∈ ([] : List Loc), x_A [o] q.base := t_nil
  refine lv_iconst (v := 0) hx hb d_DL_conclude_0 (by decide) ?_
  refine lv_istore_n (lv' := [(3, .int 0), (0, .ref o), (1, .int u), (2, .int (bI own))]) hx hb d_DL_conclude_1 rfl hl (by decide) rfl (fun ls hl => ?_)
  refine x_loop (I := fun r ls => ∃ j, j + r = 6 ∧ (∀ k, k < j → q_den X k = false) ∧ lv_has ls 4 [(3, .int (nI j)), (0, .ref o), (1, .int u), (2, .int (bI own))]) (fun r ls ih h => ?_) (6) ⟨0, by omega, fun k h => absurd h (Nat.not_lt_zero k), (lv_sub hl [0, 1, 2, 3] rfl)⟩
  obtain ⟨j, hj, hd0, hl⟩ := h
  refine lv_iload_n hx hb d_DL_conclude_2 rfl (lv_at hl 0 rfl) ?_
  refine lv_bipush (v := 6) hx hb d_DL_conclude_3 (by decide) ?_
  refine lv_icmp_ge (tgt := 33) hx hb d_DL_conclude_5 (by decide) (fun g1 => ?_) (fun g1 => ?_)
  · have g1 := n_ge (k := 6) g1 (by decide) (by omega)
    have hn : ∀ k, k < 6 → q_den X k = false := fun k hk => hd0 k (by omega)
    refine lv_iconst (v := 0) hx hb d_DL_conclude_33 (by decide) ?_
    refine lv_istore_n (lv' := [(3, .int 0), (0, .ref o), (1, .int u), (2, .int (bI own))]) hx hb d_DL_conclude_34 rfl hl (by decide) rfl (fun ls hl => ?_)
    refine x_loop (I := fun r2 ls => ∃ j, j + r2 = 2 ∧ (∀ k, k < j → q_bar X k = false) ∧ lv_has ls 4 [(3, .int (nI j)), (0, .ref o), (1, .int u), (2, .int (bI own))]) (fun r2 ls ih2 h => ?_) (2) ⟨0, by omega, fun k h => absurd h (Nat.not_lt_zero k), (lv_sub hl [0, 1, 2, 3] rfl)⟩
    obtain ⟨j, hj, hb0, hl⟩ := h
    refine lv_iload_n hx hb d_DL_conclude_35 rfl (lv_at hl 0 rfl) ?_
    refine lv_iconst (v := 2) hx hb d_DL_conclude_36 (by decide) ?_
    refine lv_icmp_ge (tgt := 65) hx hb d_DL_conclude_37 (by decide) (fun g2 => ?_) (fun g2 => ?_)
    · have g2 := n_ge (k := 2) g2 (by decide) (by omega)
      have hg := q_con_g (u := u) (own := own) hn (fun k hk => hb0 k (by omega))
      refine lv_iload_n hx hb d_DL_conclude_65 rfl (lv_at hl 3 rfl) ?_
      refine lv_if_eq (tgt := 89) hx hb d_DL_conclude_66 (by decide) (fun ow => ?_) (fun ow => ?_)
      · have hq : q_con X u own = q_gr X own := by rw [hg, bI_0.mp ow]; rfl
        refine lv_aload_n hx hb d_DL_conclude_89 rfl (lv_at hl 1 rfl) ?_
        refine lv_iload_n hx hb d_DL_conclude_90 rfl (lv_at hl 3 rfl) ?_
        refine x_cw (k_DL_147 (As := [.int (bI own)]) (rest := []) hx hb hml hown hts (c_DL_grants l D cA N o X hlo own) (x_preV hE hO rfl rfl hP) rfl hl.1 rfl (Nat.le_of_ble_eq_true rfl) d_DL_conclude_91 (by decide) ⟨Nat.zero_le _, Nat.zero_le _⟩) (fun H1 L1 p1 f1 => ?_)
        have hF := t_lL hF (fun q h => (fun q h => h) q.base (f1 q h))
        refine x_topi (y := (q_con X u own).1) (by rw [hq]) ?_
        exact W.iret hx hb hr (fun t ht hW => ⟨rfl, by rw [ht, hq]; exact p1⟩) hF d_DL_conclude_94
      · refine lv_aload_n hx hb d_DL_conclude_69 rfl (lv_at hl 1 rfl) ?_
        refine fg_DL_24_DL hx hb hown hts hE hO rfl d_DL_conclude_70 ?_
        refine lv_iconst (v := 5) hx hb d_DL_conclude_73 (by decide) ?_
        refine x_aald (i := 5) hx hb hE.2.2 hLa 5 rfl (by decide) (by decide) d_DL_conclude_74 ?_
        refine x_topv (y := .ref (o + 6 + 8 * 5)) (rfl) ?_
        refine lv_iload_n hx hb d_DL_conclude_75 rfl (lv_at hl 2 rfl) ?_
        refine x_cp (k_DL_144 (As := [.int u]) (rest := []) hx hb hml hown hts (c_Layer_allowsByName l D cA N (o + 6 + 8 * 5) (d_k X 5) (d_b X 5) (d_j X 5) (d_s X 5) (hlo 5 (by decide)).1 (Nat.lt_trans (hlo 5 (by decide)).2.1 (by decide)) (hlo 5 (by decide)).2.2 u) (x_preV hE (hLy 5 (by decide)).1 rfl rfl (hLy 5 (by decide))) rfl hl.1 rfl (Nat.le_of_ble_eq_true rfl) d_DL_conclude_76 (by decide) ⟨Nat.zero_le _, Nat.zero_le _⟩) ?_
        refine x_topi (y := bI (q_nam X u)) rfl ?_
        refine lv_if_eq (tgt := 89) hx hb d_DL_conclude_79 (by decide) (fun nm => ?_) (fun nm => ?_)
        · have hq : q_con X u own = q_gr X own := by rw [hg, bI_0.mp nm]; simp
          refine lv_aload_n hx hb d_DL_conclude_89 rfl (lv_at hl 1 rfl) ?_
          refine lv_iload_n hx hb d_DL_conclude_90 rfl (lv_at hl 3 rfl) ?_
          refine x_cw (k_DL_147 (As := [.int (bI own)]) (rest := []) hx hb hml hown hts (c_DL_grants l D cA N o X hlo own) (x_preV hE hO rfl rfl hP) rfl hl.1 rfl (Nat.le_of_ble_eq_true rfl) d_DL_conclude_91 (by decide) ⟨Nat.zero_le _, Nat.zero_le _⟩) (fun H1 L1 p1 f1 => ?_)
          have hF := t_lL hF (fun q h => (fun q h => h) q.base (f1 q h))
          refine x_topi (y := (q_con X u own).1) (by rw [hq]) ?_
          exact W.iret hx hb hr (fun t ht hW => ⟨rfl, by rw [ht, hq]; exact p1⟩) hF d_DL_conclude_94
        · have hq : q_con X u own = (1, 5) := by rw [hg, bI_n0.mp ow, bI_n0.mp nm]; rfl
          refine lv_aload_n hx hb d_DL_conclude_82 rfl (lv_at hl 1 rfl) ?_
          refine lv_iconst (v := 1) hx hb d_DL_conclude_83 (by decide) ?_
          refine lv_iconst (v := 5) hx hb d_DL_conclude_84 (by decide) ?_
          refine x_cw (k_DL_138 (As := [.int 1, .int (nI 5)]) (rest := []) hx hb hml hown hts (c_DL_settle l D cA N o X (1) (nI 5)) (x_preV hE hO rfl rfl hP) rfl hl.1 rfl (Nat.le_of_ble_eq_true rfl) d_DL_conclude_85 (by decide) ⟨Nat.zero_le _, Nat.zero_le _⟩) (fun H1 L1 p1 f1 => ?_)
          have hF := t_lL hF (fun q h => (fun q h => h) q.base (f1 q h))
          refine x_topi (y := (q_con X u own).1) (by rw [hq]) ?_
          exact W.iret hx hb hr (fun t ht hW => ⟨rfl, by rw [ht, hq]; exact p1⟩) hF d_DL_conclude_88
    · have g2 := n_lt (k := 2) g2 (by decide) (by omega)
      refine lv_aload_n hx hb d_DL_conclude_40 rfl (lv_at hl 1 rfl) ?_
      refine fg_DL_24_DL hx hb hown hts hE hO rfl d_DL_conclude_41 ?_
      refine lv_iload_n hx hb d_DL_conclude_44 rfl (lv_at hl 0 rfl) ?_
      refine x_aald hx hb hE.2.2 hLa 5 rfl (by omega) (by decide) d_DL_conclude_45 ?_
      refine x_topv (y := .ref (o + 6 + 8 * j)) (rfl) ?_
      refine x_cp (k_DL_141 (As := []) (rest := []) hx hb hml hown hts (c_Layer_bars l D cA N (o + 6 + 8 * j) (d_k X j) (d_b X j) (d_j X j) (d_s X j) (hlo j (by omega)).1 (Nat.lt_trans (hlo j (by omega)).2.1 (by decide)) (hlo j (by omega)).2.2) (x_preV hE (hLy j (by omega)).1 rfl rfl (hLy j (by omega))) rfl hl.1 rfl (Nat.le_of_ble_eq_true rfl) d_DL_conclude_46 (by decide) ⟨Nat.zero_le _, Nat.zero_le _⟩) ?_
      refine x_topi (y := bI (q_bar X j)) rfl ?_
      refine lv_if_eq (tgt := 59) hx hb d_DL_conclude_49 (by decide) (fun d1 => ?_) (fun d1 => ?_)
      · refine lv_iinc (k := 0) (v := nI (j + 1)) (lv' := [(3, .int (nI (j + 1))), (0, .ref o), (1, .int u), (2, .int (bI own))]) hx hb d_DL_conclude_59 hl rfl (x_inc _) (by decide) rfl (fun ls hl => ?_)
        refine lv_goto (tgt := 35) hx hb d_DL_conclude_62 (by decide) ?_
        exact ih2 (r2 - 1) _ (by omega) ⟨j + 1, by omega, fun k hk => by
          by_cases e : k = j
          · rw [e]; exact bI_0.mp d1
          · exact hb0 k (by omega), (lv_sub hl [0, 1, 2, 3] rfl)⟩
      · have hq := q_con_b (u := u) (own := own) hn g2 (bI_n0.mp d1) hb0
        refine lv_aload_n hx hb d_DL_conclude_52 rfl (lv_at hl 1 rfl) ?_
        refine lv_iconst (v := 0) hx hb d_DL_conclude_53 (by decide) ?_
        refine lv_iload_n hx hb d_DL_conclude_54 rfl (lv_at hl 0 rfl) ?_
        refine x_cw (k_DL_138 (As := [.int 0, .int (nI j)]) (rest := []) hx hb hml hown hts (c_DL_settle l D cA N o X (0) (nI j)) (x_preV hE hO rfl rfl hP) rfl hl.1 rfl (Nat.le_of_ble_eq_true rfl) d_DL_conclude_55 (by decide) ⟨Nat.zero_le _, Nat.zero_le _⟩) (fun H1 L1 p1 f1 => ?_)
        have hF := t_lL hF (fun q h => (fun q h => h) q.base (f1 q h))
        refine x_topi (y := (q_con X u own).1) (by rw [hq]) ?_
        exact W.iret hx hb hr (fun t ht hW => ⟨rfl, by rw [ht, hq]; exact p1⟩) hF d_DL_conclude_58
  · have g1 := n_lt (k := 6) g1 (by decide) (by omega)
    refine lv_aload_n hx hb d_DL_conclude_8 rfl (lv_at hl 1 rfl) ?_
    refine fg_DL_24_DL hx hb hown hts hE hO rfl d_DL_conclude_9 ?_
    refine lv_iload_n hx hb d_DL_conclude_12 rfl (lv_at hl 0 rfl) ?_
    refine x_aald hx hb hE.2.2 hLa 5 rfl g1 (by decide) d_DL_conclude_13 ?_
    refine x_topv (y := .ref (o + 6 + 8 * j)) (rfl) ?_
    refine x_cp (k_DL_135 (As := []) (rest := []) hx hb hml hown hts (c_Layer_denies l D cA N (o + 6 + 8 * j) (d_k X j) (d_b X j) (d_j X j) (d_s X j) (hlo j g1).1 (Nat.lt_trans (hlo j g1).2.1 (by decide)) (hlo j g1).2.2) (x_preV hE (hLy j g1).1 rfl rfl (hLy j g1)) rfl hl.1 rfl (Nat.le_of_ble_eq_true rfl) d_DL_conclude_14 (by decide) ⟨Nat.zero_le _, Nat.zero_le _⟩) ?_
    refine x_topi (y := bI (q_den X j)) rfl ?_
    refine lv_if_eq (tgt := 27) hx hb d_DL_conclude_17 (by decide) (fun d1 => ?_) (fun d1 => ?_)
    · refine lv_iinc (k := 0) (v := nI (j + 1)) (lv' := [(3, .int (nI (j + 1))), (0, .ref o), (1, .int u), (2, .int (bI own))]) hx hb d_DL_conclude_27 hl rfl (x_inc _) (by decide) rfl (fun ls hl => ?_)
      refine lv_goto (tgt := 2) hx hb d_DL_conclude_30 (by decide) ?_
      exact ih (r - 1) _ (by omega) ⟨j + 1, by omega, fun k hk => by
        by_cases e : k = j
        · rw [e]; exact bI_0.mp d1
        · exact hd0 k (by omega), (lv_sub hl [0, 1, 2, 3] rfl)⟩
    · have hq := q_con_d (u := u) (own := own) g1 (bI_n0.mp d1) hd0
      refine lv_aload_n hx hb d_DL_conclude_20 rfl (lv_at hl 1 rfl) ?_
      refine lv_iconst (v := (-1)) hx hb d_DL_conclude_21 (by decide) ?_
      refine lv_iload_n hx hb d_DL_conclude_22 rfl (lv_at hl 0 rfl) ?_
      refine x_cw (k_DL_138 (As := [.int (-1), .int (nI j)]) (rest := []) hx hb hml hown hts (c_DL_settle l D cA N o X ((-1)) (nI j)) (x_preV hE hO rfl rfl hP) rfl hl.1 rfl (Nat.le_of_ble_eq_true rfl) d_DL_conclude_23 (by decide) ⟨Nat.zero_le _, Nat.zero_le _⟩) (fun H1 L1 p1 f1 => ?_)
      have hF := t_lL hF (fun q h => (fun q h => h) q.base (f1 q h))
      refine x_topi (y := (q_con X u own).1) (by rw [hq]) ?_
      exact W.iret hx hb hr (fun t ht hW => ⟨rfl, by rw [ht, hq]; exact p1⟩) hF d_DL_conclude_26
