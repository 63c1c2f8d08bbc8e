set_option maxHeartbeats 4000000 in
set_option maxRecDepth 100000 in
theorem c_Statement_become_N (l : Launch) (D : va_G) (cA : Nat → ClassId) (S : Nat) (N : n_T) (x : s_T) (hw : Nat) (ac th : Int64) (wh : Int32) : Met l y_Statement_become [.code y_Statement_become b_Statement_become 8 none] (x_rm 0 0 0) (x_P D cA [.ref S, .int (nI hw), .long ac, .long th, .int wh, .null] (fun H => va_at D x_cl (S, .inr (2, s_fs N x)) H)) (x_Q (none) (fun H H1 => x_F (x_A [S]) H H1 ∧ va_at D x_cl (S, .inr (2, s_fs N (hw, ac, th, wh, none))) H1)) 0 0 (x_A [S]) := by
  refine x_met (own := "DecisionLayers$Statement") (by decide) rfl (Nat.le_of_ble_eq_true rfl) ?_
  intro pp ee s mm below mt cd ls hx hb hr hlk hnm hml hown hts hE hP hl
  have hl : lv_has ls 8 [(0, .ref S), (1, .int (nI hw)), (2, .long ac), (4, .long th), (6, .int wh), (7, .null)] := hl
  have hF : ∀ q ∈ ([] : List Loc), x_A [S] q.base := t_nil
  refine lv_aload_n hx hb d_Statement_become_0 rfl (lv_at hl 0 rfl) ?_
  refine lv_iload_n hx hb d_Statement_become_1 rfl (lv_at hl 1 rfl) ?_
  refine fp_Statement_9_Statement hx hb hown hts hE hP rfl rfl (Nat.le_of_ble_eq_true rfl) d_Statement_become_2 (fun H1 k1 g1 o1 => ?_)
  have hF := t_lc (a := S) (i := k1) hF (x_A1.mpr rfl)
  refine lv_aload_n hx hb d_Statement_become_5 rfl (lv_at hl 0 rfl) ?_
  refine lv_lload_n hx hb d_Statement_become_6 rfl (lv_at hl 2 rfl) ?_
  refine fp_Statement_13_Statement hx hb hown hts hE g1 rfl rfl (Nat.le_of_ble_eq_true rfl) d_Statement_become_7 (fun H2 k2 g2 o2 => ?_)
  have hF := t_lc (a := S) (i := k2) hF (x_A1.mpr rfl)
  refine lv_aload_n hx hb d_Statement_become_10 rfl (lv_at hl 0 rfl) ?_
  refine lv_lload hx hb d_Statement_become_11 (lv_at hl 3 rfl) ?_
  refine fp_Statement_17_Statement hx hb hown hts hE g2 rfl rfl (Nat.le_of_ble_eq_true rfl) d_Statement_become_13 (fun H3 k3 g3 o3 => ?_)
  have hF := t_lc (a := S) (i := k3) hF (x_A1.mpr rfl)
  refine lv_aload_n hx hb d_Statement_become_16 rfl (lv_at hl 0 rfl) ?_
  refine lv_iload hx hb d_Statement_become_17 (lv_at hl 4 rfl) ?_
  refine fp_Statement_20_Statement hx hb hown hts hE g3 rfl rfl (Nat.le_of_ble_eq_true rfl) d_Statement_become_19 (fun H4 k4 g4 o4 => ?_)
  have hF := t_lc (a := S) (i := k4) hF (x_A1.mpr rfl)
  refine lv_aload_n hx hb d_Statement_become_22 rfl (lv_at hl 0 rfl) ?_
  refine lv_aloadN hx hb d_Statement_become_23 (lv_at hl 5 rfl) ?_
  refine fp_Statement_23_Statement hx hb hown hts hE g4 rfl rfl (Nat.le_of_ble_eq_true rfl) d_Statement_become_25 (fun H5 k5 g5 o5 => ?_)
  have hF := t_lc (a := S) (i := k5) hF (x_A1.mpr rfl)
  exact W.vret hx hb hr (fun t ht hW => ⟨rfl, by rw [ht]; exact ⟨((((x_F.of1 o1 (x_A1.mpr rfl)).trans (x_F.of1 o2 (x_A1.mpr rfl))).trans (x_F.of1 o3 (x_A1.mpr rfl))).trans (x_F.of1 o4 (x_A1.mpr rfl))).trans (x_F.of1 o5 (x_A1.mpr rfl)), g5⟩⟩) hF d_Statement_become_28
set_option maxHeartbeats 4000000 in
set_option maxRecDepth 100000 in
theorem c_Statement_become_R (l : Launch) (D : va_G) (cA : Nat → ClassId) (S : Nat) (N : n_T) (x : s_T) (hw : Nat) (ac th : Int64) (wh : Int32) (i : Nat) : Met l y_Statement_become [.code y_Statement_become b_Statement_become 8 none] (x_rm 0 0 0) (x_P D cA [.ref S, .int (nI hw), .long ac, .long th, .int wh, .ref (n_ad N i)] (fun H => va_at D x_cl (S, .inr (2, s_fs N x)) H)) (x_Q (none) (fun H H1 => x_F (x_A [S]) H H1 ∧ va_at D x_cl (S, .inr (2, s_fs N (hw, ac, th, wh, some i))) H1)) 0 0 (x_A [S]) := by
  refine x_met (own := "DecisionLayers$Statement") (by decide) rfl (Nat.le_of_ble_eq_true rfl) ?_
  intro pp ee s mm below mt cd ls hx hb hr hlk hnm hml hown hts hE hP hl
  have hl : lv_has ls 8 [(0, .ref S), (1, .int (nI hw)), (2, .long ac), (4, .long th), (6, .int wh), (7, .ref (n_ad N i))] := hl
  have hF : ∀ q ∈ ([] : List Loc), x_A [S] q.base := t_nil
  refine lv_aload_n hx hb d_Statement_become_0 rfl (lv_at hl 0 rfl) ?_
  refine lv_iload_n hx hb d_Statement_become_1 rfl (lv_at hl 1 rfl) ?_
  refine fp_Statement_9_Statement hx hb hown hts hE hP rfl rfl (Nat.le_of_ble_eq_true rfl) d_Statement_become_2 (fun H1 k1 g1 o1 => ?_)
  have hF := t_lc (a := S) (i := k1) hF (x_A1.mpr rfl)
  refine lv_aload_n hx hb d_Statement_become_5 rfl (lv_at hl 0 rfl) ?_
  refine lv_lload_n hx hb d_Statement_become_6 rfl (lv_at hl 2 rfl) ?_
  refine fp_Statement_13_Statement hx hb hown hts hE g1 rfl rfl (Nat.le_of_ble_eq_true rfl) d_Statement_become_7 (fun H2 k2 g2 o2 => ?_)
  have hF := t_lc (a := S) (i := k2) hF (x_A1.mpr rfl)
  refine lv_aload_n hx hb d_Statement_become_10 rfl (lv_at hl 0 rfl) ?_
  refine lv_lload hx hb d_Statement_become_11 (lv_at hl 3 rfl) ?_
  refine fp_Statement_17_Statement hx hb hown hts hE g2 rfl rfl (Nat.le_of_ble_eq_true rfl) d_Statement_become_13 (fun H3 k3 g3 o3 => ?_)
  have hF := t_lc (a := S) (i := k3) hF (x_A1.mpr rfl)
  refine lv_aload_n hx hb d_Statement_become_16 rfl (lv_at hl 0 rfl) ?_
  refine lv_iload hx hb d_Statement_become_17 (lv_at hl 4 rfl) ?_
  refine fp_Statement_20_Statement hx hb hown hts hE g3 rfl rfl (Nat.le_of_ble_eq_true rfl) d_Statement_become_19 (fun H4 k4 g4 o4 => ?_)
  have hF := t_lc (a := S) (i := k4) hF (x_A1.mpr rfl)
  refine lv_aload_n hx hb d_Statement_become_22 rfl (lv_at hl 0 rfl) ?_
  refine lv_aload hx hb d_Statement_become_23 (lv_at hl 5 rfl) ?_
  refine fp_Statement_23_Statement hx hb hown hts hE g4 rfl rfl (Nat.le_of_ble_eq_true rfl) d_Statement_become_25 (fun H5 k5 g5 o5 => ?_)
  have hF := t_lc (a := S) (i := k5) hF (x_A1.mpr rfl)
  exact W.vret hx hb hr (fun t ht hW => ⟨rfl, by rw [ht]; exact ⟨((((x_F.of1 o1 (x_A1.mpr rfl)).trans (x_F.of1 o2 (x_A1.mpr rfl))).trans (x_F.of1 o3 (x_A1.mpr rfl))).trans (x_F.of1 o4 (x_A1.mpr rfl))).trans (x_F.of1 o5 (x_A1.mpr rfl)), g5⟩⟩) hF d_Statement_become_28
set_option maxHeartbeats 4000000 in
set_option maxRecDepth 100000 in
theorem c_Layer_isFull (l : Launch) (D : va_G) (cA : Nat → ClassId) (N : n_T) (L c : Nat) (p : Bool) (j : Nat) (sd : Nat → s_T) (hc : c ≤ 6) : Met l y_Layer_isFull [.code y_Layer_isFull b_Layer_isFull 1 (some .boolean)] (x_rm 0 0 0) (x_P D cA [.ref L] (fun H => l_W D cA N L c p j sd H)) (x_Q (some (.int (bI (decide (6 ≤ c))))) (x_same)) 0 0 (fun _ => False) := by
  refine x_met (own := "DecisionLayers$Layer") (by decide) rfl (Nat.le_of_ble_eq_true rfl) ?_
  intro pp ee s mm below mt cd ls hx hb hr hlk hnm hml hown hts hE hP hl
  have hl : lv_has ls 1 [(0, .ref L)] := hl
  obtain ⟨hL, hRw, hSt⟩ := id hP
  refine lv_aload_n hx hb d_Layer_isFull_0 rfl (lv_at hl 0 rfl) ?_
  refine fg_Layer_18_Layer hx hb hown hts hE hL rfl d_Layer_isFull_1 ?_
  refine lv_bipush (v := 6) hx hb d_Layer_isFull_4 (by decide) ?_
  refine lv_icmp_lt (tgt := 13) hx hb d_Layer_isFull_6 (by decide) (fun h1 => ?_) (fun h1 => ?_)
  · refine lv_iconst (v := 0) hx hb d_Layer_isFull_13 (by decide) ?_
    refine x_topi (y := bI (decide (6 ≤ c))) (by rw [bI_no (Nat.not_le.mpr (n_gt (i := 6) h1 (by omega) (by decide)))]) ?_
    exact W.zret (ty := .boolean) hx hb hr (bI_z _) (fun t ht hW => ⟨rfl, ht⟩) (fun q h => by cases h) d_Layer_isFull_14
  · refine lv_iconst (v := 1) hx hb d_Layer_isFull_9 (by decide) ?_
    refine lv_goto (tgt := 14) hx hb d_Layer_isFull_10 (by decide) ?_
    refine x_topi (y := bI (decide (6 ≤ c))) (by rw [bI_of (n_le (i := 6) h1 (by omega) (by decide))]) ?_
    exact W.zret (ty := .boolean) hx hb hr (bI_z _) (fun t ht hW => ⟨rfl, ht⟩) (fun q h => by cases h) d_Layer_isFull_14
set_option maxHeartbeats 4000000 in
set_option maxRecDepth 100000 in
theorem c_Layer_empty (l : Launch) (D : va_G) (cA : Nat → ClassId) (N : n_T) (L c : Nat) (p : Bool) (j : Nat) (sd : Nat → s_T) : Met l y_Layer_empty [.code y_Layer_empty b_Layer_empty 1 none] (x_rm 0 0 0) (x_P D cA [.ref L] (fun H => l_W D cA N L c p j sd H)) (x_Q (none) (fun H H1 => x_F (x_A [L]) H H1 ∧ l_W D cA N L 0 false j sd H1)) 0 0 (x_A [L]) := by
  refine x_met (own := "DecisionLayers$Layer") (by decide) rfl (Nat.le_of_ble_eq_true rfl) ?_
  intro pp ee s mm below mt cd ls hx hb hr hlk hnm hml hown hts hE hP hl
  have hl : lv_has ls 1 [(0, .ref L)] := hl
  obtain ⟨hL, hRw, hSt⟩ := id hP
  have hF : ∀ q ∈ ([] : List Loc), x_A [L] q.base := t_nil
  refine lv_aload_n hx hb d_Layer_empty_0 rfl (lv_at hl 0 rfl) ?_
  refine lv_iconst (v := 0) hx hb d_Layer_empty_1 (by decide) ?_
  refine fp_Layer_18_Layer hx hb hown hts hE hL rfl rfl (Nat.le_of_ble_eq_true rfl) d_Layer_empty_2 (fun H1 k1 g1 o1 => ?_)
  have hF := t_lc (a := L) (i := k1) hF (x_A1.mpr rfl)
  refine lv_aload_n hx hb d_Layer_empty_5 rfl (lv_at hl 0 rfl) ?_
  refine lv_iconst (v := 0) hx hb d_Layer_empty_6 (by decide) ?_
  refine fp_Layer_26_Layer hx hb hown hts hE g1 rfl rfl (Nat.le_of_ble_eq_true rfl) d_Layer_empty_7 (fun H2 k2 g2 o2 => ?_)
  have hF := t_lc (a := L) (i := k2) hF (x_A1.mpr rfl)
  exact W.vret hx hb hr (fun t ht hW => ⟨rfl, by rw [ht]; exact ⟨(x_F.of1 o1 (x_A1.mpr rfl)).trans (x_F.of1 o2 (x_A1.mpr rfl)), g2, (hRw.k1 o1 (show L + 1 ≠ L by omega)).k1 o2 (show L + 1 ≠ L by omega), fun k hk => ((hSt k hk).k1 o1 (show L + 2 + k ≠ L by omega)).k1 o2 (show L + 2 + k ≠ L by omega)⟩⟩) hF d_Layer_empty_10
set_option maxHeartbeats 4000000 in
set_option maxRecDepth 100000 in
theorem c_Layer_append_N (l : Launch) (D : va_G) (cA : Nat → ClassId) (N : n_T) (L c : Nat) (p : Bool) (j : Nat) (sd : Nat → s_T) (hc : c < 6) (hw : Nat) (ac th : Int64) (wh : Int32) : Met l y_Layer_append [.code y_Layer_append b_Layer_append 8 (some .int)] (x_rm 1 0 0) (x_P D cA [.ref L, .int (nI hw), .long ac, .long th, .int wh, .null] (fun H => l_W D cA N L c p j sd H)) (x_Q (some (.int (nI c))) (fun H H1 => x_F (x_A [L, L + 2 + c]) H H1 ∧ l_W D cA N L (c + 1) true j (va_up sd c (hw, ac, th, wh, none)) H1)) 0 0 (x_A [L, L + 2 + c]) := by
  refine x_met (own := "DecisionLayers$Layer") (by decide) rfl (Nat.le_of_ble_eq_true rfl) ?_
  intro pp ee s mm below mt cd ls hx hb hr hlk hnm hml hown hts hE hP hl
  have hl : lv_has ls 8 [(0, .ref L), (1, .int (nI hw)), (2, .long ac), (4, .long th), (6, .int wh), (7, .null)] := hl
  obtain ⟨hL, hRw, hSt⟩ := id hP
  have hF : ∀ q ∈ ([] : List Loc), x_A [L, L + 2 + c] q.base := t_nil
  refine lv_aload_n hx hb d_Layer_append_0 rfl (lv_at hl 0 rfl) ?_
  refine fg_Layer_18_Layer hx hb hown hts hE hL rfl d_Layer_append_1 ?_
  refine lv_bipush (v := 6) hx hb d_Layer_append_4 (by decide) ?_
  refine lv_icmp_lt (tgt := 12) hx hb d_Layer_append_6 (by decide) (fun h1 => ?_) (fun h1 => ?_)
  · refine lv_aload_n hx hb d_Layer_append_12 rfl (lv_at hl 0 rfl) ?_
    refine fg_Layer_13_Layer hx hb hown hts hE hL rfl d_Layer_append_13 ?_
    refine lv_aload_n hx hb d_Layer_append_16 rfl (lv_at hl 0 rfl) ?_
    refine fg_Layer_18_Layer hx hb hown hts hE hL rfl d_Layer_append_17 ?_
    refine x_aald hx hb hE.2.2 hRw 6 rfl hc (by decide) d_Layer_append_20 ?_
    refine x_topv (y := .ref (L + 2 + c)) (rfl) ?_
    refine lv_iload_n hx hb d_Layer_append_21 rfl (lv_at hl 1 rfl) ?_
    refine lv_lload_n hx hb d_Layer_append_22 rfl (lv_at hl 2 rfl) ?_
    refine lv_lload hx hb d_Layer_append_23 (lv_at hl 3 rfl) ?_
    refine lv_iload hx hb d_Layer_append_25 (lv_at hl 4 rfl) ?_
    refine lv_aloadN hx hb d_Layer_append_27 (lv_at hl 5 rfl) ?_
    refine x_cv (k_Layer_22 (As := [.int (nI hw), .long ac, .long th, .int wh, .null]) (rest := []) hx hb hml hown hts (c_Statement_become_N l D cA (L + 2 + c) N (sd c) hw ac th wh) (x_preV hE (hSt c hc) rfl rfl (hSt c hc)) rfl hl.1 rfl (Nat.le_of_ble_eq_true rfl) d_Layer_append_29 (by decide) ⟨Nat.zero_le _, Nat.zero_le _⟩) (fun H1 L1 p1 f1 => ?_)
    have hF := t_lL hF (fun q h => x_A.sub (by simp) q.base (f1 q h))
    obtain ⟨e1, s1⟩ := p1
    have hL := hL.kF e1 (by rw [x_A1]; show ¬ L = L + 2 + c; omega)
    have hRw := hRw.kF e1 (by rw [x_A1]; show ¬ L + 1 = L + 2 + c; omega)
    have hSt1 : ∀ k, k < 6 → va_at D x_cl (L + 2 + k, .inr (2, s_fs N (va_up sd c (hw, ac, th, wh, none) k))) H1 := fun k hk => by
      by_cases e : k = c
      · rw [e]; show va_at D x_cl (L + 2 + c, .inr (2, s_fs N (if c = c then _ else _))) H1; rw [if_pos rfl]; exact s1
      · show va_at D x_cl (L + 2 + k, .inr (2, s_fs N (if k = c then _ else _))) H1; rw [if_neg e]; exact (hSt k hk).kF e1 (by rw [x_A1]; show ¬ L + 2 + k = L + 2 + c; omega)
    refine lv_aload_n hx hb d_Layer_append_32 rfl (lv_at hl 0 rfl) ?_
    refine lv_iconst (v := 1) hx hb d_Layer_append_33 (by decide) ?_
    refine fp_Layer_26_Layer hx hb hown hts hE hL rfl rfl (Nat.le_of_ble_eq_true rfl) d_Layer_append_34 (fun H2 k2 g2 o2 => ?_)
    have hF := t_lc (a := L) (i := k2) hF (by unfold x_A; simp)
    refine lv_aload_n hx hb d_Layer_append_37 rfl (lv_at hl 0 rfl) ?_
    refine lv_dup hx hb d_Layer_append_38 rfl ?_
    refine fg_Layer_18_Layer hx hb hown hts hE g2 rfl d_Layer_append_39 ?_
    refine lv_iconst (v := 1) hx hb d_Layer_append_42 (by decide) ?_
    refine lv_iadd hx hb d_Layer_append_43 ?_
    refine x_topi (y := nI (c + 1)) (nI_succ c).symm ?_
    refine fp_Layer_18_Layer hx hb hown hts hE g2 rfl rfl (Nat.le_of_ble_eq_true rfl) d_Layer_append_44 (fun H3 k3 g3 o3 => ?_)
    have hF := t_lc (a := L) (i := k3) hF (by unfold x_A; simp)
    refine lv_aload_n hx hb d_Layer_append_47 rfl (lv_at hl 0 rfl) ?_
    refine fg_Layer_18_Layer hx hb hown hts hE g3 rfl d_Layer_append_48 ?_
    refine lv_iconst (v := 1) hx hb d_Layer_append_51 (by decide) ?_
    refine lv_isub hx hb d_Layer_append_52 ?_
    refine x_topi (y := nI c) (nI_pred c) ?_
    exact W.iret hx hb hr (fun t ht hW => ⟨rfl, by rw [ht]; exact ⟨((e1.mono (fun q h => by rw [x_A1.mp h]; unfold x_A; simp)).trans (x_F.of1 o2 (by unfold x_A; simp))).trans (x_F.of1 o3 (by unfold x_A; simp)), g3, (hRw.k1 o2 (show L + 1 ≠ L by omega)).k1 o3 (show L + 1 ≠ L by omega), fun k hk => ((hSt1 k hk).k1 o2 (show L + 2 + k ≠ L by omega)).k1 o3 (show L + 2 + k ≠ L by omega)⟩⟩) hF d_Layer_append_53
  · exact absurd (n_le (i := 6) h1 (by omega) (by decide)) (by omega)
set_option maxHeartbeats 4000000 in
set_option maxRecDepth 100000 in
theorem c_Layer_append_R (l : Launch) (D : va_G) (cA : Nat → ClassId) (N : n_T) (L c : Nat) (p : Bool) (j : Nat) (sd : Nat → s_T) (hc : c < 6) (hw : Nat) (ac th : Int64) (wh : Int32) (i : Nat) : Met l y_Layer_append [.code y_Layer_append b_Layer_append 8 (some .int)] (x_rm 1 0 0) (x_P D cA [.ref L, .int (nI hw), .long ac, .long th, .int wh, .ref (n_ad N i)] (fun H => l_W D cA N L c p j sd H)) (x_Q (some (.int (nI c))) (fun H H1 => x_F (x_A [L, L + 2 + c]) H H1 ∧ l_W D cA N L (c + 1) true j (va_up sd c (hw, ac, th, wh, some i)) H1)) 0 0 (x_A [L, L + 2 + c]) := by
  refine x_met (own := "DecisionLayers$Layer") (by decide) rfl (Nat.le_of_ble_eq_true rfl) ?_
  intro pp ee s mm below mt cd ls hx hb hr hlk hnm hml hown hts hE hP hl
  have hl : lv_has ls 8 [(0, .ref L), (1, .int (nI hw)), (2, .long ac), (4, .long th), (6, .int wh), (7, .ref (n_ad N i))] := hl
  obtain ⟨hL, hRw, hSt⟩ := id hP
  have hF : ∀ q ∈ ([] : List Loc), x_A [L, L + 2 + c] q.base := t_nil
  refine lv_aload_n hx hb d_Layer_append_0 rfl (lv_at hl 0 rfl) ?_
  refine fg_Layer_18_Layer hx hb hown hts hE hL rfl d_Layer_append_1 ?_
  refine lv_bipush (v := 6) hx hb d_Layer_append_4 (by decide) ?_
  refine lv_icmp_lt (tgt := 12) hx hb d_Layer_append_6 (by decide) (fun h1 => ?_) (fun h1 => ?_)
  · refine lv_aload_n hx hb d_Layer_append_12 rfl (lv_at hl 0 rfl) ?_
    refine fg_Layer_13_Layer hx hb hown hts hE hL rfl d_Layer_append_13 ?_
    refine lv_aload_n hx hb d_Layer_append_16 rfl (lv_at hl 0 rfl) ?_
    refine fg_Layer_18_Layer hx hb hown hts hE hL rfl d_Layer_append_17 ?_
    refine x_aald hx hb hE.2.2 hRw 6 rfl hc (by decide) d_Layer_append_20 ?_
    refine x_topv (y := .ref (L + 2 + c)) (rfl) ?_
    refine lv_iload_n hx hb d_Layer_append_21 rfl (lv_at hl 1 rfl) ?_
    refine lv_lload_n hx hb d_Layer_append_22 rfl (lv_at hl 2 rfl) ?_
    refine lv_lload hx hb d_Layer_append_23 (lv_at hl 3 rfl) ?_
    refine lv_iload hx hb d_Layer_append_25 (lv_at hl 4 rfl) ?_
    refine lv_aload hx hb d_Layer_append_27 (lv_at hl 5 rfl) ?_
    refine x_cv (k_Layer_22 (As := [.int (nI hw), .long ac, .long th, .int wh, .ref (n_ad N i)]) (rest := []) hx hb hml hown hts (c_Statement_become_R l D cA (L + 2 + c) N (sd c) hw ac th wh i) (x_preV hE (hSt c hc) rfl rfl (hSt c hc)) rfl hl.1 rfl (Nat.le_of_ble_eq_true rfl) d_Layer_append_29 (by decide) ⟨Nat.zero_le _, Nat.zero_le _⟩) (fun H1 L1 p1 f1 => ?_)
    have hF := t_lL hF (fun q h => x_A.sub (by simp) q.base (f1 q h))
    obtain ⟨e1, s1⟩ := p1
    have hL := hL.kF e1 (by rw [x_A1]; show ¬ L = L + 2 + c; omega)
    have hRw := hRw.kF e1 (by rw [x_A1]; show ¬ L + 1 = L + 2 + c; omega)
    have hSt1 : ∀ k, k < 6 → va_at D x_cl (L + 2 + k, .inr (2, s_fs N (va_up sd c (hw, ac, th, wh, some i) k))) H1 := fun k hk => by
      by_cases e : k = c
      · rw [e]; show va_at D x_cl (L + 2 + c, .inr (2, s_fs N (if c = c then _ else _))) H1; rw [if_pos rfl]; exact s1
      · show va_at D x_cl (L + 2 + k, .inr (2, s_fs N (if k = c then _ else _))) H1; rw [if_neg e]; exact (hSt k hk).kF e1 (by rw [x_A1]; show ¬ L + 2 + k = L + 2 + c; omega)
    refine lv_aload_n hx hb d_Layer_append_32 rfl (lv_at hl 0 rfl) ?_
    refine lv_iconst (v := 1) hx hb d_Layer_append_33 (by decide) ?_
    refine fp_Layer_26_Layer hx hb hown hts hE hL rfl rfl (Nat.le_of_ble_eq_true rfl) d_Layer_append_34 (fun H2 k2 g2 o2 => ?_)
    have hF := t_lc (a := L) (i := k2) hF (by unfold x_A; simp)
    refine lv_aload_n hx hb d_Layer_append_37 rfl (lv_at hl 0 rfl) ?_
    refine lv_dup hx hb d_Layer_append_38 rfl ?_
    refine fg_Layer_18_Layer hx hb hown hts hE g2 rfl d_Layer_append_39 ?_
    refine lv_iconst (v := 1) hx hb d_Layer_append_42 (by decide) ?_
    refine lv_iadd hx hb d_Layer_append_43 ?_
    refine x_topi (y := nI (c + 1)) (nI_succ c).symm ?_
    refine fp_Layer_18_Layer hx hb hown hts hE g2 rfl rfl (Nat.le_of_ble_eq_true rfl) d_Layer_append_44 (fun H3 k3 g3 o3 => ?_)
    have hF := t_lc (a := L) (i := k3) hF (by unfold x_A; simp)
    refine lv_aload_n hx hb d_Layer_append_47 rfl (lv_at hl 0 rfl) ?_
    refine fg_Layer_18_Layer hx hb hown hts hE g3 rfl d_Layer_append_48 ?_
    refine lv_iconst (v := 1) hx hb d_Layer_append_51 (by decide) ?_
    refine lv_isub hx hb d_Layer_append_52 ?_
    refine x_topi (y := nI c) (nI_pred c) ?_
    exact W.iret hx hb hr (fun t ht hW => ⟨rfl, by rw [ht]; exact ⟨((e1.mono (fun q h => by rw [x_A1.mp h]; unfold x_A; simp)).trans (x_F.of1 o2 (by unfold x_A; simp))).trans (x_F.of1 o3 (by unfold x_A; simp)), g3, (hRw.k1 o2 (show L + 1 ≠ L by omega)).k1 o3 (show L + 1 ≠ L by omega), fun k hk => ((hSt1 k hk).k1 o2 (show L + 2 + k ≠ L by omega)).k1 o3 (show L + 2 + k ≠ L by omega)⟩⟩) hF d_Layer_append_53
  · exact absurd (n_le (i := 6) h1 (by omega) (by decide)) (by omega)
set_option maxHeartbeats 4000000 in
set_option maxRecDepth 100000 in
theorem c_Layer_isJudged (l : Launch) (D : va_G) (cA : Nat → ClassId) (N : n_T) (L c : Nat) (p : Bool) (j : Nat) (sd : Nat → s_T) (hj : j < 512) (k : Nat) (hk : k < 6) : Met l y_Layer_isJudged [.code y_Layer_isJudged b_Layer_isJudged 2 (some .boolean)] (x_rm 0 0 0) (x_P D cA [.ref L, .int (nI k)] (fun H => l_W D cA N L c p j sd H)) (x_Q (some (.int (bI (j.testBit k)))) (x_same)) 0 0 (fun _ => False) := by
  refine x_met (own := "DecisionLayers$Layer") (by decide) rfl (Nat.le_of_ble_eq_true rfl) ?_
  intro pp ee s mm below mt cd ls hx hb hr hlk hnm hml hown hts hE hP hl
  have hl : lv_has ls 2 [(0, .ref L), (1, .int (nI k))] := hl
  obtain ⟨hL, hRw, hSt⟩ := id hP
  refine lv_aload_n hx hb d_Layer_isJudged_0 rfl (lv_at hl 0 rfl) ?_
  refine fg_Layer_30_Layer hx hb hown hts hE hL rfl d_Layer_isJudged_1 ?_
  refine lv_iload_n hx hb d_Layer_isJudged_4 rfl (lv_at hl 1 rfl) ?_
  refine lv_iushr hx hb d_Layer_isJudged_5 rfl ?_
  refine lv_iconst (v := 1) hx hb d_Layer_isJudged_6 (by decide) ?_
  refine lv_iand hx hb d_Layer_isJudged_7 ?_
  refine x_topi (y := bI (j.testBit k)) (pl_bu _ hj _ (by omega)) ?_
  refine lv_if_eq (tgt := 15) hx hb d_Layer_isJudged_8 (by decide) (fun h1 => ?_) (fun h1 => ?_)
  · refine lv_iconst (v := 0) hx hb d_Layer_isJudged_15 (by decide) ?_
    refine x_topi (y := bI (j.testBit k)) (by rw [bI_0.mp h1]; rfl) ?_
    exact W.zret (ty := .boolean) hx hb hr (bI_z _) (fun t ht hW => ⟨rfl, ht⟩) (fun q h => by cases h) d_Layer_isJudged_16
  · refine lv_iconst (v := 1) hx hb d_Layer_isJudged_11 (by decide) ?_
    refine lv_goto (tgt := 16) hx hb d_Layer_isJudged_12 (by decide) ?_
    refine x_topi (y := bI (j.testBit k)) (by rw [bI_n0.mp h1]; rfl) ?_
    exact W.zret (ty := .boolean) hx hb hr (bI_z _) (fun t ht hW => ⟨rfl, ht⟩) (fun q h => by cases h) d_Layer_isJudged_16
set_option maxHeartbeats 4000000 in
set_option maxRecDepth 100000 in
theorem c_Layer_hasJudged (l : Launch) (D : va_G) (cA : Nat → ClassId) (N : n_T) (L c : Nat) (p : Bool) (j : Nat) (sd : Nat → s_T) (hc : c ≤ 6) (hj : j < 512) (h16 : ∀ k, k < 6 → (sd k).1 < 16) (b : Bool) : Met l y_Layer_hasJudged [.code y_Layer_hasJudged b_Layer_hasJudged 3 (some .boolean)] (x_rm 1 0 0) (x_P D cA [.ref L, .int (bI b)] (fun H => l_W D cA N L c p j sd H)) (x_Q (some (.int (bI (l_h j c (fun k => (sd k).1.testBit 0 == b))))) (x_same)) 0 0 (fun _ => False) := by
  refine x_met (own := "DecisionLayers$Layer") (by decide) rfl (Nat.le_of_ble_eq_true rfl) ?_
  intro pp ee s mm below mt cd ls hx hb hr hlk hnm hml hown hts hE hP hl
  have hl : lv_has ls 3 [(0, .ref L), (1, .int (bI b))] := hl
  obtain ⟨hL, hRw, hSt⟩ := id hP
  refine lv_iconst (v := 0) hx hb d_Layer_hasJudged_0 (by decide) ?_
  refine lv_istore_n (lv' := [(2, .int 0), (0, .ref L), (1, .int (bI b))]) hx hb d_Layer_hasJudged_1 rfl hl (by decide) rfl (fun ls hl => ?_)
  refine x_loop (I := fun r ls => ∃ k, k + r = c ∧ (∀ k1, k1 < k → (j.testBit k1 && (fun k => (sd k).1.testBit 0 == b) k1) = false) ∧ lv_has ls 3 [(2, .int (nI k)), (0, .ref L), (1, .int (bI b))]) (fun r ls ih h => ?_) (c) ⟨0, by omega, fun k1 h => absurd h (Nat.not_lt_zero k1), (lv_sub hl [0, 1, 2] rfl)⟩
  obtain ⟨k, hkr, hk0, hl⟩ := h
  refine lv_iload_n hx hb d_Layer_hasJudged_2 rfl (lv_at hl 0 rfl) ?_
  refine lv_aload_n hx hb d_Layer_hasJudged_3 rfl (lv_at hl 1 rfl) ?_
  refine fg_Layer_18_Layer hx hb hown hts hE hL rfl d_Layer_hasJudged_4 ?_
  refine lv_icmp_ge (tgt := 45) hx hb d_Layer_hasJudged_7 (by decide) (fun g1 => ?_) (fun g1 => ?_)
  · have g1 := n_ge g1 (by omega) (by omega)
    refine lv_iconst (v := 0) hx hb d_Layer_hasJudged_45 (by decide) ?_
    refine x_topi (y := bI (l_h j c (fun k => (sd k).1.testBit 0 == b))) (by rw [l_h_f (fun k1 h => hk0 k1 (by omega))]; rfl) ?_
    exact W.zret (ty := .boolean) hx hb hr (bI_z _) (fun t ht hW => ⟨rfl, ht⟩) (fun q h => by cases h) d_Layer_hasJudged_46
  · have g1 := n_lt g1 (by omega) (by omega)
    refine lv_iload_n hx hb d_Layer_hasJudged_10 rfl (lv_at hl 0 rfl) ?_
    refine lv_bipush (v := 6) hx hb d_Layer_hasJudged_11 (by decide) ?_
    refine lv_icmp_ge (tgt := 45) hx hb d_Layer_hasJudged_13 (by decide) (fun g2 => ?_) (fun g2 => ?_)
    · exact absurd (n_ge (k := 6) g2 (by decide) (by omega)) (by omega)
    · refine lv_aload_n hx hb d_Layer_hasJudged_16 rfl (lv_at hl 1 rfl) ?_
      refine lv_iload_n hx hb d_Layer_hasJudged_17 rfl (lv_at hl 0 rfl) ?_
      refine x_cp (k_Layer_45 (As := [.int (nI k)]) (rest := []) hx hb hml hown hts (c_Layer_isJudged l D cA N L c p j sd hj k (by omega)) (x_preV hE hL rfl rfl hP) rfl hl.1 rfl (Nat.le_of_ble_eq_true rfl) d_Layer_hasJudged_18 (by decide) ⟨Nat.zero_le _, Nat.zero_le _⟩) ?_
      refine lv_if_eq (tgt := 39) hx hb d_Layer_hasJudged_21 (by decide) (fun q1 => ?_) (fun q1 => ?_)
      · refine lv_iinc (k := 0) (v := nI (k + 1)) (lv' := [(2, .int (nI (k + 1))), (0, .ref L), (1, .int (bI b))]) hx hb d_Layer_hasJudged_39 hl rfl (x_inc _) (by decide) rfl (fun ls hl => ?_)
        refine lv_goto (tgt := 2) hx hb d_Layer_hasJudged_42 (by decide) ?_
        exact ih (r - 1) _ (by omega) ⟨k + 1, by omega, fun k1 h1 => by
          by_cases e : k1 = k
          · rw [e]; rw [bI_0.mp q1]; rfl
          · exact hk0 k1 (by omega), (lv_sub hl [0, 1, 2] rfl)⟩
      · refine lv_aload_n hx hb d_Layer_hasJudged_24 rfl (lv_at hl 1 rfl) ?_
        refine fg_Layer_13_Layer hx hb hown hts hE hL rfl d_Layer_hasJudged_25 ?_
        refine lv_iload_n hx hb d_Layer_hasJudged_28 rfl (lv_at hl 0 rfl) ?_
        refine x_aald hx hb hE.2.2 hRw 6 rfl (by omega) (by decide) d_Layer_hasJudged_29 ?_
        refine x_topv (y := .ref (L + 2 + k)) (rfl) ?_
        refine x_cp (k_Layer_49 (As := []) (rest := []) hx hb hml hown hts (c_Statement_isDenying l D cA (L + 2 + k) N (sd k) (h16 k (by omega))) (x_preV hE (hSt k (by omega)) rfl rfl (hSt k (by omega))) rfl hl.1 rfl (Nat.le_of_ble_eq_true rfl) d_Layer_hasJudged_30 (by decide) ⟨Nat.zero_le _, Nat.zero_le _⟩) ?_
        refine lv_iload_n hx hb d_Layer_hasJudged_33 rfl (lv_at hl 2 rfl) ?_
        refine lv_icmp_ne (tgt := 39) hx hb d_Layer_hasJudged_34 (by decide) (fun q2 => ?_) (fun q2 => ?_)
        · refine lv_iinc (k := 0) (v := nI (k + 1)) (lv' := [(2, .int (nI (k + 1))), (0, .ref L), (1, .int (bI b))]) hx hb d_Layer_hasJudged_39 hl rfl (x_inc _) (by decide) rfl (fun ls hl => ?_)
          refine lv_goto (tgt := 2) hx hb d_Layer_hasJudged_42 (by decide) ?_
          exact ih (r - 1) _ (by omega) ⟨k + 1, by omega, fun k1 h1 => by
            by_cases e : k1 = k
            · rw [e]; rw [show ((fun k => (sd k).1.testBit 0 == b) k) = false from (by have h9 := fun z => q2 (bI_eq.mpr z); show ((sd k).1.testBit 0 == b) = false; revert h9; cases (sd k).1.testBit 0 <;> cases b <;> intro h9 <;> first | rfl | exact absurd rfl h9)]; exact Bool.and_false _
            · exact hk0 k1 (by omega), (lv_sub hl [0, 1, 2] rfl)⟩
        · refine lv_iconst (v := 1) hx hb d_Layer_hasJudged_37 (by decide) ?_
          refine x_topi (y := bI (l_h j c (fun k => (sd k).1.testBit 0 == b))) (by rw [l_h_t g1 (bI_n0.mp q1) (show ((sd k).1.testBit 0 == b) = true by rw [bI_eq.mp q2]; exact beq_self_eq_true _)]; rfl) ?_
          exact W.zret (ty := .boolean) hx hb hr (bI_z _) (fun t ht hW => ⟨rfl, ht⟩) (fun q h => by cases h) d_Layer_hasJudged_38
set_option maxHeartbeats 4000000 in
set_option maxRecDepth 100000 in
theorem c_Layer_allowsByName (l : Launch) (D : va_G) (cA : Nat → ClassId) (N : n_T) (L c : Nat) (p : Bool) (j : Nat) (sd : Nat → s_T) (hc : c ≤ 6) (hj : j < 512) (h16 : ∀ k, k < 6 → (sd k).1 < 16) (u : Int32) : Met l y_Layer_allowsByName [.code y_Layer_allowsByName b_Layer_allowsByName 3 (some .boolean)] (x_rm 1 0 0) (x_P D cA [.ref L, .int u] (fun H => l_W D cA N L c p j sd H)) (x_Q (some (.int (bI (l_h j c (fun k => !(sd k).1.testBit 0 && decide ((sd k).2.2.2.1 = u)))))) (x_same)) 0 0 (fun _ => False) := by
  refine x_met (own := "DecisionLayers$Layer") (by decide) rfl (Nat.le_of_ble_eq_true rfl) ?_
  intro pp ee s mm below mt cd ls hx hb hr hlk hnm hml hown hts hE hP hl
  have hl : lv_has ls 3 [(0, .ref L), (1, .int u)] := hl
  obtain ⟨hL, hRw, hSt⟩ := id hP
  refine lv_iconst (v := 0) hx hb d_Layer_allowsByName_0 (by decide) ?_
  refine lv_istore_n (lv' := [(2, .int 0), (0, .ref L), (1, .int u)]) hx hb d_Layer_allowsByName_1 rfl hl (by decide) rfl (fun ls hl => ?_)
  refine x_loop (I := fun r ls => ∃ k, k + r = c ∧ (∀ k1, k1 < k → (j.testBit k1 && (fun k => !(sd k).1.testBit 0 && decide ((sd k).2.2.2.1 = u)) k1) = false) ∧ lv_has ls 3 [(2, .int (nI k)), (0, .ref L), (1, .int u)]) (fun r ls ih h => ?_) (c) ⟨0, by omega, fun k1 h => absurd h (Nat.not_lt_zero k1), (lv_sub hl [0, 1, 2] rfl)⟩
  obtain ⟨k, hkr, hk0, hl⟩ := h
  refine lv_iload_n hx hb d_Layer_allowsByName_2 rfl (lv_at hl 0 rfl) ?_
  refine lv_aload_n hx hb d_Layer_allowsByName_3 rfl (lv_at hl 1 rfl) ?_
  refine fg_Layer_18_Layer hx hb hown hts hE hL rfl d_Layer_allowsByName_4 ?_
  refine lv_icmp_ge (tgt := 57) hx hb d_Layer_allowsByName_7 (by decide) (fun g1 => ?_) (fun g1 => ?_)
  · have g1 := n_ge g1 (by omega) (by omega)
    refine lv_iconst (v := 0) hx hb d_Layer_allowsByName_57 (by decide) ?_
    refine x_topi (y := bI (l_h j c (fun k => !(sd k).1.testBit 0 && decide ((sd k).2.2.2.1 = u)))) (by rw [l_h_f (fun k1 h => hk0 k1 (by omega))]; rfl) ?_
    exact W.zret (ty := .boolean) hx hb hr (bI_z _) (fun t ht hW => ⟨rfl, ht⟩) (fun q h => by cases h) d_Layer_allowsByName_58
  · have g1 := n_lt g1 (by omega) (by omega)
    refine lv_iload_n hx hb d_Layer_allowsByName_10 rfl (lv_at hl 0 rfl) ?_
    refine lv_bipush (v := 6) hx hb d_Layer_allowsByName_11 (by decide) ?_
    refine lv_icmp_ge (tgt := 57) hx hb d_Layer_allowsByName_13 (by decide) (fun g2 => ?_) (fun g2 => ?_)
    · exact absurd (n_ge (k := 6) g2 (by decide) (by omega)) (by omega)
    · refine lv_aload_n hx hb d_Layer_allowsByName_16 rfl (lv_at hl 1 rfl) ?_
      refine lv_iload_n hx hb d_Layer_allowsByName_17 rfl (lv_at hl 0 rfl) ?_
      refine x_cp (k_Layer_45 (As := [.int (nI k)]) (rest := []) hx hb hml hown hts (c_Layer_isJudged l D cA N L c p j sd hj k (by omega)) (x_preV hE hL rfl rfl hP) rfl hl.1 rfl (Nat.le_of_ble_eq_true rfl) d_Layer_allowsByName_18 (by decide) ⟨Nat.zero_le _, Nat.zero_le _⟩) ?_
      refine lv_if_eq (tgt := 51) hx hb d_Layer_allowsByName_21 (by decide) (fun q1 => ?_) (fun q1 => ?_)
      · refine lv_iinc (k := 0) (v := nI (k + 1)) (lv' := [(2, .int (nI (k + 1))), (0, .ref L), (1, .int u)]) hx hb d_Layer_allowsByName_51 hl rfl (x_inc _) (by decide) rfl (fun ls hl => ?_)
        refine lv_goto (tgt := 2) hx hb d_Layer_allowsByName_54 (by decide) ?_
        exact ih (r - 1) _ (by omega) ⟨k + 1, by omega, fun k1 h1 => by
          by_cases e : k1 = k
          · rw [e]; rw [bI_0.mp q1]; rfl
          · exact hk0 k1 (by omega), (lv_sub hl [0, 1, 2] rfl)⟩
      · refine lv_aload_n hx hb d_Layer_allowsByName_24 rfl (lv_at hl 1 rfl) ?_
        refine fg_Layer_13_Layer hx hb hown hts hE hL rfl d_Layer_allowsByName_25 ?_
        refine lv_iload_n hx hb d_Layer_allowsByName_28 rfl (lv_at hl 0 rfl) ?_
        refine x_aald hx hb hE.2.2 hRw 6 rfl (by omega) (by decide) d_Layer_allowsByName_29 ?_
        refine x_topv (y := .ref (L + 2 + k)) (rfl) ?_
        refine x_cp (k_Layer_49 (As := []) (rest := []) hx hb hml hown hts (c_Statement_isDenying l D cA (L + 2 + k) N (sd k) (h16 k (by omega))) (x_preV hE (hSt k (by omega)) rfl rfl (hSt k (by omega))) rfl hl.1 rfl (Nat.le_of_ble_eq_true rfl) d_Layer_allowsByName_30 (by decide) ⟨Nat.zero_le _, Nat.zero_le _⟩) ?_
        refine lv_if_ne (tgt := 51) hx hb d_Layer_allowsByName_33 (by decide) (fun q2 => ?_) (fun q2 => ?_)
        · refine lv_iinc (k := 0) (v := nI (k + 1)) (lv' := [(2, .int (nI (k + 1))), (0, .ref L), (1, .int u)]) hx hb d_Layer_allowsByName_51 hl rfl (x_inc _) (by decide) rfl (fun ls hl => ?_)
          refine lv_goto (tgt := 2) hx hb d_Layer_allowsByName_54 (by decide) ?_
          exact ih (r - 1) _ (by omega) ⟨k + 1, by omega, fun k1 h1 => by
            by_cases e : k1 = k
            · rw [e]; show (j.testBit k && (!(sd k).1.testBit 0 && decide ((sd k).2.2.2.1 = u))) = false; rw [bI_n0.mp q2]; simp
            · exact hk0 k1 (by omega), (lv_sub hl [0, 1, 2] rfl)⟩
        · refine lv_aload_n hx hb d_Layer_allowsByName_36 rfl (lv_at hl 1 rfl) ?_
          refine fg_Layer_13_Layer hx hb hown hts hE hL rfl d_Layer_allowsByName_37 ?_
          refine lv_iload_n hx hb d_Layer_allowsByName_40 rfl (lv_at hl 0 rfl) ?_
          refine x_aald hx hb hE.2.2 hRw 6 rfl (by omega) (by decide) d_Layer_allowsByName_41 ?_
          refine x_topv (y := .ref (L + 2 + k)) (rfl) ?_
          refine lv_iload_n hx hb d_Layer_allowsByName_42 rfl (lv_at hl 2 rfl) ?_
          refine x_cp (k_Layer_52 (As := [.int u]) (rest := []) hx hb hml hown hts (c_Statement_names l D cA (L + 2 + k) N (sd k) u) (x_preV hE (hSt k (by omega)) rfl rfl (hSt k (by omega))) rfl hl.1 rfl (Nat.le_of_ble_eq_true rfl) d_Layer_allowsByName_43 (by decide) ⟨Nat.zero_le _, Nat.zero_le _⟩) ?_
          refine lv_if_eq (tgt := 51) hx hb d_Layer_allowsByName_46 (by decide) (fun q3 => ?_) (fun q3 => ?_)
          · refine lv_iinc (k := 0) (v := nI (k + 1)) (lv' := [(2, .int (nI (k + 1))), (0, .ref L), (1, .int u)]) hx hb d_Layer_allowsByName_51 hl rfl (x_inc _) (by decide) rfl (fun ls hl => ?_)
            refine lv_goto (tgt := 2) hx hb d_Layer_allowsByName_54 (by decide) ?_
            exact ih (r - 1) _ (by omega) ⟨k + 1, by omega, fun k1 h1 => by
              by_cases e : k1 = k
              · rw [e]; show (j.testBit k && (!(sd k).1.testBit 0 && decide ((sd k).2.2.2.1 = u))) = false; rw [bI_0.mp q3]; simp
              · exact hk0 k1 (by omega), (lv_sub hl [0, 1, 2] rfl)⟩
          · refine lv_iconst (v := 1) hx hb d_Layer_allowsByName_49 (by decide) ?_
            refine x_topi (y := bI (l_h j c (fun k => !(sd k).1.testBit 0 && decide ((sd k).2.2.2.1 = u)))) (by rw [l_h_t g1 (bI_n0.mp q1) (show (!(sd k).1.testBit 0 && decide ((sd k).2.2.2.1 = u)) = true by rw [bI_0.mp q2, bI_n0.mp q3]; rfl)]; rfl) ?_
            exact W.zret (ty := .boolean) hx hb hr (bI_z _) (fun t ht hW => ⟨rfl, ht⟩) (fun q h => by cases h) d_Layer_allowsByName_50
set_option maxHeartbeats 4000000 in
set_option maxRecDepth 100000 in
theorem c_Layer_denies (l : Launch) (D : va_G) (cA : Nat → ClassId) (N : n_T) (L c : Nat) (p : Bool) (j : Nat) (sd : Nat → s_T) (hc : c ≤ 6) (hj : j < 512) (h16 : ∀ k, k < 6 → (sd k).1 < 16) : Met l y_Layer_denies [.code y_Layer_denies b_Layer_denies 1 (some .boolean)] (x_rm 2 0 0) (x_P D cA [.ref L] (fun H => l_W D cA N L c p j sd H)) (x_Q (some (.int (bI (l_h j c (fun k => (sd k).1.testBit 0 == true))))) (x_same)) 0 0 (fun _ => False) := by
  refine x_met (own := "DecisionLayers$Layer") (by decide) rfl (Nat.le_of_ble_eq_true rfl) ?_
  intro pp ee s mm below mt cd ls hx hb hr hlk hnm hml hown hts hE hP hl
  have hl : lv_has ls 1 [(0, .ref L)] := hl
  refine lv_aload_n hx hb d_Layer_denies_0 rfl (lv_at hl 0 rfl) ?_
  refine lv_iconst (v := 1) hx hb d_Layer_denies_1 (by decide) ?_
  refine x_cp (k_Layer_37 (As := [.int (bI true)]) (rest := []) hx hb hml hown hts (c_Layer_hasJudged l D cA N L c p j sd hc hj h16 true) (x_preV hE hP.1 rfl rfl hP) rfl hl.1 rfl (Nat.le_of_ble_eq_true rfl) d_Layer_denies_2 (by decide) ⟨Nat.zero_le _, Nat.zero_le _⟩) ?_
  exact W.zret (ty := .boolean) hx hb hr (bI_z _) (fun t ht hW => ⟨rfl, ht⟩) (fun q h => by cases h) d_Layer_denies_5
set_option maxHeartbeats 4000000 in
set_option maxRecDepth 100000 in
theorem c_Layer_allows (l : Launch) (D : va_G) (cA : Nat → ClassId) (N : n_T) (L c : Nat) (p : Bool) (j : Nat) (sd : Nat → s_T) (hc : c ≤ 6) (hj : j < 512) (h16 : ∀ k, k < 6 → (sd k).1 < 16) : Met l y_Layer_allows [.code y_Layer_allows b_Layer_allows 1 (some .boolean)] (x_rm 2 0 0) (x_P D cA [.ref L] (fun H => l_W D cA N L c p j sd H)) (x_Q (some (.int (bI (l_h j c (fun k => (sd k).1.testBit 0 == false))))) (x_same)) 0 0 (fun _ => False) := by
  refine x_met (own := "DecisionLayers$Layer") (by decide) rfl (Nat.le_of_ble_eq_true rfl) ?_
  intro pp ee s mm below mt cd ls hx hb hr hlk hnm hml hown hts hE hP hl
  have hl : lv_has ls 1 [(0, .ref L)] := hl
  refine lv_aload_n hx hb d_Layer_allows_0 rfl (lv_at hl 0 rfl) ?_
  refine lv_iconst (v := 0) hx hb d_Layer_allows_1 (by decide) ?_
  refine x_cp (k_Layer_37 (As := [.int (bI false)]) (rest := []) hx hb hml hown hts (c_Layer_hasJudged l D cA N L c p j sd hc hj h16 false) (x_preV hE hP.1 rfl rfl hP) rfl hl.1 rfl (Nat.le_of_ble_eq_true rfl) d_Layer_allows_2 (by decide) ⟨Nat.zero_le _, Nat.zero_le _⟩) ?_
  exact W.zret (ty := .boolean) hx hb hr (bI_z _) (fun t ht hW => ⟨rfl, ht⟩) (fun q h => by cases h) d_Layer_allows_5
set_option maxHeartbeats 4000000 in
set_option maxRecDepth 100000 in
theorem c_Layer_bars (l : Launch) (D : va_G) (cA : Nat → ClassId) (N : n_T) (L c : Nat) (p : Bool) (j : Nat) (sd : Nat → s_T) (hc : c ≤ 6) (hj : j < 512) (h16 : ∀ k, k < 6 → (sd k).1 < 16) : Met l y_Layer_bars [.code y_Layer_bars b_Layer_bars 1 (some .boolean)] (x_rm 3 0 0) (x_P D cA [.ref L] (fun H => l_W D cA N L c p j sd H)) (x_Q (some (.int (bI (p && !l_h j c (fun k => (sd k).1.testBit 0 == false))))) (x_same)) 0 0 (fun _ => False) := by
  refine x_met (own := "DecisionLayers$Layer") (by decide) rfl (Nat.le_of_ble_eq_true rfl) ?_
  intro pp ee s mm below mt cd ls hx hb hr hlk hnm hml hown hts hE hP hl
  have hl : lv_has ls 1 [(0, .ref L)] := hl
  refine lv_aload_n hx hb d_Layer_bars_0 rfl (lv_at hl 0 rfl) ?_
  refine fg_Layer_26_Layer hx hb hown hts hE hP.1 rfl d_Layer_bars_1 ?_
  refine lv_if_eq (tgt := 18) hx hb d_Layer_bars_4 (by decide) (fun h1 => ?_) (fun h1 => ?_)
  · refine lv_iconst (v := 0) hx hb d_Layer_bars_18 (by decide) ?_
    refine x_topi (y := bI (p && !l_h j c (fun k => (sd k).1.testBit 0 == false))) (by rw [bI_0.mp h1]; rfl) ?_
    exact W.zret (ty := .boolean) hx hb hr (bI_z _) (fun t ht hW => ⟨rfl, ht⟩) (fun q h => by cases h) d_Layer_bars_19
  · refine lv_aload_n hx hb d_Layer_bars_7 rfl (lv_at hl 0 rfl) ?_
    refine x_cp (k_Layer_41 (As := []) (rest := []) hx hb hml hown hts (c_Layer_allows l D cA N L c p j sd hc hj h16) (x_preV hE hP.1 rfl rfl hP) rfl hl.1 rfl (Nat.le_of_ble_eq_true rfl) d_Layer_bars_8 (by decide) ⟨Nat.zero_le _, Nat.zero_le _⟩) ?_
    refine lv_if_ne (tgt := 18) hx hb d_Layer_bars_11 (by decide) (fun h2 => ?_) (fun h2 => ?_)
    · refine lv_iconst (v := 0) hx hb d_Layer_bars_18 (by decide) ?_
      refine x_topi (y := bI (p && !l_h j c (fun k => (sd k).1.testBit 0 == false))) (by rw [bI_n0.mp h1, bI_n0.mp h2]; rfl) ?_
      exact W.zret (ty := .boolean) hx hb hr (bI_z _) (fun t ht hW => ⟨rfl, ht⟩) (fun q h => by cases h) d_Layer_bars_19
    · refine lv_iconst (v := 1) hx hb d_Layer_bars_14 (by decide) ?_
      refine lv_goto (tgt := 19) hx hb d_Layer_bars_15 (by decide) ?_
      refine x_topi (y := bI (p && !l_h j c (fun k => (sd k).1.testBit 0 == false))) (by rw [bI_n0.mp h1, bI_0.mp h2]; rfl) ?_
      exact W.zret (ty := .boolean) hx hb hr (bI_z _) (fun t ht hW => ⟨rfl, ht⟩) (fun q h => by cases h) d_Layer_bars_19
