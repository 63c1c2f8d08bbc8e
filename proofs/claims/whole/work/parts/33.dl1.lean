set_option maxHeartbeats 4000000 in
set_option maxRecDepth 100000 in
theorem c_DL_isLayer (l : Launch) (D : va_G) (cA : Nat → ClassId) (k : Int32) : Met l y_DL_isLayer [.code y_DL_isLayer b_DL_isLayer 1 (some .boolean)] (x_rm 0 0 0) (x_P D cA [.int k] (fun _ => True)) (x_Q (some (.int (bI (q_L k)))) (x_same)) 0 0 (fun _ => False) := by
  refine x_met (own := "DecisionLayers") (by decide) rfl (Nat.le_of_ble_eq_true rfl) ?_
  intro pp ee s mm below mt cd ls hx hb hr hlk hnm hml hown hts hE hP hl
  have hl : lv_has ls 1 [(0, .int k)] := hl
  refine lv_iload_n hx hb d_DL_isLayer_0 rfl (lv_at hl 0 rfl) ?_
  refine lv_if_lt (tgt := 14) hx hb d_DL_isLayer_1 (by decide) (fun h1 => ?_) (fun h1 => ?_)
  · refine lv_iconst (v := 0) hx hb d_DL_isLayer_14 (by decide) ?_
    refine x_topi (y := bI (q_L k)) (by unfold q_L; rw [bI_no (fun z => absurd h1 (Int32.not_lt.mpr z.1))]) ?_
    exact W.zret (ty := .boolean) hx hb hr (bI_z _) (fun t ht hW => ⟨rfl, ht⟩) (fun q h => by cases h) d_DL_isLayer_15
  · refine lv_iload_n hx hb d_DL_isLayer_4 rfl (lv_at hl 0 rfl) ?_
    refine lv_bipush (v := 6) hx hb d_DL_isLayer_5 (by decide) ?_
    refine lv_icmp_ge (tgt := 14) hx hb d_DL_isLayer_7 (by decide) (fun h2 => ?_) (fun h2 => ?_)
    · refine lv_iconst (v := 0) hx hb d_DL_isLayer_14 (by decide) ?_
      refine x_topi (y := bI (q_L k)) (by unfold q_L; rw [bI_no (fun z => absurd h2 (Int32.not_le.mpr z.2))]) ?_
      exact W.zret (ty := .boolean) hx hb hr (bI_z _) (fun t ht hW => ⟨rfl, ht⟩) (fun q h => by cases h) d_DL_isLayer_15
    · refine lv_iconst (v := 1) hx hb d_DL_isLayer_10 (by decide) ?_
      refine lv_goto (tgt := 15) hx hb d_DL_isLayer_11 (by decide) ?_
      refine x_topi (y := bI (q_L k)) (by unfold q_L; rw [bI_of ⟨Int32.not_lt.mp h1, Int32.not_le.mp h2⟩]) ?_
      exact W.zret (ty := .boolean) hx hb hr (bI_z _) (fun t ht hW => ⟨rfl, ht⟩) (fun q h => by cases h) d_DL_isLayer_15
set_option maxHeartbeats 4000000 in
set_option maxRecDepth 100000 in
theorem c_DL_isDigit (l : Launch) (D : va_G) (cA : Nat → ClassId) (k : Int32) : Met l y_DL_isDigit [.code y_DL_isDigit b_DL_isDigit 1 (some .boolean)] (x_rm 0 0 0) (x_P D cA [.int k] (fun _ => True)) (x_Q (some (.int (bI (decide (0 ≤ k ∧ k ≤ 9))))) (x_same)) 0 0 (fun _ => False) := by
  refine x_met (own := "DecisionLayers") (by decide) rfl (Nat.le_of_ble_eq_true rfl) ?_
  intro pp ee s mm below mt cd ls hx hb hr hlk hnm hml hown hts hE hP hl
  have hl : lv_has ls 1 [(0, .int k)] := hl
  refine lv_iload_n hx hb d_DL_isDigit_0 rfl (lv_at hl 0 rfl) ?_
  refine lv_if_lt (tgt := 14) hx hb d_DL_isDigit_1 (by decide) (fun h1 => ?_) (fun h1 => ?_)
  · refine lv_iconst (v := 0) hx hb d_DL_isDigit_14 (by decide) ?_
    refine x_topi (y := bI (decide (0 ≤ k ∧ k ≤ 9))) (by rw [bI_no (fun z => absurd h1 (Int32.not_lt.mpr z.1))]) ?_
    exact W.zret (ty := .boolean) hx hb hr (bI_z _) (fun t ht hW => ⟨rfl, ht⟩) (fun q h => by cases h) d_DL_isDigit_15
  · refine lv_iload_n hx hb d_DL_isDigit_4 rfl (lv_at hl 0 rfl) ?_
    refine lv_bipush (v := 9) hx hb d_DL_isDigit_5 (by decide) ?_
    refine lv_icmp_gt (tgt := 14) hx hb d_DL_isDigit_7 (by decide) (fun h2 => ?_) (fun h2 => ?_)
    · refine lv_iconst (v := 0) hx hb d_DL_isDigit_14 (by decide) ?_
      refine x_topi (y := bI (decide (0 ≤ k ∧ k ≤ 9))) (by rw [bI_no (fun z => absurd h2 (Int32.not_lt.mpr z.2))]) ?_
      exact W.zret (ty := .boolean) hx hb hr (bI_z _) (fun t ht hW => ⟨rfl, ht⟩) (fun q h => by cases h) d_DL_isDigit_15
    · refine lv_iconst (v := 1) hx hb d_DL_isDigit_10 (by decide) ?_
      refine lv_goto (tgt := 15) hx hb d_DL_isDigit_11 (by decide) ?_
      refine x_topi (y := bI (decide (0 ≤ k ∧ k ≤ 9))) (by rw [bI_of ⟨Int32.not_lt.mp h1, Int32.not_lt.mp h2⟩]) ?_
      exact W.zret (ty := .boolean) hx hb hr (bI_z _) (fun t ht hW => ⟨rfl, ht⟩) (fun q h => by cases h) d_DL_isDigit_15
set_option maxHeartbeats 4000000 in
set_option maxRecDepth 100000 in
theorem c_DL_mayStandIn (l : Launch) (D : va_G) (cA : Nat → ClassId) (k w : Int32) : Met l y_DL_mayStandIn [.code y_DL_mayStandIn b_DL_mayStandIn 2 (some .boolean)] (x_rm 1 0 0) (x_P D cA [.int k, .int w] (fun _ => True)) (x_Q (some (.int (bI (q_may k w)))) (x_same)) 0 0 (fun _ => False) := by
  refine x_met (own := "DecisionLayers") (by decide) rfl (Nat.le_of_ble_eq_true rfl) ?_
  intro pp ee s mm below mt cd ls hx hb hr hlk hnm hml hown hts hE hP hl
  have hl : lv_has ls 2 [(0, .int k), (1, .int w)] := hl
  refine lv_iload_n hx hb d_DL_mayStandIn_0 rfl (lv_at hl 0 rfl) ?_
  refine lv_iconst (v := 5) hx hb d_DL_mayStandIn_1 (by decide) ?_
  refine lv_icmp_ne (tgt := 12) hx hb d_DL_mayStandIn_2 (by decide) (fun h1 => ?_) (fun h1 => ?_)
  · refine lv_iload_n hx hb d_DL_mayStandIn_12 rfl (lv_at hl 1 rfl) ?_
    refine lv_iconst (v := (-1)) hx hb d_DL_mayStandIn_13 (by decide) ?_
    refine lv_icmp_ne (tgt := 21) hx hb d_DL_mayStandIn_14 (by decide) (fun h2 => ?_) (fun h2 => ?_)
    · refine lv_iconst (v := 0) hx hb d_DL_mayStandIn_21 (by decide) ?_
      refine x_topi (y := bI (q_may k w)) (by unfold q_may; rw [if_neg h1, bI_no h2]) ?_
      exact W.zret (ty := .boolean) hx hb hr (bI_z _) (fun t ht hW => ⟨rfl, ht⟩) (fun q h => by cases h) d_DL_mayStandIn_22
    · refine lv_iconst (v := 1) hx hb d_DL_mayStandIn_17 (by decide) ?_
      refine lv_goto (tgt := 22) hx hb d_DL_mayStandIn_18 (by decide) ?_
      refine x_topi (y := bI (q_may k w)) (by unfold q_may; rw [if_neg h1, bI_of h2]) ?_
      exact W.zret (ty := .boolean) hx hb hr (bI_z _) (fun t ht hW => ⟨rfl, ht⟩) (fun q h => by cases h) d_DL_mayStandIn_22
  · refine lv_iload_n hx hb d_DL_mayStandIn_5 rfl (lv_at hl 1 rfl) ?_
    refine x_cp (k_DL_124 (As := [.int w]) (rest := []) hx hb hml hown hts (c_Statement_isWho l D cA w) (x_preS hE trivial) rfl hl.1 rfl (Nat.le_of_ble_eq_true rfl) d_DL_mayStandIn_6 (by decide) ⟨Nat.zero_le _, Nat.zero_le _⟩) ?_
    refine lv_goto (tgt := 22) hx hb d_DL_mayStandIn_9 (by decide) ?_
    refine x_topi (y := bI (q_may k w)) (by unfold q_may; rw [if_pos h1]) ?_
    exact W.zret (ty := .boolean) hx hb hr (bI_z _) (fun t ht hW => ⟨rfl, ht⟩) (fun q h => by cases h) d_DL_mayStandIn_22
set_option maxHeartbeats 4000000 in
set_option maxRecDepth 100000 in
theorem c_DL_pile (l : Launch) (D : va_G) (cA : Nat → ClassId) (N : n_T) (o : Nat) (X : d_T) : Met l y_DL_pile [.code y_DL_pile b_DL_pile 1 (some .int)] (x_rm 0 0 0) (x_P D cA [.ref o] (fun H => d_W D cA N o X H)) (x_Q (some (.int (nI (d_n X)))) (x_same)) 0 0 (fun _ => False) := by
  refine x_met (own := "DecisionLayers") (by decide) rfl (Nat.le_of_ble_eq_true rfl) ?_
  intro pp ee s mm below mt cd ls hx hb hr hlk hnm hml hown hts hE hP hl
  have hl : lv_has ls 1 [(0, .ref o)] := hl
  refine lv_aload_n hx hb d_DL_pile_0 rfl (lv_at hl 0 rfl) ?_
  refine fg_DL_29_DL hx hb hown hts hE hP.1 rfl d_DL_pile_1 ?_
  exact W.iret hx hb hr (fun t ht hW => ⟨rfl, ht⟩) (fun q h => by cases h) d_DL_pile_4
set_option maxHeartbeats 4000000 in
set_option maxRecDepth 100000 in
theorem c_DL_layer (l : Launch) (D : va_G) (cA : Nat → ClassId) (N : n_T) (o : Nat) (X : d_T) : Met l y_DL_layer [.code y_DL_layer b_DL_layer 1 (some .int)] (x_rm 0 0 0) (x_P D cA [.ref o] (fun H => d_W D cA N o X H)) (x_Q (some (.int (d_e X))) (x_same)) 0 0 (fun _ => False) := by
  refine x_met (own := "DecisionLayers") (by decide) rfl (Nat.le_of_ble_eq_true rfl) ?_
  intro pp ee s mm below mt cd ls hx hb hr hlk hnm hml hown hts hE hP hl
  have hl : lv_has ls 1 [(0, .ref o)] := hl
  refine lv_aload_n hx hb d_DL_layer_0 rfl (lv_at hl 0 rfl) ?_
  refine fg_DL_33_DL hx hb hown hts hE hP.1 rfl d_DL_layer_1 ?_
  exact W.iret hx hb hr (fun t ht hW => ⟨rfl, ht⟩) (fun q h => by cases h) d_DL_layer_4
set_option maxHeartbeats 4000000 in
set_option maxRecDepth 100000 in
theorem c_DL_matches (l : Launch) (D : va_G) (cA : Nat → ClassId) (N : n_T) (o : Nat) (X : d_T) (x y : Int64) (lo : Bool) : Met l y_DL_matches [.code y_DL_matches b_DL_matches 6 (some .boolean)] (x_rm 3 0 0) (x_P D cA [.ref o, .long x, .long y, .int (bI lo)] (fun H => d_W D cA N o X H)) (x_Q (some (.int (bI (pt_m (d_c X) (d_r X) x y lo)))) (x_same)) 0 0 (fun _ => False) := by
  refine x_met (own := "DecisionLayers") (by decide) rfl (Nat.le_of_ble_eq_true rfl) ?_
  intro pp ee s mm below mt cd ls hx hb hr hlk hnm hml hown hts hE hP hl
  have hl : lv_has ls 6 [(0, .ref o), (1, .long x), (3, .long y), (5, .int (bI lo))] := hl
  refine lv_lload_n hx hb d_DL_matches_0 rfl (lv_at hl 1 rfl) ?_
  refine lv_lload_n hx hb d_DL_matches_1 rfl (lv_at hl 2 rfl) ?_
  refine lv_iload hx hb d_DL_matches_2 (lv_at hl 3 rfl) ?_
  refine lv_aload_n hx hb d_DL_matches_4 rfl (lv_at hl 0 rfl) ?_
  refine fg_DL_10_DL hx hb hown hts hE hP.1 rfl d_DL_matches_5 ?_
  refine x_cp (k_DL_114 (As := [.long x, .long y, .int (bI lo), .ref (o + 1)]) (rest := []) hx hb hml hown hts (c_Pattern_fits l D cA (o + 1) (d_c X) (d_r X) x y lo) (x_preS hE hP.2.1) rfl hl.1 rfl (Nat.le_of_ble_eq_true rfl) d_DL_matches_8 (by decide) ⟨Nat.zero_le _, Nat.zero_le _⟩) ?_
  exact W.zret (ty := .boolean) hx hb hr (bI_z _) (fun t ht hW => ⟨rfl, ht⟩) (fun q h => by cases h) d_DL_matches_11
set_option maxHeartbeats 4000000 in
set_option maxRecDepth 100000 in
theorem c_DL_statements (l : Launch) (D : va_G) (cA : Nat → ClassId) (N : n_T) (o : Nat) (X : d_T) (k : Int32) : Met l y_DL_statements [.code y_DL_statements b_DL_statements 2 (some .int)] (x_rm 1 0 0) (x_P D cA [.ref o, .int k] (fun H => d_W D cA N o X H)) (x_Q (some (.int (q_stmts X k))) (x_same)) 0 0 (fun _ => False) := by
  refine x_met (own := "DecisionLayers") (by decide) rfl (Nat.le_of_ble_eq_true rfl) ?_
  intro pp ee s mm below mt cd ls hx hb hr hlk hnm hml hown hts hE hP hl
  have hl : lv_has ls 2 [(0, .ref o), (1, .int k)] := hl
  obtain ⟨hO, hV, hC, hLa, hLy⟩ := id hP
  refine lv_iload_n hx hb d_DL_statements_0 rfl (lv_at hl 1 rfl) ?_
  refine x_cp (k_DL_62 (As := [.int k]) (rest := []) hx hb hml hown hts (c_DL_isLayer l D cA k) (x_preS hE trivial) rfl hl.1 rfl (Nat.le_of_ble_eq_true rfl) d_DL_statements_1 (by decide) ⟨Nat.zero_le _, Nat.zero_le _⟩) ?_
  refine lv_if_ne (tgt := 10) hx hb d_DL_statements_4 (by decide) (fun h1 => ?_) (fun h1 => ?_)
  · have h1 := bI_n0.mp h1
    obtain ⟨j, hj, rfl⟩ := q_L_in h1
    have hcl : (nI j).toNatClampNeg = j := nI_clamp (by omega)
    have hly := hLy j hj
    refine lv_aload_n hx hb d_DL_statements_10 rfl (lv_at hl 0 rfl) ?_
    refine fg_DL_24_DL hx hb hown hts hE hO rfl d_DL_statements_11 ?_
    refine lv_iload_n hx hb d_DL_statements_14 rfl (lv_at hl 1 rfl) ?_
    refine x_aald hx hb hE.2.2 hLa 5 rfl hj (by decide) d_DL_statements_15 ?_
    refine x_topv (y := .ref (o + 6 + 8 * j)) (rfl) ?_
    refine fg_DL_79_Layer hx hb hown hts hE hly.1 rfl d_DL_statements_16 ?_
    refine lv_if_eq (tgt := 34) hx hb d_DL_statements_19 (by decide) (fun h2 => ?_) (fun h2 => ?_)
    · refine lv_iconst (v := (-1)) hx hb d_DL_statements_34 (by decide) ?_
      refine x_topi (y := q_stmts X (nI j)) (by unfold q_stmts; rw [h1, if_pos rfl, hcl, bI_0.mp h2]; rfl) ?_
      exact W.iret hx hb hr (fun t ht hW => ⟨rfl, ht⟩) (fun q h => by cases h) d_DL_statements_35
    · refine lv_aload_n hx hb d_DL_statements_22 rfl (lv_at hl 0 rfl) ?_
      refine fg_DL_24_DL hx hb hown hts hE hO rfl d_DL_statements_23 ?_
      refine lv_iload_n hx hb d_DL_statements_26 rfl (lv_at hl 1 rfl) ?_
      refine x_aald hx hb hE.2.2 hLa 5 rfl hj (by decide) d_DL_statements_27 ?_
      refine x_topv (y := .ref (o + 6 + 8 * j)) (rfl) ?_
      refine fg_DL_86_Layer hx hb hown hts hE hly.1 rfl d_DL_statements_28 ?_
      refine lv_goto (tgt := 35) hx hb d_DL_statements_31 (by decide) ?_
      refine x_topi (y := q_stmts X (nI j)) (by unfold q_stmts; rw [h1, if_pos rfl, hcl, bI_n0.mp h2]; rfl) ?_
      exact W.iret hx hb hr (fun t ht hW => ⟨rfl, ht⟩) (fun q h => by cases h) d_DL_statements_35
  · have h1 := bI_0.mp h1
    refine lv_bipush (v := (-2)) hx hb d_DL_statements_7 (by decide) ?_
    refine x_topi (y := q_stmts X k) (by unfold q_stmts; rw [h1]; rfl) ?_
    exact W.iret hx hb hr (fun t ht hW => ⟨rfl, ht⟩) (fun q h => by cases h) d_DL_statements_9
set_option maxHeartbeats 4000000 in
set_option maxRecDepth 100000 in
theorem c_DL_applied (l : Launch) (D : va_G) (cA : Nat → ClassId) (N : n_T) (o : Nat) (X : d_T) (k : Int32) : Met l y_DL_applied [.code y_DL_applied b_DL_applied 2 (some .int)] (x_rm 1 0 0) (x_P D cA [.ref o, .int k] (fun H => d_W D cA N o X H)) (x_Q (some (.int (q_appl X k))) (x_same)) 0 0 (fun _ => False) := by
  refine x_met (own := "DecisionLayers") (by decide) rfl (Nat.le_of_ble_eq_true rfl) ?_
  intro pp ee s mm below mt cd ls hx hb hr hlk hnm hml hown hts hE hP hl
  have hl : lv_has ls 2 [(0, .ref o), (1, .int k)] := hl
  obtain ⟨hO, hV, hC, hLa, hLy⟩ := id hP
  refine lv_aload_n hx hb d_DL_applied_0 rfl (lv_at hl 0 rfl) ?_
  refine fg_DL_33_DL hx hb hown hts hE hO rfl d_DL_applied_1 ?_
  refine lv_iconst (v := (-1)) hx hb d_DL_applied_4 (by decide) ?_
  refine lv_icmp_eq (tgt := 15) hx hb d_DL_applied_5 (by decide) (fun h0 => ?_) (fun h0 => ?_)
  · refine lv_iconst (v := (-1)) hx hb d_DL_applied_15 (by decide) ?_
    refine x_topi (y := q_appl X k) (by unfold q_appl; rw [if_pos h0]) ?_
    exact W.iret hx hb hr (fun t ht hW => ⟨rfl, ht⟩) (fun q h => by cases h) d_DL_applied_16
  · refine lv_iload_n hx hb d_DL_applied_8 rfl (lv_at hl 1 rfl) ?_
    refine x_cp (k_DL_62 (As := [.int k]) (rest := []) hx hb hml hown hts (c_DL_isLayer l D cA k) (x_preS hE trivial) rfl hl.1 rfl (Nat.le_of_ble_eq_true rfl) d_DL_applied_9 (by decide) ⟨Nat.zero_le _, Nat.zero_le _⟩) ?_
    refine lv_if_ne (tgt := 17) hx hb d_DL_applied_12 (by decide) (fun h1 => ?_) (fun h1 => ?_)
    · have h1 := bI_n0.mp h1
      obtain ⟨j, hj, rfl⟩ := q_L_in h1
      have hcl : (nI j).toNatClampNeg = j := nI_clamp (by omega)
      have hly := hLy j hj
      refine lv_aload_n hx hb d_DL_applied_17 rfl (lv_at hl 0 rfl) ?_
      refine fg_DL_24_DL hx hb hown hts hE hO rfl d_DL_applied_18 ?_
      refine lv_iload_n hx hb d_DL_applied_21 rfl (lv_at hl 1 rfl) ?_
      refine x_aald hx hb hE.2.2 hLa 5 rfl hj (by decide) d_DL_applied_22 ?_
      refine x_topv (y := .ref (o + 6 + 8 * j)) (rfl) ?_
      refine fg_DL_111_Layer hx hb hown hts hE hly.1 rfl d_DL_applied_23 ?_
      refine x_topi (y := q_appl X (nI j)) (by unfold q_appl; rw [if_neg h0, h1, if_pos rfl, hcl]) ?_
      exact W.iret hx hb hr (fun t ht hW => ⟨rfl, ht⟩) (fun q h => by cases h) d_DL_applied_26
    · refine lv_iconst (v := (-1)) hx hb d_DL_applied_15 (by decide) ?_
      refine x_topi (y := q_appl X k) (by unfold q_appl; rw [if_neg h0, bI_0.mp h1]; rfl) ?_
      exact W.iret hx hb hr (fun t ht hW => ⟨rfl, ht⟩) (fun q h => by cases h) d_DL_applied_16
set_option maxHeartbeats 4000000 in
set_option maxRecDepth 100000 in
theorem c_DL_open (l : Launch) (D : va_G) (cA : Nat → ClassId) (N : n_T) (o : Nat) (X : d_T) (k : Int32) : Met l y_DL_open [.code y_DL_open b_DL_open 2 (some .boolean)] (x_rm 1 0 0) (x_P D cA [.ref o, .int k] (fun H => d_W D cA N o X H)) (x_Q (some (.int (bI (q_open X k)))) (fun H H1 => x_F (d_A o) H H1 ∧ d_W D cA N o (z_open X k) H1)) 0 0 (d_A o) := by
  refine x_met (own := "DecisionLayers") (by decide) rfl (Nat.le_of_ble_eq_true rfl) ?_
  intro pp ee s mm below mt cd ls hx hb hr hlk hnm hml hown hts hE hP hl
  have hl : lv_has ls 2 [(0, .ref o), (1, .int k)] := hl
  obtain ⟨hO, hV, hC, hLa, hLy⟩ := id hP
  have hF : ∀ q ∈ ([] : List Loc), d_A o q.base := t_nil
  refine lv_iload_n hx hb d_DL_open_0 rfl (lv_at hl 1 rfl) ?_
  refine x_cp (k_DL_62 (As := [.int k]) (rest := []) hx hb hml hown hts (c_DL_isLayer l D cA k) (x_preS hE trivial) rfl hl.1 rfl (Nat.le_of_ble_eq_true rfl) d_DL_open_1 (by decide) ⟨Nat.zero_le _, Nat.zero_le _⟩) ?_
  refine lv_if_eq (tgt := 19) hx hb d_DL_open_4 (by decide) (fun h1 => ?_) (fun h1 => ?_)
  · have h1 := bI_0.mp h1
    have hq : q_open X k = false := by unfold q_open; rw [h1]; rfl
    refine lv_iconst (v := 0) hx hb d_DL_open_19 (by decide) ?_
    refine x_topi (y := bI (q_open X k)) (by rw [hq]; rfl) ?_
    exact W.zret (ty := .boolean) hx hb hr (bI_z _) (fun t ht hW => ⟨rfl, by rw [ht]; exact ⟨x_F.rf, by unfold z_open; rw [hq]; exact hP⟩⟩) hF d_DL_open_20
  · have h1 := bI_n0.mp h1
    obtain ⟨j, hj, rfl⟩ := q_L_in h1
    have hcl : (nI j).toNatClampNeg = j := nI_clamp (by omega)
    have hly := hLy j hj
    refine lv_aload_n hx hb d_DL_open_7 rfl (lv_at hl 0 rfl) ?_
    refine fg_DL_24_DL hx hb hown hts hE hO rfl d_DL_open_8 ?_
    refine lv_iload_n hx hb d_DL_open_11 rfl (lv_at hl 1 rfl) ?_
    refine x_aald hx hb hE.2.2 hLa 5 rfl hj (by decide) d_DL_open_12 ?_
    refine x_topv (y := .ref (o + 6 + 8 * j)) (rfl) ?_
    refine fg_DL_79_Layer hx hb hown hts hE hly.1 rfl d_DL_open_13 ?_
    refine lv_if_eq (tgt := 21) hx hb d_DL_open_16 (by decide) (fun h2 => ?_) (fun h2 => ?_)
    · have hq : q_open X (nI j) = true := by unfold q_open; rw [h1, hcl, bI_0.mp h2]; rfl
      refine lv_aload_n hx hb d_DL_open_21 rfl (lv_at hl 0 rfl) ?_
      refine fg_DL_24_DL hx hb hown hts hE hO rfl d_DL_open_22 ?_
      refine lv_iload_n hx hb d_DL_open_25 rfl (lv_at hl 1 rfl) ?_
      refine x_aald hx hb hE.2.2 hLa 5 rfl hj (by decide) d_DL_open_26 ?_
      refine x_topv (y := .ref (o + 6 + 8 * j)) (rfl) ?_
      refine lv_iconst (v := 1) hx hb d_DL_open_27 (by decide) ?_
      refine fp_DL_79_Layer hx hb hown hts hE hly.1 rfl rfl (Nat.le_of_ble_eq_true rfl) d_DL_open_28 (fun H1 k1 g1 o1 => ?_)
      have hF := t_lc (a := o + 6 + 8 * j) (i := k1) hF (d_A_in (by omega) (by omega))
      have hd := hP.lay (l := j) (x_F.of1 (A := x_A [o + 6 + 8 * j]) o1 (x_A1.mpr rfl)) (fun q h => by rw [x_A1.mp h]; omega) (show l_W D cA N (o + 6 + 8 * j) (d_k X j) true (d_j X j) (d_s X j) H1 from ⟨g1, hly.2.1.k1 o1 (show o + 6 + 8 * j + 1 ≠ o + 6 + 8 * j by omega), fun k hk => (hly.2.2 k hk).k1 o1 (show o + 6 + 8 * j + 2 + k ≠ o + 6 + 8 * j by omega)⟩)
      refine lv_iconst (v := 1) hx hb d_DL_open_31 (by decide) ?_
      refine x_topi (y := bI (q_open X (nI j))) (by rw [hq]; rfl) ?_
      exact W.zret (ty := .boolean) hx hb hr (bI_z _) (fun t ht hW => ⟨rfl, by rw [ht]; exact ⟨x_F.of1 o1 (d_A_in (by omega) (by omega)), by unfold z_open; rw [hq, if_pos rfl, hcl]; exact hd⟩⟩) hF d_DL_open_32
    · have hq : q_open X (nI j) = false := by unfold q_open; rw [h1, hcl, bI_n0.mp h2]; rfl
      refine lv_iconst (v := 0) hx hb d_DL_open_19 (by decide) ?_
      refine x_topi (y := bI (q_open X (nI j))) (by rw [hq]; rfl) ?_
      exact W.zret (ty := .boolean) hx hb hr (bI_z _) (fun t ht hW => ⟨rfl, by rw [ht]; exact ⟨x_F.rf, by unfold z_open; rw [hq]; exact hP⟩⟩) hF d_DL_open_20
set_option maxHeartbeats 4000000 in
set_option maxRecDepth 100000 in
theorem c_DL_drop (l : Launch) (D : va_G) (cA : Nat → ClassId) (N : n_T) (o : Nat) (X : d_T) (k : Int32) : Met l y_DL_drop [.code y_DL_drop b_DL_drop 2 (some .boolean)] (x_rm 1 0 0) (x_P D cA [.ref o, .int k] (fun H => d_W D cA N o X H)) (x_Q (some (.int (bI (q_drop X k)))) (fun H H1 => x_F (d_A o) H H1 ∧ d_W D cA N o (z_drop X k) H1)) 0 0 (d_A o) := by
  refine x_met (own := "DecisionLayers") (by decide) rfl (Nat.le_of_ble_eq_true rfl) ?_
  intro pp ee s mm below mt cd ls hx hb hr hlk hnm hml hown hts hE hP hl
  have hl : lv_has ls 2 [(0, .ref o), (1, .int k)] := hl
  obtain ⟨hO, hV, hC, hLa, hLy⟩ := id hP
  have hF : ∀ q ∈ ([] : List Loc), d_A o q.base := t_nil
  refine lv_iload_n hx hb d_DL_drop_0 rfl (lv_at hl 1 rfl) ?_
  refine x_cp (k_DL_62 (As := [.int k]) (rest := []) hx hb hml hown hts (c_DL_isLayer l D cA k) (x_preS hE trivial) rfl hl.1 rfl (Nat.le_of_ble_eq_true rfl) d_DL_drop_1 (by decide) ⟨Nat.zero_le _, Nat.zero_le _⟩) ?_
  refine lv_if_eq (tgt := 19) hx hb d_DL_drop_4 (by decide) (fun h1 => ?_) (fun h1 => ?_)
  · have h1 := bI_0.mp h1
    have hq : q_drop X k = false := by unfold q_drop; rw [h1]; rfl
    refine lv_iconst (v := 0) hx hb d_DL_drop_19 (by decide) ?_
    refine x_topi (y := bI (q_drop X k)) (by rw [hq]; rfl) ?_
    exact W.zret (ty := .boolean) hx hb hr (bI_z _) (fun t ht hW => ⟨rfl, by rw [ht]; exact ⟨x_F.rf, by unfold z_drop; rw [hq]; exact hP⟩⟩) hF d_DL_drop_20
  · have h1 := bI_n0.mp h1
    obtain ⟨j, hj, rfl⟩ := q_L_in h1
    have hcl : (nI j).toNatClampNeg = j := nI_clamp (by omega)
    have hly := hLy j hj
    refine lv_aload_n hx hb d_DL_drop_7 rfl (lv_at hl 0 rfl) ?_
    refine fg_DL_24_DL hx hb hown hts hE hO rfl d_DL_drop_8 ?_
    refine lv_iload_n hx hb d_DL_drop_11 rfl (lv_at hl 1 rfl) ?_
    refine x_aald hx hb hE.2.2 hLa 5 rfl hj (by decide) d_DL_drop_12 ?_
    refine x_topv (y := .ref (o + 6 + 8 * j)) (rfl) ?_
    refine fg_DL_79_Layer hx hb hown hts hE hly.1 rfl d_DL_drop_13 ?_
    refine lv_if_ne (tgt := 21) hx hb d_DL_drop_16 (by decide) (fun h2 => ?_) (fun h2 => ?_)
    · have hq : q_drop X (nI j) = true := by unfold q_drop; rw [h1, hcl, bI_n0.mp h2]; rfl
      refine lv_aload_n hx hb d_DL_drop_21 rfl (lv_at hl 0 rfl) ?_
      refine fg_DL_24_DL hx hb hown hts hE hO rfl d_DL_drop_22 ?_
      refine lv_iload_n hx hb d_DL_drop_25 rfl (lv_at hl 1 rfl) ?_
      refine x_aald hx hb hE.2.2 hLa 5 rfl hj (by decide) d_DL_drop_26 ?_
      refine x_topv (y := .ref (o + 6 + 8 * j)) (rfl) ?_
      refine x_cv (k_DL_83 (As := []) (rest := []) hx hb hml hown hts (c_Layer_empty l D cA N (o + 6 + 8 * j) (d_k X j) (d_b X j) (d_j X j) (d_s X j)) (x_preV hE hly.1 rfl rfl hly) rfl hl.1 rfl (Nat.le_of_ble_eq_true rfl) d_DL_drop_27 (by decide) ⟨Nat.zero_le _, Nat.zero_le _⟩) (fun H1 L1 p1 f1 => ?_)
      have hF := t_lL hF (fun q h => (show ∀ q : Nat, x_A [o + 6 + 8 * j] q → d_A o q from fun q h => by rw [x_A1.mp h]; exact d_A_in (by omega) (by omega)) q.base (f1 q h))
      have hd := hP.lay (l := j) p1.1 (fun q h => by rw [x_A1.mp h]; omega) p1.2
      refine lv_iconst (v := 1) hx hb d_DL_drop_30 (by decide) ?_
      refine x_topi (y := bI (q_drop X (nI j))) (by rw [hq]; rfl) ?_
      exact W.zret (ty := .boolean) hx hb hr (bI_z _) (fun t ht hW => ⟨rfl, by rw [ht]; exact ⟨p1.1.mono (fun q h => by rw [x_A1.mp h]; exact d_A_in (by omega) (by omega)), by unfold z_drop; rw [hq, if_pos rfl, hcl]; exact hd⟩⟩) hF d_DL_drop_31
    · have hq : q_drop X (nI j) = false := by unfold q_drop; rw [h1, hcl, bI_0.mp h2]; rfl
      refine lv_iconst (v := 0) hx hb d_DL_drop_19 (by decide) ?_
      refine x_topi (y := bI (q_drop X (nI j))) (by rw [hq]; rfl) ?_
      exact W.zret (ty := .boolean) hx hb hr (bI_z _) (fun t ht hW => ⟨rfl, by rw [ht]; exact ⟨x_F.rf, by unfold z_drop; rw [hq]; exact hP⟩⟩) hF d_DL_drop_20
set_option maxHeartbeats 4000000 in
set_option maxRecDepth 100000 in
theorem c_DL_offer (l : Launch) (D : va_G) (cA : Nat → ClassId) (N : n_T) (o : Nat) (X : d_T) (hvo : vl_ok (d_c X)) (k : Int32) (x : Int64) : Met l y_DL_offer [.code y_DL_offer b_DL_offer 4 (some .int)] (x_rm 2 0 0) (x_P D cA [.ref o, .int k, .long x] (fun H => d_W D cA N o X H)) (x_Q (some (.int (q_offer X k))) (fun H H1 => x_F (d_A o) H H1 ∧ d_W D cA N o (z_offer X k x) H1)) 0 0 (d_A o) := by
  refine x_met (own := "DecisionLayers") (by decide) rfl (Nat.le_of_ble_eq_true rfl) ?_
  intro pp ee s mm below mt cd ls hx hb hr hlk hnm hml hown hts hE hP hl
  have hl : lv_has ls 4 [(0, .ref o), (1, .int k), (2, .long x)] := hl
  obtain ⟨hO, hV, hC, hLa, hLy⟩ := id hP
  have hF : ∀ q ∈ ([] : List Loc), d_A o q.base := t_nil
  refine lv_iload_n hx hb d_DL_offer_0 rfl (lv_at hl 1 rfl) ?_
  refine x_cp (k_DL_36 (As := [.int k]) (rest := []) hx hb hml hown hts (c_Values_isKey l D cA k) (x_preS hE trivial) rfl hl.1 rfl (Nat.le_of_ble_eq_true rfl) d_DL_offer_1 (by decide) ⟨Nat.zero_le _, Nat.zero_le _⟩) ?_
  refine lv_if_ne (tgt := 10) hx hb d_DL_offer_4 (by decide) (fun h1 => ?_) (fun h1 => ?_)
  · have h1 : q_key k = true := bI_n0.mp h1
    obtain ⟨j, hj, rfl⟩ := q_key_in h1
    have hcl : (nI j).toNatClampNeg = j := nI_clamp (by omega)
    obtain ⟨n, hn4, hn⟩ := hvo j hj
    refine lv_aload_n hx hb d_DL_offer_10 rfl (lv_at hl 0 rfl) ?_
    refine fg_DL_10_DL hx hb hown hts hE hO rfl d_DL_offer_11 ?_
    refine lv_iload_n hx hb d_DL_offer_14 rfl (lv_at hl 1 rfl) ?_
    refine x_cp (k_DL_89 (As := [.int (nI j)]) (rest := []) hx hb hml hown hts (c_Values_isFull l D cA (o + 1) (d_c X) (d_r X) (nI j)) (x_preV hE hV.1 rfl rfl hV) rfl hl.1 rfl (Nat.le_of_ble_eq_true rfl) d_DL_offer_15 (by decide) ⟨Nat.zero_le _, Nat.zero_le _⟩) ?_
    refine lv_if_eq (tgt := 26) hx hb d_DL_offer_18 (by decide) (fun h2 => ?_) (fun h2 => ?_)
    · have h2 := of_decide_eq_false (bI_0.mp h2)
      rw [vl_c_in hj] at h2
      have hn3 : n < 4 := by rw [hn] at h2; exact n_lt (k := 4) h2 (by decide) (by omega)
      have hnc : (d_c X j).toNatClampNeg = n := by rw [hn]; exact nI_clamp (by omega)
      have hn1 : d_c X j + 1 = nI (n + 1) := by rw [hn]; exact (nI_succ n).symm
      refine lv_aload_n hx hb d_DL_offer_26 rfl (lv_at hl 0 rfl) ?_
      refine fg_DL_10_DL hx hb hown hts hE hO rfl d_DL_offer_27 ?_
      refine lv_iload_n hx hb d_DL_offer_30 rfl (lv_at hl 1 rfl) ?_
      refine lv_lload_n hx hb d_DL_offer_31 rfl (lv_at hl 2 rfl) ?_
      refine x_cw (k_DL_91 (As := [.int (nI j), .long x]) (rest := []) hx hb hml hown hts (c_Values_append l D cA (o + 1) (d_c X) (d_r X) j n x hj hn hn3) (x_preV hE hV.1 rfl rfl hV) rfl hl.1 rfl (Nat.le_of_ble_eq_true rfl) d_DL_offer_32 (by decide) ⟨Nat.zero_le _, Nat.zero_le _⟩) (fun H1 L1 p1 f1 => ?_)
      have hF := t_lL hF (fun q h => (show ∀ q : Nat, x_A [o + 1 + 1, o + 1 + 2] q → d_A o q from fun q h => by have h := x_A2.mp h; exact d_A_in (by omega) (by omega)) q.base (f1 q h))
      have hd := hP.val p1.1 (fun q h => by have h := x_A2.mp h; omega) p1.2
      refine x_topi (y := q_offer X (nI j)) (by unfold q_offer; rw [h1, if_pos rfl, hcl, if_neg h2, hn1]) ?_
      exact W.iret hx hb hr (fun t ht hW => ⟨rfl, by rw [ht]; exact ⟨p1.1.mono (fun q h => by have h := x_A2.mp h; exact d_A_in (by omega) (by omega)), by unfold z_offer; rw [h1, if_pos rfl, hcl, if_neg h2, hnc, hn1]; exact hd⟩⟩) hF d_DL_offer_35
    · have h2 := of_decide_eq_true (bI_n0.mp h2)
      rw [vl_c_in hj] at h2
      refine lv_bipush (v := (-3)) hx hb d_DL_offer_21 (by decide) ?_
      refine lv_goto (tgt := 35) hx hb d_DL_offer_23 (by decide) ?_
      refine x_topi (y := q_offer X (nI j)) (by unfold q_offer; rw [h1, if_pos rfl, hcl, if_pos h2]) ?_
      exact W.iret hx hb hr (fun t ht hW => ⟨rfl, by rw [ht]; exact ⟨x_F.rf, by unfold z_offer; rw [h1, if_pos rfl, hcl, if_pos h2]; exact hP⟩⟩) hF d_DL_offer_35
  · have h1 : q_key k = false := bI_0.mp h1
    refine lv_bipush (v := (-2)) hx hb d_DL_offer_7 (by decide) ?_
    refine x_topi (y := q_offer X k) (by unfold q_offer; rw [h1]; rfl) ?_
    exact W.iret hx hb hr (fun t ht hW => ⟨rfl, by rw [ht]; exact ⟨x_F.rf, by unfold z_offer; rw [h1]; exact hP⟩⟩) hF d_DL_offer_9
set_option maxHeartbeats 4000000 in
set_option maxRecDepth 100000 in
theorem c_DL_forget (l : Launch) (D : va_G) (cA : Nat → ClassId) (N : n_T) (o : Nat) (X : d_T) (k : Int32) : Met l y_DL_forget [.code y_DL_forget b_DL_forget 2 (some .int)] (x_rm 2 0 0) (x_P D cA [.ref o, .int k] (fun H => d_W D cA N o X H)) (x_Q (some (.int (q_forget X k))) (fun H H1 => x_F (d_A o) H H1 ∧ d_W D cA N o (z_forget X k) H1)) 0 0 (d_A o) := by
  refine x_met (own := "DecisionLayers") (by decide) rfl (Nat.le_of_ble_eq_true rfl) ?_
  intro pp ee s mm below mt cd ls hx hb hr hlk hnm hml hown hts hE hP hl
  have hl : lv_has ls 2 [(0, .ref o), (1, .int k)] := hl
  obtain ⟨hO, hV, hC, hLa, hLy⟩ := id hP
  have hF : ∀ q ∈ ([] : List Loc), d_A o q.base := t_nil
  refine lv_iload_n hx hb d_DL_forget_0 rfl (lv_at hl 1 rfl) ?_
  refine x_cp (k_DL_36 (As := [.int k]) (rest := []) hx hb hml hown hts (c_Values_isKey l D cA k) (x_preS hE trivial) rfl hl.1 rfl (Nat.le_of_ble_eq_true rfl) d_DL_forget_1 (by decide) ⟨Nat.zero_le _, Nat.zero_le _⟩) ?_
  refine lv_if_eq (tgt := 18) hx hb d_DL_forget_4 (by decide) (fun h1 => ?_) (fun h1 => ?_)
  · have h1 : q_key k = false := bI_0.mp h1
    refine lv_bipush (v := (-2)) hx hb d_DL_forget_18 (by decide) ?_
    refine x_topi (y := q_forget X k) (by unfold q_forget; rw [h1]; rfl) ?_
    exact W.iret hx hb hr (fun t ht hW => ⟨rfl, by rw [ht]; exact ⟨x_F.rf, by unfold z_forget; rw [h1]; exact hP⟩⟩) hF d_DL_forget_20
  · have h1 : q_key k = true := bI_n0.mp h1
    obtain ⟨j, hj, rfl⟩ := q_key_in h1
    have hcl : (nI j).toNatClampNeg = j := nI_clamp (by omega)
    refine lv_aload_n hx hb d_DL_forget_7 rfl (lv_at hl 0 rfl) ?_
    refine fg_DL_10_DL hx hb hown hts hE hO rfl d_DL_forget_8 ?_
    refine lv_iload_n hx hb d_DL_forget_11 rfl (lv_at hl 1 rfl) ?_
    refine x_cw (k_DL_94 (As := [.int (nI j)]) (rest := []) hx hb hml hown hts (c_Values_empty l D cA (o + 1) (d_c X) (d_r X) j hj) (x_preV hE hV.1 rfl rfl hV) rfl hl.1 rfl (Nat.le_of_ble_eq_true rfl) d_DL_forget_12 (by decide) ⟨Nat.zero_le _, Nat.zero_le _⟩) (fun H1 L1 p1 f1 => ?_)
    have hF := t_lL hF (fun q h => (show ∀ q : Nat, x_A [o + 1 + 2] q → d_A o q from fun q h => by rw [x_A1.mp h]; exact d_A_in (by omega) (by omega)) q.base (f1 q h))
    have hd := hP.val p1.1 (fun q h => by rw [x_A1.mp h]; omega) p1.2
    refine lv_goto (tgt := 20) hx hb d_DL_forget_15 (by decide) ?_
    refine x_topi (y := q_forget X (nI j)) (by unfold q_forget; rw [h1, if_pos rfl, hcl]) ?_
    exact W.iret hx hb hr (fun t ht hW => ⟨rfl, by rw [ht]; exact ⟨p1.1.mono (fun q h => by rw [x_A1.mp h]; exact d_A_in (by omega) (by omega)), by unfold z_forget; rw [h1, if_pos rfl, hcl]; exact hd⟩⟩) hF d_DL_forget_20
