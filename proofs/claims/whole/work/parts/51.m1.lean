set_option maxHeartbeats 4000000 in
set_option maxRecDepth 100000 in
theorem c_M_charAt (l : Launch) (D : va_G) (cA : Nat → ClassId) (x : Int64) (i : Nat) : Met l y_M_charAt [.code y_M_charAt b_M_charAt 3 (some .int)] (x_rm 0 0 0) (x_P D cA [.long x, .int (nI i)] (fun _ => True)) (x_Q (some (.int (tx_c x i))) (x_same)) 0 0 (fun _ => False) := by
  refine x_met (own := "DecisionLayersModel") (by decide) rfl (Nat.le_of_ble_eq_true rfl) ?_
  intro pp ee s mm below mt cd ls hx hb hr hlk hnm hml hown hts hE hP hl
  have hl : lv_has ls 3 [(0, .long x), (2, .int (nI i))] := hl
  refine lv_lload_n hx hb d_M_charAt_0 rfl (lv_at hl 0 rfl) ?_
  refine lv_bipush (v := 8) hx hb d_M_charAt_1 (by decide) ?_
  refine lv_iload_n hx hb d_M_charAt_3 rfl (lv_at hl 1 rfl) ?_
  refine lv_imul hx hb d_M_charAt_4 ?_
  refine lv_lushr hx hb d_M_charAt_5 rfl ?_
  refine x_topl (y := tx_w x i) rfl ?_
  refine lv_l2i hx hb d_M_charAt_6 rfl ?_
  refine lv_sipush (v := 255) hx hb d_M_charAt_7 (by decide) ?_
  refine lv_iand hx hb d_M_charAt_10 ?_
  refine x_topi (y := tx_c x i) rfl ?_
  exact W.iret hx hb hr (fun t ht hW => ⟨rfl, ht⟩) (fun q h => by cases h) d_M_charAt_11
set_option maxHeartbeats 4000000 in
set_option maxRecDepth 100000 in
theorem c_M_length (l : Launch) (D : va_G) (cA : Nat → ClassId) (x : Int64) : Met l y_M_length [.code y_M_length b_M_length 3 (some .int)] (x_rm 1 0 0) (x_P D cA [.long x] (fun _ => True)) (x_Q (some (.int (nI (tx_n x)))) (x_same)) 0 0 (fun _ => False) := by
  refine x_met (own := "DecisionLayersModel") (by decide) rfl (Nat.le_of_ble_eq_true rfl) ?_
  intro pp ee s mm below mt cd ls hx hb hr hlk hnm hml hown hts hE hP hl
  have hl : lv_has ls 3 [(0, .long x)] := hl
  refine lv_iconst (v := 0) hx hb d_M_length_0 (by decide) ?_
  refine lv_istore_n (lv' := [(2, .int 0), (0, .long x)]) hx hb d_M_length_1 rfl hl (by decide) rfl (fun ls hl => ?_)
  refine x_loop (I := fun n ls => ∃ i, i + n = 8 ∧ (∀ j, j < i → tx_c x j ≠ 0) ∧ lv_has ls 3 [(2, .int (nI i)), (0, .long x)]) (fun n ls ih h => ?_) (8) ⟨0, rfl, fun j h => absurd h (Nat.not_lt_zero j), hl⟩
  obtain ⟨i, hi, hz, hl⟩ := h
  refine lv_iload_n hx hb d_M_length_2 rfl (lv_at hl 0 rfl) ?_
  refine lv_bipush (v := 8) hx hb d_M_length_3 (by decide) ?_
  refine lv_icmp_ge (tgt := 22) hx hb d_M_length_5 (by decide) (fun h8 => ?_) (fun h8 => ?_)
  · have h8 := n_ge (k := 8) h8 (by decide) (by omega)
    refine lv_iload_n hx hb d_M_length_22 rfl (lv_at hl 0 rfl) ?_
    refine x_topi (y := nI (tx_n x)) (by rw [tx_is (k := i) (by omega) hz (Or.inl (by omega))]) ?_
    exact W.iret hx hb hr (fun t ht hW => ⟨rfl, ht⟩) (fun q h => by cases h) d_M_length_23
  · have h8 := n_lt (k := 8) h8 (by decide) (by omega)
    refine lv_lload_n hx hb d_M_length_8 rfl (lv_at hl 1 rfl) ?_
    refine lv_iload_n hx hb d_M_length_9 rfl (lv_at hl 0 rfl) ?_
    refine x_cp (k_M_77 (As := [.long x, .int (nI i)]) (rest := []) hx hb hml hown hts (c_M_charAt l D cA x i) (x_preS hE trivial) rfl hl.1 rfl (Nat.le_of_ble_eq_true rfl) d_M_length_10 (by decide) ⟨Nat.zero_le _, Nat.zero_le _⟩) ?_
    refine lv_if_eq (tgt := 22) hx hb d_M_length_13 (by decide) (fun hc => ?_) (fun hc => ?_)
    · refine lv_iload_n hx hb d_M_length_22 rfl (lv_at hl 0 rfl) ?_
      refine x_topi (y := nI (tx_n x)) (by rw [tx_is (k := i) (by omega) hz (Or.inr hc)]) ?_
      exact W.iret hx hb hr (fun t ht hW => ⟨rfl, ht⟩) (fun q h => by cases h) d_M_length_23
    · refine lv_iinc (k := 0) (v := nI (i + 1)) (lv' := [(2, .int (nI (i + 1))), (0, .long x)]) hx hb d_M_length_16 hl rfl (x_inc _) (by decide) rfl (fun ls hl => ?_)
      refine lv_goto (tgt := 2) hx hb d_M_length_19 (by decide) ?_
      exact ih (n - 1) _ (by omega) ⟨i + 1, by omega, fun j hj => by
        by_cases e : j = i
        · rw [e]; exact hc
        · exact hz j (by omega), hl⟩
set_option maxHeartbeats 4000000 in
set_option maxRecDepth 100000 in
theorem c_M_fold (l : Launch) (D : va_G) (cA : Nat → ClassId) (a : Int32) (lo : Bool) : Met l y_M_fold [.code y_M_fold b_M_fold 2 (some .int)] (x_rm 0 0 0) (x_P D cA [.int a, .int (bI lo)] (fun _ => True)) (x_Q (some (.int (tx_lo a lo))) (x_same)) 0 0 (fun _ => False) := by
  refine x_met (own := "DecisionLayersModel") (by decide) rfl (Nat.le_of_ble_eq_true rfl) ?_
  intro pp ee s mm below mt cd ls hx hb hr hlk hnm hml hown hts hE hP hl
  have hl : lv_has ls 2 [(0, .int a), (1, .int (bI lo))] := hl
  refine lv_iload_n hx hb d_M_fold_0 rfl (lv_at hl 1 rfl) ?_
  refine lv_if_eq (tgt := 23) hx hb d_M_fold_1 (by decide) (fun h0 => ?_) (fun h0 => ?_)
  · obtain rfl := bI_0.mp h0
    refine lv_iload_n hx hb d_M_fold_23 rfl (lv_at hl 0 rfl) ?_
    refine x_topi (y := tx_lo a false) (by rw [tx_lo_f]) ?_
    exact W.iret hx hb hr (fun t ht hW => ⟨rfl, ht⟩) (fun q h => by cases h) d_M_fold_24
  · obtain rfl := bI_n0.mp h0
    refine lv_iload_n hx hb d_M_fold_4 rfl (lv_at hl 0 rfl) ?_
    refine lv_bipush (v := 65) hx hb d_M_fold_5 (by decide) ?_
    refine lv_icmp_lt (tgt := 23) hx hb d_M_fold_7 (by decide) (fun h1 => ?_) (fun h1 => ?_)
    · refine lv_iload_n hx hb d_M_fold_23 rfl (lv_at hl 0 rfl) ?_
      refine x_topi (y := tx_lo a true) (by rw [tx_lo_n1 (Int32.not_le.mpr h1)]) ?_
      exact W.iret hx hb hr (fun t ht hW => ⟨rfl, ht⟩) (fun q h => by cases h) d_M_fold_24
    · refine lv_iload_n hx hb d_M_fold_10 rfl (lv_at hl 0 rfl) ?_
      refine lv_bipush (v := 90) hx hb d_M_fold_11 (by decide) ?_
      refine lv_icmp_gt (tgt := 23) hx hb d_M_fold_13 (by decide) (fun h2 => ?_) (fun h2 => ?_)
      · refine lv_iload_n hx hb d_M_fold_23 rfl (lv_at hl 0 rfl) ?_
        refine x_topi (y := tx_lo a true) (by rw [tx_lo_n2 (Int32.not_le.mpr h2)]) ?_
        exact W.iret hx hb hr (fun t ht hW => ⟨rfl, ht⟩) (fun q h => by cases h) d_M_fold_24
      · refine lv_iload_n hx hb d_M_fold_16 rfl (lv_at hl 0 rfl) ?_
        refine lv_bipush (v := 32) hx hb d_M_fold_17 (by decide) ?_
        refine lv_iadd hx hb d_M_fold_19 ?_
        refine lv_goto (tgt := 24) hx hb d_M_fold_20 (by decide) ?_
        refine x_topi (y := tx_lo a true) (by rw [tx_lo_y (Int32.not_lt.mp h1) (Int32.not_lt.mp h2)]) ?_
        exact W.iret hx hb hr (fun t ht hW => ⟨rfl, ht⟩) (fun q h => by cases h) d_M_fold_24
set_option maxHeartbeats 4000000 in
set_option maxRecDepth 100000 in
theorem c_M_within (l : Launch) (D : va_G) (cA : Nat → ClassId) (x y : Int32) : Met l y_M_within [.code y_M_within b_M_within 2 (some .boolean)] (x_rm 0 0 0) (x_P D cA [.int x, .int y] (fun _ => True)) (x_Q (some (.int (bI (decide (0 ≤ x ∧ x ≤ y))))) (x_same)) 0 0 (fun _ => False) := by
  refine x_met (own := "DecisionLayersModel") (by decide) rfl (Nat.le_of_ble_eq_true rfl) ?_
  intro pp ee s mm below mt cd ls hx hb hr hlk hnm hml hown hts hE hP hl
  have hl : lv_has ls 2 [(0, .int x), (1, .int y)] := hl
  refine lv_iload_n hx hb d_M_within_0 rfl (lv_at hl 0 rfl) ?_
  refine lv_if_lt (tgt := 13) hx hb d_M_within_1 (by decide) (fun h1 => ?_) (fun h1 => ?_)
  · refine lv_iconst (v := 0) hx hb d_M_within_13 (by decide) ?_
    refine x_topi (y := bI (decide (0 ≤ x ∧ x ≤ y))) (by rw [bI_no (fun z => absurd h1 (Int32.not_lt.mpr z.1))]) ?_
    exact W.zret (ty := .boolean) hx hb hr (bI_z _) (fun t ht hW => ⟨rfl, ht⟩) (fun q h => by cases h) d_M_within_14
  · refine lv_iload_n hx hb d_M_within_4 rfl (lv_at hl 0 rfl) ?_
    refine lv_iload_n hx hb d_M_within_5 rfl (lv_at hl 1 rfl) ?_
    refine lv_icmp_gt (tgt := 13) hx hb d_M_within_6 (by decide) (fun h2 => ?_) (fun h2 => ?_)
    · refine lv_iconst (v := 0) hx hb d_M_within_13 (by decide) ?_
      refine x_topi (y := bI (decide (0 ≤ x ∧ x ≤ y))) (by rw [bI_no (fun z => absurd h2 (Int32.not_lt.mpr z.2))]) ?_
      exact W.zret (ty := .boolean) hx hb hr (bI_z _) (fun t ht hW => ⟨rfl, ht⟩) (fun q h => by cases h) d_M_within_14
    · refine lv_iconst (v := 1) hx hb d_M_within_9 (by decide) ?_
      refine lv_goto (tgt := 14) hx hb d_M_within_10 (by decide) ?_
      refine x_topi (y := bI (decide (0 ≤ x ∧ x ≤ y))) (by rw [bI_of ⟨Int32.not_lt.mp h1, Int32.not_lt.mp h2⟩]) ?_
      exact W.zret (ty := .boolean) hx hb hr (bI_z _) (fun t ht hW => ⟨rfl, ht⟩) (fun q h => by cases h) d_M_within_14
set_option maxHeartbeats 4000000 in
set_option maxRecDepth 100000 in
theorem c_M_add (l : Launch) (D : va_G) (cA : Nat → ClassId) (m : Nat) (Y : m_T) (t : Int32) (h40 : m_tn Y < 40) : Met l y_M_add [.code y_M_add b_M_add 2 none] (x_rm 0 0 0) (x_P D cA [.ref m, .int t] (fun H => m_W D cA m Y H)) (x_Q (none) (fun H H1 => x_F (m_tA m) H H1 ∧ m_W D cA m (m_tk Y (m_tn Y + 1) (upd (m_i Y 20) (m_tn Y) t)) H1)) 0 0 (m_tA m) := by
  refine x_met (own := "DecisionLayersModel") (by decide) rfl (Nat.le_of_ble_eq_true rfl) ?_
  intro pp ee s mm below mt cd ls hx hb hr hlk hnm hml hown hts hE hP hl
  have hl : lv_has ls 2 [(0, .ref m), (1, .int t)] := hl
  have hF : ∀ q ∈ ([] : List Loc), m_tA m q.base := t_nil
  have hW := hP
  refine lv_aload_n hx hb d_M_add_0 rfl (lv_at hl 0 rfl) ?_
  refine fg_M_74_M hx hb hown hts hE hW.1 rfl d_M_add_1 ?_
  refine lv_aload_n hx hb d_M_add_4 rfl (lv_at hl 0 rfl) ?_
  refine fg_M_81_M hx hb hown hts hE hW.1 rfl d_M_add_5 ?_
  refine lv_iload_n hx hb d_M_add_8 rfl (lv_at hl 1 rfl) ?_
  refine x_iast hx hb hE.2.2 (show va_at D x_cl (m + 20, .inl (cA 0, 40, .inl (m_i Y 20))) _ from hW.2 20 (by decide) (by decide)) 0 rfl h40 (by decide) d_M_add_9 (fun H1 k1 g1 o1 => ?_)
  have hF := t_lc (a := m + 20) (i := k1) hF (x_A2.mpr (Or.inr rfl))
  have hW1 := hW.ai (i := 20) (by decide) o1 (f := upd (m_i Y 20) (m_tn Y) t) g1
  refine lv_aload_n hx hb d_M_add_10 rfl (lv_at hl 0 rfl) ?_
  refine lv_dup hx hb d_M_add_11 rfl ?_
  refine fg_M_81_M hx hb hown hts hE hW1.1 rfl d_M_add_12 ?_
  refine lv_iconst (v := 1) hx hb d_M_add_15 (by decide) ?_
  refine lv_iadd hx hb d_M_add_16 ?_
  refine x_topi (y := nI (m_tn Y + 1)) (nI_succ _).symm ?_
  refine fp_M_81_M hx hb hown hts hE hW1.1 rfl rfl (Nat.le_of_ble_eq_true rfl) d_M_add_17 (fun H2 k2 g2 o2 => ?_)
  have hF := t_lc (a := m) (i := k2) hF (x_A2.mpr (Or.inl rfl))
  have hW2 := hW1.obj (made := m_md Y) (pil := m_pl Y) (dec := m_de Y) (tok := m_tn Y + 1) o2 g2
  exact W.vret hx hb hr (fun t ht hW => ⟨rfl, by rw [ht]; exact ⟨(x_F.of1 o1 (x_A2.mpr (Or.inr rfl))).trans (x_F.of1 o2 (x_A2.mpr (Or.inl rfl))), hW2⟩⟩) hF d_M_add_20
