set_option maxHeartbeats 4000000 in
set_option maxRecDepth 100000 in
theorem c_Statement_isWho (l : Launch) (D : va_G) (cA : Nat → ClassId) (w : Int32) : Met l y_Statement_isWho [.code y_Statement_isWho b_Statement_isWho 1 (some .boolean)] (x_rm 0 0 0) (x_P D cA [.int w] (fun _ => True)) (x_Q (some (.int (bI (decide ((-1 ≤ w ∧ w ≤ 9) ∨ (100 ≤ w ∧ w ≤ 199)))))) (x_same)) 0 0 (fun _ => False) := by
  refine x_met (own := "DecisionLayers$Statement") (by decide) rfl (Nat.le_of_ble_eq_true rfl) ?_
  intro pp ee s mm below mt cd ls hx hb hr hlk hnm hml hown hts hE hP hl
  have hl : lv_has ls 1 [(0, .int w)] := hl
  refine lv_iload_n hx hb d_Statement_isWho_0 rfl (lv_at hl 0 rfl) ?_
  refine lv_iconst (v := (-1)) hx hb d_Statement_isWho_1 (by decide) ?_
  refine lv_icmp_lt (tgt := 11) hx hb d_Statement_isWho_2 (by decide) (fun h1 => ?_) (fun h1 => ?_)
  · have h0 : ¬ (-1 ≤ w ∧ w ≤ 9) := (fun z => absurd h1 (Int32.not_lt.mpr z.1))
    refine lv_iload_n hx hb d_Statement_isWho_11 rfl (lv_at hl 0 rfl) ?_
    refine lv_bipush (v := 100) hx hb d_Statement_isWho_12 (by decide) ?_
    refine lv_icmp_lt (tgt := 28) hx hb d_Statement_isWho_14 (by decide) (fun h3 => ?_) (fun h3 => ?_)
    · refine lv_iconst (v := 0) hx hb d_Statement_isWho_28 (by decide) ?_
      refine x_topi (y := bI (decide ((-1 ≤ w ∧ w ≤ 9) ∨ (100 ≤ w ∧ w ≤ 199)))) (by rw [bI_no (fun z => z.elim h0 (fun y => absurd h3 (Int32.not_lt.mpr y.1)))]) ?_
      exact W.zret (ty := .boolean) hx hb hr (bI_z _) (fun t ht hW => ⟨rfl, ht⟩) (fun q h => by cases h) d_Statement_isWho_29
    · refine lv_iload_n hx hb d_Statement_isWho_17 rfl (lv_at hl 0 rfl) ?_
      refine lv_sipush (v := 199) hx hb d_Statement_isWho_18 (by decide) ?_
      refine lv_icmp_gt (tgt := 28) hx hb d_Statement_isWho_21 (by decide) (fun h4 => ?_) (fun h4 => ?_)
      · refine lv_iconst (v := 0) hx hb d_Statement_isWho_28 (by decide) ?_
        refine x_topi (y := bI (decide ((-1 ≤ w ∧ w ≤ 9) ∨ (100 ≤ w ∧ w ≤ 199)))) (by rw [bI_no (fun z => z.elim h0 (fun y => absurd h4 (Int32.not_lt.mpr y.2)))]) ?_
        exact W.zret (ty := .boolean) hx hb hr (bI_z _) (fun t ht hW => ⟨rfl, ht⟩) (fun q h => by cases h) d_Statement_isWho_29
      · refine lv_iconst (v := 1) hx hb d_Statement_isWho_24 (by decide) ?_
        refine lv_goto (tgt := 29) hx hb d_Statement_isWho_25 (by decide) ?_
        refine x_topi (y := bI (decide ((-1 ≤ w ∧ w ≤ 9) ∨ (100 ≤ w ∧ w ≤ 199)))) (by rw [bI_of (Or.inr ⟨Int32.not_lt.mp h3, Int32.not_lt.mp h4⟩)]) ?_
        exact W.zret (ty := .boolean) hx hb hr (bI_z _) (fun t ht hW => ⟨rfl, ht⟩) (fun q h => by cases h) d_Statement_isWho_29
  · refine lv_iload_n hx hb d_Statement_isWho_5 rfl (lv_at hl 0 rfl) ?_
    refine lv_bipush (v := 9) hx hb d_Statement_isWho_6 (by decide) ?_
    refine lv_icmp_le (tgt := 24) hx hb d_Statement_isWho_8 (by decide) (fun h2 => ?_) (fun h2 => ?_)
    · refine lv_iconst (v := 1) hx hb d_Statement_isWho_24 (by decide) ?_
      refine lv_goto (tgt := 29) hx hb d_Statement_isWho_25 (by decide) ?_
      refine x_topi (y := bI (decide ((-1 ≤ w ∧ w ≤ 9) ∨ (100 ≤ w ∧ w ≤ 199)))) (by rw [bI_of (Or.inl ⟨Int32.not_lt.mp h1, h2⟩)]) ?_
      exact W.zret (ty := .boolean) hx hb hr (bI_z _) (fun t ht hW => ⟨rfl, ht⟩) (fun q h => by cases h) d_Statement_isWho_29
    · have h0 : ¬ (-1 ≤ w ∧ w ≤ 9) := (fun z => h2 z.2)
      refine lv_iload_n hx hb d_Statement_isWho_11 rfl (lv_at hl 0 rfl) ?_
      refine lv_bipush (v := 100) hx hb d_Statement_isWho_12 (by decide) ?_
      refine lv_icmp_lt (tgt := 28) hx hb d_Statement_isWho_14 (by decide) (fun h3 => ?_) (fun h3 => ?_)
      · refine lv_iconst (v := 0) hx hb d_Statement_isWho_28 (by decide) ?_
        refine x_topi (y := bI (decide ((-1 ≤ w ∧ w ≤ 9) ∨ (100 ≤ w ∧ w ≤ 199)))) (by rw [bI_no (fun z => z.elim h0 (fun y => absurd h3 (Int32.not_lt.mpr y.1)))]) ?_
        exact W.zret (ty := .boolean) hx hb hr (bI_z _) (fun t ht hW => ⟨rfl, ht⟩) (fun q h => by cases h) d_Statement_isWho_29
      · refine lv_iload_n hx hb d_Statement_isWho_17 rfl (lv_at hl 0 rfl) ?_
        refine lv_sipush (v := 199) hx hb d_Statement_isWho_18 (by decide) ?_
        refine lv_icmp_gt (tgt := 28) hx hb d_Statement_isWho_21 (by decide) (fun h4 => ?_) (fun h4 => ?_)
        · refine lv_iconst (v := 0) hx hb d_Statement_isWho_28 (by decide) ?_
          refine x_topi (y := bI (decide ((-1 ≤ w ∧ w ≤ 9) ∨ (100 ≤ w ∧ w ≤ 199)))) (by rw [bI_no (fun z => z.elim h0 (fun y => absurd h4 (Int32.not_lt.mpr y.2)))]) ?_
          exact W.zret (ty := .boolean) hx hb hr (bI_z _) (fun t ht hW => ⟨rfl, ht⟩) (fun q h => by cases h) d_Statement_isWho_29
        · refine lv_iconst (v := 1) hx hb d_Statement_isWho_24 (by decide) ?_
          refine lv_goto (tgt := 29) hx hb d_Statement_isWho_25 (by decide) ?_
          refine x_topi (y := bI (decide ((-1 ≤ w ∧ w ≤ 9) ∨ (100 ≤ w ∧ w ≤ 199)))) (by rw [bI_of (Or.inr ⟨Int32.not_lt.mp h3, Int32.not_lt.mp h4⟩)]) ?_
          exact W.zret (ty := .boolean) hx hb hr (bI_z _) (fun t ht hW => ⟨rfl, ht⟩) (fun q h => by cases h) d_Statement_isWho_29
set_option maxHeartbeats 4000000 in
set_option maxRecDepth 100000 in
theorem c_Statement_whoOfUser (l : Launch) (D : va_G) (cA : Nat → ClassId) (a u : Int32) : Met l y_Statement_whoOfUser [.code y_Statement_whoOfUser b_Statement_whoOfUser 2 (some .int)] (x_rm 0 0 0) (x_P D cA [.int a, .int u] (fun _ => True)) (x_Q (some (.int (100 + 10 * a + u))) (x_same)) 0 0 (fun _ => False) := by
  refine x_met (own := "DecisionLayers$Statement") (by decide) rfl (Nat.le_of_ble_eq_true rfl) ?_
  intro pp ee s mm below mt cd ls hx hb hr hlk hnm hml hown hts hE hP hl
  have hl : lv_has ls 2 [(0, .int a), (1, .int u)] := hl
  refine lv_bipush (v := 100) hx hb d_Statement_whoOfUser_0 (by decide) ?_
  refine lv_bipush (v := 10) hx hb d_Statement_whoOfUser_2 (by decide) ?_
  refine lv_iload_n hx hb d_Statement_whoOfUser_4 rfl (lv_at hl 0 rfl) ?_
  refine lv_imul hx hb d_Statement_whoOfUser_5 ?_
  refine lv_iadd hx hb d_Statement_whoOfUser_6 ?_
  refine lv_iload_n hx hb d_Statement_whoOfUser_7 rfl (lv_at hl 1 rfl) ?_
  refine lv_iadd hx hb d_Statement_whoOfUser_8 ?_
  exact W.iret hx hb hr (fun t ht hW => ⟨rfl, ht⟩) (fun q h => by cases h) d_Statement_whoOfUser_9
set_option maxHeartbeats 4000000 in
set_option maxRecDepth 100000 in
theorem c_Statement_isDenying (l : Launch) (D : va_G) (cA : Nat → ClassId) (S : Nat) (N : n_T) (x : s_T) (h16 : x.1 < 16) : Met l y_Statement_isDenying [.code y_Statement_isDenying b_Statement_isDenying 1 (some .boolean)] (x_rm 0 0 0) (x_P D cA [.ref S] (fun H => va_at D x_cl (S, .inr (2, s_fs N x)) H)) (x_Q (some (.int (bI (x.1.testBit 0)))) (x_same)) 0 0 (fun _ => False) := by
  refine x_met (own := "DecisionLayers$Statement") (by decide) rfl (Nat.le_of_ble_eq_true rfl) ?_
  intro pp ee s mm below mt cd ls hx hb hr hlk hnm hml hown hts hE hP hl
  have hl : lv_has ls 1 [(0, .ref S)] := hl
  refine lv_aload_n hx hb d_Statement_isDenying_0 rfl (lv_at hl 0 rfl) ?_
  refine fg_Statement_9_Statement hx hb hown hts hE hP rfl d_Statement_isDenying_1 ?_
  refine lv_iconst (v := 1) hx hb d_Statement_isDenying_4 (by decide) ?_
  refine lv_iand hx hb d_Statement_isDenying_5 ?_
  refine x_topi (y := bI (x.1.testBit 0)) (mk_1 _ h16) ?_
  refine lv_if_eq (tgt := 13) hx hb d_Statement_isDenying_6 (by decide) (fun h1 => ?_) (fun h1 => ?_)
  · refine lv_iconst (v := 0) hx hb d_Statement_isDenying_13 (by decide) ?_
    refine x_topi (y := bI (x.1.testBit 0)) (by rw [bI_0.mp h1]; rfl) ?_
    exact W.zret (ty := .boolean) hx hb hr (bI_z _) (fun t ht hW => ⟨rfl, ht⟩) (fun q h => by cases h) d_Statement_isDenying_14
  · refine lv_iconst (v := 1) hx hb d_Statement_isDenying_9 (by decide) ?_
    refine lv_goto (tgt := 14) hx hb d_Statement_isDenying_10 (by decide) ?_
    refine x_topi (y := bI (x.1.testBit 0)) (by rw [bI_n0.mp h1]; rfl) ?_
    exact W.zret (ty := .boolean) hx hb hr (bI_z _) (fun t ht hW => ⟨rfl, ht⟩) (fun q h => by cases h) d_Statement_isDenying_14
set_option maxHeartbeats 4000000 in
set_option maxRecDepth 100000 in
theorem c_Statement_names (l : Launch) (D : va_G) (cA : Nat → ClassId) (S : Nat) (N : n_T) (x : s_T) (k : Int32) : Met l y_Statement_names [.code y_Statement_names b_Statement_names 2 (some .boolean)] (x_rm 0 0 0) (x_P D cA [.ref S, .int k] (fun H => va_at D x_cl (S, .inr (2, s_fs N x)) H)) (x_Q (some (.int (bI (decide (x.2.2.2.1 = k))))) (x_same)) 0 0 (fun _ => False) := by
  refine x_met (own := "DecisionLayers$Statement") (by decide) rfl (Nat.le_of_ble_eq_true rfl) ?_
  intro pp ee s mm below mt cd ls hx hb hr hlk hnm hml hown hts hE hP hl
  have hl : lv_has ls 2 [(0, .ref S), (1, .int k)] := hl
  refine lv_aload_n hx hb d_Statement_names_0 rfl (lv_at hl 0 rfl) ?_
  refine fg_Statement_20_Statement hx hb hown hts hE hP rfl d_Statement_names_1 ?_
  refine lv_iload_n hx hb d_Statement_names_4 rfl (lv_at hl 1 rfl) ?_
  refine lv_icmp_ne (tgt := 12) hx hb d_Statement_names_5 (by decide) (fun h1 => ?_) (fun h1 => ?_)
  · refine lv_iconst (v := 0) hx hb d_Statement_names_12 (by decide) ?_
    refine x_topi (y := bI (decide (x.2.2.2.1 = k))) (by rw [bI_no h1]) ?_
    exact W.zret (ty := .boolean) hx hb hr (bI_z _) (fun t ht hW => ⟨rfl, ht⟩) (fun q h => by cases h) d_Statement_names_13
  · refine lv_iconst (v := 1) hx hb d_Statement_names_8 (by decide) ?_
    refine lv_goto (tgt := 13) hx hb d_Statement_names_9 (by decide) ?_
    refine x_topi (y := bI (decide (x.2.2.2.1 = k))) (by rw [bI_of h1]) ?_
    exact W.zret (ty := .boolean) hx hb hr (bI_z _) (fun t ht hW => ⟨rfl, ht⟩) (fun q h => by cases h) d_Statement_names_13
set_option maxHeartbeats 4000000 in
set_option maxRecDepth 100000 in
theorem c_Statement_means (l : Launch) (D : va_G) (cA : Nat → ClassId) (S : Nat) (N : n_T) (x : s_T) (k : Int32) : Met l y_Statement_means [.code y_Statement_means b_Statement_means 2 (some .boolean)] (x_rm 0 0 0) (x_P D cA [.ref S, .int k] (fun H => va_at D x_cl (S, .inr (2, s_fs N x)) H)) (x_Q (some (.int (bI (s_m x.2.2.2.1 k)))) (x_same)) 0 0 (fun _ => False) := by
  refine x_met (own := "DecisionLayers$Statement") (by decide) rfl (Nat.le_of_ble_eq_true rfl) ?_
  intro pp ee s mm below mt cd ls hx hb hr hlk hnm hml hown hts hE hP hl
  have hl : lv_has ls 2 [(0, .ref S), (1, .int k)] := hl
  refine lv_aload_n hx hb d_Statement_means_0 rfl (lv_at hl 0 rfl) ?_
  refine fg_Statement_20_Statement hx hb hown hts hE hP rfl d_Statement_means_1 ?_
  refine lv_iconst (v := (-1)) hx hb d_Statement_means_4 (by decide) ?_
  refine lv_icmp_eq (tgt := 30) hx hb d_Statement_means_5 (by decide) (fun h1 => ?_) (fun h1 => ?_)
  · refine lv_iconst (v := 1) hx hb d_Statement_means_30 (by decide) ?_
    refine lv_goto (tgt := 35) hx hb d_Statement_means_31 (by decide) ?_
    refine x_topi (y := bI (s_m x.2.2.2.1 k)) (by unfold s_m; rw [bI_of (Or.inl h1)]) ?_
    exact W.zret (ty := .boolean) hx hb hr (bI_z _) (fun t ht hW => ⟨rfl, ht⟩) (fun q h => by cases h) d_Statement_means_35
  · refine lv_aload_n hx hb d_Statement_means_8 rfl (lv_at hl 0 rfl) ?_
    refine fg_Statement_20_Statement hx hb hown hts hE hP rfl d_Statement_means_9 ?_
    refine lv_iload_n hx hb d_Statement_means_12 rfl (lv_at hl 1 rfl) ?_
    refine lv_icmp_eq (tgt := 30) hx hb d_Statement_means_13 (by decide) (fun h2 => ?_) (fun h2 => ?_)
    · refine lv_iconst (v := 1) hx hb d_Statement_means_30 (by decide) ?_
      refine lv_goto (tgt := 35) hx hb d_Statement_means_31 (by decide) ?_
      refine x_topi (y := bI (s_m x.2.2.2.1 k)) (by unfold s_m; rw [bI_of (Or.inr (Or.inl h2))]) ?_
      exact W.zret (ty := .boolean) hx hb hr (bI_z _) (fun t ht hW => ⟨rfl, ht⟩) (fun q h => by cases h) d_Statement_means_35
    · refine lv_aload_n hx hb d_Statement_means_16 rfl (lv_at hl 0 rfl) ?_
      refine fg_Statement_20_Statement hx hb hown hts hE hP rfl d_Statement_means_17 ?_
      refine lv_iload_n hx hb d_Statement_means_20 rfl (lv_at hl 1 rfl) ?_
      refine lv_bipush (v := 100) hx hb d_Statement_means_21 (by decide) ?_
      refine lv_isub hx hb d_Statement_means_23 ?_
      refine lv_bipush (v := 10) hx hb d_Statement_means_24 (by decide) ?_
      refine lv_idiv hx hb d_Statement_means_26 (by decide) ?_
      refine lv_icmp_ne (tgt := 34) hx hb d_Statement_means_27 (by decide) (fun h3 => ?_) (fun h3 => ?_)
      · refine lv_iconst (v := 0) hx hb d_Statement_means_34 (by decide) ?_
        refine x_topi (y := bI (s_m x.2.2.2.1 k)) (by unfold s_m; rw [bI_no (fun z => z.elim h1 (fun y => y.elim h2 h3))]) ?_
        exact W.zret (ty := .boolean) hx hb hr (bI_z _) (fun t ht hW => ⟨rfl, ht⟩) (fun q h => by cases h) d_Statement_means_35
      · refine lv_iconst (v := 1) hx hb d_Statement_means_30 (by decide) ?_
        refine lv_goto (tgt := 35) hx hb d_Statement_means_31 (by decide) ?_
        refine x_topi (y := bI (s_m x.2.2.2.1 k)) (by unfold s_m; rw [bI_of (Or.inr (Or.inr h3))]) ?_
        exact W.zret (ty := .boolean) hx hb hr (bI_z _) (fun t ht hW => ⟨rfl, ht⟩) (fun q h => by cases h) d_Statement_means_35
set_option maxHeartbeats 4000000 in
set_option maxRecDepth 100000 in
theorem c_Statement_suits (l : Launch) (D : va_G) (cA : Nat → ClassId) (S : Nat) (N : n_T) (x : s_T) (v : Nat) (cnt : Nat → Int32) (row : Nat → Int64) (made : Nat) (hv : Nat → Bool) (hok : n_ok made N) (hvo : vl_ok cnt) (hVe : n_V cnt row made N hv) (hs : s_ok made x) (k : Int32) (ac th : Int64) : Met l y_Statement_suits [.code y_Statement_suits b_Statement_suits 9 (some .boolean)] (x_rm 9 0 0) (x_P D cA [.ref S, .int k, .long ac, .long th, .ref v] (fun H => va_at D x_cl (S, .inr (2, s_fs N x)) H ∧ n_W D cA made N H ∧ v_W D cA v cnt row H)) (x_Q (some (.int (bI (s_s cnt row hv k ac th x)))) (x_same)) 0 0 (fun _ => False) := by
  refine x_met (own := "DecisionLayers$Statement") (by decide) rfl (Nat.le_of_ble_eq_true rfl) ?_
  intro pp ee s mm below mt cd ls hx hb hr hlk hnm hml hown hts hE hP hl
  have hl : lv_has ls 9 [(0, .ref S), (1, .int k), (2, .long ac), (4, .long th), (6, .ref v)] := hl
  obtain ⟨hS, hN, hV⟩ := hP
  obtain ⟨h16, hsi⟩ := hs
  refine lv_aload_n hx hb d_Statement_suits_0 rfl (lv_at hl 0 rfl) ?_
  refine fg_Statement_9_Statement hx hb hown hts hE hS rfl d_Statement_suits_1 ?_
  refine lv_iconst (v := 2) hx hb d_Statement_suits_4 (by decide) ?_
  refine lv_iand hx hb d_Statement_suits_5 ?_
  refine x_join 14 (fun ls st => lv_has ls 9 [(0, .ref S), (1, .int k), (2, .long ac), (4, .long th), (6, .ref v)] ∧ st = [.int (bI (x.1.testBit 1))]) ?_ (fun hj => ?_)
  · intro ls st hj
    obtain ⟨hl, rfl⟩ := hj
    refine lv_istore (lv' := [(7, .int (bI (x.1.testBit 1))), (0, .ref S), (1, .int k), (2, .long ac), (4, .long th), (6, .ref v)]) hx hb d_Statement_suits_14 hl (by decide) rfl (fun ls hl => ?_)
    refine lv_aload_n hx hb d_Statement_suits_16 rfl (lv_at hl 1 rfl) ?_
    refine fg_Statement_9_Statement hx hb hown hts hE hS rfl d_Statement_suits_17 ?_
    refine lv_iconst (v := 4) hx hb d_Statement_suits_20 (by decide) ?_
    refine lv_iand hx hb d_Statement_suits_21 ?_
    refine x_join 30 (fun ls st => lv_has ls 9 [(7, .int (bI (x.1.testBit 1))), (0, .ref S), (1, .int k), (2, .long ac), (4, .long th), (6, .ref v)] ∧ st = [.int (bI (x.1.testBit 2))]) ?_ (fun hj => ?_)
    · intro ls st hj
      obtain ⟨hl, rfl⟩ := hj
      refine lv_istore (lv' := [(8, .int (bI (x.1.testBit 2))), (7, .int (bI (x.1.testBit 1))), (0, .ref S), (1, .int k), (2, .long ac), (4, .long th), (6, .ref v)]) hx hb d_Statement_suits_30 hl (by decide) rfl (fun ls hl => ?_)
      refine lv_aload_n hx hb d_Statement_suits_32 rfl (lv_at hl 2 rfl) ?_
      refine lv_iload_n hx hb d_Statement_suits_33 rfl (lv_at hl 3 rfl) ?_
      refine x_cp (k_Statement_27 (As := [.int k]) (rest := []) hx hb hml hown hts (c_Statement_means l D cA S N x k) (x_preV hE hS rfl rfl hS) rfl hl.1 rfl (Nat.le_of_ble_eq_true rfl) d_Statement_suits_34 (by decide) ⟨Nat.zero_le _, Nat.zero_le _⟩) ?_
      refine lv_if_eq (tgt := 96) hx hb d_Statement_suits_37 (by decide) (fun m1 => ?_) (fun m1 => ?_)
      · refine lv_iconst (v := 0) hx hb d_Statement_suits_96 (by decide) ?_
        refine x_topi (y := bI (s_s cnt row hv k ac th x)) (by unfold s_s; rw [bI_0.mp m1]; rfl) ?_
        exact W.zret (ty := .boolean) hx hb hr (bI_z _) (fun t ht hW => ⟨rfl, ht⟩) (fun q h => by cases h) d_Statement_suits_97
      · refine lv_aload_n hx hb d_Statement_suits_40 rfl (lv_at hl 2 rfl) ?_
        refine fg_Statement_13_Statement hx hb hown hts hE hS rfl d_Statement_suits_41 ?_
        refine lv_lload_n hx hb d_Statement_suits_44 rfl (lv_at hl 4 rfl) ?_
        refine lv_iconst (v := 1) hx hb d_Statement_suits_45 (by decide) ?_
        refine lv_aload hx hb d_Statement_suits_46 (lv_at hl 6 rfl) ?_
        refine x_cp (k_Statement_31 (As := [.long x.2.1, .long ac, .int (bI true), .ref v]) (rest := []) hx hb hml hown hts (c_Pattern_fits l D cA v cnt row x.2.1 ac true) (x_preS hE hV) rfl hl.1 rfl (Nat.le_of_ble_eq_true rfl) d_Statement_suits_48 (by decide) ⟨Nat.zero_le _, Nat.zero_le _⟩) ?_
        refine lv_iload hx hb d_Statement_suits_51 (lv_at hl 1 rfl) ?_
        refine lv_icmp_eq (tgt := 96) hx hb d_Statement_suits_53 (by decide) (fun m2 => ?_) (fun m2 => ?_)
        · refine lv_iconst (v := 0) hx hb d_Statement_suits_96 (by decide) ?_
          refine x_topi (y := bI (s_s cnt row hv k ac th x)) (by unfold s_s; rw [bI_n0.mp m1, bI_eq.mp m2]; simp [bI]) ?_
          exact W.zret (ty := .boolean) hx hb hr (bI_z _) (fun t ht hW => ⟨rfl, ht⟩) (fun q h => by cases h) d_Statement_suits_97
        · have m2 : (pt_m cnt row x.2.1 ac true != x.1.testBit 1) = true := by have h9 := fun z => m2 (bI_eq.mpr z); revert h9; cases pt_m cnt row x.2.1 ac true <;> cases x.1.testBit 1 <;> intro h9 <;> first | rfl | exact absurd rfl h9
          refine lv_aload_n hx hb d_Statement_suits_56 rfl (lv_at hl 2 rfl) ?_
          refine fg_Statement_17_Statement hx hb hown hts hE hS rfl d_Statement_suits_57 ?_
          refine lv_lload hx hb d_Statement_suits_60 (lv_at hl 5 rfl) ?_
          refine lv_iconst (v := 0) hx hb d_Statement_suits_62 (by decide) ?_
          refine lv_aload hx hb d_Statement_suits_63 (lv_at hl 6 rfl) ?_
          refine x_cp (k_Statement_31 (As := [.long x.2.2.1, .long th, .int (bI false), .ref v]) (rest := []) hx hb hml hown hts (c_Pattern_fits l D cA v cnt row x.2.2.1 th false) (x_preS hE hV) rfl hl.1 rfl (Nat.le_of_ble_eq_true rfl) d_Statement_suits_65 (by decide) ⟨Nat.zero_le _, Nat.zero_le _⟩) ?_
          refine lv_iload hx hb d_Statement_suits_68 (lv_at hl 0 rfl) ?_
          refine lv_icmp_eq (tgt := 96) hx hb d_Statement_suits_70 (by decide) (fun m3 => ?_) (fun m3 => ?_)
          · refine lv_iconst (v := 0) hx hb d_Statement_suits_96 (by decide) ?_
            refine x_topi (y := bI (s_s cnt row hv k ac th x)) (by unfold s_s; rw [bI_n0.mp m1, m2, bI_eq.mp m3]; simp [bI]) ?_
            exact W.zret (ty := .boolean) hx hb hr (bI_z _) (fun t ht hW => ⟨rfl, ht⟩) (fun q h => by cases h) d_Statement_suits_97
          · have m3 : (pt_m cnt row x.2.2.1 th false != x.1.testBit 2) = true := by have h9 := fun z => m3 (bI_eq.mpr z); revert h9; cases pt_m cnt row x.2.2.1 th false <;> cases x.1.testBit 2 <;> intro h9 <;> first | rfl | exact absurd rfl h9
            have hR : s_s cnt row hv k ac th x = s_c hv x.2.2.2.2 := by unfold s_s; rw [bI_n0.mp m1, m2, m3]; rfl
            cases hsv : x.2.2.2.2 with
            | none =>
              refine lv_aload_n hx hb d_Statement_suits_73 rfl (lv_at hl 2 rfl) ?_
              refine fg_Statement_23_Statement hx hb hown hts hE hS rfl d_Statement_suits_74 ?_
              refine x_topv (y := .null) (by rw [hsv]; rfl) ?_
              refine lv_ifnullN (tgt := 92) hx hb d_Statement_suits_77 (by decide) ?_
              refine lv_iconst (v := 1) hx hb d_Statement_suits_92 (by decide) ?_
              refine lv_goto (tgt := 97) hx hb d_Statement_suits_93 (by decide) ?_
              refine x_topi (y := bI (s_s cnt row hv k ac th x)) (by rw [hR, hsv]; rfl) ?_
              exact W.zret (ty := .boolean) hx hb hr (bI_z _) (fun t ht hW => ⟨rfl, ht⟩) (fun q h => by cases h) d_Statement_suits_97
            | some i =>
              have him := hsi i hsv
              obtain ⟨-, -, hd5, hct, -⟩ := hok i him
              refine lv_aload_n hx hb d_Statement_suits_73 rfl (lv_at hl 2 rfl) ?_
              refine fg_Statement_23_Statement hx hb hown hts hE hS rfl d_Statement_suits_74 ?_
              refine x_topv (y := .ref (n_ad N i)) (by rw [hsv]; rfl) ?_
              refine lv_ifnull hx hb d_Statement_suits_77 ?_
              refine lv_aload_n hx hb d_Statement_suits_80 rfl (lv_at hl 2 rfl) ?_
              refine fg_Statement_23_Statement hx hb hown hts hE hS rfl d_Statement_suits_81 ?_
              refine x_topv (y := .ref (n_ad N i)) (by rw [hsv]; rfl) ?_
              refine lv_aload hx hb d_Statement_suits_84 (lv_at hl 6 rfl) ?_
              have key : CallRun pp l ee (x_rm 9 0 0) s mm [Value.ref S, Value.int k, Value.long ac, Value.long th, Value.ref v].toArray below mt cd s.heap [] 0 0 0 0 (F0 mm 86 ls [.ref v, .ref (n_ad N i)]) [] (x_Q (some (.int (bI (hv i)))) x_same (Value.ref (n_ad N i) :: [Value.ref v]).toArray) (fun _ => False) := by
                by_cases hc3 : n_kd N i = 3
                · obtain ⟨o8, k8, m8⟩ := hct hc3
                  have hTc := (hN i him).1 hc3
                  rw [show hv i = cn_t cnt row (n_op N i) (n_ky N i) (n_tt N i) (n_mk N i) by rw [hVe i him, if_pos hc3]]
                  exact k_Statement_37_Test (As := [.ref v]) (rest := []) hx hb hml hown hts hE (c_Test_isMet l D cA (n_ad N i) (nI (n_dp N i)) (n_op N i) (n_ky N i) (n_tt N i) (n_mk N i) v cnt row 4 o8 k8 m8 hvo) (x_preV hE hTc rfl rfl ⟨hTc, hV⟩) rfl hl.1 rfl (Nat.le_of_ble_eq_true rfl) d_Statement_suits_86 (by decide) ⟨Nat.zero_le _, Nat.zero_le _⟩
                · exact k_Statement_37_Joined (As := [.ref v]) (rest := []) hx hb hml hown hts hE (c_Joined_isMet l D cA v cnt row made N hv hok hvo hVe 5 i him hc3 hd5) (x_preV hE ((hN i him).2 hc3).1 rfl rfl ⟨hN, hV⟩) rfl hl.1 rfl (Nat.le_of_ble_eq_true rfl) d_Statement_suits_86 (by decide) ⟨Nat.zero_le _, Nat.zero_le _⟩
              refine x_cp key ?_
              refine lv_if_eq (tgt := 96) hx hb d_Statement_suits_89 (by decide) (fun m4 => ?_) (fun m4 => ?_)
              · refine lv_iconst (v := 0) hx hb d_Statement_suits_96 (by decide) ?_
                refine x_topi (y := bI (s_s cnt row hv k ac th x)) (by rw [hR, hsv]; show 0 = bI (hv i); rw [bI_0.mp m4]; rfl) ?_
                exact W.zret (ty := .boolean) hx hb hr (bI_z _) (fun t ht hW => ⟨rfl, ht⟩) (fun q h => by cases h) d_Statement_suits_97
              · refine lv_iconst (v := 1) hx hb d_Statement_suits_92 (by decide) ?_
                refine lv_goto (tgt := 97) hx hb d_Statement_suits_93 (by decide) ?_
                refine x_topi (y := bI (s_s cnt row hv k ac th x)) (by rw [hR, hsv]; show 1 = bI (hv i); rw [bI_n0.mp m4]; rfl) ?_
                exact W.zret (ty := .boolean) hx hb hr (bI_z _) (fun t ht hW => ⟨rfl, ht⟩) (fun q h => by cases h) d_Statement_suits_97
    · refine lv_if_eq (tgt := 29) hx hb d_Statement_suits_22 (by decide) (fun h1 => ?_) (fun h1 => ?_)
      · refine lv_iconst (v := 0) hx hb d_Statement_suits_29 (by decide) ?_
        refine x_topi (y := bI (x.1.testBit 2)) (by rw [(mk_4 _ h16).mp h1]; rfl) ?_
        exact hj _ _ ⟨(lv_sub hl [0, 1, 2, 3, 4, 5] rfl), rfl⟩
      · refine lv_iconst (v := 1) hx hb d_Statement_suits_25 (by decide) ?_
        refine lv_goto (tgt := 30) hx hb d_Statement_suits_26 (by decide) ?_
        refine x_topi (y := bI (x.1.testBit 2)) (by rw [show x.1.testBit 2 = true from Bool.not_eq_false _ ▸ (fun z => h1 ((mk_4 _ h16).mpr z))]; rfl) ?_
        exact hj _ _ ⟨(lv_sub hl [0, 1, 2, 3, 4, 5] rfl), rfl⟩
  · refine lv_if_eq (tgt := 13) hx hb d_Statement_suits_6 (by decide) (fun h1 => ?_) (fun h1 => ?_)
    · refine lv_iconst (v := 0) hx hb d_Statement_suits_13 (by decide) ?_
      refine x_topi (y := bI (x.1.testBit 1)) (by rw [(mk_2 _ h16).mp h1]; rfl) ?_
      exact hj _ _ ⟨(lv_sub hl [0, 1, 2, 3, 4] rfl), rfl⟩
    · refine lv_iconst (v := 1) hx hb d_Statement_suits_9 (by decide) ?_
      refine lv_goto (tgt := 14) hx hb d_Statement_suits_10 (by decide) ?_
      refine x_topi (y := bI (x.1.testBit 1)) (by rw [show x.1.testBit 1 = true from Bool.not_eq_false _ ▸ (fun z => h1 ((mk_2 _ h16).mpr z))]; rfl) ?_
      exact hj _ _ ⟨(lv_sub hl [0, 1, 2, 3, 4] rfl), rfl⟩
