set_option maxHeartbeats 4000000 in
set_option maxRecDepth 100000 in
theorem c_Pattern_meansSomething (l : Launch) (D : va_G) (cA : Nat → ClassId) (v : Nat) (cnt : Nat → Int32) (row : Nat → Int64) (k : Int32) : Met l y_Pattern_meansSomething [.code y_Pattern_meansSomething b_Pattern_meansSomething 2 (some .boolean)] (x_rm 1 0 0) (x_P D cA [.int k, .ref v] (fun H => v_W D cA v cnt row H)) (x_Q (some (.int (bI (pt_e k || pt_y cnt k)))) (x_same)) 0 0 (fun _ => False) := by
  refine x_met (own := "DecisionLayers$Pattern") (by decide) rfl (Nat.le_of_ble_eq_true rfl) ?_
  intro pp ee s mm below mt cd ls hx hb hr hlk hnm hml hown hts hE hP hl
  have hl : lv_has ls 2 [(0, .int k), (1, .ref v)] := hl
  refine lv_iload_n hx hb d_Pattern_meansSomething_0 rfl (lv_at hl 0 rfl) ?_
  refine lv_bipush (v := 36) hx hb d_Pattern_meansSomething_1 (by decide) ?_
  refine lv_icmp_eq (tgt := 30) hx hb d_Pattern_meansSomething_3 (by decide) (fun h1 => ?_) (fun h1 => ?_)
  · refine lv_iconst (v := 1) hx hb d_Pattern_meansSomething_30 (by decide) ?_
    refine lv_goto (tgt := 35) hx hb d_Pattern_meansSomething_31 (by decide) ?_
    refine x_topi (y := bI (pt_e k || pt_y cnt k)) (by rw [pt_e_y (Or.inl h1)]; rfl) ?_
    exact W.zret (ty := .boolean) hx hb hr (bI_z _) (fun t ht hW => ⟨rfl, ht⟩) (fun q h => by cases h) d_Pattern_meansSomething_35
  · refine lv_iload_n hx hb d_Pattern_meansSomething_6 rfl (lv_at hl 0 rfl) ?_
    refine lv_bipush (v := 42) hx hb d_Pattern_meansSomething_7 (by decide) ?_
    refine lv_icmp_eq (tgt := 30) hx hb d_Pattern_meansSomething_9 (by decide) (fun h2 => ?_) (fun h2 => ?_)
    · refine lv_iconst (v := 1) hx hb d_Pattern_meansSomething_30 (by decide) ?_
      refine lv_goto (tgt := 35) hx hb d_Pattern_meansSomething_31 (by decide) ?_
      refine x_topi (y := bI (pt_e k || pt_y cnt k)) (by rw [pt_e_y (Or.inr (Or.inl h2))]; rfl) ?_
      exact W.zret (ty := .boolean) hx hb hr (bI_z _) (fun t ht hW => ⟨rfl, ht⟩) (fun q h => by cases h) d_Pattern_meansSomething_35
    · refine lv_iload_n hx hb d_Pattern_meansSomething_12 rfl (lv_at hl 0 rfl) ?_
      refine lv_bipush (v := 63) hx hb d_Pattern_meansSomething_13 (by decide) ?_
      refine lv_icmp_eq (tgt := 30) hx hb d_Pattern_meansSomething_15 (by decide) (fun h3 => ?_) (fun h3 => ?_)
      · refine lv_iconst (v := 1) hx hb d_Pattern_meansSomething_30 (by decide) ?_
        refine lv_goto (tgt := 35) hx hb d_Pattern_meansSomething_31 (by decide) ?_
        refine x_topi (y := bI (pt_e k || pt_y cnt k)) (by rw [pt_e_y (Or.inr (Or.inr h3))]; rfl) ?_
        exact W.zret (ty := .boolean) hx hb hr (bI_z _) (fun t ht hW => ⟨rfl, ht⟩) (fun q h => by cases h) d_Pattern_meansSomething_35
      · refine lv_aload_n hx hb d_Pattern_meansSomething_18 rfl (lv_at hl 1 rfl) ?_
        refine lv_iload_n hx hb d_Pattern_meansSomething_19 rfl (lv_at hl 0 rfl) ?_
        refine lv_bipush (v := 48) hx hb d_Pattern_meansSomething_20 (by decide) ?_
        refine lv_isub hx hb d_Pattern_meansSomething_22 ?_
        refine x_cp (k_Pattern_38 (As := [.int (k - 48)]) (rest := []) hx hb hml hown hts (c_Values_count l D cA v cnt row (k - 48)) (x_preV hE hP.1 rfl rfl hP) rfl hl.1 rfl (Nat.le_of_ble_eq_true rfl) d_Pattern_meansSomething_23 (by decide) ⟨Nat.zero_le _, Nat.zero_le _⟩) ?_
        refine lv_iconst (v := 1) hx hb d_Pattern_meansSomething_26 (by decide) ?_
        refine lv_icmp_ne (tgt := 34) hx hb d_Pattern_meansSomething_27 (by decide) (fun h4 => ?_) (fun h4 => ?_)
        · refine lv_iconst (v := 0) hx hb d_Pattern_meansSomething_34 (by decide) ?_
          refine x_topi (y := bI (pt_e k || pt_y cnt k)) (by rw [pt_e_n h1 h2 h3, Bool.false_or, pt_y_c, bI_no h4]) ?_
          exact W.zret (ty := .boolean) hx hb hr (bI_z _) (fun t ht hW => ⟨rfl, ht⟩) (fun q h => by cases h) d_Pattern_meansSomething_35
        · refine lv_iconst (v := 1) hx hb d_Pattern_meansSomething_30 (by decide) ?_
          refine lv_goto (tgt := 35) hx hb d_Pattern_meansSomething_31 (by decide) ?_
          refine x_topi (y := bI (pt_e k || pt_y cnt k)) (by rw [pt_e_n h1 h2 h3, Bool.false_or, pt_y_c, bI_of h4]) ?_
          exact W.zret (ty := .boolean) hx hb hr (bI_z _) (fun t ht hW => ⟨rfl, ht⟩) (fun q h => by cases h) d_Pattern_meansSomething_35
set_option maxHeartbeats 4000000 in
set_option maxRecDepth 100000 in
theorem c_Pattern_meaning (l : Launch) (D : va_G) (cA : Nat → ClassId) (v : Nat) (cnt : Nat → Int32) (row : Nat → Int64) (k : Int32) (hk : 0 ≤ k - 48 ∧ k - 48 < 8 → cnt (k - 48).toNatClampNeg = 1) : Met l y_Pattern_meaning [.code y_Pattern_meaning b_Pattern_meaning 2 (some .long)] (x_rm 1 0 0) (x_P D cA [.int k, .ref v] (fun H => v_W D cA v cnt row H)) (x_Q (some (.long (pt_w row k))) (x_same)) 0 0 (fun _ => False) := by
  refine x_met (own := "DecisionLayers$Pattern") (by decide) rfl (Nat.le_of_ble_eq_true rfl) ?_
  intro pp ee s mm below mt cd ls hx hb hr hlk hnm hml hown hts hE hP hl
  have hl : lv_has ls 2 [(0, .int k), (1, .ref v)] := hl
  refine lv_iload_n hx hb d_Pattern_meaning_0 rfl (lv_at hl 0 rfl) ?_
  refine lv_bipush (v := 48) hx hb d_Pattern_meaning_1 (by decide) ?_
  refine lv_isub hx hb d_Pattern_meaning_3 ?_
  refine x_cp (k_Pattern_44 (As := [.int (k - 48)]) (rest := []) hx hb hml hown hts (c_Values_isKey l D cA (k - 48)) (x_preS hE trivial) rfl hl.1 rfl (Nat.le_of_ble_eq_true rfl) d_Pattern_meaning_4 (by decide) ⟨Nat.zero_le _, Nat.zero_le _⟩) ?_
  refine lv_if_eq (tgt := 22) hx hb d_Pattern_meaning_7 (by decide) (fun h1 => ?_) (fun h1 => ?_)
  · have h1 := of_decide_eq_false (bI_0.mp h1)
    refine lv_iload_n hx hb d_Pattern_meaning_22 rfl (lv_at hl 0 rfl) ?_
    refine lv_i2l hx hb d_Pattern_meaning_23 rfl ?_
    refine x_topl (y := pt_w row k) (by unfold pt_w; rw [if_neg h1]) ?_
    exact W.lret hx hb hr (fun t ht hW => ⟨rfl, ht⟩) (fun q h => by cases h) d_Pattern_meaning_24
  · have h1 := of_decide_eq_true (bI_n0.mp h1)
    have hk1 := hk h1
    obtain ⟨j, hj, e⟩ := vl_key' h1.1 h1.2
    have ej : (k - 48).toNatClampNeg = j := by rw [e]; exact nI_clamp (by omega)
    refine lv_aload_n hx hb d_Pattern_meaning_10 rfl (lv_at hl 1 rfl) ?_
    refine lv_iload_n hx hb d_Pattern_meaning_11 rfl (lv_at hl 0 rfl) ?_
    refine lv_bipush (v := 48) hx hb d_Pattern_meaning_12 (by decide) ?_
    refine lv_isub hx hb d_Pattern_meaning_14 ?_
    refine x_topi (y := nI j) e ?_
    refine lv_iconst (v := 0) hx hb d_Pattern_meaning_15 (by decide) ?_
    refine x_cp (k_Pattern_48 (As := [.int (nI j), .int 0]) (rest := []) hx hb hml hown hts (c_Values_get l D cA v cnt row j 0 1 hj (by rw [← ej]; exact hk1) (by decide) (by decide)) (x_preV hE hP.1 rfl rfl hP) rfl hl.1 rfl (Nat.le_of_ble_eq_true rfl) d_Pattern_meaning_16 (by decide) ⟨Nat.zero_le _, Nat.zero_le _⟩) ?_
    refine lv_goto (tgt := 24) hx hb d_Pattern_meaning_19 (by decide) ?_
    refine x_topl (y := pt_w row k) (by unfold pt_w; rw [if_pos h1, ej]; rfl) ?_
    exact W.lret hx hb hr (fun t ht hW => ⟨rfl, ht⟩) (fun q h => by cases h) d_Pattern_meaning_24
set_option maxHeartbeats 4000000 in
set_option maxRecDepth 100000 in
theorem c_Pattern_readAnyRow (l : Launch) (D : va_G) (cA : Nat → ClassId) (y : Int64) (q : Nat) (hq : q < 2 ^ (tx_n y + 1)) : Met l y_Pattern_readAnyRow [.code y_Pattern_readAnyRow b_Pattern_readAnyRow 5 (some .int)] (x_rm 1 0 0) (x_P D cA [.int (nI q), .long y] (fun _ => True)) (x_Q (some (.int (nI (pl_s (tx_n y) q (tx_n y + 1))))) (x_same)) 0 0 (fun _ => False) := by
  refine x_met (own := "DecisionLayers$Pattern") (by decide) rfl (Nat.le_of_ble_eq_true rfl) ?_
  intro pp ee s mm below mt cd ls hx hb hr hlk hnm hml hown hts hE hP hl
  have hl : lv_has ls 5 [(0, .int (nI q)), (1, .long y)] := hl
  refine lv_iload_n hx hb d_Pattern_readAnyRow_0 rfl (lv_at hl 0 rfl) ?_
  refine lv_iload_n hx hb d_Pattern_readAnyRow_1 rfl (lv_at hl 0 rfl) ?_
  refine lv_ineg hx hb d_Pattern_readAnyRow_2 ?_
  refine lv_iand hx hb d_Pattern_readAnyRow_3 ?_
  refine lv_istore_n (lv' := [(3, .int ((nI q) &&& (-(nI q)))), (0, .int (nI q)), (1, .long y)]) hx hb d_Pattern_readAnyRow_4 rfl hl (by decide) rfl (fun ls hl => ?_)
  refine lv_iconst (v := 2) hx hb d_Pattern_readAnyRow_5 (by decide) ?_
  refine lv_lload_n hx hb d_Pattern_readAnyRow_6 rfl (lv_at hl 2 rfl) ?_
  refine x_cp (k_Pattern_7 (As := [.long y]) (rest := [.int 2]) hx hb hml hown hts (c_Text_length l D cA y) (x_preS hE trivial) rfl hl.1 rfl (Nat.le_of_ble_eq_true rfl) d_Pattern_readAnyRow_7 (by decide) ⟨Nat.zero_le _, Nat.zero_le _⟩) ?_
  refine lv_ishl hx hb d_Pattern_readAnyRow_10 ?_
  refine lv_iconst (v := 1) hx hb d_Pattern_readAnyRow_11 (by decide) ?_
  refine lv_isub hx hb d_Pattern_readAnyRow_12 ?_
  refine lv_istore (lv' := [(4, .int ((2 <<< ((nI (tx_n y)) &&& 31)) - 1)), (3, .int ((nI q) &&& (-(nI q)))), (0, .int (nI q)), (1, .long y)]) hx hb d_Pattern_readAnyRow_13 hl (by decide) rfl (fun ls hl => ?_)
  refine lv_iload_n hx hb d_Pattern_readAnyRow_15 rfl (lv_at hl 1 rfl) ?_
  refine lv_ineg hx hb d_Pattern_readAnyRow_16 ?_
  refine lv_iload hx hb d_Pattern_readAnyRow_17 (lv_at hl 0 rfl) ?_
  refine lv_iand hx hb d_Pattern_readAnyRow_19 ?_
  refine x_topi (y := nI (pl_s (tx_n y) q (tx_n y + 1))) (pl_any (tx_n y) (by have := tx_le y; omega) q (pl_512 (tx_le y) hq) hq) ?_
  exact W.iret hx hb hr (fun t ht hW => ⟨rfl, ht⟩) (fun q h => by cases h) d_Pattern_readAnyRow_20
set_option maxHeartbeats 4000000 in
set_option maxRecDepth 100000 in
theorem c_Pattern_readAnyOne (l : Launch) (D : va_G) (cA : Nat → ClassId) (y : Int64) (q : Nat) (hq : q < 2 ^ (tx_n y + 1)) : Met l y_Pattern_readAnyOne [.code y_Pattern_readAnyOne b_Pattern_readAnyOne 4 (some .int)] (x_rm 1 0 0) (x_P D cA [.int (nI q), .long y] (fun _ => True)) (x_Q (some (.int (nI (pl_c (fun _ => true) q (tx_n y))))) (x_same)) 0 0 (fun _ => False) := by
  refine x_met (own := "DecisionLayers$Pattern") (by decide) rfl (Nat.le_of_ble_eq_true rfl) ?_
  intro pp ee s mm below mt cd ls hx hb hr hlk hnm hml hown hts hE hP hl
  have hl : lv_has ls 4 [(0, .int (nI q)), (1, .long y)] := hl
  refine lv_iconst (v := 2) hx hb d_Pattern_readAnyOne_0 (by decide) ?_
  refine lv_lload_n hx hb d_Pattern_readAnyOne_1 rfl (lv_at hl 1 rfl) ?_
  refine x_cp (k_Pattern_7 (As := [.long y]) (rest := [.int 2]) hx hb hml hown hts (c_Text_length l D cA y) (x_preS hE trivial) rfl hl.1 rfl (Nat.le_of_ble_eq_true rfl) d_Pattern_readAnyOne_2 (by decide) ⟨Nat.zero_le _, Nat.zero_le _⟩) ?_
  refine lv_ishl hx hb d_Pattern_readAnyOne_5 ?_
  refine lv_iconst (v := 1) hx hb d_Pattern_readAnyOne_6 (by decide) ?_
  refine lv_isub hx hb d_Pattern_readAnyOne_7 ?_
  refine lv_istore_n (lv' := [(3, .int ((2 <<< ((nI (tx_n y)) &&& 31)) - 1)), (0, .int (nI q)), (1, .long y)]) hx hb d_Pattern_readAnyOne_8 rfl hl (by decide) rfl (fun ls hl => ?_)
  refine lv_iload_n hx hb d_Pattern_readAnyOne_9 rfl (lv_at hl 1 rfl) ?_
  refine lv_iconst (v := 1) hx hb d_Pattern_readAnyOne_10 (by decide) ?_
  refine lv_ishl hx hb d_Pattern_readAnyOne_11 ?_
  refine lv_iload_n hx hb d_Pattern_readAnyOne_12 rfl (lv_at hl 0 rfl) ?_
  refine lv_iand hx hb d_Pattern_readAnyOne_13 ?_
  refine x_topi (y := nI (pl_c (fun _ => true) q (tx_n y))) (pl_one (tx_n y) (by have := tx_le y; omega) q (pl_512 (tx_le y) hq) hq) ?_
  exact W.iret hx hb hr (fun t ht hW => ⟨rfl, ht⟩) (fun q h => by cases h) d_Pattern_readAnyOne_14
set_option maxHeartbeats 4000000 in
set_option maxRecDepth 100000 in
theorem c_Pattern_readText (l : Launch) (D : va_G) (cA : Nat → ClassId) (wd y : Int64) (lo : Bool) (q : Nat) (hq : q < 2 ^ (tx_n y + 1)) : Met l y_Pattern_readText [.code y_Pattern_readText b_Pattern_readText 13 (some .int)] (x_rm 1 0 0) (x_P D cA [.int (nI q), .long wd, .long y, .int (bI lo)] (fun _ => True)) (x_Q (some (.int (nI (pt_r y lo (pt_v wd) q)))) (x_same)) 0 0 (fun _ => False) := by
  refine x_met (own := "DecisionLayers$Pattern") (by decide) rfl (Nat.le_of_ble_eq_true rfl) ?_
  intro pp ee s mm below mt cd ls hx hb hr hlk hnm hml hown hts hE hP hl
  have hl : lv_has ls 13 [(0, .int (nI q)), (1, .long wd), (3, .long y), (5, .int (bI lo))] := hl
  refine lv_lload_n hx hb d_Pattern_readText_0 rfl (lv_at hl 1 rfl) ?_
  refine x_cp (k_Pattern_7 (As := [.long wd]) (rest := []) hx hb hml hown hts (c_Text_length l D cA wd) (x_preS hE trivial) rfl hl.1 rfl (Nat.le_of_ble_eq_true rfl) d_Pattern_readText_1 (by decide) ⟨Nat.zero_le _, Nat.zero_le _⟩) ?_
  refine lv_istore (lv' := [(6, .int (nI (tx_n wd))), (0, .int (nI q)), (1, .long wd), (3, .long y), (5, .int (bI lo))]) hx hb d_Pattern_readText_4 hl (by decide) rfl (fun ls hl => ?_)
  refine lv_lload_n hx hb d_Pattern_readText_6 rfl (lv_at hl 3 rfl) ?_
  refine x_cp (k_Pattern_7 (As := [.long y]) (rest := []) hx hb hml hown hts (c_Text_length l D cA y) (x_preS hE trivial) rfl hl.1 rfl (Nat.le_of_ble_eq_true rfl) d_Pattern_readText_7 (by decide) ⟨Nat.zero_le _, Nat.zero_le _⟩) ?_
  refine lv_istore (lv' := [(7, .int (nI (tx_n y))), (6, .int (nI (tx_n wd))), (0, .int (nI q)), (1, .long wd), (3, .long y), (5, .int (bI lo))]) hx hb d_Pattern_readText_10 hl (by decide) rfl (fun ls hl => ?_)
  refine lv_iload_n hx hb d_Pattern_readText_12 rfl (lv_at hl 2 rfl) ?_
  refine lv_istore (lv' := [(8, .int (nI q)), (7, .int (nI (tx_n y))), (6, .int (nI (tx_n wd))), (0, .int (nI q)), (1, .long wd), (3, .long y), (5, .int (bI lo))]) hx hb d_Pattern_readText_13 hl (by decide) rfl (fun ls hl => ?_)
  refine lv_iconst (v := 0) hx hb d_Pattern_readText_15 (by decide) ?_
  refine lv_istore (lv' := [(9, .int 0), (8, .int (nI q)), (7, .int (nI (tx_n y))), (6, .int (nI (tx_n wd))), (0, .int (nI q)), (1, .long wd), (3, .long y), (5, .int (bI lo))]) hx hb d_Pattern_readText_16 hl (by decide) rfl (fun ls hl => ?_)
  have hy8 := tx_le y
  have hw8 := tx_le wd
  refine x_loop (I := fun n ls => ∃ k, k + n = tx_n wd ∧ lv_has ls 13 [(9, .int (nI k)), (8, .int (nI (pt_p y lo wd k q))), (7, .int (nI (tx_n y))), (6, .int (nI (tx_n wd))), (1, .long wd), (3, .long y), (5, .int (bI lo))]) (fun n ls ih h => ?_) (tx_n wd) ⟨0, by omega, (lv_sub hl [0, 1, 2, 3, 5, 6, 7] rfl)⟩
  obtain ⟨k, hk, hl⟩ := h
  refine lv_iload hx hb d_Pattern_readText_18 (lv_at hl 0 rfl) ?_
  refine lv_iload hx hb d_Pattern_readText_20 (lv_at hl 3 rfl) ?_
  refine lv_icmp_ge (tgt := 97) hx hb d_Pattern_readText_22 (by decide) (fun h1 => ?_) (fun h1 => ?_)
  · have h1 := n_ge h1 (by omega) (by omega)
    refine lv_iload hx hb d_Pattern_readText_97 (lv_at hl 1 rfl) ?_
    refine x_topi (y := nI (pt_r y lo (pt_v wd) q)) (by rw [← pt_p_n, show k = tx_n wd by omega]) ?_
    exact W.iret hx hb hr (fun t ht hW => ⟨rfl, ht⟩) (fun q h => by cases h) d_Pattern_readText_99
  · have h1 := n_lt h1 (by omega) (by omega)
    have hQ := pt_p_lt y lo wd k hq
    generalize hQe : pt_p y lo wd k q = Q at hQ hl
    have hQ5 := pl_512 hy8 hQ
    refine lv_lload_n hx hb d_Pattern_readText_25 rfl (lv_at hl 4 rfl) ?_
    refine lv_iload hx hb d_Pattern_readText_26 (lv_at hl 0 rfl) ?_
    refine x_cp (k_Pattern_15 (As := [.long wd, .int (nI k)]) (rest := []) hx hb hml hown hts (c_Text_charAt l D cA wd k (by omega)) (x_preS hE trivial) rfl hl.1 rfl (Nat.le_of_ble_eq_true rfl) d_Pattern_readText_28 (by decide) ⟨Nat.zero_le _, Nat.zero_le _⟩) ?_
    refine lv_istore (lv' := [(10, .int (tx_c wd k)), (9, .int (nI k)), (8, .int (nI Q)), (7, .int (nI (tx_n y))), (6, .int (nI (tx_n wd))), (1, .long wd), (3, .long y), (5, .int (bI lo))]) hx hb d_Pattern_readText_31 hl (by decide) rfl (fun ls hl => ?_)
    refine lv_iconst (v := 0) hx hb d_Pattern_readText_33 (by decide) ?_
    refine lv_istore (lv' := [(11, .int 0), (10, .int (tx_c wd k)), (9, .int (nI k)), (8, .int (nI Q)), (7, .int (nI (tx_n y))), (6, .int (nI (tx_n wd))), (1, .long wd), (3, .long y), (5, .int (bI lo))]) hx hb d_Pattern_readText_34 hl (by decide) rfl (fun ls hl => ?_)
    refine lv_iconst (v := 0) hx hb d_Pattern_readText_36 (by decide) ?_
    refine lv_istore (lv' := [(12, .int 0), (11, .int 0), (10, .int (tx_c wd k)), (9, .int (nI k)), (8, .int (nI Q)), (7, .int (nI (tx_n y))), (6, .int (nI (tx_n wd))), (1, .long wd), (3, .long y), (5, .int (bI lo))]) hx hb d_Pattern_readText_37 hl (by decide) rfl (fun ls hl => ?_)
    refine x_loop (I := fun n2 ls => ∃ i, i + n2 = tx_n y ∧ lv_has ls 13 [(12, .int (nI i)), (11, .int (nI (pl_c (pt_P y lo (tx_c wd k)) Q i))), (10, .int (tx_c wd k)), (9, .int (nI k)), (8, .int (nI Q)), (7, .int (nI (tx_n y))), (6, .int (nI (tx_n wd))), (1, .long wd), (3, .long y), (5, .int (bI lo))]) (fun n2 ls ih2 h => ?_) (tx_n y) ⟨0, by omega, (lv_sub hl [0, 1, 2, 3, 4, 5, 6, 7, 8, 9] rfl)⟩
    obtain ⟨i, hi, hl⟩ := h
    refine lv_iload hx hb d_Pattern_readText_39 (lv_at hl 0 rfl) ?_
    refine lv_iload hx hb d_Pattern_readText_41 (lv_at hl 5 rfl) ?_
    refine lv_icmp_ge (tgt := 87) hx hb d_Pattern_readText_43 (by decide) (fun h2 => ?_) (fun h2 => ?_)
    · have h2 := n_ge h2 (by omega) (by omega)
      have hi : i = tx_n y := by omega
      subst hi
      refine lv_iload hx hb d_Pattern_readText_87 (lv_at hl 1 rfl) ?_
      refine lv_istore (lv' := [(8, .int (nI (pl_c (pt_P y lo (tx_c wd k)) Q (tx_n y)))), (12, .int (nI (tx_n y))), (11, .int (nI (pl_c (pt_P y lo (tx_c wd k)) Q (tx_n y)))), (10, .int (tx_c wd k)), (9, .int (nI k)), (7, .int (nI (tx_n y))), (6, .int (nI (tx_n wd))), (1, .long wd), (3, .long y), (5, .int (bI lo))]) hx hb d_Pattern_readText_89 hl (by decide) rfl (fun ls hl => ?_)
      refine lv_iinc (k := 4) (v := nI (k + 1)) (lv' := [(9, .int (nI (k + 1))), (8, .int (nI (pl_c (pt_P y lo (tx_c wd k)) Q (tx_n y)))), (12, .int (nI (tx_n y))), (11, .int (nI (pl_c (pt_P y lo (tx_c wd k)) Q (tx_n y)))), (10, .int (tx_c wd k)), (7, .int (nI (tx_n y))), (6, .int (nI (tx_n wd))), (1, .long wd), (3, .long y), (5, .int (bI lo))]) hx hb d_Pattern_readText_91 hl rfl (x_inc _) (by decide) rfl (fun ls hl => ?_)
      refine lv_goto (tgt := 18) hx hb d_Pattern_readText_94 (by decide) ?_
      exact ih (n - 1) _ (by omega) ⟨k + 1, by omega, by
        have h9 := (lv_sub hl [0, 1, 5, 6, 7, 8, 9] rfl)
        rw [pt_p_s, hQe, pt_s_P]; exact h9⟩
    · have h2 := n_lt h2 (by omega) (by omega)
      refine lv_iload hx hb d_Pattern_readText_46 (lv_at hl 4 rfl) ?_
      refine lv_iload hx hb d_Pattern_readText_48 (lv_at hl 0 rfl) ?_
      refine lv_iushr hx hb d_Pattern_readText_50 rfl ?_
      refine lv_iconst (v := 1) hx hb d_Pattern_readText_51 (by decide) ?_
      refine lv_iand hx hb d_Pattern_readText_52 ?_
      refine x_topi (y := bI (Q.testBit i)) (pl_bu _ hQ5 _ (by omega)) ?_
      refine lv_if_eq (tgt := 81) hx hb d_Pattern_readText_53 (by decide) (fun h3 => ?_) (fun h3 => ?_)
      · refine lv_iinc (k := 0) (v := nI (i + 1)) (lv' := [(12, .int (nI (i + 1))), (11, .int (nI (pl_c (pt_P y lo (tx_c wd k)) Q i))), (10, .int (tx_c wd k)), (9, .int (nI k)), (8, .int (nI Q)), (7, .int (nI (tx_n y))), (6, .int (nI (tx_n wd))), (1, .long wd), (3, .long y), (5, .int (bI lo))]) hx hb d_Pattern_readText_81 hl rfl (x_inc _) (by decide) rfl (fun ls hl => ?_)
        refine lv_goto (tgt := 39) hx hb d_Pattern_readText_84 (by decide) ?_
        exact ih2 (n2 - 1) _ (by omega) ⟨i + 1, by omega, by
          have h9 := (lv_sub hl [0, 1, 2, 3, 4, 5, 6, 7, 8, 9] rfl)
          rw [pl_c_f1 (bI_0.mp h3)]; exact h9⟩
      · refine lv_iload hx hb d_Pattern_readText_56 (lv_at hl 2 rfl) ?_
        refine lv_lload_n hx hb d_Pattern_readText_58 rfl (lv_at hl 8 rfl) ?_
        refine lv_iload hx hb d_Pattern_readText_59 (lv_at hl 0 rfl) ?_
        refine x_cp (k_Pattern_15 (As := [.long y, .int (nI i)]) (rest := [.int (tx_c wd k)]) hx hb hml hown hts (c_Text_charAt l D cA y i (by omega)) (x_preS hE trivial) rfl hl.1 rfl (Nat.le_of_ble_eq_true rfl) d_Pattern_readText_61 (by decide) ⟨Nat.zero_le _, Nat.zero_le _⟩) ?_
        refine lv_iload hx hb d_Pattern_readText_64 (lv_at hl 9 rfl) ?_
        refine x_cp (k_Pattern_52 (As := [.int (tx_c wd k), .int (tx_c y i), .int (bI lo)]) (rest := []) hx hb hml hown hts (c_Text_isAlike l D cA (tx_c wd k) (tx_c y i) lo) (x_preS hE trivial) rfl hl.1 rfl (Nat.le_of_ble_eq_true rfl) d_Pattern_readText_66 (by decide) ⟨Nat.zero_le _, Nat.zero_le _⟩) ?_
        refine lv_if_eq (tgt := 81) hx hb d_Pattern_readText_69 (by decide) (fun h4 => ?_) (fun h4 => ?_)
        · refine lv_iinc (k := 0) (v := nI (i + 1)) (lv' := [(12, .int (nI (i + 1))), (11, .int (nI (pl_c (pt_P y lo (tx_c wd k)) Q i))), (10, .int (tx_c wd k)), (9, .int (nI k)), (8, .int (nI Q)), (7, .int (nI (tx_n y))), (6, .int (nI (tx_n wd))), (1, .long wd), (3, .long y), (5, .int (bI lo))]) hx hb d_Pattern_readText_81 hl rfl (x_inc _) (by decide) rfl (fun ls hl => ?_)
          refine lv_goto (tgt := 39) hx hb d_Pattern_readText_84 (by decide) ?_
          exact ih2 (n2 - 1) _ (by omega) ⟨i + 1, by omega, by
            have h9 := (lv_sub hl [0, 1, 2, 3, 4, 5, 6, 7, 8, 9] rfl)
            rw [pl_c_f2 (bI_0.mp h4)]; exact h9⟩
        · refine lv_iload hx hb d_Pattern_readText_72 (lv_at hl 1 rfl) ?_
          refine lv_iconst (v := 2) hx hb d_Pattern_readText_74 (by decide) ?_
          refine lv_iload hx hb d_Pattern_readText_75 (lv_at hl 0 rfl) ?_
          refine lv_ishl hx hb d_Pattern_readText_77 ?_
          refine lv_ior hx hb d_Pattern_readText_78 ?_
          refine x_topi (y := nI (pl_c (pt_P y lo (tx_c wd k)) Q (i + 1))) (by rw [pl_s2 _ (by omega), nI_or, pl_c_t (bI_n0.mp h3) (bI_n0.mp h4)]) ?_
          refine lv_istore (lv' := [(11, .int (nI (pl_c (pt_P y lo (tx_c wd k)) Q (i + 1)))), (12, .int (nI i)), (10, .int (tx_c wd k)), (9, .int (nI k)), (8, .int (nI Q)), (7, .int (nI (tx_n y))), (6, .int (nI (tx_n wd))), (1, .long wd), (3, .long y), (5, .int (bI lo))]) hx hb d_Pattern_readText_79 hl (by decide) rfl (fun ls hl => ?_)
          refine lv_iinc (k := 1) (v := nI (i + 1)) (lv' := [(12, .int (nI (i + 1))), (11, .int (nI (pl_c (pt_P y lo (tx_c wd k)) Q (i + 1)))), (10, .int (tx_c wd k)), (9, .int (nI k)), (8, .int (nI Q)), (7, .int (nI (tx_n y))), (6, .int (nI (tx_n wd))), (1, .long wd), (3, .long y), (5, .int (bI lo))]) hx hb d_Pattern_readText_81 hl rfl (x_inc _) (by decide) rfl (fun ls hl => ?_)
          refine lv_goto (tgt := 39) hx hb d_Pattern_readText_84 (by decide) ?_
          exact ih2 (n2 - 1) _ (by omega) ⟨i + 1, by omega, (lv_sub hl [0, 1, 2, 3, 4, 5, 6, 7, 8, 9] rfl)⟩
set_option maxHeartbeats 4000000 in
set_option maxRecDepth 100000 in
theorem c_Pattern_fits (l : Launch) (D : va_G) (cA : Nat → ClassId) (v : Nat) (cnt : Nat → Int32) (row : Nat → Int64) (x y : Int64) (lo : Bool) : Met l y_Pattern_fits [.code y_Pattern_fits b_Pattern_fits 11 (some .boolean)] (x_rm 2 0 0) (x_P D cA [.long x, .long y, .int (bI lo), .ref v] (fun H => v_W D cA v cnt row H)) (x_Q (some (.int (bI (pt_m cnt row x y lo)))) (x_same)) 0 0 (fun _ => False) := by
  refine x_met (own := "DecisionLayers$Pattern") (by decide) rfl (Nat.le_of_ble_eq_true rfl) ?_
  intro pp ee s mm below mt cd ls hx hb hr hlk hnm hml hown hts hE hP hl
  have hl : lv_has ls 11 [(0, .long x), (2, .long y), (4, .int (bI lo)), (5, .ref v)] := hl
  refine lv_lload_n hx hb d_Pattern_fits_0 rfl (lv_at hl 0 rfl) ?_
  refine x_cp (k_Pattern_7 (As := [.long x]) (rest := []) hx hb hml hown hts (c_Text_length l D cA x) (x_preS hE trivial) rfl hl.1 rfl (Nat.le_of_ble_eq_true rfl) d_Pattern_fits_1 (by decide) ⟨Nat.zero_le _, Nat.zero_le _⟩) ?_
  refine lv_istore (lv' := [(6, .int (nI (tx_n x))), (0, .long x), (2, .long y), (4, .int (bI lo)), (5, .ref v)]) hx hb d_Pattern_fits_4 hl (by decide) rfl (fun ls hl => ?_)
  refine lv_iconst (v := 1) hx hb d_Pattern_fits_6 (by decide) ?_
  refine lv_istore (lv' := [(7, .int 1), (6, .int (nI (tx_n x))), (0, .long x), (2, .long y), (4, .int (bI lo)), (5, .ref v)]) hx hb d_Pattern_fits_7 hl (by decide) rfl (fun ls hl => ?_)
  refine lv_iconst (v := 0) hx hb d_Pattern_fits_9 (by decide) ?_
  refine lv_istore (lv' := [(8, .int 0), (7, .int 1), (6, .int (nI (tx_n x))), (0, .long x), (2, .long y), (4, .int (bI lo)), (5, .ref v)]) hx hb d_Pattern_fits_10 hl (by decide) rfl (fun ls hl => ?_)
  refine lv_iconst (v := 0) hx hb d_Pattern_fits_12 (by decide) ?_
  refine lv_istore (lv' := [(9, .int 0), (8, .int 0), (7, .int 1), (6, .int (nI (tx_n x))), (0, .long x), (2, .long y), (4, .int (bI lo)), (5, .ref v)]) hx hb d_Pattern_fits_13 hl (by decide) rfl (fun ls hl => ?_)
  have hy8 := tx_le y
  have hx8 := tx_le x
  refine x_loop (I := fun n ls => ∃ (i : Nat) (b : Bool) (q : Nat), i + n = tx_n x ∧ q < 2 ^ (tx_n y + 1) ∧ (b = false → pt_m cnt row x y lo = pt_o y lo (pt_k cnt row x n) q) ∧ (b = true → ∃ i1 : Nat, i = i1 + 1 ∧ tx_c x i1 = 36 ∧ pt_m cnt row x y lo = pt_o y lo (pt_k cnt row x (n + 1)) q) ∧ lv_has ls 11 [(9, .int (nI i)), (8, .int (bI b)), (7, .int (nI q)), (6, .int (nI (tx_n x))), (0, .long x), (2, .long y), (4, .int (bI lo)), (5, .ref v)]) (fun n ls ih h => ?_) (tx_n x) ⟨0, false, 1, by omega, Nat.one_lt_two_pow (by omega), fun _ => pt_m_o cnt row x y lo, (fun h => by cases h), (lv_sub hl [0, 1, 2, 3, 4, 5, 6, 7] rfl)⟩
  obtain ⟨i, b, q, hi, hq, hf, ht, hl⟩ := h
  refine lv_iload hx hb d_Pattern_fits_15 (lv_at hl 0 rfl) ?_
  refine lv_iload hx hb d_Pattern_fits_17 (lv_at hl 3 rfl) ?_
  refine lv_icmp_ge (tgt := 138) hx hb d_Pattern_fits_19 (by decide) (fun h1 => ?_) (fun h1 => ?_)
  · have h1 := n_ge h1 (by omega) (by omega)
    have hn : n = 0 := by omega
    subst hn
    refine lv_iload hx hb d_Pattern_fits_138 (lv_at hl 1 rfl) ?_
    refine lv_if_ne (tgt := 159) hx hb d_Pattern_fits_140 (by decide) (fun h2 => ?_) (fun h2 => ?_)
    · obtain ⟨i1, e1, e2, e3⟩ := ht (bI_n0.mp h2)
      refine lv_iconst (v := 0) hx hb d_Pattern_fits_159 (by decide) ?_
      refine x_topi (y := bI (pt_m cnt row x y lo)) (by rw [e3, pt_k_e (i := i1) (by omega) e2]; rfl) ?_
      exact W.zret (ty := .boolean) hx hb hr (bI_z _) (fun t ht hW => ⟨rfl, ht⟩) (fun q h => by cases h) d_Pattern_fits_160
    · have hf := hf (bI_0.mp h2)
      refine lv_iload hx hb d_Pattern_fits_143 (lv_at hl 2 rfl) ?_
      refine lv_lload_n hx hb d_Pattern_fits_145 rfl (lv_at hl 5 rfl) ?_
      refine x_cp (k_Pattern_7 (As := [.long y]) (rest := [.int (nI q)]) hx hb hml hown hts (c_Text_length l D cA y) (x_preS hE trivial) rfl hl.1 rfl (Nat.le_of_ble_eq_true rfl) d_Pattern_fits_146 (by decide) ⟨Nat.zero_le _, Nat.zero_le _⟩) ?_
      refine lv_iushr hx hb d_Pattern_fits_149 rfl ?_
      refine lv_iconst (v := 1) hx hb d_Pattern_fits_150 (by decide) ?_
      refine lv_iand hx hb d_Pattern_fits_151 ?_
      refine x_topi (y := bI (q.testBit (tx_n y))) (pl_bu _ (pl_512 hy8 hq) _ (by omega)) ?_
      refine lv_if_eq (tgt := 159) hx hb d_Pattern_fits_152 (by decide) (fun h3 => ?_) (fun h3 => ?_)
      · refine lv_iconst (v := 0) hx hb d_Pattern_fits_159 (by decide) ?_
        refine x_topi (y := bI (pt_m cnt row x y lo)) (by rw [hf]; exact (congrArg bI (show pt_o y lo (some []) q = false from bI_0.mp h3)).symm) ?_
        exact W.zret (ty := .boolean) hx hb hr (bI_z _) (fun t ht hW => ⟨rfl, ht⟩) (fun q h => by cases h) d_Pattern_fits_160
      · refine lv_iconst (v := 1) hx hb d_Pattern_fits_155 (by decide) ?_
        refine lv_goto (tgt := 160) hx hb d_Pattern_fits_156 (by decide) ?_
        refine x_topi (y := bI (pt_m cnt row x y lo)) (by rw [hf]; exact (congrArg bI (show pt_o y lo (some []) q = true from bI_n0.mp h3)).symm) ?_
        exact W.zret (ty := .boolean) hx hb hr (bI_z _) (fun t ht hW => ⟨rfl, ht⟩) (fun q h => by cases h) d_Pattern_fits_160
  · have h1 := n_lt h1 (by omega) (by omega)
    obtain ⟨r, rfl⟩ : ∃ r, n = r + 1 := ⟨n - 1, by omega⟩
    obtain ⟨j, hj, hj0, hc⟩ := tx_c_pos h1
    refine lv_lload_n hx hb d_Pattern_fits_22 rfl (lv_at hl 4 rfl) ?_
    refine lv_iload hx hb d_Pattern_fits_23 (lv_at hl 0 rfl) ?_
    refine x_cp (k_Pattern_15 (As := [.long x, .int (nI i)]) (rest := []) hx hb hml hown hts (c_Text_charAt l D cA x i (by omega)) (x_preS hE trivial) rfl hl.1 rfl (Nat.le_of_ble_eq_true rfl) d_Pattern_fits_25 (by decide) ⟨Nat.zero_le _, Nat.zero_le _⟩) ?_
    refine lv_istore (lv' := [(10, .int (tx_c x i)), (9, .int (nI i)), (8, .int (bI b)), (7, .int (nI q)), (6, .int (nI (tx_n x))), (0, .long x), (2, .long y), (4, .int (bI lo)), (5, .ref v)]) hx hb d_Pattern_fits_28 hl (by decide) rfl (fun ls hl => ?_)
    refine lv_iload hx hb d_Pattern_fits_30 (lv_at hl 2 rfl) ?_
    refine lv_if_eq (tgt := 70) hx hb d_Pattern_fits_32 (by decide) (fun h2 => ?_) (fun h2 => ?_)
    · have hb0 := bI_0.mp h2
      have hf1 := hf hb0
      refine lv_iload hx hb d_Pattern_fits_70 (lv_at hl 0 rfl) ?_
      refine lv_bipush (v := 36) hx hb d_Pattern_fits_72 (by decide) ?_
      refine lv_icmp_ne (tgt := 83) hx hb d_Pattern_fits_74 (by decide) (fun h3 => ?_) (fun h3 => ?_)
      · rw [pt_o_t (i := i) (by omega) h3] at hf1
        refine lv_iload hx hb d_Pattern_fits_83 (lv_at hl 0 rfl) ?_
        refine lv_bipush (v := 42) hx hb d_Pattern_fits_85 (by decide) ?_
        refine lv_icmp_ne (tgt := 101) hx hb d_Pattern_fits_87 (by decide) (fun h4 => ?_) (fun h4 => ?_)
        · subst hb0
          refine lv_iload hx hb d_Pattern_fits_101 (lv_at hl 0 rfl) ?_
          refine lv_bipush (v := 63) hx hb d_Pattern_fits_103 (by decide) ?_
          refine lv_icmp_ne (tgt := 119) hx hb d_Pattern_fits_105 (by decide) (fun h5 => ?_) (fun h5 => ?_)
          · refine lv_iload hx hb d_Pattern_fits_119 (lv_at hl 3 rfl) ?_
            refine lv_iload hx hb d_Pattern_fits_121 (lv_at hl 0 rfl) ?_
            refine lv_i2l hx hb d_Pattern_fits_123 rfl ?_
            refine lv_lload_n hx hb d_Pattern_fits_124 rfl (lv_at hl 6 rfl) ?_
            refine lv_iload hx hb d_Pattern_fits_125 (lv_at hl 7 rfl) ?_
            refine x_cp (k_Pattern_27 (As := [.int (nI q), .long ((tx_c x i).toInt64), .long y, .int (bI lo)]) (rest := []) hx hb hml hown hts (c_Pattern_readText l D cA (tx_c x i).toInt64 y lo q hq) (x_preS hE trivial) rfl hl.1 rfl (Nat.le_of_ble_eq_true rfl) d_Pattern_fits_127 (by decide) ⟨Nat.zero_le _, Nat.zero_le _⟩) ?_
            refine lv_istore (lv' := [(7, .int (nI (pt_r y lo (pt_v (tx_c x i).toInt64) q))), (10, .int (tx_c x i)), (9, .int (nI i)), (8, .int (bI false)), (6, .int (nI (tx_n x))), (0, .long x), (2, .long y), (4, .int (bI lo)), (5, .ref v)]) hx hb d_Pattern_fits_130 hl (by decide) rfl (fun ls hl => ?_)
            refine lv_iinc (k := 2) (v := nI (i + 1)) (lv' := [(9, .int (nI (i + 1))), (7, .int (nI (pt_r y lo (pt_v (tx_c x i).toInt64) q))), (10, .int (tx_c x i)), (8, .int (bI false)), (6, .int (nI (tx_n x))), (0, .long x), (2, .long y), (4, .int (bI lo)), (5, .ref v)]) hx hb d_Pattern_fits_132 hl rfl (x_inc _) (by decide) rfl (fun ls hl => ?_)
            refine lv_goto (tgt := 15) hx hb d_Pattern_fits_135 (by decide) ?_
            exact ih r _ (by omega) ⟨i + 1, false, pt_r y lo (pt_v (tx_c x i).toInt64) q, by omega, pt_r_lt _ _ _ hq, fun _ => by rw [hf1, pt_t_n h4 h5, pt_v_1 hj hj0 hc]; rfl, (fun h => by cases h), (lv_sub hl [0, 3, 1, 4, 5, 6, 7, 8] rfl)⟩
          · refine lv_iload hx hb d_Pattern_fits_108 (lv_at hl 3 rfl) ?_
            refine lv_lload_n hx hb d_Pattern_fits_110 rfl (lv_at hl 6 rfl) ?_
            refine x_cp (k_Pattern_35 (As := [.int (nI q), .long y]) (rest := []) hx hb hml hown hts (c_Pattern_readAnyOne l D cA y q hq) (x_preS hE trivial) rfl hl.1 rfl (Nat.le_of_ble_eq_true rfl) d_Pattern_fits_111 (by decide) ⟨Nat.zero_le _, Nat.zero_le _⟩) ?_
            refine lv_istore (lv' := [(7, .int (nI (pl_c (fun _ => true) q (tx_n y)))), (10, .int (tx_c x i)), (9, .int (nI i)), (8, .int (bI false)), (6, .int (nI (tx_n x))), (0, .long x), (2, .long y), (4, .int (bI lo)), (5, .ref v)]) hx hb d_Pattern_fits_114 hl (by decide) rfl (fun ls hl => ?_)
            refine lv_goto (tgt := 132) hx hb d_Pattern_fits_116 (by decide) ?_
            refine lv_iinc (k := 2) (v := nI (i + 1)) (lv' := [(9, .int (nI (i + 1))), (7, .int (nI (pl_c (fun _ => true) q (tx_n y)))), (10, .int (tx_c x i)), (8, .int (bI false)), (6, .int (nI (tx_n x))), (0, .long x), (2, .long y), (4, .int (bI lo)), (5, .ref v)]) hx hb d_Pattern_fits_132 hl rfl (x_inc _) (by decide) rfl (fun ls hl => ?_)
            refine lv_goto (tgt := 15) hx hb d_Pattern_fits_135 (by decide) ?_
            exact ih r _ (by omega) ⟨i + 1, false, pl_c (fun _ => true) q (tx_n y), by omega, pl_c_lt _ _ _, fun _ => by rw [hf1, h5]; exact congrArg _ (pt_s_one y lo q), (fun h => by cases h), (lv_sub hl [0, 3, 1, 4, 5, 6, 7, 8] rfl)⟩
        · subst hb0
          refine lv_iload hx hb d_Pattern_fits_90 (lv_at hl 3 rfl) ?_
          refine lv_lload_n hx hb d_Pattern_fits_92 rfl (lv_at hl 6 rfl) ?_
          refine x_cp (k_Pattern_31 (As := [.int (nI q), .long y]) (rest := []) hx hb hml hown hts (c_Pattern_readAnyRow l D cA y q hq) (x_preS hE trivial) rfl hl.1 rfl (Nat.le_of_ble_eq_true rfl) d_Pattern_fits_93 (by decide) ⟨Nat.zero_le _, Nat.zero_le _⟩) ?_
          refine lv_istore (lv' := [(7, .int (nI (pl_s (tx_n y) q (tx_n y + 1)))), (10, .int (tx_c x i)), (9, .int (nI i)), (8, .int (bI false)), (6, .int (nI (tx_n x))), (0, .long x), (2, .long y), (4, .int (bI lo)), (5, .ref v)]) hx hb d_Pattern_fits_96 hl (by decide) rfl (fun ls hl => ?_)
          refine lv_goto (tgt := 132) hx hb d_Pattern_fits_98 (by decide) ?_
          refine lv_iinc (k := 2) (v := nI (i + 1)) (lv' := [(9, .int (nI (i + 1))), (7, .int (nI (pl_s (tx_n y) q (tx_n y + 1)))), (10, .int (tx_c x i)), (8, .int (bI false)), (6, .int (nI (tx_n x))), (0, .long x), (2, .long y), (4, .int (bI lo)), (5, .ref v)]) hx hb d_Pattern_fits_132 hl rfl (x_inc _) (by decide) rfl (fun ls hl => ?_)
          refine lv_goto (tgt := 15) hx hb d_Pattern_fits_135 (by decide) ?_
          exact ih r _ (by omega) ⟨i + 1, false, pl_s (tx_n y) q (tx_n y + 1), by omega, pl_s_lt _, fun _ => by rw [hf1, h4]; exact congrArg _ (pt_s_any y lo q), (fun h => by cases h), (lv_sub hl [0, 3, 1, 4, 5, 6, 7, 8] rfl)⟩
      · refine lv_iconst (v := 1) hx hb d_Pattern_fits_77 (by decide) ?_
        refine lv_istore (lv' := [(8, .int 1), (10, .int (tx_c x i)), (9, .int (nI i)), (7, .int (nI q)), (6, .int (nI (tx_n x))), (0, .long x), (2, .long y), (4, .int (bI lo)), (5, .ref v)]) hx hb d_Pattern_fits_78 hl (by decide) rfl (fun ls hl => ?_)
        refine lv_goto (tgt := 132) hx hb d_Pattern_fits_80 (by decide) ?_
        refine lv_iinc (k := 2) (v := nI (i + 1)) (lv' := [(9, .int (nI (i + 1))), (8, .int 1), (10, .int (tx_c x i)), (7, .int (nI q)), (6, .int (nI (tx_n x))), (0, .long x), (2, .long y), (4, .int (bI lo)), (5, .ref v)]) hx hb d_Pattern_fits_132 hl rfl (x_inc _) (by decide) rfl (fun ls hl => ?_)
        refine lv_goto (tgt := 15) hx hb d_Pattern_fits_135 (by decide) ?_
        exact ih r _ (by omega) ⟨i + 1, true, q, by omega, hq, (fun h => by cases h), fun _ => ⟨i, rfl, h3, hf1⟩, (lv_sub hl [0, 1, 3, 4, 5, 6, 7, 8] rfl)⟩
    · have hb1 := bI_n0.mp h2
      obtain ⟨i1, rfl, e2, e3⟩ := ht hb1
      subst hb1
      refine lv_iload hx hb d_Pattern_fits_35 (lv_at hl 0 rfl) ?_
      refine lv_aload hx hb d_Pattern_fits_37 (lv_at hl 8 rfl) ?_
      refine x_cp (k_Pattern_19 (As := [.int (tx_c x (i1 + 1)), .ref v]) (rest := []) hx hb hml hown hts (c_Pattern_meansSomething l D cA v cnt row (tx_c x (i1 + 1))) (x_preS hE hP) rfl hl.1 rfl (Nat.le_of_ble_eq_true rfl) d_Pattern_fits_39 (by decide) ⟨Nat.zero_le _, Nat.zero_le _⟩) ?_
      refine lv_if_ne (tgt := 47) hx hb d_Pattern_fits_42 (by decide) (fun h3 => ?_) (fun h3 => ?_)
      · have h3 := bI_n0.mp h3
        refine lv_iload hx hb d_Pattern_fits_47 (lv_at hl 3 rfl) ?_
        refine lv_iload hx hb d_Pattern_fits_49 (lv_at hl 0 rfl) ?_
        refine lv_aload hx hb d_Pattern_fits_51 (lv_at hl 8 rfl) ?_
        refine x_cp (k_Pattern_23 (As := [.int (tx_c x (i1 + 1)), .ref v]) (rest := [.int (nI q)]) hx hb hml hown hts (c_Pattern_meaning l D cA v cnt row (tx_c x (i1 + 1)) (pt_y_1 h3)) (x_preS hE hP) rfl hl.1 rfl (Nat.le_of_ble_eq_true rfl) d_Pattern_fits_53 (by decide) ⟨Nat.zero_le _, Nat.zero_le _⟩) ?_
        refine lv_lload_n hx hb d_Pattern_fits_56 rfl (lv_at hl 6 rfl) ?_
        refine lv_iload hx hb d_Pattern_fits_57 (lv_at hl 7 rfl) ?_
        refine x_cp (k_Pattern_27 (As := [.int (nI q), .long (pt_w row (tx_c x (i1 + 1))), .long y, .int (bI lo)]) (rest := []) hx hb hml hown hts (c_Pattern_readText l D cA (pt_w row (tx_c x (i1 + 1))) y lo q hq) (x_preS hE trivial) rfl hl.1 rfl (Nat.le_of_ble_eq_true rfl) d_Pattern_fits_59 (by decide) ⟨Nat.zero_le _, Nat.zero_le _⟩) ?_
        refine lv_istore (lv' := [(7, .int (nI (pt_r y lo (pt_v (pt_w row (tx_c x (i1 + 1)))) q))), (10, .int (tx_c x (i1 + 1))), (9, .int (nI (i1 + 1))), (8, .int (bI true)), (6, .int (nI (tx_n x))), (0, .long x), (2, .long y), (4, .int (bI lo)), (5, .ref v)]) hx hb d_Pattern_fits_62 hl (by decide) rfl (fun ls hl => ?_)
        refine lv_iconst (v := 0) hx hb d_Pattern_fits_64 (by decide) ?_
        refine lv_istore (lv' := [(8, .int 0), (7, .int (nI (pt_r y lo (pt_v (pt_w row (tx_c x (i1 + 1)))) q))), (10, .int (tx_c x (i1 + 1))), (9, .int (nI (i1 + 1))), (6, .int (nI (tx_n x))), (0, .long x), (2, .long y), (4, .int (bI lo)), (5, .ref v)]) hx hb d_Pattern_fits_65 hl (by decide) rfl (fun ls hl => ?_)
        refine lv_goto (tgt := 132) hx hb d_Pattern_fits_67 (by decide) ?_
        refine lv_iinc (k := 3) (v := nI ((i1 + 1) + 1)) (lv' := [(9, .int (nI ((i1 + 1) + 1))), (8, .int 0), (7, .int (nI (pt_r y lo (pt_v (pt_w row (tx_c x (i1 + 1)))) q))), (10, .int (tx_c x (i1 + 1))), (6, .int (nI (tx_n x))), (0, .long x), (2, .long y), (4, .int (bI lo)), (5, .ref v)]) hx hb d_Pattern_fits_132 hl rfl (x_inc _) (by decide) rfl (fun ls hl => ?_)
        refine lv_goto (tgt := 15) hx hb d_Pattern_fits_135 (by decide) ?_
        exact ih r _ (by omega) ⟨i1 + 1 + 1, false, pt_r y lo (pt_v (pt_w row (tx_c x (i1 + 1)))) q, by omega, pt_r_lt _ _ _ hq, fun _ => by rw [e3, pt_o_d (i := i1) (by omega) e2 hj hj0 hc h3], (fun h => by cases h), (lv_sub hl [0, 1, 2, 4, 5, 6, 7, 8] rfl)⟩
      · refine lv_iconst (v := 0) hx hb d_Pattern_fits_45 (by decide) ?_
        refine x_topi (y := bI (pt_m cnt row x y lo)) (by rw [e3, pt_o_dn (i := i1) (by omega) e2 (bI_0.mp h3)]; rfl) ?_
        exact W.zret (ty := .boolean) hx hb hr (bI_z _) (fun t ht hW => ⟨rfl, ht⟩) (fun q h => by cases h) d_Pattern_fits_46
