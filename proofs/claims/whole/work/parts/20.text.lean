/-! small numbers; Text: characters, length, equality, letters -/
theorem x_inc (i : Nat) : nI i + Int32.ofInt 1 = nI (i + 1) := (nI_succ i).symm
theorem x_dec (i : Nat) : nI (i + 1) + Int32.ofInt (-1) = nI i := pk_m1 i
theorem n_ge {k i : Nat} (h : nI k ≤ nI i) (hk : k < 2 ^ 31) (hi : i < 2 ^ 31) : k ≤ i := (nI_leI hk hi).mp h
theorem n_lt {k i : Nat} (h : ¬ nI k ≤ nI i) (hk : k < 2 ^ 31) (hi : i < 2 ^ 31) : i < k := Nat.not_le.mp (fun q => h ((nI_leI hk hi).mpr q))
theorem n_gt {k i : Nat} (h : nI k < nI i) (hk : k < 2 ^ 31) (hi : i < 2 ^ 31) : k < i := (nI_ltI hk hi).mp h
theorem n_le {k i : Nat} (h : ¬ nI k < nI i) (hk : k < 2 ^ 31) (hi : i < 2 ^ 31) : i ≤ k := Nat.not_lt.mp (fun q => h ((nI_ltI hk hi).mpr q))
set_option maxHeartbeats 4000000 in
set_option maxRecDepth 100000 in
theorem c_Text_charAt (l : Launch) (D : va_G) (cA : Nat → ClassId) (x : Int64) (i : Nat) (hi : i < 8) : Met l y_Text_charAt [.code y_Text_charAt b_Text_charAt 3 (some .int)] (x_rm 0 0 0) (x_P D cA [.long x, .int (nI i)] (fun _ => True)) (x_Q (some (.int (tx_c x i))) (x_same)) 0 0 (fun _ => False) := by
  refine x_met (own := "DecisionLayers$Text") (by decide) rfl (Nat.le_of_ble_eq_true rfl) ?_
  intro pp ee s mm below mt cd ls hx hb hr hlk hnm hml hown hts hE hP hl
  have hl : lv_has ls 3 [(0, .long x), (2, .int (nI i))] := hl
  refine lv_iload_n hx hb d_Text_charAt_0 rfl (lv_at hl 1 rfl) ?_
  refine lv_if_lt (tgt := 10) hx hb d_Text_charAt_1 (by decide) (fun h1 => ?_) (fun h1 => ?_)
  · exact absurd h1 (nI_pos (by omega))
  · refine lv_iload_n hx hb d_Text_charAt_4 rfl (lv_at hl 1 rfl) ?_
    refine lv_bipush (v := 8) hx hb d_Text_charAt_5 (by decide) ?_
    refine lv_icmp_lt (tgt := 14) hx hb d_Text_charAt_7 (by decide) (fun h2 => ?_) (fun h2 => ?_)
    · refine lv_lload_n hx hb d_Text_charAt_14 rfl (lv_at hl 0 rfl) ?_
      refine lv_bipush (v := 8) hx hb d_Text_charAt_15 (by decide) ?_
      refine lv_iload_n hx hb d_Text_charAt_17 rfl (lv_at hl 1 rfl) ?_
      refine lv_imul hx hb d_Text_charAt_18 ?_
      refine lv_lushr hx hb d_Text_charAt_19 rfl ?_
      refine x_topl (y := tx_w x i) rfl ?_
      refine lv_l2i hx hb d_Text_charAt_20 rfl ?_
      refine lv_sipush (v := 255) hx hb d_Text_charAt_21 (by decide) ?_
      refine lv_iand hx hb d_Text_charAt_24 ?_
      refine x_topi (y := tx_c x i) rfl ?_
      exact W.iret hx hb hr (fun t ht hW => ⟨rfl, ht⟩) (fun q h => by cases h) d_Text_charAt_25
    · exact absurd ((nI_ltI (by omega) (by decide)).mpr hi) h2
set_option maxHeartbeats 4000000 in
set_option maxRecDepth 100000 in
theorem c_Text_length (l : Launch) (D : va_G) (cA : Nat → ClassId) (x : Int64) : Met l y_Text_length [.code y_Text_length b_Text_length 3 (some .int)] (x_rm 0 0 0) (x_P D cA [.long x] (fun _ => True)) (x_Q (some (.int (nI (tx_n x)))) (x_same)) 0 0 (fun _ => False) := by
  refine x_met (own := "DecisionLayers$Text") (by decide) rfl (Nat.le_of_ble_eq_true rfl) ?_
  intro pp ee s mm below mt cd ls hx hb hr hlk hnm hml hown hts hE hP hl
  have hl : lv_has ls 3 [(0, .long x)] := hl
  refine lv_iconst (v := 0) hx hb d_Text_length_0 (by decide) ?_
  refine lv_istore_n (lv' := [(2, .int 0), (0, .long x)]) hx hb d_Text_length_1 rfl hl (by decide) rfl (fun ls hl => ?_)
  refine x_loop (I := fun n ls => ∃ i, i + n = 8 ∧ (∀ j, j < i → tx_c x j ≠ 0) ∧ lv_has ls 3 [(2, .int (nI i)), (0, .long x)]) (fun n ls ih h => ?_) (8) ⟨0, rfl, fun j h => absurd h (Nat.not_lt_zero j), hl⟩
  obtain ⟨i, hi, hz, hl⟩ := h
  refine lv_iload_n hx hb d_Text_length_2 rfl (lv_at hl 0 rfl) ?_
  refine lv_bipush (v := 8) hx hb d_Text_length_3 (by decide) ?_
  refine lv_icmp_ge (tgt := 31) hx hb d_Text_length_5 (by decide) (fun h8 => ?_) (fun h8 => ?_)
  · have h8 := n_ge (k := 8) h8 (by decide) (by omega)
    refine lv_bipush (v := 8) hx hb d_Text_length_31 (by decide) ?_
    refine x_topi (y := nI (tx_n x)) (by rw [tx_is (k := 8) (by omega) (fun j hj => hz j (by omega)) (Or.inl rfl)]; rfl) ?_
    exact W.iret hx hb hr (fun t ht hW => ⟨rfl, ht⟩) (fun q h => by cases h) d_Text_length_33
  · have h8 := n_lt (k := 8) h8 (by decide) (by omega)
    refine lv_lload_n hx hb d_Text_length_8 rfl (lv_at hl 1 rfl) ?_
    refine lv_bipush (v := 8) hx hb d_Text_length_9 (by decide) ?_
    refine lv_iload_n hx hb d_Text_length_11 rfl (lv_at hl 0 rfl) ?_
    refine lv_imul hx hb d_Text_length_12 ?_
    refine lv_lushr hx hb d_Text_length_13 rfl ?_
    refine x_topl (y := tx_w x i) rfl ?_
    refine lv_ldc2 hx hb hown (hts _ w_2_27) d_Text_length_14 ?_
    refine lv_land hx hb d_Text_length_17 ?_
    refine lv_lconst (v := 0) hx hb d_Text_length_18 (by decide) ?_
    refine W.lcmp hx hb d_Text_length_19 ?_
    refine lv_if_ne (tgt := 25) hx hb d_Text_length_20 (by decide) (fun hc => ?_) (fun hc => ?_)
    · refine lv_iinc (k := 0) (v := nI (i + 1)) (lv' := [(2, .int (nI (i + 1))), (0, .long x)]) hx hb d_Text_length_25 hl rfl (x_inc _) (by decide) rfl (fun ls hl => ?_)
      refine lv_goto (tgt := 2) hx hb d_Text_length_28 (by decide) ?_
      exact ih (n - 1) _ (by omega) ⟨i + 1, by omega, fun j hj => by
        by_cases e : j = i
        · rw [e]; exact fun h0 => hc ((lg_cmp_eq _ _).mpr ((tx_z _).mpr h0))
        · exact hz j (by omega), hl⟩
    · refine lv_iload_n hx hb d_Text_length_23 rfl (lv_at hl 0 rfl) ?_
      refine x_topi (y := nI (tx_n x)) (by rw [tx_is (k := i) (by omega) hz (Or.inr ((tx_z _).mp ((lg_cmp_eq _ _).mp hc)))]) ?_
      exact W.iret hx hb hr (fun t ht hW => ⟨rfl, ht⟩) (fun q h => by cases h) d_Text_length_24
set_option maxHeartbeats 4000000 in
set_option maxRecDepth 100000 in
theorem c_Text_isAlike (l : Launch) (D : va_G) (cA : Nat → ClassId) (a b : Int32) (lo : Bool) : Met l y_Text_isAlike [.code y_Text_isAlike b_Text_isAlike 5 (some .boolean)] (x_rm 0 0 0) (x_P D cA [.int a, .int b, .int (bI lo)] (fun _ => True)) (x_Q (some (.int (bI (decide (tx_lo a lo = tx_lo b lo))))) (x_same)) 0 0 (fun _ => False) := by
  refine x_met (own := "DecisionLayers$Text") (by decide) rfl (Nat.le_of_ble_eq_true rfl) ?_
  intro pp ee s mm below mt cd ls hx hb hr hlk hnm hml hown hts hE hP hl
  have hl : lv_has ls 5 [(0, .int a), (1, .int b), (2, .int (bI lo))] := hl
  refine lv_iload_n hx hb d_Text_isAlike_0 rfl (lv_at hl 2 rfl) ?_
  refine lv_if_ne (tgt := 15) hx hb d_Text_isAlike_1 (by decide) (fun hlo => ?_) (fun hlo => ?_)
  · obtain rfl := bI_n0.mp hlo
    refine x_join 35 (fun ls st => lv_has ls 5 [(0, .int a), (1, .int b), (2, .int (bI true))] ∧ st = [.int (tx_lo a true)]) ?_ (fun hj => ?_)
    · intro ls st hj
      obtain ⟨hl, rfl⟩ := hj
      refine lv_istore_n (lv' := [(3, .int (tx_lo a true)), (0, .int a), (1, .int b), (2, .int (bI true))]) hx hb d_Text_isAlike_35 rfl hl (by decide) rfl (fun ls hl => ?_)
      refine x_join 56 (fun ls st => lv_has ls 5 [(3, .int (tx_lo a true)), (0, .int a), (1, .int b), (2, .int (bI true))] ∧ st = [.int (tx_lo b true)]) ?_ (fun hj => ?_)
      · intro ls st hj
        obtain ⟨hl, rfl⟩ := hj
        refine lv_istore (lv' := [(4, .int (tx_lo b true)), (3, .int (tx_lo a true)), (0, .int a), (1, .int b), (2, .int (bI true))]) hx hb d_Text_isAlike_56 hl (by decide) rfl (fun ls hl => ?_)
        refine lv_iload_n hx hb d_Text_isAlike_58 rfl (lv_at hl 1 rfl) ?_
        refine lv_iload hx hb d_Text_isAlike_59 (lv_at hl 0 rfl) ?_
        refine lv_icmp_ne (tgt := 68) hx hb d_Text_isAlike_61 (by decide) (fun hab => ?_) (fun hab => ?_)
        · refine lv_iconst (v := 0) hx hb d_Text_isAlike_68 (by decide) ?_
          refine x_topi (y := bI (decide (tx_lo a true = tx_lo b true))) (by rw [bI_no hab]) ?_
          exact W.zret (ty := .boolean) hx hb hr (bI_z _) (fun t ht hW => ⟨rfl, ht⟩) (fun q h => by cases h) d_Text_isAlike_69
        · refine lv_iconst (v := 1) hx hb d_Text_isAlike_64 (by decide) ?_
          refine lv_goto (tgt := 69) hx hb d_Text_isAlike_65 (by decide) ?_
          refine x_topi (y := bI (decide (tx_lo a true = tx_lo b true))) (by rw [bI_of hab]) ?_
          exact W.zret (ty := .boolean) hx hb hr (bI_z _) (fun t ht hW => ⟨rfl, ht⟩) (fun q h => by cases h) d_Text_isAlike_69
      · refine lv_iload_n hx hb d_Text_isAlike_36 rfl (lv_at hl 2 rfl) ?_
        refine lv_bipush (v := 65) hx hb d_Text_isAlike_37 (by decide) ?_
        refine lv_icmp_lt (tgt := 55) hx hb d_Text_isAlike_39 (by decide) (fun h1 => ?_) (fun h1 => ?_)
        · refine lv_iload_n hx hb d_Text_isAlike_55 rfl (lv_at hl 2 rfl) ?_
          exact hj _ _ ⟨hl, by rw [tx_lo_n1 (by rw [Int32.not_le]; exact h1)]⟩
        · refine lv_iload_n hx hb d_Text_isAlike_42 rfl (lv_at hl 2 rfl) ?_
          refine lv_bipush (v := 90) hx hb d_Text_isAlike_43 (by decide) ?_
          refine lv_icmp_gt (tgt := 55) hx hb d_Text_isAlike_45 (by decide) (fun h2 => ?_) (fun h2 => ?_)
          · refine lv_iload_n hx hb d_Text_isAlike_55 rfl (lv_at hl 2 rfl) ?_
            exact hj _ _ ⟨hl, by rw [tx_lo_n2 (by rw [Int32.not_le]; exact h2)]⟩
          · refine lv_iload_n hx hb d_Text_isAlike_48 rfl (lv_at hl 2 rfl) ?_
            refine lv_bipush (v := 32) hx hb d_Text_isAlike_49 (by decide) ?_
            refine lv_iadd hx hb d_Text_isAlike_51 ?_
            refine lv_goto (tgt := 56) hx hb d_Text_isAlike_52 (by decide) ?_
            exact hj _ _ ⟨hl, by rw [tx_lo_y (Int32.not_lt.mp h1) (Int32.not_lt.mp h2)]⟩
    · refine lv_iload_n hx hb d_Text_isAlike_15 rfl (lv_at hl 0 rfl) ?_
      refine lv_bipush (v := 65) hx hb d_Text_isAlike_16 (by decide) ?_
      refine lv_icmp_lt (tgt := 34) hx hb d_Text_isAlike_18 (by decide) (fun h1 => ?_) (fun h1 => ?_)
      · refine lv_iload_n hx hb d_Text_isAlike_34 rfl (lv_at hl 0 rfl) ?_
        exact hj _ _ ⟨hl, by rw [tx_lo_n1 (by rw [Int32.not_le]; exact h1)]⟩
      · refine lv_iload_n hx hb d_Text_isAlike_21 rfl (lv_at hl 0 rfl) ?_
        refine lv_bipush (v := 90) hx hb d_Text_isAlike_22 (by decide) ?_
        refine lv_icmp_gt (tgt := 34) hx hb d_Text_isAlike_24 (by decide) (fun h2 => ?_) (fun h2 => ?_)
        · refine lv_iload_n hx hb d_Text_isAlike_34 rfl (lv_at hl 0 rfl) ?_
          exact hj _ _ ⟨hl, by rw [tx_lo_n2 (by rw [Int32.not_le]; exact h2)]⟩
        · refine lv_iload_n hx hb d_Text_isAlike_27 rfl (lv_at hl 0 rfl) ?_
          refine lv_bipush (v := 32) hx hb d_Text_isAlike_28 (by decide) ?_
          refine lv_iadd hx hb d_Text_isAlike_30 ?_
          refine lv_goto (tgt := 35) hx hb d_Text_isAlike_31 (by decide) ?_
          exact hj _ _ ⟨hl, by rw [tx_lo_y (Int32.not_lt.mp h1) (Int32.not_lt.mp h2)]⟩
  · obtain rfl := bI_0.mp hlo
    rw [tx_lo_f, tx_lo_f]
    refine lv_iload_n hx hb d_Text_isAlike_4 rfl (lv_at hl 0 rfl) ?_
    refine lv_iload_n hx hb d_Text_isAlike_5 rfl (lv_at hl 1 rfl) ?_
    refine lv_icmp_ne (tgt := 13) hx hb d_Text_isAlike_6 (by decide) (fun hab => ?_) (fun hab => ?_)
    · refine lv_iconst (v := 0) hx hb d_Text_isAlike_13 (by decide) ?_
      refine x_topi (y := bI (decide (a = b))) (by rw [bI_no hab]) ?_
      exact W.zret (ty := .boolean) hx hb hr (bI_z _) (fun t ht hW => ⟨rfl, ht⟩) (fun q h => by cases h) d_Text_isAlike_14
    · refine lv_iconst (v := 1) hx hb d_Text_isAlike_9 (by decide) ?_
      refine lv_goto (tgt := 14) hx hb d_Text_isAlike_10 (by decide) ?_
      refine x_topi (y := bI (decide (a = b))) (by rw [bI_of hab]) ?_
      exact W.zret (ty := .boolean) hx hb hr (bI_z _) (fun t ht hW => ⟨rfl, ht⟩) (fun q h => by cases h) d_Text_isAlike_14
set_option maxHeartbeats 4000000 in
set_option maxRecDepth 100000 in
theorem c_Text_isSame (l : Launch) (D : va_G) (cA : Nat → ClassId) (a b : Int64) : Met l y_Text_isSame [.code y_Text_isSame b_Text_isSame 6 (some .boolean)] (x_rm 1 0 0) (x_P D cA [.long a, .long b] (fun _ => True)) (x_Q (some (.int (bI (tx_same a b)))) (x_same)) 0 0 (fun _ => False) := by
  refine x_met (own := "DecisionLayers$Text") (by decide) rfl (Nat.le_of_ble_eq_true rfl) ?_
  intro pp ee s mm below mt cd ls hx hb hr hlk hnm hml hown hts hE hP hl
  have hl : lv_has ls 6 [(0, .long a), (2, .long b)] := hl
  refine lv_lload_n hx hb d_Text_isSame_0 rfl (lv_at hl 0 rfl) ?_
  refine x_cp (k_Text_11 (As := [.long a]) (rest := []) hx hb hml hown hts (c_Text_length l D cA a) (x_preS hE trivial) rfl hl.1 rfl (Nat.le_of_ble_eq_true rfl) d_Text_isSame_1 (by decide) ⟨Nat.zero_le _, Nat.zero_le _⟩) ?_
  refine lv_istore (lv' := [(4, .int (nI (tx_n a))), (0, .long a), (2, .long b)]) hx hb d_Text_isSame_4 hl (by decide) rfl (fun ls hl => ?_)
  refine lv_iload hx hb d_Text_isSame_6 (lv_at hl 0 rfl) ?_
  refine lv_lload_n hx hb d_Text_isSame_8 rfl (lv_at hl 2 rfl) ?_
  refine x_cp (k_Text_11 (As := [.long b]) (rest := [.int (nI (tx_n a))]) hx hb hml hown hts (c_Text_length l D cA b) (x_preS hE trivial) rfl hl.1 rfl (Nat.le_of_ble_eq_true rfl) d_Text_isSame_9 (by decide) ⟨Nat.zero_le _, Nat.zero_le _⟩) ?_
  refine lv_icmp_eq (tgt := 17) hx hb d_Text_isSame_12 (by decide) (fun hn => ?_) (fun hn => ?_)
  · have hn : tx_n a = tx_n b := (nI_eq (by have := tx_le a; omega) (by have := tx_le b; omega)).mp hn
    have h8 := tx_le a
    refine lv_iconst (v := 0) hx hb d_Text_isSame_17 (by decide) ?_
    refine lv_istore (lv' := [(5, .int 0), (4, .int (nI (tx_n a))), (0, .long a), (2, .long b)]) hx hb d_Text_isSame_18 hl (by decide) rfl (fun ls hl => ?_)
    refine x_loop (I := fun n ls => ∃ i, i + n = tx_n a ∧ (∀ j, j < i → tx_c a j = tx_c b j) ∧ lv_has ls 6 [(5, .int (nI i)), (4, .int (nI (tx_n a))), (0, .long a), (2, .long b)]) (fun n ls ih h => ?_) (tx_n a) ⟨0, by omega, fun j h => absurd h (Nat.not_lt_zero j), hl⟩
    obtain ⟨i, hi, hz, hl⟩ := h
    refine lv_iload hx hb d_Text_isSame_20 (lv_at hl 0 rfl) ?_
    refine lv_iload hx hb d_Text_isSame_22 (lv_at hl 1 rfl) ?_
    refine lv_icmp_ge (tgt := 50) hx hb d_Text_isSame_24 (by decide) (fun hge => ?_) (fun hge => ?_)
    · have hge := n_ge hge (by omega) (by omega)
      refine lv_iconst (v := 1) hx hb d_Text_isSame_50 (by decide) ?_
      refine x_topi (y := bI (tx_same a b)) (by unfold tx_same; rw [bI_of ⟨hn, fun j hj => hz j (by omega)⟩]) ?_
      exact W.zret (ty := .boolean) hx hb hr (bI_z _) (fun t ht hW => ⟨rfl, ht⟩) (fun q h => by cases h) d_Text_isSame_51
    · have hge := n_lt hge (by omega) (by omega)
      refine lv_lload_n hx hb d_Text_isSame_27 rfl (lv_at hl 2 rfl) ?_
      refine lv_iload hx hb d_Text_isSame_28 (lv_at hl 0 rfl) ?_
      refine x_cp (k_Text_15 (As := [.long a, .int (nI i)]) (rest := []) hx hb hml hown hts (c_Text_charAt l D cA a i (by omega)) (x_preS hE trivial) rfl hl.1 rfl (Nat.le_of_ble_eq_true rfl) d_Text_isSame_30 (by decide) ⟨Nat.zero_le _, Nat.zero_le _⟩) ?_
      refine lv_lload_n hx hb d_Text_isSame_33 rfl (lv_at hl 3 rfl) ?_
      refine lv_iload hx hb d_Text_isSame_34 (lv_at hl 0 rfl) ?_
      refine x_cp (k_Text_15 (As := [.long b, .int (nI i)]) (rest := [.int (tx_c a i)]) hx hb hml hown hts (c_Text_charAt l D cA b i (by omega)) (x_preS hE trivial) rfl hl.1 rfl (Nat.le_of_ble_eq_true rfl) d_Text_isSame_36 (by decide) ⟨Nat.zero_le _, Nat.zero_le _⟩) ?_
      refine lv_icmp_eq (tgt := 44) hx hb d_Text_isSame_39 (by decide) (fun hc => ?_) (fun hc => ?_)
      · refine lv_iinc (k := 0) (v := nI (i + 1)) (lv' := [(5, .int (nI (i + 1))), (4, .int (nI (tx_n a))), (0, .long a), (2, .long b)]) hx hb d_Text_isSame_44 hl rfl (x_inc _) (by decide) rfl (fun ls hl => ?_)
        refine lv_goto (tgt := 20) hx hb d_Text_isSame_47 (by decide) ?_
        exact ih (n - 1) _ (by omega) ⟨i + 1, by omega, fun j hj => by
          by_cases e : j = i
          · rw [e]; exact hc
          · exact hz j (by omega), hl⟩
      · refine lv_iconst (v := 0) hx hb d_Text_isSame_42 (by decide) ?_
        refine x_topi (y := bI (tx_same a b)) (by unfold tx_same; rw [bI_no (fun h => hc (h.2 i hge))]) ?_
        exact W.zret (ty := .boolean) hx hb hr (bI_z _) (fun t ht hW => ⟨rfl, ht⟩) (fun q h => by cases h) d_Text_isSame_43
  · refine lv_iconst (v := 0) hx hb d_Text_isSame_15 (by decide) ?_
    refine x_topi (y := bI (tx_same a b)) (by unfold tx_same; rw [bI_no (fun h => hn (by rw [h.1]))]) ?_
    exact W.zret (ty := .boolean) hx hb hr (bI_z _) (fun t ht hW => ⟨rfl, ht⟩) (fun q h => by cases h) d_Text_isSame_16
