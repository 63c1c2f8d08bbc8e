set_option maxHeartbeats 4000000 in
set_option maxRecDepth 100000 in
theorem c_Test_hasPrefix (l : Launch) (D : va_G) (cA : Nat → ClassId) (a : Nat) (d : Int32) (o k : Nat) (t : Int64) (mk : Nat) (x : Int64) : Met l y_Test_hasPrefix [.code y_Test_hasPrefix b_Test_hasPrefix 6 (some .boolean)] (x_rm 1 0 0) (x_P D cA [.ref a, .long x] (fun H => va_at D x_cl (a, .inr (3, [.int d, .int (nI o), .int (nI k), .long t, .int (nI mk)])) H)) (x_Q (some (.int (bI (cn_p x t)))) (x_same)) 0 0 (fun _ => False) := by
  refine x_met (own := "DecisionLayers$Test") (by decide) rfl (Nat.le_of_ble_eq_true rfl) ?_
  intro pp ee s mm below mt cd ls hx hb hr hlk hnm hml hown hts hE hP hl
  have hl : lv_has ls 6 [(0, .ref a), (1, .long x)] := hl
  refine lv_aload_n hx hb d_Test_hasPrefix_0 rfl (lv_at hl 0 rfl) ?_
  refine fg_Test_16_Test hx hb hown hts hE hP rfl d_Test_hasPrefix_1 ?_
  refine lv_bipush (v := 32) hx hb d_Test_hasPrefix_4 (by decide) ?_
  refine lv_lushr hx hb d_Test_hasPrefix_6 rfl ?_
  refine lv_l2i hx hb d_Test_hasPrefix_7 rfl ?_
  refine lv_bipush (v := 63) hx hb d_Test_hasPrefix_8 (by decide) ?_
  refine lv_iand hx hb d_Test_hasPrefix_10 ?_
  refine x_topi (y := nI (cn_q t)) (cn_q_e t) ?_
  refine lv_bipush (v := 32) hx hb d_Test_hasPrefix_11 (by decide) ?_
  refine va_mmin hx hb (by rw [hml]; exact hl.1.symm) hown (hts _ w_2_80) (hts _ w_2_81) (hts _ w_1_8) (hts _ w_2_82) (Nat.le_refl _) (Nat.le_of_ble_eq_true rfl) (Nat.zero_le _) (Nat.zero_le _) d_Test_hasPrefix_13 ?_
  refine x_topi (y := nI (min (cn_q t) 32)) (cn_min _ (cn_q_lt t)) ?_
  refine lv_istore_n (lv' := [(3, .int (nI (min (cn_q t) 32))), (0, .ref a), (1, .long x)]) hx hb d_Test_hasPrefix_16 rfl hl (by decide) rfl (fun ls hl => ?_)
  refine lv_lload_n hx hb d_Test_hasPrefix_17 rfl (lv_at hl 2 rfl) ?_
  refine lv_aload_n hx hb d_Test_hasPrefix_18 rfl (lv_at hl 1 rfl) ?_
  refine fg_Test_16_Test hx hb hown hts hE hP rfl d_Test_hasPrefix_19 ?_
  refine lv_lxor hx hb d_Test_hasPrefix_22 ?_
  refine lv_ldc2 hx hb hown (hts _ w_2_83) d_Test_hasPrefix_23 ?_
  refine lv_land hx hb d_Test_hasPrefix_26 ?_
  refine lv_lstore (lv' := [(4, .long ((x ^^^ t) &&& 4294967295)), (3, .int (nI (min (cn_q t) 32))), (0, .ref a), (1, .long x)]) hx hb d_Test_hasPrefix_27 hl (by decide) rfl (fun ls hl => ?_)
  refine lv_lload hx hb d_Test_hasPrefix_29 (lv_at hl 0 rfl) ?_
  refine lv_bipush (v := 32) hx hb d_Test_hasPrefix_31 (by decide) ?_
  refine lv_iload_n hx hb d_Test_hasPrefix_33 rfl (lv_at hl 1 rfl) ?_
  refine lv_isub hx hb d_Test_hasPrefix_34 ?_
  refine lv_lushr hx hb d_Test_hasPrefix_35 rfl ?_
  refine lv_lconst (v := 0) hx hb d_Test_hasPrefix_36 (by decide) ?_
  refine W.lcmp hx hb d_Test_hasPrefix_37 ?_
  refine lv_if_ne (tgt := 45) hx hb d_Test_hasPrefix_38 (by decide) (fun h1 => ?_) (fun h1 => ?_)
  · refine lv_iconst (v := 0) hx hb d_Test_hasPrefix_45 (by decide) ?_
    refine x_topi (y := bI (cn_p x t)) (by rw [show cn_p x t = false from Bool.not_eq_true _ ▸ (fun z => h1 ((lg_cmp_eq _ _).mpr ((cn_p_e x t).mpr z)))]; rfl) ?_
    exact W.zret (ty := .boolean) hx hb hr (bI_z _) (fun t ht hW => ⟨rfl, ht⟩) (fun q h => by cases h) d_Test_hasPrefix_46
  · refine lv_iconst (v := 1) hx hb d_Test_hasPrefix_41 (by decide) ?_
    refine lv_goto (tgt := 46) hx hb d_Test_hasPrefix_42 (by decide) ?_
    refine x_topi (y := bI (cn_p x t)) (by rw [(cn_p_e x t).mp ((lg_cmp_eq _ _).mp h1)]; rfl) ?_
    exact W.zret (ty := .boolean) hx hb hr (bI_z _) (fun t ht hW => ⟨rfl, ht⟩) (fun q h => by cases h) d_Test_hasPrefix_46
set_option maxHeartbeats 4000000 in
set_option maxRecDepth 100000 in
theorem c_Test_saysYes (l : Launch) (D : va_G) (cA : Nat → ClassId) (a : Nat) (d : Int32) (o k : Nat) (t : Int64) (mk : Nat) (v : Nat) (cnt : Nat → Int32) (row : Nat → Int64) (x : Int64) (ho : o < 7) : Met l y_Test_saysYes [.code y_Test_saysYes b_Test_saysYes 4 (some .boolean)] (x_rm 3 0 0) (x_P D cA [.ref a, .long x, .ref v] (fun H => va_at D x_cl (a, .inr (3, [.int d, .int (nI o), .int (nI k), .long t, .int (nI mk)])) H ∧ v_W D cA v cnt row H)) (x_Q (some (.int (bI (cn_a cnt row o x t)))) (x_same)) 0 0 (fun _ => False) := by
  refine x_met (own := "DecisionLayers$Test") (by decide) rfl (Nat.le_of_ble_eq_true rfl) ?_
  intro pp ee s mm below mt cd ls hx hb hr hlk hnm hml hown hts hE hP hl
  have hl : lv_has ls 4 [(0, .ref a), (1, .long x), (3, .ref v)] := hl
  obtain ⟨hT, hV⟩ := hP
  rcases (show o = 0 ∨ o = 1 ∨ o = 2 ∨ o = 3 ∨ o = 4 ∨ o = 5 ∨ o = 6 by omega) with rfl | rfl | rfl | rfl | rfl | rfl | rfl
  · refine lv_aload_n hx hb d_Test_saysYes_0 rfl (lv_at hl 0 rfl) ?_
    refine fg_Test_7_Test hx hb hown hts hE hT rfl d_Test_saysYes_1 ?_
    refine lv_tableIn (off := 44) (tgt := 48) hx hb d_Test_saysYes_4 (by decide) (by decide) (by decide) (by decide) ?_
    refine lv_lload_n hx hb d_Test_saysYes_48 rfl (lv_at hl 1 rfl) ?_
    refine lv_aload_n hx hb d_Test_saysYes_49 rfl (lv_at hl 0 rfl) ?_
    refine fg_Test_16_Test hx hb hown hts hE hT rfl d_Test_saysYes_50 ?_
    refine W.lcmp hx hb d_Test_saysYes_53 ?_
    refine lv_if_ne (tgt := 61) hx hb d_Test_saysYes_54 (by decide) (fun h1 => ?_) (fun h1 => ?_)
    · refine lv_iconst (v := 0) hx hb d_Test_saysYes_61 (by decide) ?_
      refine x_topi (y := bI (cn_a cnt row 0 x t)) (by show 0 = bI (decide (x = t)); rw [bI_no (fun z => h1 ((lg_cmp_eq _ _).mpr z))]) ?_
      exact W.zret (ty := .boolean) hx hb hr (bI_z _) (fun t ht hW => ⟨rfl, ht⟩) (fun q h => by cases h) d_Test_saysYes_62
    · refine lv_iconst (v := 1) hx hb d_Test_saysYes_57 (by decide) ?_
      refine lv_goto (tgt := 62) hx hb d_Test_saysYes_58 (by decide) ?_
      refine x_topi (y := bI (cn_a cnt row 0 x t)) (by show 1 = bI (decide (x = t)); rw [bI_of ((lg_cmp_eq _ _).mp h1)]) ?_
      exact W.zret (ty := .boolean) hx hb hr (bI_z _) (fun t ht hW => ⟨rfl, ht⟩) (fun q h => by cases h) d_Test_saysYes_62
  · refine lv_aload_n hx hb d_Test_saysYes_0 rfl (lv_at hl 0 rfl) ?_
    refine fg_Test_7_Test hx hb hown hts hE hT rfl d_Test_saysYes_1 ?_
    refine lv_tableIn (off := 59) (tgt := 63) hx hb d_Test_saysYes_4 (by decide) (by decide) (by decide) (by decide) ?_
    refine lv_lload_n hx hb d_Test_saysYes_63 rfl (lv_at hl 1 rfl) ?_
    refine lv_aload_n hx hb d_Test_saysYes_64 rfl (lv_at hl 0 rfl) ?_
    refine fg_Test_16_Test hx hb hown hts hE hT rfl d_Test_saysYes_65 ?_
    refine x_cp (k_Test_37 (As := [.long x, .long t]) (rest := []) hx hb hml hown hts (c_Text_isSame l D cA x t) (x_preS hE trivial) rfl hl.1 rfl (Nat.le_of_ble_eq_true rfl) d_Test_saysYes_68 (by decide) ⟨Nat.zero_le _, Nat.zero_le _⟩) ?_
    exact W.zret (ty := .boolean) hx hb hr (bI_z _) (fun t ht hW => ⟨rfl, ht⟩) (fun q h => by cases h) d_Test_saysYes_71
  · refine lv_aload_n hx hb d_Test_saysYes_0 rfl (lv_at hl 0 rfl) ?_
    refine fg_Test_7_Test hx hb hown hts hE hT rfl d_Test_saysYes_1 ?_
    refine lv_tableIn (off := 68) (tgt := 72) hx hb d_Test_saysYes_4 (by decide) (by decide) (by decide) (by decide) ?_
    refine lv_aload_n hx hb d_Test_saysYes_72 rfl (lv_at hl 0 rfl) ?_
    refine fg_Test_16_Test hx hb hown hts hE hT rfl d_Test_saysYes_73 ?_
    refine lv_lload_n hx hb d_Test_saysYes_76 rfl (lv_at hl 1 rfl) ?_
    refine lv_iconst (v := 0) hx hb d_Test_saysYes_77 (by decide) ?_
    refine lv_aload_n hx hb d_Test_saysYes_78 rfl (lv_at hl 2 rfl) ?_
    refine x_cp (k_Test_43 (As := [.long t, .long x, .int (bI false), .ref v]) (rest := []) hx hb hml hown hts (c_Pattern_fits l D cA v cnt row t x false) (x_preS hE hV) rfl hl.1 rfl (Nat.le_of_ble_eq_true rfl) d_Test_saysYes_79 (by decide) ⟨Nat.zero_le _, Nat.zero_le _⟩) ?_
    exact W.zret (ty := .boolean) hx hb hr (bI_z _) (fun t ht hW => ⟨rfl, ht⟩) (fun q h => by cases h) d_Test_saysYes_82
  · refine lv_aload_n hx hb d_Test_saysYes_0 rfl (lv_at hl 0 rfl) ?_
    refine fg_Test_7_Test hx hb hown hts hE hT rfl d_Test_saysYes_1 ?_
    refine lv_tableIn (off := 79) (tgt := 83) hx hb d_Test_saysYes_4 (by decide) (by decide) (by decide) (by decide) ?_
    refine lv_lload_n hx hb d_Test_saysYes_83 rfl (lv_at hl 1 rfl) ?_
    refine lv_aload_n hx hb d_Test_saysYes_84 rfl (lv_at hl 0 rfl) ?_
    refine fg_Test_16_Test hx hb hown hts hE hT rfl d_Test_saysYes_85 ?_
    refine W.lcmp hx hb d_Test_saysYes_88 ?_
    refine lv_if_ge (tgt := 96) hx hb d_Test_saysYes_89 (by decide) (fun h1 => ?_) (fun h1 => ?_)
    · refine lv_iconst (v := 0) hx hb d_Test_saysYes_96 (by decide) ?_
      refine x_topi (y := bI (cn_a cnt row 3 x t)) (by show 0 = bI (decide (x < t)); rw [bI_no (by rw [Int64.not_lt]; exact (lg_cmp_ge _ _).mp h1)]) ?_
      exact W.zret (ty := .boolean) hx hb hr (bI_z _) (fun t ht hW => ⟨rfl, ht⟩) (fun q h => by cases h) d_Test_saysYes_97
    · refine lv_iconst (v := 1) hx hb d_Test_saysYes_92 (by decide) ?_
      refine lv_goto (tgt := 97) hx hb d_Test_saysYes_93 (by decide) ?_
      refine x_topi (y := bI (cn_a cnt row 3 x t)) (by show 1 = bI (decide (x < t)); rw [bI_of (by rw [← Int64.not_le]; exact fun z => h1 ((lg_cmp_ge _ _).mpr z))]) ?_
      exact W.zret (ty := .boolean) hx hb hr (bI_z _) (fun t ht hW => ⟨rfl, ht⟩) (fun q h => by cases h) d_Test_saysYes_97
  · refine lv_aload_n hx hb d_Test_saysYes_0 rfl (lv_at hl 0 rfl) ?_
    refine fg_Test_7_Test hx hb hown hts hE hT rfl d_Test_saysYes_1 ?_
    refine lv_tableIn (off := 94) (tgt := 98) hx hb d_Test_saysYes_4 (by decide) (by decide) (by decide) (by decide) ?_
    refine lv_lload_n hx hb d_Test_saysYes_98 rfl (lv_at hl 1 rfl) ?_
    refine lv_aload_n hx hb d_Test_saysYes_99 rfl (lv_at hl 0 rfl) ?_
    refine fg_Test_16_Test hx hb hown hts hE hT rfl d_Test_saysYes_100 ?_
    refine W.lcmp hx hb d_Test_saysYes_103 ?_
    refine lv_if_gt (tgt := 111) hx hb d_Test_saysYes_104 (by decide) (fun h1 => ?_) (fun h1 => ?_)
    · refine lv_iconst (v := 0) hx hb d_Test_saysYes_111 (by decide) ?_
      refine x_topi (y := bI (cn_a cnt row 4 x t)) (by show 0 = bI (decide (x ≤ t)); rw [bI_no (by rw [Int64.not_le]; exact (lg_cmp_gt _ _).mp h1)]) ?_
      exact W.zret (ty := .boolean) hx hb hr (bI_z _) (fun t ht hW => ⟨rfl, ht⟩) (fun q h => by cases h) d_Test_saysYes_112
    · refine lv_iconst (v := 1) hx hb d_Test_saysYes_107 (by decide) ?_
      refine lv_goto (tgt := 112) hx hb d_Test_saysYes_108 (by decide) ?_
      refine x_topi (y := bI (cn_a cnt row 4 x t)) (by show 1 = bI (decide (x ≤ t)); rw [bI_of (by rw [← Int64.not_lt]; exact fun z => h1 ((lg_cmp_gt _ _).mpr z))]) ?_
      exact W.zret (ty := .boolean) hx hb hr (bI_z _) (fun t ht hW => ⟨rfl, ht⟩) (fun q h => by cases h) d_Test_saysYes_112
  · refine lv_aload_n hx hb d_Test_saysYes_0 rfl (lv_at hl 0 rfl) ?_
    refine fg_Test_7_Test hx hb hown hts hE hT rfl d_Test_saysYes_1 ?_
    refine lv_tableIn (off := 109) (tgt := 113) hx hb d_Test_saysYes_4 (by decide) (by decide) (by decide) (by decide) ?_
    refine lv_aload_n hx hb d_Test_saysYes_113 rfl (lv_at hl 0 rfl) ?_
    refine lv_lload_n hx hb d_Test_saysYes_114 rfl (lv_at hl 1 rfl) ?_
    refine x_cp (k_Test_49 (As := [.long x]) (rest := []) hx hb hml hown hts (c_Test_hasPrefix l D cA a d 5 k t mk x) (x_preV hE hT rfl rfl hT) rfl hl.1 rfl (Nat.le_of_ble_eq_true rfl) d_Test_saysYes_115 (by decide) ⟨Nat.zero_le _, Nat.zero_le _⟩) ?_
    exact W.zret (ty := .boolean) hx hb hr (bI_z _) (fun t ht hW => ⟨rfl, ht⟩) (fun q h => by cases h) d_Test_saysYes_118
  · refine lv_aload_n hx hb d_Test_saysYes_0 rfl (lv_at hl 0 rfl) ?_
    refine fg_Test_7_Test hx hb hown hts hE hT rfl d_Test_saysYes_1 ?_
    refine lv_tableIn (off := 115) (tgt := 119) hx hb d_Test_saysYes_4 (by decide) (by decide) (by decide) (by decide) ?_
    refine lv_lload_n hx hb d_Test_saysYes_119 rfl (lv_at hl 1 rfl) ?_
    refine lv_lconst (v := 0) hx hb d_Test_saysYes_120 (by decide) ?_
    refine W.lcmp hx hb d_Test_saysYes_121 ?_
    refine lv_if_ne (tgt := 129) hx hb d_Test_saysYes_122 (by decide) (fun h1 => ?_) (fun h1 => ?_)
    · refine lv_iconst (v := 0) hx hb d_Test_saysYes_129 (by decide) ?_
      refine lv_aload_n hx hb d_Test_saysYes_130 rfl (lv_at hl 0 rfl) ?_
      refine fg_Test_16_Test hx hb hown hts hE hT rfl d_Test_saysYes_131 ?_
      refine lv_lconst (v := 0) hx hb d_Test_saysYes_134 (by decide) ?_
      refine W.lcmp hx hb d_Test_saysYes_135 ?_
      refine lv_if_ne (tgt := 143) hx hb d_Test_saysYes_136 (by decide) (fun h2 => ?_) (fun h2 => ?_)
      · refine lv_iconst (v := 0) hx hb d_Test_saysYes_143 (by decide) ?_
        refine lv_icmp_ne (tgt := 151) hx hb d_Test_saysYes_144 (by decide) (fun hk => ?_) (fun hk => ?_)
        · exact absurd hk (by decide)
        · refine lv_iconst (v := 1) hx hb d_Test_saysYes_147 (by decide) ?_
          refine lv_goto (tgt := 152) hx hb d_Test_saysYes_148 (by decide) ?_
          refine x_topi (y := bI (cn_a cnt row 6 x t)) (by show _ = bI (decide (x = 0) == decide (t = 0)); rw [decide_eq_false (show ¬ x = 0 from fun z => h1 ((lg_cmp_eq _ _).mpr z)), decide_eq_false (show ¬ t = 0 from fun z => h2 ((lg_cmp_eq _ _).mpr z))]; rfl) ?_
          exact W.zret (ty := .boolean) hx hb hr (bI_z _) (fun t ht hW => ⟨rfl, ht⟩) (fun q h => by cases h) d_Test_saysYes_152
      · refine lv_iconst (v := 1) hx hb d_Test_saysYes_139 (by decide) ?_
        refine lv_goto (tgt := 144) hx hb d_Test_saysYes_140 (by decide) ?_
        refine lv_icmp_ne (tgt := 151) hx hb d_Test_saysYes_144 (by decide) (fun hk => ?_) (fun hk => ?_)
        · refine lv_iconst (v := 0) hx hb d_Test_saysYes_151 (by decide) ?_
          refine x_topi (y := bI (cn_a cnt row 6 x t)) (by show _ = bI (decide (x = 0) == decide (t = 0)); rw [decide_eq_false (show ¬ x = 0 from fun z => h1 ((lg_cmp_eq _ _).mpr z)), decide_eq_true (show t = 0 from (lg_cmp_eq _ _).mp h2)]; rfl) ?_
          exact W.zret (ty := .boolean) hx hb hr (bI_z _) (fun t ht hW => ⟨rfl, ht⟩) (fun q h => by cases h) d_Test_saysYes_152
        · exact absurd hk (by decide)
    · refine lv_iconst (v := 1) hx hb d_Test_saysYes_125 (by decide) ?_
      refine lv_goto (tgt := 130) hx hb d_Test_saysYes_126 (by decide) ?_
      refine lv_aload_n hx hb d_Test_saysYes_130 rfl (lv_at hl 0 rfl) ?_
      refine fg_Test_16_Test hx hb hown hts hE hT rfl d_Test_saysYes_131 ?_
      refine lv_lconst (v := 0) hx hb d_Test_saysYes_134 (by decide) ?_
      refine W.lcmp hx hb d_Test_saysYes_135 ?_
      refine lv_if_ne (tgt := 143) hx hb d_Test_saysYes_136 (by decide) (fun h2 => ?_) (fun h2 => ?_)
      · refine lv_iconst (v := 0) hx hb d_Test_saysYes_143 (by decide) ?_
        refine lv_icmp_ne (tgt := 151) hx hb d_Test_saysYes_144 (by decide) (fun hk => ?_) (fun hk => ?_)
        · refine lv_iconst (v := 0) hx hb d_Test_saysYes_151 (by decide) ?_
          refine x_topi (y := bI (cn_a cnt row 6 x t)) (by show _ = bI (decide (x = 0) == decide (t = 0)); rw [decide_eq_true (show x = 0 from (lg_cmp_eq _ _).mp h1), decide_eq_false (show ¬ t = 0 from fun z => h2 ((lg_cmp_eq _ _).mpr z))]; rfl) ?_
          exact W.zret (ty := .boolean) hx hb hr (bI_z _) (fun t ht hW => ⟨rfl, ht⟩) (fun q h => by cases h) d_Test_saysYes_152
        · exact absurd hk (by decide)
      · refine lv_iconst (v := 1) hx hb d_Test_saysYes_139 (by decide) ?_
        refine lv_goto (tgt := 144) hx hb d_Test_saysYes_140 (by decide) ?_
        refine lv_icmp_ne (tgt := 151) hx hb d_Test_saysYes_144 (by decide) (fun hk => ?_) (fun hk => ?_)
        · exact absurd hk (by decide)
        · refine lv_iconst (v := 1) hx hb d_Test_saysYes_147 (by decide) ?_
          refine lv_goto (tgt := 152) hx hb d_Test_saysYes_148 (by decide) ?_
          refine x_topi (y := bI (cn_a cnt row 6 x t)) (by show _ = bI (decide (x = 0) == decide (t = 0)); rw [decide_eq_true (show x = 0 from (lg_cmp_eq _ _).mp h1), decide_eq_true (show t = 0 from (lg_cmp_eq _ _).mp h2)]; rfl) ?_
          exact W.zret (ty := .boolean) hx hb hr (bI_z _) (fun t ht hW => ⟨rfl, ht⟩) (fun q h => by cases h) d_Test_saysYes_152
